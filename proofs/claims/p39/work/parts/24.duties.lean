section
theorem cdX2_take : yX2_take.cls ≠ "java/lang/invoke/MethodHandle" ∧ yX2_take.cls ≠ "java/lang/invoke/VarHandle" ∧ (parseMethodDescriptor yX2_take.desc).map (fun d => d.parameters.length) = some 1 := by decide +kernel
theorem cdX2_read : yX2_read.cls ≠ "java/lang/invoke/MethodHandle" ∧ yX2_read.cls ≠ "java/lang/invoke/VarHandle" ∧ (parseMethodDescriptor yX2_read.desc).map (fun d => d.parameters.length) = some 0 := by decide +kernel
theorem cdX2_keepDraft : yX2_keepDraft.cls ≠ "java/lang/invoke/MethodHandle" ∧ yX2_keepDraft.cls ≠ "java/lang/invoke/VarHandle" ∧ (parseMethodDescriptor yX2_keepDraft.desc).map (fun d => d.parameters.length) = some 0 := by decide +kernel
theorem cdX2_readAct : yX2_readAct.cls ≠ "java/lang/invoke/MethodHandle" ∧ yX2_readAct.cls ≠ "java/lang/invoke/VarHandle" ∧ (parseMethodDescriptor yX2_readAct.desc).map (fun d => d.parameters.length) = some 0 := by decide +kernel
theorem cdX2_readPart : yX2_readPart.cls ≠ "java/lang/invoke/MethodHandle" ∧ yX2_readPart.cls ≠ "java/lang/invoke/VarHandle" ∧ (parseMethodDescriptor yX2_readPart.desc).map (fun d => d.parameters.length) = some 0 := by decide +kernel
theorem Gd_X2_take : gdA wsX2_take := gd_cons (by decide +kernel) (gd_app (gd_all (ws := wsX2_take_o1) (by decide +kernel)) Gd_X20)
theorem inX2_take_X2 : ∀ w ∈ u_ws RX2 TX2 15, w ∈ wsX2_take := fun _ h => (List.mem_cons_of_mem _ (List.mem_append_right _ h))
theorem Gd_X2_readAct : gdA wsX2_readAct := gd_cons (by decide +kernel) (gd_app (gd_all (ws := wsX2_readAct_o1) (by decide +kernel)) (gd_app Gd_X20 Gd_X2_next))
theorem Gd_X2_readPart : gdA wsX2_readPart := gd_cons (by decide +kernel) (gd_app (gd_all (ws := wsX2_readPart_o1) (by decide +kernel)) (gd_app Gd_X20 Gd_X2_next))
theorem Gd_X2_keepDraft : gdA wsX2_keepDraft := gd_cons (by decide +kernel) (gd_app (gd_all (ws := wsX2_keepDraft_o1) (by decide +kernel)) Gd_X20)
theorem Gd_X2_read : gdA wsX2_read := gd_cons (by decide +kernel) (gd_app (gd_all (ws := wsX2_read_o1) (by decide +kernel)) (gd_app (gd_app (gd_app Gd_X20 Gd_X2_next) Gd_X2_readAct) (gd_app Gd_X2_readPart Gd_X2_keepDraft)))
theorem inX2_read_X2 : ∀ w ∈ u_ws RX2 TX2 15, w ∈ wsX2_read := fun _ h => (List.mem_cons_of_mem _ (List.mem_append_right _ (List.mem_append_left _ (List.mem_append_left _ (List.mem_append_left _ h)))))
theorem inX10_feed_X2 : ∀ w ∈ u_ws RX2 TX2 15, w ∈ wsX10_feed := fun _ h => (List.mem_cons_of_mem _ (List.mem_append_right _ (List.mem_append_left _ (List.mem_append_right _ h))))
theorem inX10_feed_X10 : ∀ w ∈ u_ws RX10 TX10 14, w ∈ wsX10_feed := fun _ h => (List.mem_cons_of_mem _ (List.mem_append_right _ (List.mem_append_left _ (List.mem_append_left _ h))))
theorem inX10_duties_X10 : ∀ w ∈ u_ws RX10 TX10 14, w ∈ wsX10_duties := fun _ h => (List.mem_cons_of_mem _ (List.mem_append_right _ (List.mem_append_left _ (List.mem_append_left _ h))))
theorem dX2_take_all0 : decode cX2_take 0 = .ok (.aload_n 0, 1) ∧ decode cX2_take 1 = .ok (.getfield 34, 3) ∧ decode cX2_take 4 = .ok (.sipush 300, 3) ∧ decode cX2_take 7 = .ok (.if_icmp .ge 23, 3) ∧ decode cX2_take 10 = .ok (.aload_n 0, 1) ∧ decode cX2_take 11 = .ok (.getfield 11, 3) ∧ decode cX2_take 14 = .ok (.aload_n 0, 1) ∧ decode cX2_take 15 = .ok (.getfield 34, 3) ∧ decode cX2_take 18 = .ok (.iload_n 1, 1) ∧ decode cX2_take 19 = .ok (.bastore, 1) ∧ decode cX2_take 20 = .ok (.aload_n 0, 1) ∧ decode cX2_take 21 = .ok (.dup, 1) := by decide +kernel
theorem dX2_take_0 : decode cX2_take 0 = .ok (.aload_n 0, 1) := dX2_take_all0.1
theorem dX2_take_1 : decode cX2_take 1 = .ok (.getfield 34, 3) := dX2_take_all0.2.1
theorem dX2_take_4 : decode cX2_take 4 = .ok (.sipush 300, 3) := dX2_take_all0.2.2.1
theorem dX2_take_7 : decode cX2_take 7 = .ok (.if_icmp .ge 23, 3) := dX2_take_all0.2.2.2.1
theorem dX2_take_10 : decode cX2_take 10 = .ok (.aload_n 0, 1) := dX2_take_all0.2.2.2.2.1
theorem dX2_take_11 : decode cX2_take 11 = .ok (.getfield 11, 3) := dX2_take_all0.2.2.2.2.2.1
theorem dX2_take_14 : decode cX2_take 14 = .ok (.aload_n 0, 1) := dX2_take_all0.2.2.2.2.2.2.1
theorem dX2_take_15 : decode cX2_take 15 = .ok (.getfield 34, 3) := dX2_take_all0.2.2.2.2.2.2.2.1
theorem dX2_take_18 : decode cX2_take 18 = .ok (.iload_n 1, 1) := dX2_take_all0.2.2.2.2.2.2.2.2.1
theorem dX2_take_19 : decode cX2_take 19 = .ok (.bastore, 1) := dX2_take_all0.2.2.2.2.2.2.2.2.2.1
theorem dX2_take_20 : decode cX2_take 20 = .ok (.aload_n 0, 1) := dX2_take_all0.2.2.2.2.2.2.2.2.2.2.1
theorem dX2_take_21 : decode cX2_take 21 = .ok (.dup, 1) := dX2_take_all0.2.2.2.2.2.2.2.2.2.2.2
theorem dX2_take_all1 : decode cX2_take 22 = .ok (.getfield 34, 3) ∧ decode cX2_take 25 = .ok (.iconst 1, 1) ∧ decode cX2_take 26 = .ok (.iadd, 1) ∧ decode cX2_take 27 = .ok (.putfield 34, 3) ∧ decode cX2_take 30 = .ok (.return_, 1) := by decide +kernel
theorem dX2_take_22 : decode cX2_take 22 = .ok (.getfield 34, 3) := dX2_take_all1.1
theorem dX2_take_25 : decode cX2_take 25 = .ok (.iconst 1, 1) := dX2_take_all1.2.1
theorem dX2_take_26 : decode cX2_take 26 = .ok (.iadd, 1) := dX2_take_all1.2.2.1
theorem dX2_take_27 : decode cX2_take 27 = .ok (.putfield 34, 3) := dX2_take_all1.2.2.2.1
theorem dX2_take_30 : decode cX2_take 30 = .ok (.return_, 1) := dX2_take_all1.2.2.2.2
theorem ggX2_read_X2_next : GoodIn wsX2_read wsX2_next := goodIn_s (fun _ h => wm_t (wm_r (wm_l (wm_l (wm_r h))))) Gd_X2_next
theorem gX2_read_X2_next : GoodIn wsX2_read (wsV RX2 44 RX2 yX2_next wsX2_next) := goodIn_V (own := RX2) (idx := 44) (C := RX2) (y := yX2_next) (wm_t (wm_l (wm_i 8 rfl))) (wm_t (wm_l (wm_i 9 rfl))) (wm_t (wm_r (wm_l (wm_r (wm_t (wm_l (wm_i 7 rfl))))))) (wm_t (wm_l (wm_i 10 rfl))) ggX2_read_X2_next
theorem ggX2_read_X2_readAct : GoodIn wsX2_read wsX2_readAct := goodIn_s (fun _ h => wm_t (wm_r (wm_l (wm_r h)))) Gd_X2_readAct
theorem gX2_read_X2_readAct : GoodIn wsX2_read (wsV RX2 50 RX2 yX2_readAct wsX2_readAct) := goodIn_V (own := RX2) (idx := 50) (C := RX2) (y := yX2_readAct) (wm_t (wm_l (wm_i 11 rfl))) (wm_t (wm_l (wm_i 12 rfl))) (wm_t (wm_l (wm_i 13 rfl))) (wm_t (wm_l (wm_i 10 rfl))) ggX2_read_X2_readAct
theorem ggX2_read_X2_readPart : GoodIn wsX2_read wsX2_readPart := goodIn_s (fun _ h => wm_t (wm_r (wm_r (wm_l h)))) Gd_X2_readPart
theorem gX2_read_X2_readPart : GoodIn wsX2_read (wsV RX2 54 RX2 yX2_readPart wsX2_readPart) := goodIn_V (own := RX2) (idx := 54) (C := RX2) (y := yX2_readPart) (wm_t (wm_l (wm_i 14 rfl))) (wm_t (wm_l (wm_i 15 rfl))) (wm_t (wm_l (wm_i 16 rfl))) (wm_t (wm_l (wm_i 10 rfl))) ggX2_read_X2_readPart
theorem ggX2_read_X2_keepDraft : GoodIn wsX2_read wsX2_keepDraft := goodIn_s (fun _ h => wm_t (wm_r (wm_r (wm_r h)))) Gd_X2_keepDraft
theorem gX2_read_X2_keepDraft : GoodIn wsX2_read (wsV RX2 64 RX2 yX2_keepDraft wsX2_keepDraft) := goodIn_V (own := RX2) (idx := 64) (C := RX2) (y := yX2_keepDraft) (wm_t (wm_l (wm_i 17 rfl))) (wm_t (wm_l (wm_i 18 rfl))) (wm_t (wm_l (wm_i 19 rfl))) (wm_t (wm_l (wm_i 10 rfl))) ggX2_read_X2_keepDraft
theorem dX2_read_all0 : decode cX2_read 0 = .ok (.aload_n 0, 1) ∧ decode cX2_read 1 = .ok (.iconst 0, 1) ∧ decode cX2_read 2 = .ok (.putfield 38, 3) ∧ decode cX2_read 5 = .ok (.aload_n 0, 1) ∧ decode cX2_read 6 = .ok (.iconst 0, 1) ∧ decode cX2_read 7 = .ok (.putfield 41, 3) ∧ decode cX2_read 10 = .ok (.aload_n 0, 1) ∧ decode cX2_read 11 = .ok (.invokevirtual 44, 3) ∧ decode cX2_read 14 = .ok (.iconst 0, 1) ∧ decode cX2_read 15 = .ok (.istore_n 1, 1) ∧ decode cX2_read 16 = .ok (.iconst 0, 1) ∧ decode cX2_read 17 = .ok (.istore_n 2, 1) := by decide +kernel
theorem dX2_read_0 : decode cX2_read 0 = .ok (.aload_n 0, 1) := dX2_read_all0.1
theorem dX2_read_1 : decode cX2_read 1 = .ok (.iconst 0, 1) := dX2_read_all0.2.1
theorem dX2_read_2 : decode cX2_read 2 = .ok (.putfield 38, 3) := dX2_read_all0.2.2.1
theorem dX2_read_5 : decode cX2_read 5 = .ok (.aload_n 0, 1) := dX2_read_all0.2.2.2.1
theorem dX2_read_6 : decode cX2_read 6 = .ok (.iconst 0, 1) := dX2_read_all0.2.2.2.2.1
theorem dX2_read_7 : decode cX2_read 7 = .ok (.putfield 41, 3) := dX2_read_all0.2.2.2.2.2.1
theorem dX2_read_10 : decode cX2_read 10 = .ok (.aload_n 0, 1) := dX2_read_all0.2.2.2.2.2.2.1
theorem dX2_read_11 : decode cX2_read 11 = .ok (.invokevirtual 44, 3) := dX2_read_all0.2.2.2.2.2.2.2.1
theorem dX2_read_14 : decode cX2_read 14 = .ok (.iconst 0, 1) := dX2_read_all0.2.2.2.2.2.2.2.2.1
theorem dX2_read_15 : decode cX2_read 15 = .ok (.istore_n 1, 1) := dX2_read_all0.2.2.2.2.2.2.2.2.2.1
theorem dX2_read_16 : decode cX2_read 16 = .ok (.iconst 0, 1) := dX2_read_all0.2.2.2.2.2.2.2.2.2.2.1
theorem dX2_read_17 : decode cX2_read 17 = .ok (.istore_n 2, 1) := dX2_read_all0.2.2.2.2.2.2.2.2.2.2.2
theorem dX2_read_all1 : decode cX2_read 18 = .ok (.iload_n 2, 1) ∧ decode cX2_read 19 = .ok (.bipush 12, 2) ∧ decode cX2_read 21 = .ok (.if_icmp .gt 36, 3) ∧ decode cX2_read 24 = .ok (.aload_n 0, 1) ∧ decode cX2_read 25 = .ok (.getfield 47, 3) ∧ decode cX2_read 28 = .ok (.bipush 8, 2) ∧ decode cX2_read 30 = .ok (.if_icmp .eq 27, 3) ∧ decode cX2_read 33 = .ok (.iload_n 1, 1) ∧ decode cX2_read 34 = .ok (.ifCond .ne 23, 3) ∧ decode cX2_read 37 = .ok (.aload_n 0, 1) ∧ decode cX2_read 38 = .ok (.invokevirtual 50, 3) ∧ decode cX2_read 41 = .ok (.istore_n 1, 1) := by decide +kernel
theorem dX2_read_18 : decode cX2_read 18 = .ok (.iload_n 2, 1) := dX2_read_all1.1
theorem dX2_read_19 : decode cX2_read 19 = .ok (.bipush 12, 2) := dX2_read_all1.2.1
theorem dX2_read_21 : decode cX2_read 21 = .ok (.if_icmp .gt 36, 3) := dX2_read_all1.2.2.1
theorem dX2_read_24 : decode cX2_read 24 = .ok (.aload_n 0, 1) := dX2_read_all1.2.2.2.1
theorem dX2_read_25 : decode cX2_read 25 = .ok (.getfield 47, 3) := dX2_read_all1.2.2.2.2.1
theorem dX2_read_28 : decode cX2_read 28 = .ok (.bipush 8, 2) := dX2_read_all1.2.2.2.2.2.1
theorem dX2_read_30 : decode cX2_read 30 = .ok (.if_icmp .eq 27, 3) := dX2_read_all1.2.2.2.2.2.2.1
theorem dX2_read_33 : decode cX2_read 33 = .ok (.iload_n 1, 1) := dX2_read_all1.2.2.2.2.2.2.2.1
theorem dX2_read_34 : decode cX2_read 34 = .ok (.ifCond .ne 23, 3) := dX2_read_all1.2.2.2.2.2.2.2.2.1
theorem dX2_read_37 : decode cX2_read 37 = .ok (.aload_n 0, 1) := dX2_read_all1.2.2.2.2.2.2.2.2.2.1
theorem dX2_read_38 : decode cX2_read 38 = .ok (.invokevirtual 50, 3) := dX2_read_all1.2.2.2.2.2.2.2.2.2.2.1
theorem dX2_read_41 : decode cX2_read 41 = .ok (.istore_n 1, 1) := dX2_read_all1.2.2.2.2.2.2.2.2.2.2.2
theorem dX2_read_all2 : decode cX2_read 42 = .ok (.iload_n 1, 1) ∧ decode cX2_read 43 = .ok (.ifCond .ne 8, 3) ∧ decode cX2_read 46 = .ok (.aload_n 0, 1) ∧ decode cX2_read 47 = .ok (.invokevirtual 54, 3) ∧ decode cX2_read 50 = .ok (.istore_n 1, 1) ∧ decode cX2_read 51 = .ok (.iinc 2 1, 3) ∧ decode cX2_read 54 = .ok (.goto (-36), 3) ∧ decode cX2_read 57 = .ok (.aload_n 0, 1) ∧ decode cX2_read 58 = .ok (.iconst 0, 1) ∧ decode cX2_read 59 = .ok (.putfield 34, 3) ∧ decode cX2_read 62 = .ok (.iload_n 1, 1) ∧ decode cX2_read 63 = .ok (.ifCond .eq 16, 3) := by decide +kernel
theorem dX2_read_42 : decode cX2_read 42 = .ok (.iload_n 1, 1) := dX2_read_all2.1
theorem dX2_read_43 : decode cX2_read 43 = .ok (.ifCond .ne 8, 3) := dX2_read_all2.2.1
theorem dX2_read_46 : decode cX2_read 46 = .ok (.aload_n 0, 1) := dX2_read_all2.2.2.1
theorem dX2_read_47 : decode cX2_read 47 = .ok (.invokevirtual 54, 3) := dX2_read_all2.2.2.2.1
theorem dX2_read_50 : decode cX2_read 50 = .ok (.istore_n 1, 1) := dX2_read_all2.2.2.2.2.1
theorem dX2_read_51 : decode cX2_read 51 = .ok (.iinc 2 1, 3) := dX2_read_all2.2.2.2.2.2.1
theorem dX2_read_54 : decode cX2_read 54 = .ok (.goto (-36), 3) := dX2_read_all2.2.2.2.2.2.2.1
theorem dX2_read_57 : decode cX2_read 57 = .ok (.aload_n 0, 1) := dX2_read_all2.2.2.2.2.2.2.2.1
theorem dX2_read_58 : decode cX2_read 58 = .ok (.iconst 0, 1) := dX2_read_all2.2.2.2.2.2.2.2.2.1
theorem dX2_read_59 : decode cX2_read 59 = .ok (.putfield 34, 3) := dX2_read_all2.2.2.2.2.2.2.2.2.2.1
theorem dX2_read_62 : decode cX2_read 62 = .ok (.iload_n 1, 1) := dX2_read_all2.2.2.2.2.2.2.2.2.2.2.1
theorem dX2_read_63 : decode cX2_read 63 = .ok (.ifCond .eq 16, 3) := dX2_read_all2.2.2.2.2.2.2.2.2.2.2.2
theorem dX2_read_all3 : decode cX2_read 66 = .ok (.aload_n 0, 1) ∧ decode cX2_read 67 = .ok (.iload_n 1, 1) ∧ decode cX2_read 68 = .ok (.putfield 57, 3) ∧ decode cX2_read 71 = .ok (.ldc 60, 2) ∧ decode cX2_read 73 = .ok (.aload_n 0, 1) ∧ decode cX2_read 74 = .ok (.getfield 61, 3) ∧ decode cX2_read 77 = .ok (.isub, 1) ∧ decode cX2_read 78 = .ok (.ireturn, 1) ∧ decode cX2_read 79 = .ok (.aload_n 0, 1) ∧ decode cX2_read 80 = .ok (.invokevirtual 64, 3) ∧ decode cX2_read 83 = .ok (.aload_n 0, 1) ∧ decode cX2_read 84 = .ok (.getfield 67, 3) := by decide +kernel
theorem dX2_read_66 : decode cX2_read 66 = .ok (.aload_n 0, 1) := dX2_read_all3.1
theorem dX2_read_67 : decode cX2_read 67 = .ok (.iload_n 1, 1) := dX2_read_all3.2.1
theorem dX2_read_68 : decode cX2_read 68 = .ok (.putfield 57, 3) := dX2_read_all3.2.2.1
theorem dX2_read_71 : decode cX2_read 71 = .ok (.ldc 60, 2) := dX2_read_all3.2.2.2.1
theorem dX2_read_73 : decode cX2_read 73 = .ok (.aload_n 0, 1) := dX2_read_all3.2.2.2.2.1
theorem dX2_read_74 : decode cX2_read 74 = .ok (.getfield 61, 3) := dX2_read_all3.2.2.2.2.2.1
theorem dX2_read_77 : decode cX2_read 77 = .ok (.isub, 1) := dX2_read_all3.2.2.2.2.2.2.1
theorem dX2_read_78 : decode cX2_read 78 = .ok (.ireturn, 1) := dX2_read_all3.2.2.2.2.2.2.2.1
theorem dX2_read_79 : decode cX2_read 79 = .ok (.aload_n 0, 1) := dX2_read_all3.2.2.2.2.2.2.2.2.1
theorem dX2_read_80 : decode cX2_read 80 = .ok (.invokevirtual 64, 3) := dX2_read_all3.2.2.2.2.2.2.2.2.2.1
theorem dX2_read_83 : decode cX2_read 83 = .ok (.aload_n 0, 1) := dX2_read_all3.2.2.2.2.2.2.2.2.2.2.1
theorem dX2_read_84 : decode cX2_read 84 = .ok (.getfield 67, 3) := dX2_read_all3.2.2.2.2.2.2.2.2.2.2.2
theorem dX2_read_87 : decode cX2_read 87 = .ok (.ireturn, 1) := by decide +kernel
theorem ggX10_feed_X10_isFrom : GoodIn wsX10_feed wsX10_isFrom := goodIn_s (fun _ h => wm_t (wm_r (wm_r (wm_l h)))) Gd_X10_isFrom
theorem gX10_feed_X10_isFrom : GoodIn wsX10_feed (va_wsS RX10 135 yX10_isFrom wsX10_isFrom) := goodIn_S (own := RX10) (idx := 135) (y := yX10_isFrom) (wm_t (wm_l (wm_i 4 rfl))) (wm_t (wm_l (wm_i 5 rfl))) (wm_t (wm_l (wm_i 6 rfl))) ggX10_feed_X10_isFrom
theorem ggX10_feed_X2_take : GoodIn wsX10_feed wsX2_take := goodIn_s (fun _ h => wm_t (wm_r (wm_r (wm_r h)))) Gd_X2_take
theorem gX10_feed_X2_take : GoodIn wsX10_feed (wsV RX10 216 RX2 yX2_take wsX2_take) := goodIn_V (own := RX10) (idx := 216) (C := RX2) (y := yX2_take) (wm_t (wm_l (wm_i 7 rfl))) (wm_t (wm_l (wm_i 8 rfl))) (wm_t (wm_l (wm_i 9 rfl))) (wm_t (wm_l (wm_i 10 rfl))) ggX10_feed_X2_take
theorem dX10_feed_all0 : decode cX10_feed 0 = .ok (.iload_n 3, 1) ∧ decode cX10_feed 1 = .ok (.iconst 1, 1) ∧ decode cX10_feed 2 = .ok (.bipush 8, 2) ∧ decode cX10_feed 4 = .ok (.invokestatic 135, 3) ∧ decode cX10_feed 7 = .ok (.ifCond .ne 6, 3) ∧ decode cX10_feed 10 = .ok (.ldc 89, 2) ∧ decode cX10_feed 12 = .ok (.ireturn, 1) ∧ decode cX10_feed 13 = .ok (.aload_n 0, 1) ∧ decode cX10_feed 14 = .ok (.getfield 47, 3) ∧ decode cX10_feed 17 = .ok (.getfield 213, 3) ∧ decode cX10_feed 20 = .ok (.iload_n 3, 1) ∧ decode cX10_feed 21 = .ok (.iadd, 1) := by decide +kernel
theorem dX10_feed_0 : decode cX10_feed 0 = .ok (.iload_n 3, 1) := dX10_feed_all0.1
theorem dX10_feed_1 : decode cX10_feed 1 = .ok (.iconst 1, 1) := dX10_feed_all0.2.1
theorem dX10_feed_2 : decode cX10_feed 2 = .ok (.bipush 8, 2) := dX10_feed_all0.2.2.1
theorem dX10_feed_4 : decode cX10_feed 4 = .ok (.invokestatic 135, 3) := dX10_feed_all0.2.2.2.1
theorem dX10_feed_7 : decode cX10_feed 7 = .ok (.ifCond .ne 6, 3) := dX10_feed_all0.2.2.2.2.1
theorem dX10_feed_10 : decode cX10_feed 10 = .ok (.ldc 89, 2) := dX10_feed_all0.2.2.2.2.2.1
theorem dX10_feed_12 : decode cX10_feed 12 = .ok (.ireturn, 1) := dX10_feed_all0.2.2.2.2.2.2.1
theorem dX10_feed_13 : decode cX10_feed 13 = .ok (.aload_n 0, 1) := dX10_feed_all0.2.2.2.2.2.2.2.1
theorem dX10_feed_14 : decode cX10_feed 14 = .ok (.getfield 47, 3) := dX10_feed_all0.2.2.2.2.2.2.2.2.1
theorem dX10_feed_17 : decode cX10_feed 17 = .ok (.getfield 213, 3) := dX10_feed_all0.2.2.2.2.2.2.2.2.2.1
theorem dX10_feed_20 : decode cX10_feed 20 = .ok (.iload_n 3, 1) := dX10_feed_all0.2.2.2.2.2.2.2.2.2.2.1
theorem dX10_feed_21 : decode cX10_feed 21 = .ok (.iadd, 1) := dX10_feed_all0.2.2.2.2.2.2.2.2.2.2.2
theorem dX10_feed_all1 : decode cX10_feed 22 = .ok (.sipush 300, 3) ∧ decode cX10_feed 25 = .ok (.if_icmp .le 6, 3) ∧ decode cX10_feed 28 = .ok (.ldc 145, 2) ∧ decode cX10_feed 30 = .ok (.ireturn, 1) ∧ decode cX10_feed 31 = .ok (.iload_n 3, 1) ∧ decode cX10_feed 32 = .ok (.iconst 1, 1) ∧ decode cX10_feed 33 = .ok (.isub, 1) ∧ decode cX10_feed 34 = .ok (.istore 4, 2) ∧ decode cX10_feed 36 = .ok (.iload 4, 2) ∧ decode cX10_feed 38 = .ok (.ifCond .lt 25, 3) ∧ decode cX10_feed 41 = .ok (.aload_n 0, 1) ∧ decode cX10_feed 42 = .ok (.getfield 47, 3) := by decide +kernel
theorem dX10_feed_22 : decode cX10_feed 22 = .ok (.sipush 300, 3) := dX10_feed_all1.1
theorem dX10_feed_25 : decode cX10_feed 25 = .ok (.if_icmp .le 6, 3) := dX10_feed_all1.2.1
theorem dX10_feed_28 : decode cX10_feed 28 = .ok (.ldc 145, 2) := dX10_feed_all1.2.2.1
theorem dX10_feed_30 : decode cX10_feed 30 = .ok (.ireturn, 1) := dX10_feed_all1.2.2.2.1
theorem dX10_feed_31 : decode cX10_feed 31 = .ok (.iload_n 3, 1) := dX10_feed_all1.2.2.2.2.1
theorem dX10_feed_32 : decode cX10_feed 32 = .ok (.iconst 1, 1) := dX10_feed_all1.2.2.2.2.2.1
theorem dX10_feed_33 : decode cX10_feed 33 = .ok (.isub, 1) := dX10_feed_all1.2.2.2.2.2.2.1
theorem dX10_feed_34 : decode cX10_feed 34 = .ok (.istore 4, 2) := dX10_feed_all1.2.2.2.2.2.2.2.1
theorem dX10_feed_36 : decode cX10_feed 36 = .ok (.iload 4, 2) := dX10_feed_all1.2.2.2.2.2.2.2.2.1
theorem dX10_feed_38 : decode cX10_feed 38 = .ok (.ifCond .lt 25, 3) := dX10_feed_all1.2.2.2.2.2.2.2.2.2.1
theorem dX10_feed_41 : decode cX10_feed 41 = .ok (.aload_n 0, 1) := dX10_feed_all1.2.2.2.2.2.2.2.2.2.2.1
theorem dX10_feed_42 : decode cX10_feed 42 = .ok (.getfield 47, 3) := dX10_feed_all1.2.2.2.2.2.2.2.2.2.2.2
theorem dX10_feed_all2 : decode cX10_feed 45 = .ok (.lload_n 1, 1) ∧ decode cX10_feed 46 = .ok (.bipush 8, 2) ∧ decode cX10_feed 48 = .ok (.iload 4, 2) ∧ decode cX10_feed 50 = .ok (.imul, 1) ∧ decode cX10_feed 51 = .ok (.lushr, 1) ∧ decode cX10_feed 52 = .ok (.l2i, 1) ∧ decode cX10_feed 53 = .ok (.i2b, 1) ∧ decode cX10_feed 54 = .ok (.invokevirtual 216, 3) ∧ decode cX10_feed 57 = .ok (.iinc 4 (-1), 3) ∧ decode cX10_feed 60 = .ok (.goto (-24), 3) ∧ decode cX10_feed 63 = .ok (.aload_n 0, 1) ∧ decode cX10_feed 64 = .ok (.getfield 47, 3) := by decide +kernel
theorem dX10_feed_45 : decode cX10_feed 45 = .ok (.lload_n 1, 1) := dX10_feed_all2.1
theorem dX10_feed_46 : decode cX10_feed 46 = .ok (.bipush 8, 2) := dX10_feed_all2.2.1
theorem dX10_feed_48 : decode cX10_feed 48 = .ok (.iload 4, 2) := dX10_feed_all2.2.2.1
theorem dX10_feed_50 : decode cX10_feed 50 = .ok (.imul, 1) := dX10_feed_all2.2.2.2.1
theorem dX10_feed_51 : decode cX10_feed 51 = .ok (.lushr, 1) := dX10_feed_all2.2.2.2.2.1
theorem dX10_feed_52 : decode cX10_feed 52 = .ok (.l2i, 1) := dX10_feed_all2.2.2.2.2.2.1
theorem dX10_feed_53 : decode cX10_feed 53 = .ok (.i2b, 1) := dX10_feed_all2.2.2.2.2.2.2.1
theorem dX10_feed_54 : decode cX10_feed 54 = .ok (.invokevirtual 216, 3) := dX10_feed_all2.2.2.2.2.2.2.2.1
theorem dX10_feed_57 : decode cX10_feed 57 = .ok (.iinc 4 (-1), 3) := dX10_feed_all2.2.2.2.2.2.2.2.2.1
theorem dX10_feed_60 : decode cX10_feed 60 = .ok (.goto (-24), 3) := dX10_feed_all2.2.2.2.2.2.2.2.2.2.1
theorem dX10_feed_63 : decode cX10_feed 63 = .ok (.aload_n 0, 1) := dX10_feed_all2.2.2.2.2.2.2.2.2.2.2.1
theorem dX10_feed_64 : decode cX10_feed 64 = .ok (.getfield 47, 3) := dX10_feed_all2.2.2.2.2.2.2.2.2.2.2.2
theorem dX10_feed_all3 : decode cX10_feed 67 = .ok (.getfield 213, 3) ∧ decode cX10_feed 70 = .ok (.ireturn, 1) := by decide +kernel
theorem dX10_feed_67 : decode cX10_feed 67 = .ok (.getfield 213, 3) := dX10_feed_all3.1
theorem dX10_feed_70 : decode cX10_feed 70 = .ok (.ireturn, 1) := dX10_feed_all3.2
theorem ggX10_duties_X2_read : GoodIn wsX10_duties wsX2_read := goodIn_s (fun _ h => wm_t (wm_r (wm_r h))) Gd_X2_read
theorem gX10_duties_X2_read : GoodIn wsX10_duties (wsV RX10 220 RX2 yX2_read wsX2_read) := goodIn_V (own := RX10) (idx := 220) (C := RX2) (y := yX2_read) (wm_t (wm_l (wm_i 1 rfl))) (wm_t (wm_l (wm_i 2 rfl))) (wm_t (wm_l (wm_i 3 rfl))) (wm_t (wm_l (wm_i 4 rfl))) ggX10_duties_X2_read
theorem dX10_duties_all0 : decode cX10_duties 0 = .ok (.aload_n 0, 1) ∧ decode cX10_duties 1 = .ok (.getfield 47, 3) ∧ decode cX10_duties 4 = .ok (.invokevirtual 220, 3) ∧ decode cX10_duties 7 = .ok (.ireturn, 1) := by decide +kernel
theorem dX10_duties_0 : decode cX10_duties 0 = .ok (.aload_n 0, 1) := dX10_duties_all0.1
theorem dX10_duties_1 : decode cX10_duties 1 = .ok (.getfield 47, 3) := dX10_duties_all0.2.1
theorem dX10_duties_4 : decode cX10_duties 4 = .ok (.invokevirtual 220, 3) := dX10_duties_all0.2.2.1
theorem dX10_duties_7 : decode cX10_duties 7 = .ok (.ireturn, 1) := dX10_duties_all0.2.2.2

theorem rd_bad {T : Nat → Int32} {L : Nat} {f k dr bs be tk nb r lfa dl : Int32} {xw xd xp w d p : Nat → Int32} (h : rdI T L f k dr bs be tk nb xw xd xp) (hf : ¬ f.toInt = 0) (d0 : 0 ≤ dr.toInt) (d1 : dr.toInt ≤ 12) (hr : r.toInt = -1000100 - bs.toInt) : duP T L r lfa dl f dl w d p w d p := by
  obtain ⟨i1, i2, i3⟩ := h
  have cd := i_cl d0
  rcases i3 with ⟨i4, -⟩ | ⟨i4, i5, i6, i7⟩
  · exact absurd i4 hf
  · exact ⟨dr.toNatClampNeg, by omega, i1, Or.inr ⟨i7, by omega, i5, by omega, rfl, rfl, rfl, rfl⟩⟩
theorem rd_good {T : Nat → Int32} {L : Nat} {f k dr bs be tk nb lfa dl : Int32} {xw xd xp w d p w' d' p' : Nat → Int32} (h : rdI T L f k dr bs be tk nb xw xd xp) (hf : f.toInt = 0) (d0 : 0 ≤ dr.toInt) (d1 : dr.toInt ≤ 12) (hk : 12 < k.toInt ∨ tk.toInt = 8) (hc : ∀ j : Nat, (j : Int) < dr.toInt → w' j = xw j ∧ d' j = xd j ∧ p' j = xp j) : duP T L dr lfa dl lfa dr w d p w' d' p' := by
  obtain ⟨i1, i2, i3⟩ := h
  have cd := i_cl d0
  rcases i3 with ⟨-, i4, q1, q2, q3, q4⟩ | ⟨i4, -⟩
  · refine ⟨dr.toNatClampNeg, by omega, i1, Or.inl ⟨by omega, by omega, rfl, by omega, fun j hj => ?_⟩⟩
    have c := hc j (by omega)
    rw [c.1, c.2.1, c.2.2]
    exact i2 j hj
  · exact absurd hf i4

set_option maxHeartbeats 4000000 in
set_option maxRecDepth 100000 in
theorem ct_X2_read (l : Launch) (D : va_G) (cI cY cJ cQ : ClassId) (sz : Nat) (aK aV : Nat) (ad : Nat → Nat) (ln lfa dl dr bs be tk nb : Int32) (tp dw dd dp xw xd xp : Nat → Int32)  (h1 : 0 ≤ ln.toInt) (h2 : ln.toInt ≤ 300) (h3 : 0 ≤ dl.toInt) (h4 : dl.toInt ≤ 12)  : Met l yX2_read wsX2_read ({ frames := 8, cells := 0, slots := 0, locals := 169 }) (cPreT aK aV D (ty4 cI cY cJ cQ) [(oC2 ad ln lfa dl dr bs be tk nb), (aI cY (ad 47) 300 tp), (aI cI (ad 48) 12 dw), (aI cI (ad 49) 12 dd), (aI cI (ad 50) 12 dp), (aI cI (ad 51) 12 xw), (aI cI (ad 52) 12 xd), (aI cI (ad 53) 12 xp)] sz [.ref (ad 6)]) (va_Qi (fun (r : Int32) (u : Int32 × Int32 × (Nat → Int32) × (Nat → Int32) × (Nat → Int32) × (Nat → Int32) × (Nat → Int32) × (Nat → Int32) × Int32 × Int32 × Int32 × Int32 × Int32) => 0 ≤ u.2.1.toInt ∧ u.2.1.toInt ≤ 12 ∧ duP tp ln.toNatClampNeg r lfa dl u.1 u.2.1 dw dd dp u.2.2.1 u.2.2.2.1 u.2.2.2.2.1) (cB D (ty4 cI cY cJ cQ) (fun (u : Int32 × Int32 × (Nat → Int32) × (Nat → Int32) × (Nat → Int32) × (Nat → Int32) × (Nat → Int32) × (Nat → Int32) × Int32 × Int32 × Int32 × Int32 × Int32) => [(oC2 ad 0 u.1 u.2.1 u.2.2.2.2.2.2.2.2.1 u.2.2.2.2.2.2.2.2.2.1 u.2.2.2.2.2.2.2.2.2.2.1 u.2.2.2.2.2.2.2.2.2.2.2.1 u.2.2.2.2.2.2.2.2.2.2.2.2), (aI cY (ad 47) 300 tp), (aI cI (ad 48) 12 u.2.2.1), (aI cI (ad 49) 12 u.2.2.2.1), (aI cI (ad 50) 12 u.2.2.2.2.1), (aI cI (ad 51) 12 u.2.2.2.2.2.1), (aI cI (ad 52) 12 u.2.2.2.2.2.2.1), (aI cI (ad 53) 12 u.2.2.2.2.2.2.2.1)]) (va_A [(oC2 ad ln lfa dl dr bs be tk nb), (aI cY (ad 47) 300 tp), (aI cI (ad 48) 12 dw), (aI cI (ad 49) 12 dd), (aI cI (ad 50) 12 dp), (aI cI (ad 51) 12 xw), (aI cI (ad 52) 12 xd), (aI cI (ad 53) 12 xp)] sz)) (va_A [(oC2 ad ln lfa dl dr bs be tk nb), (aI cY (ad 47) 300 tp), (aI cI (ad 48) 12 dw), (aI cI (ad 49) 12 dd), (aI cI (ad 50) 12 dp), (aI cI (ad 51) 12 xw), (aI cI (ad 52) 12 xd), (aI cI (ad 53) 12 xp)] sz)) 0 0 (va_A [(oC2 ad ln lfa dl dr bs be tk nb), (aI cY (ad 47) 300 tp), (aI cI (ad 48) 12 dw), (aI cI (ad 49) 12 dd), (aI cI (ad 50) 12 dp), (aI cI (ad 51) 12 xw), (aI cI (ad 52) 12 xd), (aI cI (ad 53) 12 xp)] sz) := by
  refine Met.ofW (cc := cX2_read) (maxL := 3) (ret := (some .int)) (by decide) rfl ?_
  intro p e s m args below meth c s₁ B hml hv
  obtain ⟨rfl, hsz, hP, hK, hD0, hN, hT⟩ := hv
  have hx := B.exec
  have hb := B.bytes
  have hr := B.returns
  have hts := atoms_spec (ws := wsX2_read) B.pre
  have hown : s.vm.findClass RX2 = some m.cls := findClass_of_methodNamed B.named
  have hlocks := B.notSynchronized
  subst hsz
  have hD := hD0.self (sz := s.heap.size)
  generalize hAe : va_A [(oC2 ad ln lfa dl dr bs be tk nb), (aI cY (ad 47) 300 tp), (aI cI (ad 48) 12 dw), (aI cI (ad 49) 12 dd), (aI cI (ad 50) 12 dp), (aI cI (ad 51) 12 xw), (aI cI (ad 52) 12 xd), (aI cI (ad 53) 12 xp)] s.heap.size = A at hD hT ⊢
  have hA : ∀ q : Nat, s.heap.size ≤ q → A q := fun q h => by rw [← hAe]; exact Or.inr h
  have hS : va_S A s.heap s.heap [] := va_S.rf
  have hP : va_P D vwCl [(oC2 ad ln lfa dl dr bs be tk nb), (aI cY (ad 47) 300 tp), (aI cI (ad 48) 12 dw), (aI cI (ad 49) 12 dd), (aI cI (ad 50) 12 dp), (aI cI (ad 51) 12 xw), (aI cI (ad 52) 12 xd), (aI cI (ad 53) 12 xp)] s.heap := hP
  have hl := lv_entry ([.ref (ad 6)]) (n := 3) (Nat.le_of_ble_eq_true rfl)
  rw [lg_entry_eq]
  generalize (lg_sl ([.ref (ad 6)]) ++ List.replicate (3 - (lg_sl ([.ref (ad 6)])).length) Slot.unset).toArray = ls at hl ⊢
  have hl : lv_has ls 3 [(0, .ref (ad 6))] := hl
  have km1000100 : (-1000100 : Int32).toInt = -1000100 := by decide
  have k0 : (0 : Int32).toInt = 0 := by decide
  have k1 : (1 : Int32).toInt = 1 := by decide
  have k8 : (8 : Int32).toInt = 8 := by decide
  have k12 : (12 : Int32).toInt = 12 := by decide
  refine lv_aload_n hx hb dX2_read_0 rfl (lv_at hl 0 rfl) ?_
  refine lv_iconst (v := 0) hx hb dX2_read_1 (by decide) ?_
  refine va_put (D := D) (ci := 2) (v := .int 0) (ty := .int) (C := RX2) (T := TX2) (N := 15) hx hb hts inX2_read_X2 tyX2 tyX2_ok nmX2 hown hK hP hD hS 0 rfl rfl 12 (by decide) (hts (Cond.fieldLink RX2 38 "PortRooms$Duties" "end" "I") (wm_t (wm_l (wm_i 0 rfl)))) (fun _ h9 => h9) rfl (tyX2_ok 12 (by decide)) rfl rfl (Nat.le_of_ble_eq_true rfl) dX2_read_2 (fun H locs => ?_)
  clear hP hD hS
  intro hP hD hS
  replace hP : va_P D vwCl [(oC2 ad ln lfa dl dr bs (0) tk nb), (aI cY (ad 47) 300 tp), (aI cI (ad 48) 12 dw), (aI cI (ad 49) 12 dd), (aI cI (ad 50) 12 dp), (aI cI (ad 51) 12 xw), (aI cI (ad 52) 12 xd), (aI cI (ad 53) 12 xp)] H := hP
  replace hD : va_D A [(oC2 ad ln lfa dl dr bs (0) tk nb), (aI cY (ad 47) 300 tp), (aI cI (ad 48) 12 dw), (aI cI (ad 49) 12 dd), (aI cI (ad 50) 12 dp), (aI cI (ad 51) 12 xw), (aI cI (ad 52) 12 xd), (aI cI (ad 53) 12 xp)] := hD
  refine lv_aload_n hx hb dX2_read_5 rfl (lv_at hl 0 rfl) ?_
  refine lv_iconst (v := 0) hx hb dX2_read_6 (by decide) ?_
  refine va_put (D := D) (ci := 2) (v := .int 0) (ty := .int) (C := RX2) (T := TX2) (N := 15) hx hb hts inX2_read_X2 tyX2 tyX2_ok nmX2 hown hK hP hD hS 0 rfl rfl 10 (by decide) (hts (Cond.fieldLink RX2 41 "PortRooms$Duties" "drafted" "I") (wm_t (wm_l (wm_i 1 rfl)))) (fun _ h9 => h9) rfl (tyX2_ok 10 (by decide)) rfl rfl (Nat.le_of_ble_eq_true rfl) dX2_read_7 (fun H locs => ?_)
  clear hP hD hS
  intro hP hD hS
  replace hP : va_P D vwCl [(oC2 ad ln lfa dl (0) bs (0) tk nb), (aI cY (ad 47) 300 tp), (aI cI (ad 48) 12 dw), (aI cI (ad 49) 12 dd), (aI cI (ad 50) 12 dp), (aI cI (ad 51) 12 xw), (aI cI (ad 52) 12 xd), (aI cI (ad 53) 12 xp)] H := hP
  replace hD : va_D A [(oC2 ad ln lfa dl (0) bs (0) tk nb), (aI cY (ad 47) 300 tp), (aI cI (ad 48) 12 dw), (aI cI (ad 49) 12 dd), (aI cI (ad 50) 12 dp), (aI cI (ad 51) 12 xw), (aI cI (ad 52) 12 xd), (aI cI (ad 53) 12 xp)] := hD
  refine lv_aload_n hx hb dX2_read_10 rfl (lv_at hl 0 rfl) ?_
  refine st_v (wr := [(aI cI (ad 48) 12 dw), (aI cI (ad 49) 12 dd), (aI cI (ad 50) 12 dp), (aI cI (ad 51) 12 xw), (aI cI (ad 52) 12 xd), (aI cI (ad 53) 12 xp)]) (va_runV (C := RX2) (As := []) (rest := []) ⟨hx, hb, hml, hown, hts⟩ (ct_X2_next l D cI cY cJ cQ _ aK aV ad ln lfa dl 0 bs 0 tk nb tp h1 h2 (by omega) (by omega)) (cwV 0 hts gX2_read_X2_next rfl rfl rfl ⟨rfl, cdX2_next⟩ ⟨Nat.le_of_ble_eq_true rfl, Nat.le_of_ble_eq_true rfl⟩) (cPreTV (hP.sub [0, 1] rfl) hK (hD.sub [0, 1] (by decide +kernel) rfl) hN hS (va_free hD hS hA [0, 1] rfl) hT (ci := 2) (q0 := 0) rfl rfl) rfl rfl hl.1 rfl (lv_room (Nat.le_of_ble_eq_true rfl)) dX2_read_11 ⟨Nat.le_of_ble_eq_true rfl, Nat.le_of_ble_eq_true rfl⟩) hP hD hS hA [0, 1] [2, 3, 4, 5, 6, 7] rfl rfl (by decide +kernel) (by decide +kernel) (fun u1 H locs hw2 => ?_)
  clear hP hD hS
  intro hP hD hS
  obtain ⟨bs_4, be_5, tk_6, nb_7⟩ := u1
  replace hw2 : 0 ≤ bs_4.toInt ∧ bs_4.toInt ≤ be_5.toInt ∧ be_5.toInt ≤ ln.toInt ∧ bs_4.toInt = (tS tp ln.toNatClampNeg (0 : Int32).toNatClampNeg : Int) ∧ be_5.toInt = (tE tp ln.toNatClampNeg (0 : Int32).toNatClampNeg : Int) ∧ tk_6.toInt = tK tp ln.toNatClampNeg (0 : Int32).toNatClampNeg ∧ (tk_6.toInt = 5 → nb_7.toInt = tN tp ln.toNatClampNeg (0 : Int32).toNatClampNeg) := hw2
  replace hP : va_P D vwCl [(aI cI (ad 48) 12 dw), (aI cI (ad 49) 12 dd), (aI cI (ad 50) 12 dp), (aI cI (ad 51) 12 xw), (aI cI (ad 52) 12 xd), (aI cI (ad 53) 12 xp), (oC2 ad ln lfa dl (0) bs_4 be_5 tk_6 nb_7), (aI cY (ad 47) 300 tp)] H := hP
  replace hD : va_D A [(aI cI (ad 48) 12 dw), (aI cI (ad 49) 12 dd), (aI cI (ad 50) 12 dp), (aI cI (ad 51) 12 xw), (aI cI (ad 52) 12 xd), (aI cI (ad 53) 12 xp), (oC2 ad ln lfa dl (0) bs_4 be_5 tk_6 nb_7), (aI cY (ad 47) 300 tp)] := hD
  obtain ⟨hw2a, hw2b, hw2c, hw2d, hw2e, hw2f, hw2g⟩ := hw2
  refine lv_iconst (v := 0) hx hb dX2_read_14 (by decide) ?_
  refine lv_istore_n (lv' := [(1, .int 0), (0, .ref (ad 6))]) hx hb dX2_read_15 rfl hl (by decide) rfl (fun ls hl => ?_)
  refine lv_iconst (v := 0) hx hb dX2_read_16 (by decide) ?_
  refine lv_istore_n (lv' := [(2, .int 0), (1, .int 0), (0, .ref (ad 6))]) hx hb dX2_read_17 rfl hl (by decide) rfl (fun ls hl => ?_)
  refine st_loop 18 (fun _ => []) (fun (z : Int32 × Int32 × (Nat → Int32) × (Nat → Int32) × (Nat → Int32) × Int32 × Int32 × Int32 × Int32 × Int32) (ls : Array Slot) (H : Heap) (locs : List Loc) => match z with | (q18_1, q18_2, xwq, xdq, xpq, bsq, beq, tkq, nbq, drq) => (0 ≤ bsq.toInt) ∧ (bsq.toInt ≤ beq.toInt) ∧ (beq.toInt ≤ ln.toInt) ∧ (0 ≤ drq.toInt) ∧ (drq.toInt ≤ 12) ∧ (0 ≤ q18_2.toInt) ∧ (q18_2.toInt ≤ 13) ∧ (rdI tp ln.toNatClampNeg q18_1 q18_2 drq bsq beq tkq nbq xwq xdq xpq) ∧ lv_has ls 3 [(0, .ref (ad 6)), (1, .int q18_1), (2, .int q18_2)] ∧ va_P D vwCl [(aI cI (ad 48) 12 dw), (aI cI (ad 49) 12 dd), (aI cI (ad 50) 12 dp), (aI cI (ad 51) 12 xwq), (aI cI (ad 52) 12 xdq), (aI cI (ad 53) 12 xpq), (oC2 ad ln lfa dl drq bsq beq tkq nbq), (aI cY (ad 47) 300 tp)] H ∧ va_D A [(aI cI (ad 48) 12 dw), (aI cI (ad 49) 12 dd), (aI cI (ad 50) 12 dp), (aI cI (ad 51) 12 xwq), (aI cI (ad 52) 12 xdq), (aI cI (ad 53) 12 xpq), (oC2 ad ln lfa dl drq bsq beq tkq nbq), (aI cY (ad 47) 300 tp)] ∧ va_S A s.heap H locs) (fun (z : Int32 × Int32 × (Nat → Int32) × (Nat → Int32) × (Nat → Int32) × Int32 × Int32 × Int32 × Int32 × Int32) => match z with | (q18_1, q18_2, xwq, xdq, xpq, bsq, beq, tkq, nbq, drq) => 13 - q18_2.toInt) ?_ ?_ ((0 : Int32), (0 : Int32), xw, xd, xp, bs_4, be_5, tk_6, nb_7, (0 : Int32)) ⟨(by omega), (by omega), (by omega), (by omega), (by omega), (by omega), (by omega), (by exact rd_0 ⟨hw2d, hw2e, hw2f, hw2g⟩), lv_sub hl [2, 1, 0] rfl, hP, hD, hS⟩
  · rintro ⟨q18_1, q18_2, xwq, xdq, xpq, bsq, beq, tkq, nbq, drq⟩ ls H locs ⟨g8, g9, g10, g11, g12, g13, g14, g15, hl, hP, hD, hS⟩
    show (0 : Int) ≤ 13 - q18_2.toInt
    omega
  · rintro n18 ih16 ⟨q18_1, q18_2, xwq, xdq, xpq, bsq, beq, tkq, nbq, drq⟩ ls H locs ⟨g8, g9, g10, g11, g12, g13, g14, g15, hl, hP, hD, hS⟩ hm17
    have hm17 : 13 - q18_2.toInt < (n18 : Int) + 1 := hm17
    replace hl : lv_has ls 3 [(0, .ref (ad 6)), (1, .int q18_1), (2, .int q18_2)] := hl
    replace hP : va_P D vwCl [(aI cI (ad 48) 12 dw), (aI cI (ad 49) 12 dd), (aI cI (ad 50) 12 dp), (aI cI (ad 51) 12 xwq), (aI cI (ad 52) 12 xdq), (aI cI (ad 53) 12 xpq), (oC2 ad ln lfa dl drq bsq beq tkq nbq), (aI cY (ad 47) 300 tp)] H := hP
    replace hD : va_D A [(aI cI (ad 48) 12 dw), (aI cI (ad 49) 12 dd), (aI cI (ad 50) 12 dp), (aI cI (ad 51) 12 xwq), (aI cI (ad 52) 12 xdq), (aI cI (ad 53) 12 xpq), (oC2 ad ln lfa dl drq bsq beq tkq nbq), (aI cY (ad 47) 300 tp)] := hD
    show W _ _ _ _ _ _ _ _ _ _ _ _ _ _ _ (F0 m 18 ls [])
    refine lv_iload_n hx hb dX2_read_18 rfl (lv_at hl 2 rfl) ?_
    refine lv_bipush (v := 12) hx hb dX2_read_19 (by decide) ?_
    refine lv_icmp_gt (tgt := 57) hx hb dX2_read_21 (by decide) (fun c19 => ?_) (fun c19 => ?_)
    · skip
      have f20 := i_lt c19
      refine lv_aload_n hx hb dX2_read_57 rfl (lv_at hl 0 rfl) ?_
      refine lv_iconst (v := 0) hx hb dX2_read_58 (by decide) ?_
      refine va_put (D := D) (ci := 2) (v := .int 0) (ty := .int) (C := RX2) (T := TX2) (N := 15) hx hb hts inX2_read_X2 tyX2 tyX2_ok nmX2 hown hK hP hD hS 6 rfl rfl 1 (by decide) (hts (Cond.fieldLink RX2 34 "PortRooms$Duties" "length" "I") (wm_t (wm_l (wm_i 3 rfl)))) (fun _ h9 => h9) rfl (tyX2_ok 1 (by decide)) rfl rfl (Nat.le_of_ble_eq_true rfl) dX2_read_59 (fun H locs => ?_)
      clear hP hD hS
      intro hP hD hS
      replace hP : va_P D vwCl [(aI cI (ad 48) 12 dw), (aI cI (ad 49) 12 dd), (aI cI (ad 50) 12 dp), (aI cI (ad 51) 12 xwq), (aI cI (ad 52) 12 xdq), (aI cI (ad 53) 12 xpq), (oC2 ad (0) lfa dl drq bsq beq tkq nbq), (aI cY (ad 47) 300 tp)] H := hP
      replace hD : va_D A [(aI cI (ad 48) 12 dw), (aI cI (ad 49) 12 dd), (aI cI (ad 50) 12 dp), (aI cI (ad 51) 12 xwq), (aI cI (ad 52) 12 xdq), (aI cI (ad 53) 12 xpq), (oC2 ad (0) lfa dl drq bsq beq tkq nbq), (aI cY (ad 47) 300 tp)] := hD
      refine lv_iload_n hx hb dX2_read_62 rfl (lv_at hl 1 rfl) ?_
      refine lv_if_eq (tgt := 79) hx hb dX2_read_63 (by decide) (fun c21 => ?_) (fun c21 => ?_)
      · skip
        have f22 := i_eq c21
        refine lv_aload_n hx hb dX2_read_79 rfl (lv_at hl 0 rfl) ?_
        refine st_v (wr := [(aI cY (ad 47) 300 tp)]) (va_runV (C := RX2) (As := []) (rest := []) ⟨hx, hb, hml, hown, hts⟩ (ct_X2_keepDraft l D cI cY cJ cQ _ ad 0 lfa dl drq bsq beq tkq nbq dw dd dp xwq xdq xpq (by omega) (by omega)) (cwV 0 hts gX2_read_X2_keepDraft rfl rfl rfl ⟨rfl, cdX2_keepDraft⟩ ⟨Nat.le_of_ble_eq_true rfl, Nat.le_of_ble_eq_true rfl⟩) (cPreV (hP.sub [6, 0, 1, 2, 3, 4, 5] rfl) hK (hD.sub [6, 0, 1, 2, 3, 4, 5] (by decide +kernel) rfl) hN (ci := 2) (q0 := 0) rfl rfl) rfl rfl hl.1 rfl (lv_room (Nat.le_of_ble_eq_true rfl)) dX2_read_80 ⟨Nat.le_of_ble_eq_true rfl, Nat.le_of_ble_eq_true rfl⟩) hP hD hS hA [6, 0, 1, 2, 3, 4, 5] [7] rfl rfl (by decide +kernel) (by decide +kernel) (fun u23 H locs hw24 => ?_)
        clear hP hD hS
        intro hP hD hS
        obtain ⟨dl_26, dw_27, dd_28, dp_29⟩ := u23
        replace hw24 : dl_26 = drq ∧ ∀ j : Nat, (j : Int) < drq.toInt → dw_27 j = xwq j ∧ dd_28 j = xdq j ∧ dp_29 j = xpq j := hw24
        replace hP : va_P D vwCl [(aI cY (ad 47) 300 tp), (oC2 ad (0) lfa dl_26 drq bsq beq tkq nbq), (aI cI (ad 48) 12 dw_27), (aI cI (ad 49) 12 dd_28), (aI cI (ad 50) 12 dp_29), (aI cI (ad 51) 12 xwq), (aI cI (ad 52) 12 xdq), (aI cI (ad 53) 12 xpq)] H := hP
        replace hD : va_D A [(aI cY (ad 47) 300 tp), (oC2 ad (0) lfa dl_26 drq bsq beq tkq nbq), (aI cI (ad 48) 12 dw_27), (aI cI (ad 49) 12 dd_28), (aI cI (ad 50) 12 dp_29), (aI cI (ad 51) 12 xwq), (aI cI (ad 52) 12 xdq), (aI cI (ad 53) 12 xpq)] := hD
        obtain ⟨hw24, hw24k⟩ := hw24
        have hw24t := i_eq hw24
        refine lv_aload_n hx hb dX2_read_83 rfl (lv_at hl 0 rfl) ?_
        refine va_get (D := D) (ci := 2) (v := .int dl_26) (C := RX2) (T := TX2) (N := 15) hx hb hts inX2_read_X2 hown hK hP 1 rfl rfl 6 (by decide) (hts (Cond.fieldLink RX2 67 "PortRooms$Duties" "lines" "I") (wm_t (wm_l (wm_i 7 rfl)))) (fun _ h9 => h9) rfl dX2_read_84 ?_
        have hg9 : duP tp ln.toNatClampNeg drq lfa dl lfa drq dw dd dp dw_27 dd_28 dp_29 := rd_good g15 (by omega) (by omega) (by omega) (by omega) hw24k
        rw [← hw24] at hg9
        have hP9 := hP.sub (ws' := [(oC2 ad (0) lfa dl_26 drq bsq beq tkq nbq), (aI cY (ad 47) 300 tp), (aI cI (ad 48) 12 dw_27), (aI cI (ad 49) 12 dd_28), (aI cI (ad 50) 12 dp_29), (aI cI (ad 51) 12 xwq), (aI cI (ad 52) 12 xdq), (aI cI (ad 53) 12 xpq)]) [1, 0, 2, 3, 4, 5, 6, 7] rfl
        have hD9 := hD.sub (ws' := [(oC2 ad (0) lfa dl_26 drq bsq beq tkq nbq), (aI cY (ad 47) 300 tp), (aI cI (ad 48) 12 dw_27), (aI cI (ad 49) 12 dd_28), (aI cI (ad 50) 12 dp_29), (aI cI (ad 51) 12 xwq), (aI cI (ad 52) 12 xdq), (aI cI (ad 53) 12 xpq)]) [1, 0, 2, 3, 4, 5, 6, 7] (by decide +kernel) rfl
        exact W.iret (v := dl_26) hx hb hr (fun t ht hW => ⟨⟨dl_26, (lfa, dl_26, dw_27, dd_28, dp_29, xwq, xdq, xpq, drq, bsq, beq, tkq, nbq), rfl, (by show 0 ≤ dl_26.toInt ∧ dl_26.toInt ≤ 12 ∧ duP tp ln.toNatClampNeg dl_26 lfa dl lfa dl_26 dw dd dp dw_27 dd_28 dp_29; exact ⟨by omega, by omega, hg9⟩), by rw [ht]; exact hP9, va_K.moved hW.alike hK, hD9⟩, hS.F ht⟩) hS.2.2 dX2_read_87
      · skip
        have f30 := i_ne c21
        refine lv_aload_n hx hb dX2_read_66 rfl (lv_at hl 0 rfl) ?_
        refine lv_iload_n hx hb dX2_read_67 rfl (lv_at hl 1 rfl) ?_
        refine va_put (D := D) (ci := 2) (v := .int q18_1) (ty := .int) (C := RX2) (T := TX2) (N := 15) hx hb hts inX2_read_X2 tyX2 tyX2_ok nmX2 hown hK hP hD hS 6 rfl rfl 2 (by decide) (hts (Cond.fieldLink RX2 57 "PortRooms$Duties" "latestFault" "I") (wm_t (wm_l (wm_i 4 rfl)))) (fun _ h9 => h9) rfl (tyX2_ok 2 (by decide)) rfl rfl (Nat.le_of_ble_eq_true rfl) dX2_read_68 (fun H locs => ?_)
        clear hP hD hS
        intro hP hD hS
        replace hP : va_P D vwCl [(aI cI (ad 48) 12 dw), (aI cI (ad 49) 12 dd), (aI cI (ad 50) 12 dp), (aI cI (ad 51) 12 xwq), (aI cI (ad 52) 12 xdq), (aI cI (ad 53) 12 xpq), (oC2 ad (0) q18_1 dl drq bsq beq tkq nbq), (aI cY (ad 47) 300 tp)] H := hP
        replace hD : va_D A [(aI cI (ad 48) 12 dw), (aI cI (ad 49) 12 dd), (aI cI (ad 50) 12 dp), (aI cI (ad 51) 12 xwq), (aI cI (ad 52) 12 xdq), (aI cI (ad 53) 12 xpq), (oC2 ad (0) q18_1 dl drq bsq beq tkq nbq), (aI cY (ad 47) 300 tp)] := hD
        refine lv_ldc hx hb hown (hts (Cond.constant RX2 60 (-1000100)) (wm_t (wm_l (wm_i 5 rfl)))) dX2_read_71 ?_
        refine lv_aload_n hx hb dX2_read_73 rfl (lv_at hl 0 rfl) ?_
        refine va_get (D := D) (ci := 2) (v := .int bsq) (C := RX2) (T := TX2) (N := 15) hx hb hts inX2_read_X2 hown hK hP 6 rfl rfl 11 (by decide) (hts (Cond.fieldLink RX2 61 "PortRooms$Duties" "start" "I") (wm_t (wm_l (wm_i 6 rfl)))) (fun _ h9 => h9) rfl dX2_read_74 ?_
        refine lv_isub hx hb dX2_read_77 ?_
        refine lv_topi (fun v31 ev31 => ?_)
        try have tv31 : v31.toInt = (-1000100) - bsq.toInt := by rw [ev31]; exact (i_sub (x := ((-1000100) : Int32)) (y := bsq) (by rw [km1000100]; omega) (by rw [km1000100]; omega)).trans (by rw [km1000100])
        have hP9 := hP.sub (ws' := [(oC2 ad (0) q18_1 dl drq bsq beq tkq nbq), (aI cY (ad 47) 300 tp), (aI cI (ad 48) 12 dw), (aI cI (ad 49) 12 dd), (aI cI (ad 50) 12 dp), (aI cI (ad 51) 12 xwq), (aI cI (ad 52) 12 xdq), (aI cI (ad 53) 12 xpq)]) [6, 7, 0, 1, 2, 3, 4, 5] rfl
        have hD9 := hD.sub (ws' := [(oC2 ad (0) q18_1 dl drq bsq beq tkq nbq), (aI cY (ad 47) 300 tp), (aI cI (ad 48) 12 dw), (aI cI (ad 49) 12 dd), (aI cI (ad 50) 12 dp), (aI cI (ad 51) 12 xwq), (aI cI (ad 52) 12 xdq), (aI cI (ad 53) 12 xpq)]) [6, 7, 0, 1, 2, 3, 4, 5] (by decide +kernel) rfl
        exact W.iret (v := v31) hx hb hr (fun t ht hW => ⟨⟨v31, (q18_1, dl, dw, dd, dp, xwq, xdq, xpq, drq, bsq, beq, tkq, nbq), rfl, (by show 0 ≤ dl.toInt ∧ dl.toInt ≤ 12 ∧ duP tp ln.toNatClampNeg v31 lfa dl q18_1 dl dw dd dp dw dd dp; exact ⟨by omega, by omega, rd_bad g15 (by omega) (by omega) (by omega) (by omega)⟩), by rw [ht]; exact hP9, va_K.moved hW.alike hK, hD9⟩, hS.F ht⟩) hS.2.2 dX2_read_78
    · skip
      have f32 := i_nlt c19
      refine lv_aload_n hx hb dX2_read_24 rfl (lv_at hl 0 rfl) ?_
      refine va_get (D := D) (ci := 2) (v := .int tkq) (C := RX2) (T := TX2) (N := 15) hx hb hts inX2_read_X2 hown hK hP 6 rfl rfl 13 (by decide) (hts (Cond.fieldLink RX2 47 "PortRooms$Duties" "token" "I") (wm_t (wm_l (wm_i 2 rfl)))) (fun _ h9 => h9) rfl dX2_read_25 ?_
      refine lv_bipush (v := 8) hx hb dX2_read_28 (by decide) ?_
      refine lv_icmp_eq (tgt := 57) hx hb dX2_read_30 (by decide) (fun c33 => ?_) (fun c33 => ?_)
      · skip
        have f34 := i_eq c33
        refine lv_aload_n hx hb dX2_read_57 rfl (lv_at hl 0 rfl) ?_
        refine lv_iconst (v := 0) hx hb dX2_read_58 (by decide) ?_
        refine va_put (D := D) (ci := 2) (v := .int 0) (ty := .int) (C := RX2) (T := TX2) (N := 15) hx hb hts inX2_read_X2 tyX2 tyX2_ok nmX2 hown hK hP hD hS 6 rfl rfl 1 (by decide) (hts (Cond.fieldLink RX2 34 "PortRooms$Duties" "length" "I") (wm_t (wm_l (wm_i 3 rfl)))) (fun _ h9 => h9) rfl (tyX2_ok 1 (by decide)) rfl rfl (Nat.le_of_ble_eq_true rfl) dX2_read_59 (fun H locs => ?_)
        clear hP hD hS
        intro hP hD hS
        replace hP : va_P D vwCl [(aI cI (ad 48) 12 dw), (aI cI (ad 49) 12 dd), (aI cI (ad 50) 12 dp), (aI cI (ad 51) 12 xwq), (aI cI (ad 52) 12 xdq), (aI cI (ad 53) 12 xpq), (oC2 ad (0) lfa dl drq bsq beq tkq nbq), (aI cY (ad 47) 300 tp)] H := hP
        replace hD : va_D A [(aI cI (ad 48) 12 dw), (aI cI (ad 49) 12 dd), (aI cI (ad 50) 12 dp), (aI cI (ad 51) 12 xwq), (aI cI (ad 52) 12 xdq), (aI cI (ad 53) 12 xpq), (oC2 ad (0) lfa dl drq bsq beq tkq nbq), (aI cY (ad 47) 300 tp)] := hD
        refine lv_iload_n hx hb dX2_read_62 rfl (lv_at hl 1 rfl) ?_
        refine lv_if_eq (tgt := 79) hx hb dX2_read_63 (by decide) (fun c35 => ?_) (fun c35 => ?_)
        · skip
          have f36 := i_eq c35
          refine lv_aload_n hx hb dX2_read_79 rfl (lv_at hl 0 rfl) ?_
          refine st_v (wr := [(aI cY (ad 47) 300 tp)]) (va_runV (C := RX2) (As := []) (rest := []) ⟨hx, hb, hml, hown, hts⟩ (ct_X2_keepDraft l D cI cY cJ cQ _ ad 0 lfa dl drq bsq beq tkq nbq dw dd dp xwq xdq xpq (by omega) (by omega)) (cwV 0 hts gX2_read_X2_keepDraft rfl rfl rfl ⟨rfl, cdX2_keepDraft⟩ ⟨Nat.le_of_ble_eq_true rfl, Nat.le_of_ble_eq_true rfl⟩) (cPreV (hP.sub [6, 0, 1, 2, 3, 4, 5] rfl) hK (hD.sub [6, 0, 1, 2, 3, 4, 5] (by decide +kernel) rfl) hN (ci := 2) (q0 := 0) rfl rfl) rfl rfl hl.1 rfl (lv_room (Nat.le_of_ble_eq_true rfl)) dX2_read_80 ⟨Nat.le_of_ble_eq_true rfl, Nat.le_of_ble_eq_true rfl⟩) hP hD hS hA [6, 0, 1, 2, 3, 4, 5] [7] rfl rfl (by decide +kernel) (by decide +kernel) (fun u37 H locs hw38 => ?_)
          clear hP hD hS
          intro hP hD hS
          obtain ⟨dl_40, dw_41, dd_42, dp_43⟩ := u37
          replace hw38 : dl_40 = drq ∧ ∀ j : Nat, (j : Int) < drq.toInt → dw_41 j = xwq j ∧ dd_42 j = xdq j ∧ dp_43 j = xpq j := hw38
          replace hP : va_P D vwCl [(aI cY (ad 47) 300 tp), (oC2 ad (0) lfa dl_40 drq bsq beq tkq nbq), (aI cI (ad 48) 12 dw_41), (aI cI (ad 49) 12 dd_42), (aI cI (ad 50) 12 dp_43), (aI cI (ad 51) 12 xwq), (aI cI (ad 52) 12 xdq), (aI cI (ad 53) 12 xpq)] H := hP
          replace hD : va_D A [(aI cY (ad 47) 300 tp), (oC2 ad (0) lfa dl_40 drq bsq beq tkq nbq), (aI cI (ad 48) 12 dw_41), (aI cI (ad 49) 12 dd_42), (aI cI (ad 50) 12 dp_43), (aI cI (ad 51) 12 xwq), (aI cI (ad 52) 12 xdq), (aI cI (ad 53) 12 xpq)] := hD
          obtain ⟨hw38, hw38k⟩ := hw38
          have hw38t := i_eq hw38
          refine lv_aload_n hx hb dX2_read_83 rfl (lv_at hl 0 rfl) ?_
          refine va_get (D := D) (ci := 2) (v := .int dl_40) (C := RX2) (T := TX2) (N := 15) hx hb hts inX2_read_X2 hown hK hP 1 rfl rfl 6 (by decide) (hts (Cond.fieldLink RX2 67 "PortRooms$Duties" "lines" "I") (wm_t (wm_l (wm_i 7 rfl)))) (fun _ h9 => h9) rfl dX2_read_84 ?_
          have hg9 : duP tp ln.toNatClampNeg drq lfa dl lfa drq dw dd dp dw_41 dd_42 dp_43 := rd_good g15 (by omega) (by omega) (by omega) (by omega) hw38k
          rw [← hw38] at hg9
          have hP9 := hP.sub (ws' := [(oC2 ad (0) lfa dl_40 drq bsq beq tkq nbq), (aI cY (ad 47) 300 tp), (aI cI (ad 48) 12 dw_41), (aI cI (ad 49) 12 dd_42), (aI cI (ad 50) 12 dp_43), (aI cI (ad 51) 12 xwq), (aI cI (ad 52) 12 xdq), (aI cI (ad 53) 12 xpq)]) [1, 0, 2, 3, 4, 5, 6, 7] rfl
          have hD9 := hD.sub (ws' := [(oC2 ad (0) lfa dl_40 drq bsq beq tkq nbq), (aI cY (ad 47) 300 tp), (aI cI (ad 48) 12 dw_41), (aI cI (ad 49) 12 dd_42), (aI cI (ad 50) 12 dp_43), (aI cI (ad 51) 12 xwq), (aI cI (ad 52) 12 xdq), (aI cI (ad 53) 12 xpq)]) [1, 0, 2, 3, 4, 5, 6, 7] (by decide +kernel) rfl
          exact W.iret (v := dl_40) hx hb hr (fun t ht hW => ⟨⟨dl_40, (lfa, dl_40, dw_41, dd_42, dp_43, xwq, xdq, xpq, drq, bsq, beq, tkq, nbq), rfl, (by show 0 ≤ dl_40.toInt ∧ dl_40.toInt ≤ 12 ∧ duP tp ln.toNatClampNeg dl_40 lfa dl lfa dl_40 dw dd dp dw_41 dd_42 dp_43; exact ⟨by omega, by omega, hg9⟩), by rw [ht]; exact hP9, va_K.moved hW.alike hK, hD9⟩, hS.F ht⟩) hS.2.2 dX2_read_87
        · skip
          have f44 := i_ne c35
          refine lv_aload_n hx hb dX2_read_66 rfl (lv_at hl 0 rfl) ?_
          refine lv_iload_n hx hb dX2_read_67 rfl (lv_at hl 1 rfl) ?_
          refine va_put (D := D) (ci := 2) (v := .int q18_1) (ty := .int) (C := RX2) (T := TX2) (N := 15) hx hb hts inX2_read_X2 tyX2 tyX2_ok nmX2 hown hK hP hD hS 6 rfl rfl 2 (by decide) (hts (Cond.fieldLink RX2 57 "PortRooms$Duties" "latestFault" "I") (wm_t (wm_l (wm_i 4 rfl)))) (fun _ h9 => h9) rfl (tyX2_ok 2 (by decide)) rfl rfl (Nat.le_of_ble_eq_true rfl) dX2_read_68 (fun H locs => ?_)
          clear hP hD hS
          intro hP hD hS
          replace hP : va_P D vwCl [(aI cI (ad 48) 12 dw), (aI cI (ad 49) 12 dd), (aI cI (ad 50) 12 dp), (aI cI (ad 51) 12 xwq), (aI cI (ad 52) 12 xdq), (aI cI (ad 53) 12 xpq), (oC2 ad (0) q18_1 dl drq bsq beq tkq nbq), (aI cY (ad 47) 300 tp)] H := hP
          replace hD : va_D A [(aI cI (ad 48) 12 dw), (aI cI (ad 49) 12 dd), (aI cI (ad 50) 12 dp), (aI cI (ad 51) 12 xwq), (aI cI (ad 52) 12 xdq), (aI cI (ad 53) 12 xpq), (oC2 ad (0) q18_1 dl drq bsq beq tkq nbq), (aI cY (ad 47) 300 tp)] := hD
          refine lv_ldc hx hb hown (hts (Cond.constant RX2 60 (-1000100)) (wm_t (wm_l (wm_i 5 rfl)))) dX2_read_71 ?_
          refine lv_aload_n hx hb dX2_read_73 rfl (lv_at hl 0 rfl) ?_
          refine va_get (D := D) (ci := 2) (v := .int bsq) (C := RX2) (T := TX2) (N := 15) hx hb hts inX2_read_X2 hown hK hP 6 rfl rfl 11 (by decide) (hts (Cond.fieldLink RX2 61 "PortRooms$Duties" "start" "I") (wm_t (wm_l (wm_i 6 rfl)))) (fun _ h9 => h9) rfl dX2_read_74 ?_
          refine lv_isub hx hb dX2_read_77 ?_
          refine lv_topi (fun v45 ev45 => ?_)
          try have tv45 : v45.toInt = (-1000100) - bsq.toInt := by rw [ev45]; exact (i_sub (x := ((-1000100) : Int32)) (y := bsq) (by rw [km1000100]; omega) (by rw [km1000100]; omega)).trans (by rw [km1000100])
          have hP9 := hP.sub (ws' := [(oC2 ad (0) q18_1 dl drq bsq beq tkq nbq), (aI cY (ad 47) 300 tp), (aI cI (ad 48) 12 dw), (aI cI (ad 49) 12 dd), (aI cI (ad 50) 12 dp), (aI cI (ad 51) 12 xwq), (aI cI (ad 52) 12 xdq), (aI cI (ad 53) 12 xpq)]) [6, 7, 0, 1, 2, 3, 4, 5] rfl
          have hD9 := hD.sub (ws' := [(oC2 ad (0) q18_1 dl drq bsq beq tkq nbq), (aI cY (ad 47) 300 tp), (aI cI (ad 48) 12 dw), (aI cI (ad 49) 12 dd), (aI cI (ad 50) 12 dp), (aI cI (ad 51) 12 xwq), (aI cI (ad 52) 12 xdq), (aI cI (ad 53) 12 xpq)]) [6, 7, 0, 1, 2, 3, 4, 5] (by decide +kernel) rfl
          exact W.iret (v := v45) hx hb hr (fun t ht hW => ⟨⟨v45, (q18_1, dl, dw, dd, dp, xwq, xdq, xpq, drq, bsq, beq, tkq, nbq), rfl, (by show 0 ≤ dl.toInt ∧ dl.toInt ≤ 12 ∧ duP tp ln.toNatClampNeg v45 lfa dl q18_1 dl dw dd dp dw dd dp; exact ⟨by omega, by omega, rd_bad g15 (by omega) (by omega) (by omega) (by omega)⟩), by rw [ht]; exact hP9, va_K.moved hW.alike hK, hD9⟩, hS.F ht⟩) hS.2.2 dX2_read_78
      · skip
        have f46 := i_ne c33
        refine lv_iload_n hx hb dX2_read_33 rfl (lv_at hl 1 rfl) ?_
        refine lv_if_ne (tgt := 57) hx hb dX2_read_34 (by decide) (fun c47 => ?_) (fun c47 => ?_)
        · skip
          have f48 := i_ne c47
          refine lv_aload_n hx hb dX2_read_57 rfl (lv_at hl 0 rfl) ?_
          refine lv_iconst (v := 0) hx hb dX2_read_58 (by decide) ?_
          refine va_put (D := D) (ci := 2) (v := .int 0) (ty := .int) (C := RX2) (T := TX2) (N := 15) hx hb hts inX2_read_X2 tyX2 tyX2_ok nmX2 hown hK hP hD hS 6 rfl rfl 1 (by decide) (hts (Cond.fieldLink RX2 34 "PortRooms$Duties" "length" "I") (wm_t (wm_l (wm_i 3 rfl)))) (fun _ h9 => h9) rfl (tyX2_ok 1 (by decide)) rfl rfl (Nat.le_of_ble_eq_true rfl) dX2_read_59 (fun H locs => ?_)
          clear hP hD hS
          intro hP hD hS
          replace hP : va_P D vwCl [(aI cI (ad 48) 12 dw), (aI cI (ad 49) 12 dd), (aI cI (ad 50) 12 dp), (aI cI (ad 51) 12 xwq), (aI cI (ad 52) 12 xdq), (aI cI (ad 53) 12 xpq), (oC2 ad (0) lfa dl drq bsq beq tkq nbq), (aI cY (ad 47) 300 tp)] H := hP
          replace hD : va_D A [(aI cI (ad 48) 12 dw), (aI cI (ad 49) 12 dd), (aI cI (ad 50) 12 dp), (aI cI (ad 51) 12 xwq), (aI cI (ad 52) 12 xdq), (aI cI (ad 53) 12 xpq), (oC2 ad (0) lfa dl drq bsq beq tkq nbq), (aI cY (ad 47) 300 tp)] := hD
          refine lv_iload_n hx hb dX2_read_62 rfl (lv_at hl 1 rfl) ?_
          refine lv_if_eq (tgt := 79) hx hb dX2_read_63 (by decide) (fun c49 => ?_) (fun c49 => ?_)
          · skip
            have f50 := i_eq c49
            refine lv_aload_n hx hb dX2_read_79 rfl (lv_at hl 0 rfl) ?_
            refine st_v (wr := [(aI cY (ad 47) 300 tp)]) (va_runV (C := RX2) (As := []) (rest := []) ⟨hx, hb, hml, hown, hts⟩ (ct_X2_keepDraft l D cI cY cJ cQ _ ad 0 lfa dl drq bsq beq tkq nbq dw dd dp xwq xdq xpq (by omega) (by omega)) (cwV 0 hts gX2_read_X2_keepDraft rfl rfl rfl ⟨rfl, cdX2_keepDraft⟩ ⟨Nat.le_of_ble_eq_true rfl, Nat.le_of_ble_eq_true rfl⟩) (cPreV (hP.sub [6, 0, 1, 2, 3, 4, 5] rfl) hK (hD.sub [6, 0, 1, 2, 3, 4, 5] (by decide +kernel) rfl) hN (ci := 2) (q0 := 0) rfl rfl) rfl rfl hl.1 rfl (lv_room (Nat.le_of_ble_eq_true rfl)) dX2_read_80 ⟨Nat.le_of_ble_eq_true rfl, Nat.le_of_ble_eq_true rfl⟩) hP hD hS hA [6, 0, 1, 2, 3, 4, 5] [7] rfl rfl (by decide +kernel) (by decide +kernel) (fun u51 H locs hw52 => ?_)
            clear hP hD hS
            intro hP hD hS
            obtain ⟨dl_54, dw_55, dd_56, dp_57⟩ := u51
            replace hw52 : dl_54 = drq ∧ ∀ j : Nat, (j : Int) < drq.toInt → dw_55 j = xwq j ∧ dd_56 j = xdq j ∧ dp_57 j = xpq j := hw52
            replace hP : va_P D vwCl [(aI cY (ad 47) 300 tp), (oC2 ad (0) lfa dl_54 drq bsq beq tkq nbq), (aI cI (ad 48) 12 dw_55), (aI cI (ad 49) 12 dd_56), (aI cI (ad 50) 12 dp_57), (aI cI (ad 51) 12 xwq), (aI cI (ad 52) 12 xdq), (aI cI (ad 53) 12 xpq)] H := hP
            replace hD : va_D A [(aI cY (ad 47) 300 tp), (oC2 ad (0) lfa dl_54 drq bsq beq tkq nbq), (aI cI (ad 48) 12 dw_55), (aI cI (ad 49) 12 dd_56), (aI cI (ad 50) 12 dp_57), (aI cI (ad 51) 12 xwq), (aI cI (ad 52) 12 xdq), (aI cI (ad 53) 12 xpq)] := hD
            obtain ⟨hw52, hw52k⟩ := hw52
            have hw52t := i_eq hw52
            refine lv_aload_n hx hb dX2_read_83 rfl (lv_at hl 0 rfl) ?_
            refine va_get (D := D) (ci := 2) (v := .int dl_54) (C := RX2) (T := TX2) (N := 15) hx hb hts inX2_read_X2 hown hK hP 1 rfl rfl 6 (by decide) (hts (Cond.fieldLink RX2 67 "PortRooms$Duties" "lines" "I") (wm_t (wm_l (wm_i 7 rfl)))) (fun _ h9 => h9) rfl dX2_read_84 ?_
            have hg9 : duP tp ln.toNatClampNeg drq lfa dl lfa drq dw dd dp dw_55 dd_56 dp_57 := rd_good g15 (by omega) (by omega) (by omega) (by omega) hw52k
            rw [← hw52] at hg9
            have hP9 := hP.sub (ws' := [(oC2 ad (0) lfa dl_54 drq bsq beq tkq nbq), (aI cY (ad 47) 300 tp), (aI cI (ad 48) 12 dw_55), (aI cI (ad 49) 12 dd_56), (aI cI (ad 50) 12 dp_57), (aI cI (ad 51) 12 xwq), (aI cI (ad 52) 12 xdq), (aI cI (ad 53) 12 xpq)]) [1, 0, 2, 3, 4, 5, 6, 7] rfl
            have hD9 := hD.sub (ws' := [(oC2 ad (0) lfa dl_54 drq bsq beq tkq nbq), (aI cY (ad 47) 300 tp), (aI cI (ad 48) 12 dw_55), (aI cI (ad 49) 12 dd_56), (aI cI (ad 50) 12 dp_57), (aI cI (ad 51) 12 xwq), (aI cI (ad 52) 12 xdq), (aI cI (ad 53) 12 xpq)]) [1, 0, 2, 3, 4, 5, 6, 7] (by decide +kernel) rfl
            exact W.iret (v := dl_54) hx hb hr (fun t ht hW => ⟨⟨dl_54, (lfa, dl_54, dw_55, dd_56, dp_57, xwq, xdq, xpq, drq, bsq, beq, tkq, nbq), rfl, (by show 0 ≤ dl_54.toInt ∧ dl_54.toInt ≤ 12 ∧ duP tp ln.toNatClampNeg dl_54 lfa dl lfa dl_54 dw dd dp dw_55 dd_56 dp_57; exact ⟨by omega, by omega, hg9⟩), by rw [ht]; exact hP9, va_K.moved hW.alike hK, hD9⟩, hS.F ht⟩) hS.2.2 dX2_read_87
          · skip
            have f58 := i_ne c49
            refine lv_aload_n hx hb dX2_read_66 rfl (lv_at hl 0 rfl) ?_
            refine lv_iload_n hx hb dX2_read_67 rfl (lv_at hl 1 rfl) ?_
            refine va_put (D := D) (ci := 2) (v := .int q18_1) (ty := .int) (C := RX2) (T := TX2) (N := 15) hx hb hts inX2_read_X2 tyX2 tyX2_ok nmX2 hown hK hP hD hS 6 rfl rfl 2 (by decide) (hts (Cond.fieldLink RX2 57 "PortRooms$Duties" "latestFault" "I") (wm_t (wm_l (wm_i 4 rfl)))) (fun _ h9 => h9) rfl (tyX2_ok 2 (by decide)) rfl rfl (Nat.le_of_ble_eq_true rfl) dX2_read_68 (fun H locs => ?_)
            clear hP hD hS
            intro hP hD hS
            replace hP : va_P D vwCl [(aI cI (ad 48) 12 dw), (aI cI (ad 49) 12 dd), (aI cI (ad 50) 12 dp), (aI cI (ad 51) 12 xwq), (aI cI (ad 52) 12 xdq), (aI cI (ad 53) 12 xpq), (oC2 ad (0) q18_1 dl drq bsq beq tkq nbq), (aI cY (ad 47) 300 tp)] H := hP
            replace hD : va_D A [(aI cI (ad 48) 12 dw), (aI cI (ad 49) 12 dd), (aI cI (ad 50) 12 dp), (aI cI (ad 51) 12 xwq), (aI cI (ad 52) 12 xdq), (aI cI (ad 53) 12 xpq), (oC2 ad (0) q18_1 dl drq bsq beq tkq nbq), (aI cY (ad 47) 300 tp)] := hD
            refine lv_ldc hx hb hown (hts (Cond.constant RX2 60 (-1000100)) (wm_t (wm_l (wm_i 5 rfl)))) dX2_read_71 ?_
            refine lv_aload_n hx hb dX2_read_73 rfl (lv_at hl 0 rfl) ?_
            refine va_get (D := D) (ci := 2) (v := .int bsq) (C := RX2) (T := TX2) (N := 15) hx hb hts inX2_read_X2 hown hK hP 6 rfl rfl 11 (by decide) (hts (Cond.fieldLink RX2 61 "PortRooms$Duties" "start" "I") (wm_t (wm_l (wm_i 6 rfl)))) (fun _ h9 => h9) rfl dX2_read_74 ?_
            refine lv_isub hx hb dX2_read_77 ?_
            refine lv_topi (fun v59 ev59 => ?_)
            try have tv59 : v59.toInt = (-1000100) - bsq.toInt := by rw [ev59]; exact (i_sub (x := ((-1000100) : Int32)) (y := bsq) (by rw [km1000100]; omega) (by rw [km1000100]; omega)).trans (by rw [km1000100])
            have hP9 := hP.sub (ws' := [(oC2 ad (0) q18_1 dl drq bsq beq tkq nbq), (aI cY (ad 47) 300 tp), (aI cI (ad 48) 12 dw), (aI cI (ad 49) 12 dd), (aI cI (ad 50) 12 dp), (aI cI (ad 51) 12 xwq), (aI cI (ad 52) 12 xdq), (aI cI (ad 53) 12 xpq)]) [6, 7, 0, 1, 2, 3, 4, 5] rfl
            have hD9 := hD.sub (ws' := [(oC2 ad (0) q18_1 dl drq bsq beq tkq nbq), (aI cY (ad 47) 300 tp), (aI cI (ad 48) 12 dw), (aI cI (ad 49) 12 dd), (aI cI (ad 50) 12 dp), (aI cI (ad 51) 12 xwq), (aI cI (ad 52) 12 xdq), (aI cI (ad 53) 12 xpq)]) [6, 7, 0, 1, 2, 3, 4, 5] (by decide +kernel) rfl
            exact W.iret (v := v59) hx hb hr (fun t ht hW => ⟨⟨v59, (q18_1, dl, dw, dd, dp, xwq, xdq, xpq, drq, bsq, beq, tkq, nbq), rfl, (by show 0 ≤ dl.toInt ∧ dl.toInt ≤ 12 ∧ duP tp ln.toNatClampNeg v59 lfa dl q18_1 dl dw dd dp dw dd dp; exact ⟨by omega, by omega, rd_bad g15 (by omega) (by omega) (by omega) (by omega)⟩), by rw [ht]; exact hP9, va_K.moved hW.alike hK, hD9⟩, hS.F ht⟩) hS.2.2 dX2_read_78
        · skip
          have f60 := i_eq c47
          refine lv_aload_n hx hb dX2_read_37 rfl (lv_at hl 0 rfl) ?_
          refine st_i (wr := [(aI cI (ad 48) 12 dw), (aI cI (ad 49) 12 dd), (aI cI (ad 50) 12 dp)]) (va_runV (C := RX2) (As := []) (rest := []) ⟨hx, hb, hml, hown, hts⟩ (ct_X2_readAct l D cI cY cJ cQ _ aK aV ad ln lfa dl drq bsq beq tkq nbq tp xwq xdq xpq h1 h2 (by omega) (by omega) (by omega) (by omega) (by omega)) (cwV 0 hts gX2_read_X2_readAct rfl rfl rfl ⟨rfl, cdX2_readAct⟩ ⟨Nat.le_of_ble_eq_true rfl, Nat.le_of_ble_eq_true rfl⟩) (cPreTV (hP.sub [6, 7, 3, 4, 5] rfl) hK (hD.sub [6, 7, 3, 4, 5] (by decide +kernel) rfl) hN hS (va_free hD hS hA [6, 7, 3, 4, 5] rfl) hT (ci := 2) (q0 := 0) rfl rfl) rfl rfl hl.1 rfl (lv_room (Nat.le_of_ble_eq_true rfl)) dX2_read_38 ⟨Nat.le_of_ble_eq_true rfl, Nat.le_of_ble_eq_true rfl⟩) hP hD hS hA [6, 7, 3, 4, 5] [0, 1, 2] rfl rfl (by decide +kernel) (by decide +kernel) (fun r63 u61 H locs hw62 => ?_)
          clear hP hD hS
          intro hP hD hS
          obtain ⟨bs_64, be_65, tk_66, nb_67, xw_68, xd_69⟩ := u61
          replace hw62 : 0 ≤ bs_64.toInt ∧ bs_64.toInt ≤ be_65.toInt ∧ be_65.toInt ≤ ln.toInt ∧ (r63.toInt = 0 → drq.toInt < 12) ∧ raQ tp ln.toNatClampNeg drq bsq beq tkq xwq xdq r63 bs_64 be_65 tk_66 nb_67 xw_68 xd_69 := hw62
          replace hP : va_P D vwCl [(aI cI (ad 48) 12 dw), (aI cI (ad 49) 12 dd), (aI cI (ad 50) 12 dp), (oC2 ad ln lfa dl drq bs_64 be_65 tk_66 nb_67), (aI cY (ad 47) 300 tp), (aI cI (ad 51) 12 xw_68), (aI cI (ad 52) 12 xd_69), (aI cI (ad 53) 12 xpq)] H := hP
          replace hD : va_D A [(aI cI (ad 48) 12 dw), (aI cI (ad 49) 12 dd), (aI cI (ad 50) 12 dp), (oC2 ad ln lfa dl drq bs_64 be_65 tk_66 nb_67), (aI cY (ad 47) 300 tp), (aI cI (ad 51) 12 xw_68), (aI cI (ad 52) 12 xd_69), (aI cI (ad 53) 12 xpq)] := hD
          obtain ⟨hw62a, hw62b, hw62c, hw62h, hw62q⟩ := hw62
          refine lv_istore_n (lv' := [(1, .int r63), (0, .ref (ad 6)), (2, .int q18_2)]) hx hb dX2_read_41 rfl hl (by decide) rfl (fun ls hl => ?_)
          refine lv_iload_n hx hb dX2_read_42 rfl (lv_at hl 0 rfl) ?_
          refine lv_if_ne (tgt := 51) hx hb dX2_read_43 (by decide) (fun c70 => ?_) (fun c70 => ?_)
          · skip
            have f71 := i_ne c70
            obtain ⟨v72, ev72⟩ : ∃ y : Int32, y = q18_2 + 1 := ⟨_, rfl⟩
            try have tv72 : v72.toInt = q18_2.toInt + 1 := by rw [ev72]; exact (i_add (x := q18_2) (y := (1 : Int32)) (by rw [k1]; omega) (by rw [k1]; omega)).trans (by rw [k1])
            refine lv_iinc (v := v72) (lv' := [(2, .int v72), (1, .int r63), (0, .ref (ad 6))]) hx hb dX2_read_51 hl (k := 2) rfl (by rw [ev72]; rfl) (by decide) rfl (fun ls hl => ?_)
            refine lv_goto (tgt := 18) hx hb dX2_read_54 (by decide) ?_
            exact ih16 (r63, v72, xw_68, xd_69, xpq, bs_64, be_65, tk_66, nb_67, drq) ls H locs ⟨(by omega), (by omega), (by omega), (by omega), (by omega), (by omega), (by omega), (by exact rd_A g15 (by omega) (by omega) (by omega) (by omega) hw62q (by omega)), lv_sub hl [2, 1, 0] rfl, hP.sub [0, 1, 2, 5, 6, 7, 3, 4] rfl, hD.sub [0, 1, 2, 5, 6, 7, 3, 4] (by decide +kernel) rfl, hS⟩ (by show 13 - v72.toInt < _; omega)
          · skip
            have f73 := i_eq c70
            refine lv_aload_n hx hb dX2_read_46 rfl (lv_at hl 1 rfl) ?_
            refine st_i (wr := [(aI cI (ad 48) 12 dw), (aI cI (ad 49) 12 dd), (aI cI (ad 50) 12 dp)]) (va_runV (C := RX2) (As := []) (rest := []) ⟨hx, hb, hml, hown, hts⟩ (ct_X2_readPart l D cI cY cJ cQ _ aK aV ad ln lfa dl drq bs_64 be_65 tk_66 nb_67 tp xw_68 xd_69 xpq h1 h2 (by omega) (by omega) (by omega) (by omega) (by omega)) (cwV 0 hts gX2_read_X2_readPart rfl rfl rfl ⟨rfl, cdX2_readPart⟩ ⟨Nat.le_of_ble_eq_true rfl, Nat.le_of_ble_eq_true rfl⟩) (cPreTV (hP.sub [3, 4, 5, 6, 7] rfl) hK (hD.sub [3, 4, 5, 6, 7] (by decide +kernel) rfl) hN hS (va_free hD hS hA [3, 4, 5, 6, 7] rfl) hT (ci := 2) (q0 := 0) rfl rfl) rfl rfl hl.1 rfl (lv_room (Nat.le_of_ble_eq_true rfl)) dX2_read_47 ⟨Nat.le_of_ble_eq_true rfl, Nat.le_of_ble_eq_true rfl⟩) hP hD hS hA [3, 4, 5, 6, 7] [0, 1, 2] rfl rfl (by decide +kernel) (by decide +kernel) (fun r76 u74 H locs hw75 => ?_)
            clear hP hD hS
            intro hP hD hS
            obtain ⟨bs_77, be_78, tk_79, nb_80, dr_81, xp_82⟩ := u74
            replace hw75 : 0 ≤ bs_77.toInt ∧ bs_77.toInt ≤ be_78.toInt ∧ be_78.toInt ≤ ln.toInt ∧ 0 ≤ dr_81.toInt ∧ dr_81.toInt ≤ 12 ∧ rpQ tp ln.toNatClampNeg drq bs_64 be_65 tk_66 xpq r76 bs_77 be_78 tk_79 nb_80 dr_81 xp_82 := hw75
            replace hP : va_P D vwCl [(aI cI (ad 48) 12 dw), (aI cI (ad 49) 12 dd), (aI cI (ad 50) 12 dp), (oC2 ad ln lfa dl dr_81 bs_77 be_78 tk_79 nb_80), (aI cY (ad 47) 300 tp), (aI cI (ad 51) 12 xw_68), (aI cI (ad 52) 12 xd_69), (aI cI (ad 53) 12 xp_82)] H := hP
            replace hD : va_D A [(aI cI (ad 48) 12 dw), (aI cI (ad 49) 12 dd), (aI cI (ad 50) 12 dp), (oC2 ad ln lfa dl dr_81 bs_77 be_78 tk_79 nb_80), (aI cY (ad 47) 300 tp), (aI cI (ad 51) 12 xw_68), (aI cI (ad 52) 12 xd_69), (aI cI (ad 53) 12 xp_82)] := hD
            obtain ⟨hw75a, hw75b, hw75c, hw75h, hw75i, hw75q⟩ := hw75
            refine lv_istore_n (lv' := [(1, .int r76), (0, .ref (ad 6)), (2, .int q18_2)]) hx hb dX2_read_50 rfl hl (by decide) rfl (fun ls hl => ?_)
            obtain ⟨v83, ev83⟩ : ∃ y : Int32, y = q18_2 + 1 := ⟨_, rfl⟩
            try have tv83 : v83.toInt = q18_2.toInt + 1 := by rw [ev83]; exact (i_add (x := q18_2) (y := (1 : Int32)) (by rw [k1]; omega) (by rw [k1]; omega)).trans (by rw [k1])
            refine lv_iinc (v := v83) (lv' := [(2, .int v83), (1, .int r76), (0, .ref (ad 6))]) hx hb dX2_read_51 hl (k := 2) rfl (by rw [ev83]; rfl) (by decide) rfl (fun ls hl => ?_)
            refine lv_goto (tgt := 18) hx hb dX2_read_54 (by decide) ?_
            exact ih16 (r76, v83, xw_68, xd_69, xp_82, bs_77, be_78, tk_79, nb_80, dr_81) ls H locs ⟨(by omega), (by omega), (by omega), (by omega), (by omega), (by omega), (by omega), (by exact rd_B g15 (by omega) (by omega) (by omega) (by omega) (by omega) (by omega) hw62q (by omega) hw75q), lv_sub hl [2, 1, 0] rfl, hP.sub [0, 1, 2, 5, 6, 7, 3, 4] rfl, hD.sub [0, 1, 2, 5, 6, 7, 3, 4] (by decide +kernel) rfl, hS⟩ (by show 13 - v83.toInt < _; omega)

set_option maxHeartbeats 4000000 in
set_option maxRecDepth 100000 in
theorem ct_X10_duties (l : Launch) (D : va_G) (cI cY cJ cQ : ClassId) (sz : Nat) (aK aV : Nat) (ad : Nat → Nat) (tn td lf ln lfa dl dr bs be tk nb : Int32) (tp dw dd dp xw xd xp : Nat → Int32)  (h1 : 0 ≤ ln.toInt) (h2 : ln.toInt ≤ 300) (h3 : 0 ≤ dl.toInt) (h4 : dl.toInt ≤ 12)  : Met l yX10_duties wsX10_duties ({ frames := 9, cells := 0, slots := 0, locals := 191 }) (cPreT aK aV D (ty4 cI cY cJ cQ) [(oC10 ad tn td lf), (oC2 ad ln lfa dl dr bs be tk nb), (aI cY (ad 47) 300 tp), (aI cI (ad 48) 12 dw), (aI cI (ad 49) 12 dd), (aI cI (ad 50) 12 dp), (aI cI (ad 51) 12 xw), (aI cI (ad 52) 12 xd), (aI cI (ad 53) 12 xp)] sz [.ref (ad 0)]) (va_Qi (fun (r : Int32) (u : Int32 × Int32 × (Nat → Int32) × (Nat → Int32) × (Nat → Int32) × (Nat → Int32) × (Nat → Int32) × (Nat → Int32) × Int32 × Int32 × Int32 × Int32 × Int32) => 0 ≤ u.2.1.toInt ∧ u.2.1.toInt ≤ 12 ∧ duP tp ln.toNatClampNeg r lfa dl u.1 u.2.1 dw dd dp u.2.2.1 u.2.2.2.1 u.2.2.2.2.1) (cB D (ty4 cI cY cJ cQ) (fun (u : Int32 × Int32 × (Nat → Int32) × (Nat → Int32) × (Nat → Int32) × (Nat → Int32) × (Nat → Int32) × (Nat → Int32) × Int32 × Int32 × Int32 × Int32 × Int32) => [(oC10 ad tn td lf), (oC2 ad 0 u.1 u.2.1 u.2.2.2.2.2.2.2.2.1 u.2.2.2.2.2.2.2.2.2.1 u.2.2.2.2.2.2.2.2.2.2.1 u.2.2.2.2.2.2.2.2.2.2.2.1 u.2.2.2.2.2.2.2.2.2.2.2.2), (aI cY (ad 47) 300 tp), (aI cI (ad 48) 12 u.2.2.1), (aI cI (ad 49) 12 u.2.2.2.1), (aI cI (ad 50) 12 u.2.2.2.2.1), (aI cI (ad 51) 12 u.2.2.2.2.2.1), (aI cI (ad 52) 12 u.2.2.2.2.2.2.1), (aI cI (ad 53) 12 u.2.2.2.2.2.2.2.1)]) (va_A [(oC10 ad tn td lf), (oC2 ad ln lfa dl dr bs be tk nb), (aI cY (ad 47) 300 tp), (aI cI (ad 48) 12 dw), (aI cI (ad 49) 12 dd), (aI cI (ad 50) 12 dp), (aI cI (ad 51) 12 xw), (aI cI (ad 52) 12 xd), (aI cI (ad 53) 12 xp)] sz)) (va_A [(oC10 ad tn td lf), (oC2 ad ln lfa dl dr bs be tk nb), (aI cY (ad 47) 300 tp), (aI cI (ad 48) 12 dw), (aI cI (ad 49) 12 dd), (aI cI (ad 50) 12 dp), (aI cI (ad 51) 12 xw), (aI cI (ad 52) 12 xd), (aI cI (ad 53) 12 xp)] sz)) 0 0 (va_A [(oC10 ad tn td lf), (oC2 ad ln lfa dl dr bs be tk nb), (aI cY (ad 47) 300 tp), (aI cI (ad 48) 12 dw), (aI cI (ad 49) 12 dd), (aI cI (ad 50) 12 dp), (aI cI (ad 51) 12 xw), (aI cI (ad 52) 12 xd), (aI cI (ad 53) 12 xp)] sz) := by
  refine Met.ofW (cc := cX10_duties) (maxL := 1) (ret := (some .int)) (by decide) rfl ?_
  intro p e s m args below meth c s₁ B hml hv
  obtain ⟨rfl, hsz, hP, hK, hD0, hN, hT⟩ := hv
  have hx := B.exec
  have hb := B.bytes
  have hr := B.returns
  have hts := atoms_spec (ws := wsX10_duties) B.pre
  have hown : s.vm.findClass RX10 = some m.cls := findClass_of_methodNamed B.named
  have hlocks := B.notSynchronized
  subst hsz
  have hD := hD0.self (sz := s.heap.size)
  generalize hAe : va_A [(oC10 ad tn td lf), (oC2 ad ln lfa dl dr bs be tk nb), (aI cY (ad 47) 300 tp), (aI cI (ad 48) 12 dw), (aI cI (ad 49) 12 dd), (aI cI (ad 50) 12 dp), (aI cI (ad 51) 12 xw), (aI cI (ad 52) 12 xd), (aI cI (ad 53) 12 xp)] s.heap.size = A at hD hT ⊢
  have hA : ∀ q : Nat, s.heap.size ≤ q → A q := fun q h => by rw [← hAe]; exact Or.inr h
  have hS : va_S A s.heap s.heap [] := va_S.rf
  have hP : va_P D vwCl [(oC10 ad tn td lf), (oC2 ad ln lfa dl dr bs be tk nb), (aI cY (ad 47) 300 tp), (aI cI (ad 48) 12 dw), (aI cI (ad 49) 12 dd), (aI cI (ad 50) 12 dp), (aI cI (ad 51) 12 xw), (aI cI (ad 52) 12 xd), (aI cI (ad 53) 12 xp)] s.heap := hP
  have hl := lv_entry ([.ref (ad 0)]) (n := 1) (Nat.le_of_ble_eq_true rfl)
  rw [lg_entry_eq]
  generalize (lg_sl ([.ref (ad 0)]) ++ List.replicate (1 - (lg_sl ([.ref (ad 0)])).length) Slot.unset).toArray = ls at hl ⊢
  have hl : lv_has ls 1 [(0, .ref (ad 0))] := hl
  refine lv_aload_n hx hb dX10_duties_0 rfl (lv_at hl 0 rfl) ?_
  refine va_get (D := D) (ci := 10) (v := .ref (ad 6)) (C := RX10) (T := TX10) (N := 14) hx hb hts inX10_duties_X10 hown hK hP 0 rfl rfl 5 (by decide) (hts (Cond.fieldLink RX10 47 "PortRooms" "duties" "LPortRooms$Duties;") (wm_t (wm_l (wm_i 0 rfl)))) (fun _ h9 => h9) rfl dX10_duties_1 ?_
  refine st_i (wr := [(oC10 ad tn td lf)]) (va_runV (C := RX2) (As := []) (rest := []) ⟨hx, hb, hml, hown, hts⟩ (ct_X2_read l D cI cY cJ cQ _ aK aV ad ln lfa dl dr bs be tk nb tp dw dd dp xw xd xp h1 h2 h3 h4) (cwV 0 hts gX10_duties_X2_read rfl rfl rfl ⟨rfl, cdX2_read⟩ ⟨Nat.le_of_ble_eq_true rfl, Nat.le_of_ble_eq_true rfl⟩) (cPreTV (hP.sub [1, 2, 3, 4, 5, 6, 7, 8] rfl) hK (hD.sub [1, 2, 3, 4, 5, 6, 7, 8] (by decide +kernel) rfl) hN hS (va_free hD hS hA [1, 2, 3, 4, 5, 6, 7, 8] rfl) hT (ci := 2) (q0 := 0) rfl rfl) rfl rfl hl.1 rfl (lv_room (Nat.le_of_ble_eq_true rfl)) dX10_duties_4 ⟨Nat.le_of_ble_eq_true rfl, Nat.le_of_ble_eq_true rfl⟩) hP hD hS hA [1, 2, 3, 4, 5, 6, 7, 8] [0] rfl rfl (by decide +kernel) (by decide +kernel) (fun r3 u1 H locs hw2 => ?_)
  clear hP hD hS
  intro hP hD hS
  obtain ⟨lfa_4, dl_5, dw_6, dd_7, dp_8, xw_9, xd_10, xp_11, dr_12, bs_13, be_14, tk_15, nb_16⟩ := u1
  replace hw2 : 0 ≤ dl_5.toInt ∧ dl_5.toInt ≤ 12 ∧ duP tp ln.toNatClampNeg r3 lfa dl lfa_4 dl_5 dw dd dp dw_6 dd_7 dp_8 := hw2
  replace hP : va_P D vwCl [(oC10 ad tn td lf), (oC2 ad (0) lfa_4 dl_5 dr_12 bs_13 be_14 tk_15 nb_16), (aI cY (ad 47) 300 tp), (aI cI (ad 48) 12 dw_6), (aI cI (ad 49) 12 dd_7), (aI cI (ad 50) 12 dp_8), (aI cI (ad 51) 12 xw_9), (aI cI (ad 52) 12 xd_10), (aI cI (ad 53) 12 xp_11)] H := hP
  replace hD : va_D A [(oC10 ad tn td lf), (oC2 ad (0) lfa_4 dl_5 dr_12 bs_13 be_14 tk_15 nb_16), (aI cY (ad 47) 300 tp), (aI cI (ad 48) 12 dw_6), (aI cI (ad 49) 12 dd_7), (aI cI (ad 50) 12 dp_8), (aI cI (ad 51) 12 xw_9), (aI cI (ad 52) 12 xd_10), (aI cI (ad 53) 12 xp_11)] := hD
  have hP9 := hP
  have hD9 := hD
  exact W.iret (v := r3) hx hb hr (fun t ht hW => ⟨⟨r3, (lfa_4, dl_5, dw_6, dd_7, dp_8, xw_9, xd_10, xp_11, dr_12, bs_13, be_14, tk_15, nb_16), rfl, (by show 0 ≤ dl_5.toInt ∧ dl_5.toInt ≤ 12 ∧ duP tp ln.toNatClampNeg r3 lfa dl lfa_4 dl_5 dw dd dp dw_6 dd_7 dp_8; exact hw2), by rw [ht]; exact hP9, va_K.moved hW.alike hK, hD9⟩, hS.F ht⟩) hS.2.2 dX10_duties_7

set_option maxHeartbeats 4000000 in
set_option maxRecDepth 100000 in
theorem ct_X2_take (l : Launch) (D : va_G) (cI cY cJ cQ : ClassId) (sz : Nat) (ad : Nat → Nat) (ln lfa dl dr bs be tk nb : Int32) (tp : Nat → Int32) (b : Int32)  (h1 : 0 ≤ ln.toInt) (h2 : ln.toInt < 300)  : Met l yX2_take wsX2_take ({ frames := 0, cells := 0, slots := 0, locals := 0 }) (cPre D (ty4 cI cY cJ cQ) [(oC2 ad ln lfa dl dr bs be tk nb), (aI cY (ad 47) 300 tp)] sz [.ref (ad 6), .int b]) (va_Qv (fun (u : Int32 × (Nat → Int32)) => u.1.toInt = ln.toInt + 1) (cB D (ty4 cI cY cJ cQ) (fun (u : Int32 × (Nat → Int32)) => [(oC2 ad u.1 lfa dl dr bs be tk nb), (aI cY (ad 47) 300 u.2)]) (va_A [(oC2 ad ln lfa dl dr bs be tk nb), (aI cY (ad 47) 300 tp)] sz)) (va_A [(oC2 ad ln lfa dl dr bs be tk nb), (aI cY (ad 47) 300 tp)] sz)) 0 0 (va_A [(oC2 ad ln lfa dl dr bs be tk nb), (aI cY (ad 47) 300 tp)] sz) := by
  refine Met.ofW (cc := cX2_take) (maxL := 2) (ret := none) (by decide) rfl ?_
  intro p e s m args below meth c s₁ B hml hv
  obtain ⟨rfl, hsz, hP, hK, hD0, hN⟩ := hv
  have hx := B.exec
  have hb := B.bytes
  have hr := B.returns
  have hts := atoms_spec (ws := wsX2_take) B.pre
  have hown : s.vm.findClass RX2 = some m.cls := findClass_of_methodNamed B.named
  have hlocks := B.notSynchronized
  subst hsz
  have hD := hD0.self (sz := s.heap.size)
  generalize hAe : va_A [(oC2 ad ln lfa dl dr bs be tk nb), (aI cY (ad 47) 300 tp)] s.heap.size = A at hD ⊢
  have hA : ∀ q : Nat, s.heap.size ≤ q → A q := fun q h => by rw [← hAe]; exact Or.inr h
  have hS : va_S A s.heap s.heap [] := va_S.rf
  have hP : va_P D vwCl [(oC2 ad ln lfa dl dr bs be tk nb), (aI cY (ad 47) 300 tp)] s.heap := hP
  have hl := lv_entry ([.ref (ad 6), .int b]) (n := 2) (Nat.le_of_ble_eq_true rfl)
  rw [lg_entry_eq]
  generalize (lg_sl ([.ref (ad 6), .int b]) ++ List.replicate (2 - (lg_sl ([.ref (ad 6), .int b])).length) Slot.unset).toArray = ls at hl ⊢
  have hl : lv_has ls 2 [(0, .ref (ad 6)), (1, .int b)] := hl
  have k1 : (1 : Int32).toInt = 1 := by decide
  have k300 : (300 : Int32).toInt = 300 := by decide
  refine lv_aload_n hx hb dX2_take_0 rfl (lv_at hl 0 rfl) ?_
  refine va_get (D := D) (ci := 2) (v := .int ln) (C := RX2) (T := TX2) (N := 15) hx hb hts inX2_take_X2 hown hK hP 0 rfl rfl 1 (by decide) (hts (Cond.fieldLink RX2 34 "PortRooms$Duties" "length" "I") (wm_t (wm_l (wm_i 0 rfl)))) (fun _ h9 => h9) rfl dX2_take_1 ?_
  refine lv_sipush (v := 300) hx hb dX2_take_4 (by decide) ?_
  refine lv_icmp_ge (tgt := 30) hx hb dX2_take_7 (by decide) (fun c1 => by exfalso; have := i_le c1; omega) (fun _ => ?_)
  refine lv_aload_n hx hb dX2_take_10 rfl (lv_at hl 0 rfl) ?_
  refine va_get (D := D) (ci := 2) (v := .ref (ad 47)) (C := RX2) (T := TX2) (N := 15) hx hb hts inX2_take_X2 hown hK hP 0 rfl rfl 0 (by decide) (hts (Cond.fieldLink RX2 11 "PortRooms$Duties" "tape" "[B") (wm_t (wm_l (wm_i 1 rfl)))) (fun _ h9 => h9) rfl dX2_take_11 ?_
  refine lv_aload_n hx hb dX2_take_14 rfl (lv_at hl 0 rfl) ?_
  refine va_get (D := D) (ci := 2) (v := .int ln) (C := RX2) (T := TX2) (N := 15) hx hb hts inX2_take_X2 hown hK hP 0 rfl rfl 1 (by decide) (hts (Cond.fieldLink RX2 34 "PortRooms$Duties" "length" "I") (wm_t (wm_l (wm_i 0 rfl)))) (fun _ h9 => h9) rfl dX2_take_15 ?_
  refine lv_iload_n hx hb dX2_take_18 rfl (lv_at hl 1 rfl) ?_
  refine va_bast hx hb hK hP hD hS 1 1 rfl rfl (i_in (by omega) (by omega)) dX2_take_19 (fun H locs => ?_)
  clear hP hD hS
  intro hP hD hS
  replace hP : va_P D vwCl [(oC2 ad ln lfa dl dr bs be tk nb), (aI cY (ad 47) 300 (upd tp ln.toNatClampNeg (vp_nar .byte b)))] H := hP
  replace hD : va_D A [(oC2 ad ln lfa dl dr bs be tk nb), (aI cY (ad 47) 300 (upd tp ln.toNatClampNeg (vp_nar .byte b)))] := hD
  refine lv_aload_n hx hb dX2_take_20 rfl (lv_at hl 0 rfl) ?_
  refine lv_dup hx hb dX2_take_21 rfl ?_
  refine va_get (D := D) (ci := 2) (v := .int ln) (C := RX2) (T := TX2) (N := 15) hx hb hts inX2_take_X2 hown hK hP 0 rfl rfl 1 (by decide) (hts (Cond.fieldLink RX2 34 "PortRooms$Duties" "length" "I") (wm_t (wm_l (wm_i 0 rfl)))) (fun _ h9 => h9) rfl dX2_take_22 ?_
  refine lv_iconst (v := 1) hx hb dX2_take_25 (by decide) ?_
  refine lv_iadd hx hb dX2_take_26 ?_
  refine lv_topi (fun v2 ev2 => ?_)
  try have tv2 : v2.toInt = ln.toInt + 1 := by rw [ev2]; exact (i_add (x := ln) (y := (1 : Int32)) (by rw [k1]; omega) (by rw [k1]; omega)).trans (by rw [k1])
  refine va_put (D := D) (ci := 2) (v := .int v2) (ty := .int) (C := RX2) (T := TX2) (N := 15) hx hb hts inX2_take_X2 tyX2 tyX2_ok nmX2 hown hK hP hD hS 0 rfl rfl 1 (by decide) (hts (Cond.fieldLink RX2 34 "PortRooms$Duties" "length" "I") (wm_t (wm_l (wm_i 0 rfl)))) (fun _ h9 => h9) rfl (tyX2_ok 1 (by decide)) rfl rfl (Nat.le_of_ble_eq_true rfl) dX2_take_27 (fun H locs => ?_)
  clear hP hD hS
  intro hP hD hS
  replace hP : va_P D vwCl [(oC2 ad v2 lfa dl dr bs be tk nb), (aI cY (ad 47) 300 (upd tp ln.toNatClampNeg (vp_nar .byte b)))] H := hP
  replace hD : va_D A [(oC2 ad v2 lfa dl dr bs be tk nb), (aI cY (ad 47) 300 (upd tp ln.toNatClampNeg (vp_nar .byte b)))] := hD
  have hP9 := hP
  have hD9 := hD
  exact W.vret hx hb hr (fun t ht hW => ⟨⟨(v2, upd tp ln.toNatClampNeg (vp_nar .byte b)), rfl, (by show v2.toInt = ln.toInt + 1; omega), by rw [ht]; exact hP9, va_K.moved hW.alike hK, hD9⟩, hS.F ht⟩) hS.2.2 dX2_take_30

set_option maxHeartbeats 4000000 in
set_option maxRecDepth 100000 in
theorem ct_X10_feed (l : Launch) (D : va_G) (cI cY cJ cQ : ClassId) (sz : Nat) (ad : Nat → Nat) (tn td lf ln lfa dl dr bs be tk nb : Int32) (tp : Nat → Int32) (w : Int64) (n : Int32)  (h1 : 0 ≤ ln.toInt) (h2 : ln.toInt ≤ 300)  : Met l yX10_feed wsX10_feed ({ frames := 1, cells := 0, slots := 0, locals := 22 }) (cPre D (ty4 cI cY cJ cQ) [(oC10 ad tn td lf), (oC2 ad ln lfa dl dr bs be tk nb), (aI cY (ad 47) 300 tp)] sz [.ref (ad 0), .long w, .int n]) (va_Qi (fun (r : Int32) (u : Int32 × (Nat → Int32)) => r = sp_feed ln n ∧ u.1 = sq_feed ln n) (cB D (ty4 cI cY cJ cQ) (fun (u : Int32 × (Nat → Int32)) => [(oC10 ad tn td lf), (oC2 ad u.1 lfa dl dr bs be tk nb), (aI cY (ad 47) 300 u.2)]) (va_A [(oC10 ad tn td lf), (oC2 ad ln lfa dl dr bs be tk nb), (aI cY (ad 47) 300 tp)] sz)) (va_A [(oC10 ad tn td lf), (oC2 ad ln lfa dl dr bs be tk nb), (aI cY (ad 47) 300 tp)] sz)) 0 0 (va_A [(oC10 ad tn td lf), (oC2 ad ln lfa dl dr bs be tk nb), (aI cY (ad 47) 300 tp)] sz) := by
  refine Met.ofW (cc := cX10_feed) (maxL := 5) (ret := (some .int)) (by decide) rfl ?_
  intro p e s m args below meth c s₁ B hml hv
  obtain ⟨rfl, hsz, hP, hK, hD0, hN⟩ := hv
  have hx := B.exec
  have hb := B.bytes
  have hr := B.returns
  have hts := atoms_spec (ws := wsX10_feed) B.pre
  have hown : s.vm.findClass RX10 = some m.cls := findClass_of_methodNamed B.named
  have hlocks := B.notSynchronized
  subst hsz
  have hD := hD0.self (sz := s.heap.size)
  generalize hAe : va_A [(oC10 ad tn td lf), (oC2 ad ln lfa dl dr bs be tk nb), (aI cY (ad 47) 300 tp)] s.heap.size = A at hD ⊢
  have hA : ∀ q : Nat, s.heap.size ≤ q → A q := fun q h => by rw [← hAe]; exact Or.inr h
  have hS : va_S A s.heap s.heap [] := va_S.rf
  have hP : va_P D vwCl [(oC10 ad tn td lf), (oC2 ad ln lfa dl dr bs be tk nb), (aI cY (ad 47) 300 tp)] s.heap := hP
  have hl := lv_entry ([.ref (ad 0), .long w, .int n]) (n := 5) (Nat.le_of_ble_eq_true rfl)
  rw [lg_entry_eq]
  generalize (lg_sl ([.ref (ad 0), .long w, .int n]) ++ List.replicate (5 - (lg_sl ([.ref (ad 0), .long w, .int n])).length) Slot.unset).toArray = ls at hl ⊢
  have hl : lv_has ls 5 [(0, .ref (ad 0)), (1, .long w), (3, .int n)] := hl
  have km1000003 : (-1000003 : Int32).toInt = -1000003 := by decide
  have km1000001 : (-1000001 : Int32).toInt = -1000001 := by decide
  have km1 : (-1 : Int32).toInt = -1 := by decide
  have k0 : (0 : Int32).toInt = 0 := by decide
  have k1 : (1 : Int32).toInt = 1 := by decide
  have k8 : (8 : Int32).toInt = 8 := by decide
  have k300 : (300 : Int32).toInt = 300 := by decide
  refine lv_iload_n hx hb dX10_feed_0 rfl (lv_at hl 2 rfl) ?_
  refine lv_iconst (v := 1) hx hb dX10_feed_1 (by decide) ?_
  refine lv_bipush (v := 8) hx hb dX10_feed_2 (by decide) ?_
  refine st_i1 (va_runS (As := [.int n, .int 1, .int 8]) (rest := []) ⟨hx, hb, hml, hown, hts⟩ (ct_X10_isFrom l D cI cY cJ cQ _ n (1 : Int32) (8 : Int32)) (va_cwS 3 hts gX10_feed_X10_isFrom rfl rfl rfl cdX10_isFrom ⟨Nat.le_of_ble_eq_true rfl, Nat.le_of_ble_eq_true rfl⟩) (cPreS (hP.sub [] rfl) hK (hD.sub [] (by decide +kernel) rfl) hN) rfl rfl hl.1 rfl (lv_room (Nat.le_of_ble_eq_true rfl)) dX10_feed_4 ⟨Nat.le_of_ble_eq_true rfl, Nat.le_of_ble_eq_true rfl⟩) hP hD hS hA [] rfl (fun _ => rfl) (fun r3 u1 H locs hw2 => ?_)
  clear hP hS
  intro hP hS
  replace hw2 : r3 = if (1 : Int32).toInt ≤ n.toInt ∧ n.toInt ≤ (8 : Int32).toInt then 1 else 0 := hw2
  refine lv_if_ne (tgt := 13) hx hb dX10_feed_7 (by decide) (fun c4 => ?_) (fun c4 => ?_)
  · skip
    have f5 := bo_t hw2 c4
    refine lv_aload_n hx hb dX10_feed_13 rfl (lv_at hl 0 rfl) ?_
    refine va_get (D := D) (ci := 10) (v := .ref (ad 6)) (C := RX10) (T := TX10) (N := 14) hx hb hts inX10_feed_X10 hown hK hP 0 rfl rfl 5 (by decide) (hts (Cond.fieldLink RX10 47 "PortRooms" "duties" "LPortRooms$Duties;") (wm_t (wm_l (wm_i 1 rfl)))) (fun _ h9 => h9) rfl dX10_feed_14 ?_
    refine va_get (D := D) (ci := 2) (v := .int ln) (C := RX2) (T := TX2) (N := 15) hx hb hts inX10_feed_X2 hown hK hP 1 rfl rfl 1 (by decide) (hts (Cond.fieldLink RX10 213 "PortRooms$Duties" "length" "I") (wm_t (wm_l (wm_i 2 rfl)))) (fun _ h9 => h9) rfl dX10_feed_17 ?_
    refine lv_iload_n hx hb dX10_feed_20 rfl (lv_at hl 2 rfl) ?_
    refine lv_iadd hx hb dX10_feed_21 ?_
    refine lv_topi (fun v6 ev6 => ?_)
    try have tv6 : v6.toInt = ln.toInt + n.toInt := by rw [ev6]; exact (i_add (x := ln) (y := n) (by omega) (by omega))
    refine lv_sipush (v := 300) hx hb dX10_feed_22 (by decide) ?_
    refine lv_icmp_le (tgt := 31) hx hb dX10_feed_25 (by decide) (fun c7 => ?_) (fun c7 => ?_)
    · skip
      have f8 := i_le c7
      refine lv_iload_n hx hb dX10_feed_31 rfl (lv_at hl 2 rfl) ?_
      refine lv_iconst (v := 1) hx hb dX10_feed_32 (by decide) ?_
      refine lv_isub hx hb dX10_feed_33 ?_
      refine lv_topi (fun v9 ev9 => ?_)
      try have tv9 : v9.toInt = n.toInt - 1 := by rw [ev9]; exact (i_sub (x := n) (y := (1 : Int32)) (by rw [k1]; omega) (by rw [k1]; omega)).trans (by rw [k1])
      refine lv_istore (lv' := [(4, .int v9), (0, .ref (ad 0)), (1, .long w), (3, .int n)]) hx hb dX10_feed_34 hl (by decide) rfl (fun ls hl => ?_)
      refine st_loop 36 (fun _ => []) (fun (z : Int32 × (Nat → Int32) × Int32) (ls : Array Slot) (H : Heap) (locs : List Loc) => match z with | (q36_4, tpq, lnq) => (-1 ≤ q36_4.toInt) ∧ (q36_4.toInt < n.toInt) ∧ (lnq.toInt = ln.toInt + n.toInt - 1 - q36_4.toInt) ∧ lv_has ls 5 [(0, .ref (ad 0)), (1, .long w), (3, .int n), (4, .int q36_4)] ∧ va_P D vwCl [(oC10 ad tn td lf), (oC2 ad lnq lfa dl dr bs be tk nb), (aI cY (ad 47) 300 tpq)] H ∧ va_D A [(oC10 ad tn td lf), (oC2 ad lnq lfa dl dr bs be tk nb), (aI cY (ad 47) 300 tpq)] ∧ va_S A s.heap H locs) (fun (z : Int32 × (Nat → Int32) × Int32) => match z with | (q36_4, tpq, lnq) => q36_4.toInt + 1) ?_ ?_ (v9, tp, ln) ⟨(by omega), (by omega), (by omega), lv_sub hl [1, 2, 3, 0] rfl, hP, hD, hS⟩
      · rintro ⟨q36_4, tpq, lnq⟩ ls H locs ⟨g10, g11, g12, hl, hP, hD, hS⟩
        show (0 : Int) ≤ q36_4.toInt + 1
        omega
      · rintro n15 ih13 ⟨q36_4, tpq, lnq⟩ ls H locs ⟨g10, g11, g12, hl, hP, hD, hS⟩ hm14
        have hm14 : q36_4.toInt + 1 < (n15 : Int) + 1 := hm14
        replace hl : lv_has ls 5 [(0, .ref (ad 0)), (1, .long w), (3, .int n), (4, .int q36_4)] := hl
        replace hP : va_P D vwCl [(oC10 ad tn td lf), (oC2 ad lnq lfa dl dr bs be tk nb), (aI cY (ad 47) 300 tpq)] H := hP
        replace hD : va_D A [(oC10 ad tn td lf), (oC2 ad lnq lfa dl dr bs be tk nb), (aI cY (ad 47) 300 tpq)] := hD
        show W _ _ _ _ _ _ _ _ _ _ _ _ _ _ _ (F0 m 36 ls [])
        refine lv_iload hx hb dX10_feed_36 (lv_at hl 3 rfl) ?_
        refine lv_if_lt (tgt := 63) hx hb dX10_feed_38 (by decide) (fun c16 => ?_) (fun c16 => ?_)
        · skip
          have f17 := i_lt c16
          refine lv_aload_n hx hb dX10_feed_63 rfl (lv_at hl 0 rfl) ?_
          refine va_get (D := D) (ci := 10) (v := .ref (ad 6)) (C := RX10) (T := TX10) (N := 14) hx hb hts inX10_feed_X10 hown hK hP 0 rfl rfl 5 (by decide) (hts (Cond.fieldLink RX10 47 "PortRooms" "duties" "LPortRooms$Duties;") (wm_t (wm_l (wm_i 1 rfl)))) (fun _ h9 => h9) rfl dX10_feed_64 ?_
          refine va_get (D := D) (ci := 2) (v := .int lnq) (C := RX2) (T := TX2) (N := 15) hx hb hts inX10_feed_X2 hown hK hP 1 rfl rfl 1 (by decide) (hts (Cond.fieldLink RX10 213 "PortRooms$Duties" "length" "I") (wm_t (wm_l (wm_i 2 rfl)))) (fun _ h9 => h9) rfl dX10_feed_67 ?_
          have tln9 : 1 ≤ n.toInt → n.toInt ≤ 8 → (ln + n).toInt = ln.toInt + n.toInt := fun h8 h9 => i_add (by omega) (by omega)
          have hP9 := hP
          have hD9 := hD
          exact W.iret (v := lnq) hx hb hr (fun t ht hW => ⟨⟨lnq, (lnq, tpq), rfl, ⟨i_of (by unfold sp_feed; (repeat' split) <;> omega), i_of (by unfold sq_feed; (repeat' split) <;> (show lnq.toInt = _; omega))⟩, by rw [ht]; exact hP9, va_K.moved hW.alike hK, hD9⟩, hS.F ht⟩) hS.2.2 dX10_feed_70
        · skip
          have f18 := i_nlt c16
          refine lv_aload_n hx hb dX10_feed_41 rfl (lv_at hl 0 rfl) ?_
          refine va_get (D := D) (ci := 10) (v := .ref (ad 6)) (C := RX10) (T := TX10) (N := 14) hx hb hts inX10_feed_X10 hown hK hP 0 rfl rfl 5 (by decide) (hts (Cond.fieldLink RX10 47 "PortRooms" "duties" "LPortRooms$Duties;") (wm_t (wm_l (wm_i 1 rfl)))) (fun _ h9 => h9) rfl dX10_feed_42 ?_
          refine lv_lload_n hx hb dX10_feed_45 rfl (lv_at hl 1 rfl) ?_
          refine lv_bipush (v := 8) hx hb dX10_feed_46 (by decide) ?_
          refine lv_iload hx hb dX10_feed_48 (lv_at hl 3 rfl) ?_
          refine lv_imul hx hb dX10_feed_50 ?_
          refine lv_topi (fun v19 ev19 => ?_)
          try have tv19 : v19.toInt = 8 * q36_4.toInt := by rw [ev19]; exact (i_mul (x := (8 : Int32)) (y := q36_4) (by rw [k8]; omega) (by rw [k8]; omega)).trans (by rw [k8])
          refine lv_lushr hx hb dX10_feed_51 rfl ?_
          refine lv_topl (fun z20 ez20 => ?_)
          refine lv_l2i hx hb dX10_feed_52 rfl ?_
          refine lv_topi (fun v21 ev21 => ?_)
          refine lv_i2b hx hb dX10_feed_53 rfl ?_
          refine lv_topi (fun v22 ev22 => ?_)
          refine st_v (wr := [(oC10 ad tn td lf)]) (va_runV (C := RX2) (As := [.int v22]) (rest := []) ⟨hx, hb, hml, hown, hts⟩ (ct_X2_take l D cI cY cJ cQ _ ad lnq lfa dl dr bs be tk nb tpq v22 (by omega) (by omega)) (cwV 1 hts gX10_feed_X2_take rfl rfl rfl ⟨rfl, cdX2_take⟩ ⟨Nat.le_of_ble_eq_true rfl, Nat.le_of_ble_eq_true rfl⟩) (cPreV (hP.sub [1, 2] rfl) hK (hD.sub [1, 2] (by decide +kernel) rfl) hN (ci := 2) (q0 := 0) rfl rfl) rfl rfl hl.1 rfl (lv_room (Nat.le_of_ble_eq_true rfl)) dX10_feed_54 ⟨Nat.le_of_ble_eq_true rfl, Nat.le_of_ble_eq_true rfl⟩) hP hD hS hA [1, 2] [0] rfl rfl (by decide +kernel) (by decide +kernel) (fun u23 H locs hw24 => ?_)
          clear hP hD hS
          intro hP hD hS
          obtain ⟨ln_26, tp_27⟩ := u23
          replace hw24 : ln_26.toInt = lnq.toInt + 1 := hw24
          replace hP : va_P D vwCl [(oC10 ad tn td lf), (oC2 ad ln_26 lfa dl dr bs be tk nb), (aI cY (ad 47) 300 tp_27)] H := hP
          replace hD : va_D A [(oC10 ad tn td lf), (oC2 ad ln_26 lfa dl dr bs be tk nb), (aI cY (ad 47) 300 tp_27)] := hD
          obtain ⟨v28, ev28⟩ : ∃ y : Int32, y = q36_4 + (-1) := ⟨_, rfl⟩
          try have tv28 : v28.toInt = q36_4.toInt + (-1) := by rw [ev28]; exact (i_add (x := q36_4) (y := ((-1) : Int32)) (by rw [km1]; omega) (by rw [km1]; omega)).trans (by rw [km1])
          refine lv_iinc (v := v28) (lv' := [(4, .int v28), (0, .ref (ad 0)), (1, .long w), (3, .int n)]) hx hb dX10_feed_57 hl (k := 3) rfl (by rw [ev28]; rfl) (by decide) rfl (fun ls hl => ?_)
          refine lv_goto (tgt := 36) hx hb dX10_feed_60 (by decide) ?_
          exact ih13 (v28, tp_27, ln_26) ls H locs ⟨(by omega), (by omega), (by omega), lv_sub hl [1, 2, 3, 0] rfl, hP.sub [0, 1, 2] rfl, hD.sub [0, 1, 2] (by decide +kernel) rfl, hS⟩ (by show v28.toInt + 1 < _; omega)
    · skip
      have f29 := i_nle c7
      refine lv_ldc hx hb hown (hts (Cond.constant RX10 145 (-1000003)) (wm_t (wm_l (wm_i 3 rfl)))) dX10_feed_28 ?_
      have tln9 : 1 ≤ n.toInt → n.toInt ≤ 8 → (ln + n).toInt = ln.toInt + n.toInt := fun h8 h9 => i_add (by omega) (by omega)
      have hP9 := hP
      have hD9 := hD
      exact W.iret (v := (-1000003)) hx hb hr (fun t ht hW => ⟨⟨(-1000003), (ln, tp), rfl, ⟨i_of (by unfold sp_feed; (repeat' split) <;> omega), i_of (by unfold sq_feed; (repeat' split) <;> (show ln.toInt = _; omega))⟩, by rw [ht]; exact hP9, va_K.moved hW.alike hK, hD9⟩, hS.F ht⟩) hS.2.2 dX10_feed_30
  · skip
    have f30 := bo_f hw2 c4
    refine lv_ldc hx hb hown (hts (Cond.constant RX10 89 (-1000001)) (wm_t (wm_l (wm_i 0 rfl)))) dX10_feed_10 ?_
    have tln9 : 1 ≤ n.toInt → n.toInt ≤ 8 → (ln + n).toInt = ln.toInt + n.toInt := fun h8 h9 => i_add (by omega) (by omega)
    have hP9 := hP
    have hD9 := hD
    exact W.iret (v := (-1000001)) hx hb hr (fun t ht hW => ⟨⟨(-1000001), (ln, tp), rfl, ⟨i_of (by unfold sp_feed; (repeat' split) <;> omega), i_of (by unfold sq_feed; (repeat' split) <;> (show ln.toInt = _; omega))⟩, by rw [ht]; exact hP9, va_K.moved hW.alike hK, hD9⟩, hS.F ht⟩) hS.2.2 dX10_feed_12
end

section
/-- the reference's own cell -/
abbrev moC (md : Nat → Nat) (sd mth mst hn cn pn mq gn mln mnn ln mlt msz mcu mtk mfr mti mfa mfb an un lc td mtn : Int32) : Nat × va_E := (md 64, .inr (11, [.int mth, .long (sd.toInt64), .int mst, .ref (md 3), .ref (md 4), .ref (md 5), .int hn, .ref (md 7), .ref (md 8), .ref (md 9), .ref (md 10), .ref (md 11), .ref (md 12), .ref (md 13), .ref (md 14), .int cn, .ref (md 16), .ref (md 17), .int pn, .ref (md 19), .ref (md 20), .ref (md 21), .ref (md 22), .ref (md 23), .int mq, .int gn, .ref (md 26), .ref (md 27), .ref (md 28), .ref (md 29), .int mln, .ref (md 31), .int mnn, .ref (md 33), .ref (md 34), .int ln, .int mlt, .int msz, .int mcu, .int mtk, .int mfr, .int mti, .int mfa, .int mfb, .int an, .ref (md 45), .ref (md 46), .ref (md 47), .ref (md 48), .ref (md 49), .ref (md 50), .ref (md 51), .int un, .ref (md 53), .ref (md 54), .ref (md 55), .ref (md 56), .int lc, .ref (md 58), .ref (md 59), .ref (md 60), .int td, .ref (md 62), .int mtn]))
end

section
theorem cdX11_in : yX11_in.cls ≠ "java/lang/invoke/MethodHandle" ∧ yX11_in.cls ≠ "java/lang/invoke/VarHandle" ∧ (parseMethodDescriptor yX11_in.desc).map (fun d => d.parameters.length) = some 3 := by decide +kernel
theorem cdX11_isDay : yX11_isDay.cls ≠ "java/lang/invoke/MethodHandle" ∧ yX11_isDay.cls ≠ "java/lang/invoke/VarHandle" ∧ (parseMethodDescriptor yX11_isDay.desc).map (fun d => d.parameters.length) = some 1 := by decide +kernel
theorem Gd_X11_in : gdA wsX11_in := gd_cons (by decide +kernel) (gd_all (ws := []) rfl)
theorem inX11_found_X11 : ∀ w ∈ u_ws RX11 TX11 64, w ∈ wsX11_found := fun _ h => (List.mem_cons_of_mem _ (List.mem_append_right _ h))
theorem Gd_X11_isDay : gdA wsX11_isDay := gd_cons (by decide +kernel) (gd_app (gd_all (ws := wsX11_isDay_o1) (by decide +kernel)) Gd_X11_in)
theorem inX11_isCrate_X11 : ∀ w ∈ u_ws RX11 TX11 64, w ∈ wsX11_isCrate := fun _ h => (List.mem_cons_of_mem _ (List.mem_append_right _ (List.mem_append_left _ h)))
theorem inX11_fault_X11 : ∀ w ∈ u_ws RX11 TX11 64, w ∈ wsX11_fault := fun _ h => (List.mem_cons_of_mem _ (List.mem_append_right _ h))
theorem inX11_day_X11 : ∀ w ∈ u_ws RX11 TX11 64, w ∈ wsX11_day := fun _ h => (List.mem_cons_of_mem _ (List.mem_append_right _ (List.mem_append_left _ h)))
theorem inX11_status_X11 : ∀ w ∈ u_ws RX11 TX11 64, w ∈ wsX11_status := fun _ h => (List.mem_cons_of_mem _ (List.mem_append_right _ h))
theorem dX11_in_all0 : decode cX11_in 0 = .ok (.lload_n 0, 1) ∧ decode cX11_in 1 = .ok (.lload_n 2, 1) ∧ decode cX11_in 2 = .ok (.lcmp, 1) ∧ decode cX11_in 3 = .ok (.ifCond .lt 14, 3) ∧ decode cX11_in 6 = .ok (.lload_n 0, 1) ∧ decode cX11_in 7 = .ok (.lload 4, 2) ∧ decode cX11_in 9 = .ok (.lcmp, 1) ∧ decode cX11_in 10 = .ok (.ifCond .gt 7, 3) ∧ decode cX11_in 13 = .ok (.iconst 1, 1) ∧ decode cX11_in 14 = .ok (.goto 4, 3) ∧ decode cX11_in 17 = .ok (.iconst 0, 1) ∧ decode cX11_in 18 = .ok (.ireturn, 1) := by decide +kernel
theorem dX11_in_0 : decode cX11_in 0 = .ok (.lload_n 0, 1) := dX11_in_all0.1
theorem dX11_in_1 : decode cX11_in 1 = .ok (.lload_n 2, 1) := dX11_in_all0.2.1
theorem dX11_in_2 : decode cX11_in 2 = .ok (.lcmp, 1) := dX11_in_all0.2.2.1
theorem dX11_in_3 : decode cX11_in 3 = .ok (.ifCond .lt 14, 3) := dX11_in_all0.2.2.2.1
theorem dX11_in_6 : decode cX11_in 6 = .ok (.lload_n 0, 1) := dX11_in_all0.2.2.2.2.1
theorem dX11_in_7 : decode cX11_in 7 = .ok (.lload 4, 2) := dX11_in_all0.2.2.2.2.2.1
theorem dX11_in_9 : decode cX11_in 9 = .ok (.lcmp, 1) := dX11_in_all0.2.2.2.2.2.2.1
theorem dX11_in_10 : decode cX11_in 10 = .ok (.ifCond .gt 7, 3) := dX11_in_all0.2.2.2.2.2.2.2.1
theorem dX11_in_13 : decode cX11_in 13 = .ok (.iconst 1, 1) := dX11_in_all0.2.2.2.2.2.2.2.2.1
theorem dX11_in_14 : decode cX11_in 14 = .ok (.goto 4, 3) := dX11_in_all0.2.2.2.2.2.2.2.2.2.1
theorem dX11_in_17 : decode cX11_in 17 = .ok (.iconst 0, 1) := dX11_in_all0.2.2.2.2.2.2.2.2.2.2.1
theorem dX11_in_18 : decode cX11_in 18 = .ok (.ireturn, 1) := dX11_in_all0.2.2.2.2.2.2.2.2.2.2.2
theorem dX11_found_all0 : decode cX11_found 0 = .ok (.aload_n 0, 1) ∧ decode cX11_found 1 = .ok (.iload_n 1, 1) ∧ decode cX11_found 2 = .ok (.putfield 141, 3) ∧ decode cX11_found 5 = .ok (.ldc 144, 2) ∧ decode cX11_found 7 = .ok (.iload_n 1, 1) ∧ decode cX11_found 8 = .ok (.isub, 1) ∧ decode cX11_found 9 = .ok (.ireturn, 1) := by decide +kernel
theorem dX11_found_0 : decode cX11_found 0 = .ok (.aload_n 0, 1) := dX11_found_all0.1
theorem dX11_found_1 : decode cX11_found 1 = .ok (.iload_n 1, 1) := dX11_found_all0.2.1
theorem dX11_found_2 : decode cX11_found 2 = .ok (.putfield 141, 3) := dX11_found_all0.2.2.1
theorem dX11_found_5 : decode cX11_found 5 = .ok (.ldc 144, 2) := dX11_found_all0.2.2.2.1
theorem dX11_found_7 : decode cX11_found 7 = .ok (.iload_n 1, 1) := dX11_found_all0.2.2.2.2.1
theorem dX11_found_8 : decode cX11_found 8 = .ok (.isub, 1) := dX11_found_all0.2.2.2.2.2.1
theorem dX11_found_9 : decode cX11_found 9 = .ok (.ireturn, 1) := dX11_found_all0.2.2.2.2.2.2
theorem ggX11_isSheet_X11_in : GoodIn wsX11_isSheet wsX11_in := goodIn_s (fun _ h => wm_t (wm_r h)) Gd_X11_in
theorem gX11_isSheet_X11_in : GoodIn wsX11_isSheet (va_wsS RX11 147 yX11_in wsX11_in) := goodIn_S (own := RX11) (idx := 147) (y := yX11_in) (wm_t (wm_l (wm_i 1 rfl))) (wm_t (wm_l (wm_i 2 rfl))) (wm_t (wm_l (wm_i 3 rfl))) ggX11_isSheet_X11_in
theorem dX11_isSheet_all0 : decode cX11_isSheet 0 = .ok (.iload_n 0, 1) ∧ decode cX11_isSheet 1 = .ok (.i2l, 1) ∧ decode cX11_isSheet 2 = .ok (.lconst 0, 1) ∧ decode cX11_isSheet 3 = .ok (.ldc2_w 145, 3) ∧ decode cX11_isSheet 6 = .ok (.invokestatic 147, 3) ∧ decode cX11_isSheet 9 = .ok (.ireturn, 1) := by decide +kernel
theorem dX11_isSheet_0 : decode cX11_isSheet 0 = .ok (.iload_n 0, 1) := dX11_isSheet_all0.1
theorem dX11_isSheet_1 : decode cX11_isSheet 1 = .ok (.i2l, 1) := dX11_isSheet_all0.2.1
theorem dX11_isSheet_2 : decode cX11_isSheet 2 = .ok (.lconst 0, 1) := dX11_isSheet_all0.2.2.1
theorem dX11_isSheet_3 : decode cX11_isSheet 3 = .ok (.ldc2_w 145, 3) := dX11_isSheet_all0.2.2.2.1
theorem dX11_isSheet_6 : decode cX11_isSheet 6 = .ok (.invokestatic 147, 3) := dX11_isSheet_all0.2.2.2.2.1
theorem dX11_isSheet_9 : decode cX11_isSheet 9 = .ok (.ireturn, 1) := dX11_isSheet_all0.2.2.2.2.2
theorem ggX11_isOwner_X11_in : GoodIn wsX11_isOwner wsX11_in := goodIn_s (fun _ h => wm_t (wm_r h)) Gd_X11_in
theorem gX11_isOwner_X11_in : GoodIn wsX11_isOwner (va_wsS RX11 147 yX11_in wsX11_in) := goodIn_S (own := RX11) (idx := 147) (y := yX11_in) (wm_t (wm_l (wm_i 1 rfl))) (wm_t (wm_l (wm_i 2 rfl))) (wm_t (wm_l (wm_i 3 rfl))) ggX11_isOwner_X11_in
theorem dX11_isOwner_all0 : decode cX11_isOwner 0 = .ok (.iload_n 0, 1) ∧ decode cX11_isOwner 1 = .ok (.i2l, 1) ∧ decode cX11_isOwner 2 = .ok (.lconst 0, 1) ∧ decode cX11_isOwner 3 = .ok (.ldc2_w 162, 3) ∧ decode cX11_isOwner 6 = .ok (.invokestatic 147, 3) ∧ decode cX11_isOwner 9 = .ok (.ireturn, 1) := by decide +kernel
theorem dX11_isOwner_0 : decode cX11_isOwner 0 = .ok (.iload_n 0, 1) := dX11_isOwner_all0.1
theorem dX11_isOwner_1 : decode cX11_isOwner 1 = .ok (.i2l, 1) := dX11_isOwner_all0.2.1
theorem dX11_isOwner_2 : decode cX11_isOwner 2 = .ok (.lconst 0, 1) := dX11_isOwner_all0.2.2.1
theorem dX11_isOwner_3 : decode cX11_isOwner 3 = .ok (.ldc2_w 162, 3) := dX11_isOwner_all0.2.2.2.1
theorem dX11_isOwner_6 : decode cX11_isOwner 6 = .ok (.invokestatic 147, 3) := dX11_isOwner_all0.2.2.2.2.1
theorem dX11_isOwner_9 : decode cX11_isOwner 9 = .ok (.ireturn, 1) := dX11_isOwner_all0.2.2.2.2.2
theorem ggX11_isPerson_X11_in : GoodIn wsX11_isPerson wsX11_in := goodIn_s (fun _ h => wm_t (wm_r h)) Gd_X11_in
theorem gX11_isPerson_X11_in : GoodIn wsX11_isPerson (va_wsS RX11 147 yX11_in wsX11_in) := goodIn_S (own := RX11) (idx := 147) (y := yX11_in) (wm_t (wm_l (wm_i 1 rfl))) (wm_t (wm_l (wm_i 2 rfl))) (wm_t (wm_l (wm_i 3 rfl))) ggX11_isPerson_X11_in
theorem dX11_isPerson_all0 : decode cX11_isPerson 0 = .ok (.iload_n 0, 1) ∧ decode cX11_isPerson 1 = .ok (.i2l, 1) ∧ decode cX11_isPerson 2 = .ok (.lconst 0, 1) ∧ decode cX11_isPerson 3 = .ok (.ldc2_w 164, 3) ∧ decode cX11_isPerson 6 = .ok (.invokestatic 147, 3) ∧ decode cX11_isPerson 9 = .ok (.ireturn, 1) := by decide +kernel
theorem dX11_isPerson_0 : decode cX11_isPerson 0 = .ok (.iload_n 0, 1) := dX11_isPerson_all0.1
theorem dX11_isPerson_1 : decode cX11_isPerson 1 = .ok (.i2l, 1) := dX11_isPerson_all0.2.1
theorem dX11_isPerson_2 : decode cX11_isPerson 2 = .ok (.lconst 0, 1) := dX11_isPerson_all0.2.2.1
theorem dX11_isPerson_3 : decode cX11_isPerson 3 = .ok (.ldc2_w 164, 3) := dX11_isPerson_all0.2.2.2.1
theorem dX11_isPerson_6 : decode cX11_isPerson 6 = .ok (.invokestatic 147, 3) := dX11_isPerson_all0.2.2.2.2.1
theorem dX11_isPerson_9 : decode cX11_isPerson 9 = .ok (.ireturn, 1) := dX11_isPerson_all0.2.2.2.2.2
theorem ggX11_isCompany_X11_in : GoodIn wsX11_isCompany wsX11_in := goodIn_s (fun _ h => wm_t (wm_r h)) Gd_X11_in
theorem gX11_isCompany_X11_in : GoodIn wsX11_isCompany (va_wsS RX11 147 yX11_in wsX11_in) := goodIn_S (own := RX11) (idx := 147) (y := yX11_in) (wm_t (wm_l (wm_i 2 rfl))) (wm_t (wm_l (wm_i 3 rfl))) (wm_t (wm_l (wm_i 4 rfl))) ggX11_isCompany_X11_in
theorem dX11_isCompany_all0 : decode cX11_isCompany 0 = .ok (.iload_n 0, 1) ∧ decode cX11_isCompany 1 = .ok (.i2l, 1) ∧ decode cX11_isCompany 2 = .ok (.ldc2_w 166, 3) ∧ decode cX11_isCompany 5 = .ok (.ldc2_w 162, 3) ∧ decode cX11_isCompany 8 = .ok (.invokestatic 147, 3) ∧ decode cX11_isCompany 11 = .ok (.ireturn, 1) := by decide +kernel
theorem dX11_isCompany_0 : decode cX11_isCompany 0 = .ok (.iload_n 0, 1) := dX11_isCompany_all0.1
theorem dX11_isCompany_1 : decode cX11_isCompany 1 = .ok (.i2l, 1) := dX11_isCompany_all0.2.1
theorem dX11_isCompany_2 : decode cX11_isCompany 2 = .ok (.ldc2_w 166, 3) := dX11_isCompany_all0.2.2.1
theorem dX11_isCompany_5 : decode cX11_isCompany 5 = .ok (.ldc2_w 162, 3) := dX11_isCompany_all0.2.2.2.1
theorem dX11_isCompany_8 : decode cX11_isCompany 8 = .ok (.invokestatic 147, 3) := dX11_isCompany_all0.2.2.2.2.1
theorem dX11_isCompany_11 : decode cX11_isCompany 11 = .ok (.ireturn, 1) := dX11_isCompany_all0.2.2.2.2.2
theorem ggX11_isDay_X11_in : GoodIn wsX11_isDay wsX11_in := goodIn_s (fun _ h => wm_t (wm_r h)) Gd_X11_in
theorem gX11_isDay_X11_in : GoodIn wsX11_isDay (va_wsS RX11 147 yX11_in wsX11_in) := goodIn_S (own := RX11) (idx := 147) (y := yX11_in) (wm_t (wm_l (wm_i 1 rfl))) (wm_t (wm_l (wm_i 2 rfl))) (wm_t (wm_l (wm_i 3 rfl))) ggX11_isDay_X11_in
theorem dX11_isDay_all0 : decode cX11_isDay 0 = .ok (.iload_n 0, 1) ∧ decode cX11_isDay 1 = .ok (.i2l, 1) ∧ decode cX11_isDay 2 = .ok (.lconst 0, 1) ∧ decode cX11_isDay 3 = .ok (.ldc2_w 168, 3) ∧ decode cX11_isDay 6 = .ok (.invokestatic 147, 3) ∧ decode cX11_isDay 9 = .ok (.ireturn, 1) := by decide +kernel
theorem dX11_isDay_0 : decode cX11_isDay 0 = .ok (.iload_n 0, 1) := dX11_isDay_all0.1
theorem dX11_isDay_1 : decode cX11_isDay 1 = .ok (.i2l, 1) := dX11_isDay_all0.2.1
theorem dX11_isDay_2 : decode cX11_isDay 2 = .ok (.lconst 0, 1) := dX11_isDay_all0.2.2.1
theorem dX11_isDay_3 : decode cX11_isDay 3 = .ok (.ldc2_w 168, 3) := dX11_isDay_all0.2.2.2.1
theorem dX11_isDay_6 : decode cX11_isDay 6 = .ok (.invokestatic 147, 3) := dX11_isDay_all0.2.2.2.2.1
theorem dX11_isDay_9 : decode cX11_isDay 9 = .ok (.ireturn, 1) := dX11_isDay_all0.2.2.2.2.2
theorem ggX11_isCrate_X11_in : GoodIn wsX11_isCrate wsX11_in := goodIn_s (fun _ h => wm_t (wm_r (wm_r h))) Gd_X11_in
theorem gX11_isCrate_X11_in : GoodIn wsX11_isCrate (va_wsS RX11 147 yX11_in wsX11_in) := goodIn_S (own := RX11) (idx := 147) (y := yX11_in) (wm_t (wm_l (wm_i 1 rfl))) (wm_t (wm_l (wm_i 2 rfl))) (wm_t (wm_l (wm_i 3 rfl))) ggX11_isCrate_X11_in
theorem dX11_isCrate_all0 : decode cX11_isCrate 0 = .ok (.iload_n 1, 1) ∧ decode cX11_isCrate 1 = .ok (.i2l, 1) ∧ decode cX11_isCrate 2 = .ok (.lconst 0, 1) ∧ decode cX11_isCrate 3 = .ok (.aload_n 0, 1) ∧ decode cX11_isCrate 4 = .ok (.getfield 214, 3) ∧ decode cX11_isCrate 7 = .ok (.iconst 1, 1) ∧ decode cX11_isCrate 8 = .ok (.isub, 1) ∧ decode cX11_isCrate 9 = .ok (.i2l, 1) ∧ decode cX11_isCrate 10 = .ok (.invokestatic 147, 3) ∧ decode cX11_isCrate 13 = .ok (.ireturn, 1) := by decide +kernel
theorem dX11_isCrate_0 : decode cX11_isCrate 0 = .ok (.iload_n 1, 1) := dX11_isCrate_all0.1
theorem dX11_isCrate_1 : decode cX11_isCrate 1 = .ok (.i2l, 1) := dX11_isCrate_all0.2.1
theorem dX11_isCrate_2 : decode cX11_isCrate 2 = .ok (.lconst 0, 1) := dX11_isCrate_all0.2.2.1
theorem dX11_isCrate_3 : decode cX11_isCrate 3 = .ok (.aload_n 0, 1) := dX11_isCrate_all0.2.2.2.1
theorem dX11_isCrate_4 : decode cX11_isCrate 4 = .ok (.getfield 214, 3) := dX11_isCrate_all0.2.2.2.2.1
theorem dX11_isCrate_7 : decode cX11_isCrate 7 = .ok (.iconst 1, 1) := dX11_isCrate_all0.2.2.2.2.2.1
theorem dX11_isCrate_8 : decode cX11_isCrate 8 = .ok (.isub, 1) := dX11_isCrate_all0.2.2.2.2.2.2.1
theorem dX11_isCrate_9 : decode cX11_isCrate 9 = .ok (.i2l, 1) := dX11_isCrate_all0.2.2.2.2.2.2.2.1
theorem dX11_isCrate_10 : decode cX11_isCrate 10 = .ok (.invokestatic 147, 3) := dX11_isCrate_all0.2.2.2.2.2.2.2.2.1
theorem dX11_isCrate_13 : decode cX11_isCrate 13 = .ok (.ireturn, 1) := dX11_isCrate_all0.2.2.2.2.2.2.2.2.2
theorem dX11_isLetter_all0 : decode cX11_isLetter 0 = .ok (.iload_n 0, 1) ∧ decode cX11_isLetter 1 = .ok (.bipush 97, 2) ∧ decode cX11_isLetter 3 = .ok (.if_icmp .lt 13, 3) ∧ decode cX11_isLetter 6 = .ok (.iload_n 0, 1) ∧ decode cX11_isLetter 7 = .ok (.bipush 122, 2) ∧ decode cX11_isLetter 9 = .ok (.if_icmp .gt 7, 3) ∧ decode cX11_isLetter 12 = .ok (.iconst 1, 1) ∧ decode cX11_isLetter 13 = .ok (.goto 4, 3) ∧ decode cX11_isLetter 16 = .ok (.iconst 0, 1) ∧ decode cX11_isLetter 17 = .ok (.ireturn, 1) := by decide +kernel
theorem dX11_isLetter_0 : decode cX11_isLetter 0 = .ok (.iload_n 0, 1) := dX11_isLetter_all0.1
theorem dX11_isLetter_1 : decode cX11_isLetter 1 = .ok (.bipush 97, 2) := dX11_isLetter_all0.2.1
theorem dX11_isLetter_3 : decode cX11_isLetter 3 = .ok (.if_icmp .lt 13, 3) := dX11_isLetter_all0.2.2.1
theorem dX11_isLetter_6 : decode cX11_isLetter 6 = .ok (.iload_n 0, 1) := dX11_isLetter_all0.2.2.2.1
theorem dX11_isLetter_7 : decode cX11_isLetter 7 = .ok (.bipush 122, 2) := dX11_isLetter_all0.2.2.2.2.1
theorem dX11_isLetter_9 : decode cX11_isLetter 9 = .ok (.if_icmp .gt 7, 3) := dX11_isLetter_all0.2.2.2.2.2.1
theorem dX11_isLetter_12 : decode cX11_isLetter 12 = .ok (.iconst 1, 1) := dX11_isLetter_all0.2.2.2.2.2.2.1
theorem dX11_isLetter_13 : decode cX11_isLetter 13 = .ok (.goto 4, 3) := dX11_isLetter_all0.2.2.2.2.2.2.2.1
theorem dX11_isLetter_16 : decode cX11_isLetter 16 = .ok (.iconst 0, 1) := dX11_isLetter_all0.2.2.2.2.2.2.2.2.1
theorem dX11_isLetter_17 : decode cX11_isLetter 17 = .ok (.ireturn, 1) := dX11_isLetter_all0.2.2.2.2.2.2.2.2.2
theorem dX11_isFigure_all0 : decode cX11_isFigure 0 = .ok (.iload_n 0, 1) ∧ decode cX11_isFigure 1 = .ok (.bipush 48, 2) ∧ decode cX11_isFigure 3 = .ok (.if_icmp .lt 13, 3) ∧ decode cX11_isFigure 6 = .ok (.iload_n 0, 1) ∧ decode cX11_isFigure 7 = .ok (.bipush 57, 2) ∧ decode cX11_isFigure 9 = .ok (.if_icmp .gt 7, 3) ∧ decode cX11_isFigure 12 = .ok (.iconst 1, 1) ∧ decode cX11_isFigure 13 = .ok (.goto 4, 3) ∧ decode cX11_isFigure 16 = .ok (.iconst 0, 1) ∧ decode cX11_isFigure 17 = .ok (.ireturn, 1) := by decide +kernel
theorem dX11_isFigure_0 : decode cX11_isFigure 0 = .ok (.iload_n 0, 1) := dX11_isFigure_all0.1
theorem dX11_isFigure_1 : decode cX11_isFigure 1 = .ok (.bipush 48, 2) := dX11_isFigure_all0.2.1
theorem dX11_isFigure_3 : decode cX11_isFigure 3 = .ok (.if_icmp .lt 13, 3) := dX11_isFigure_all0.2.2.1
theorem dX11_isFigure_6 : decode cX11_isFigure 6 = .ok (.iload_n 0, 1) := dX11_isFigure_all0.2.2.2.1
theorem dX11_isFigure_7 : decode cX11_isFigure 7 = .ok (.bipush 57, 2) := dX11_isFigure_all0.2.2.2.2.1
theorem dX11_isFigure_9 : decode cX11_isFigure 9 = .ok (.if_icmp .gt 7, 3) := dX11_isFigure_all0.2.2.2.2.2.1
theorem dX11_isFigure_12 : decode cX11_isFigure 12 = .ok (.iconst 1, 1) := dX11_isFigure_all0.2.2.2.2.2.2.1
theorem dX11_isFigure_13 : decode cX11_isFigure 13 = .ok (.goto 4, 3) := dX11_isFigure_all0.2.2.2.2.2.2.2.1
theorem dX11_isFigure_16 : decode cX11_isFigure 16 = .ok (.iconst 0, 1) := dX11_isFigure_all0.2.2.2.2.2.2.2.2.1
theorem dX11_isFigure_17 : decode cX11_isFigure 17 = .ok (.ireturn, 1) := dX11_isFigure_all0.2.2.2.2.2.2.2.2.2
theorem dX11_fault_all0 : decode cX11_fault 0 = .ok (.aload_n 0, 1) ∧ decode cX11_fault 1 = .ok (.iconst 0, 1) ∧ decode cX11_fault 2 = .ok (.putfield 1, 3) ∧ decode cX11_fault 5 = .ok (.aload_n 0, 1) ∧ decode cX11_fault 6 = .ok (.getfield 310, 3) ∧ decode cX11_fault 9 = .ok (.ireturn, 1) := by decide +kernel
theorem dX11_fault_0 : decode cX11_fault 0 = .ok (.aload_n 0, 1) := dX11_fault_all0.1
theorem dX11_fault_1 : decode cX11_fault 1 = .ok (.iconst 0, 1) := dX11_fault_all0.2.1
theorem dX11_fault_2 : decode cX11_fault 2 = .ok (.putfield 1, 3) := dX11_fault_all0.2.2.1
theorem dX11_fault_5 : decode cX11_fault 5 = .ok (.aload_n 0, 1) := dX11_fault_all0.2.2.2.1
theorem dX11_fault_6 : decode cX11_fault 6 = .ok (.getfield 310, 3) := dX11_fault_all0.2.2.2.2.1
theorem dX11_fault_9 : decode cX11_fault 9 = .ok (.ireturn, 1) := dX11_fault_all0.2.2.2.2.2
theorem ggX11_isRoom_X11_in : GoodIn wsX11_isRoom wsX11_in := goodIn_s (fun _ h => wm_t (wm_r h)) Gd_X11_in
theorem gX11_isRoom_X11_in : GoodIn wsX11_isRoom (va_wsS RX11 147 yX11_in wsX11_in) := goodIn_S (own := RX11) (idx := 147) (y := yX11_in) (wm_t (wm_l (wm_i 1 rfl))) (wm_t (wm_l (wm_i 2 rfl))) (wm_t (wm_l (wm_i 3 rfl))) ggX11_isRoom_X11_in
theorem dX11_isRoom_all0 : decode cX11_isRoom 0 = .ok (.iload_n 0, 1) ∧ decode cX11_isRoom 1 = .ok (.i2l, 1) ∧ decode cX11_isRoom 2 = .ok (.lconst 0, 1) ∧ decode cX11_isRoom 3 = .ok (.ldc2_w 325, 3) ∧ decode cX11_isRoom 6 = .ok (.invokestatic 147, 3) ∧ decode cX11_isRoom 9 = .ok (.ireturn, 1) := by decide +kernel
theorem dX11_isRoom_0 : decode cX11_isRoom 0 = .ok (.iload_n 0, 1) := dX11_isRoom_all0.1
theorem dX11_isRoom_1 : decode cX11_isRoom 1 = .ok (.i2l, 1) := dX11_isRoom_all0.2.1
theorem dX11_isRoom_2 : decode cX11_isRoom 2 = .ok (.lconst 0, 1) := dX11_isRoom_all0.2.2.1
theorem dX11_isRoom_3 : decode cX11_isRoom 3 = .ok (.ldc2_w 325, 3) := dX11_isRoom_all0.2.2.2.1
theorem dX11_isRoom_6 : decode cX11_isRoom 6 = .ok (.invokestatic 147, 3) := dX11_isRoom_all0.2.2.2.2.1
theorem dX11_isRoom_9 : decode cX11_isRoom 9 = .ok (.ireturn, 1) := dX11_isRoom_all0.2.2.2.2.2
theorem ggX11_day_X11_isDay : GoodIn wsX11_day wsX11_isDay := goodIn_s (fun _ h => wm_t (wm_r (wm_r h))) Gd_X11_isDay
theorem gX11_day_X11_isDay : GoodIn wsX11_day (va_wsS RX11 178 yX11_isDay wsX11_isDay) := goodIn_S (own := RX11) (idx := 178) (y := yX11_isDay) (wm_t (wm_l (wm_i 3 rfl))) (wm_t (wm_l (wm_i 4 rfl))) (wm_t (wm_l (wm_i 5 rfl))) ggX11_day_X11_isDay
theorem dX11_day_all0 : decode cX11_day 0 = .ok (.aload_n 0, 1) ∧ decode cX11_day 1 = .ok (.iconst 0, 1) ∧ decode cX11_day 2 = .ok (.putfield 1, 3) ∧ decode cX11_day 5 = .ok (.iload_n 1, 1) ∧ decode cX11_day 6 = .ok (.invokestatic 178, 3) ∧ decode cX11_day 9 = .ok (.ifCond .ne 6, 3) ∧ decode cX11_day 12 = .ok (.ldc 157, 2) ∧ decode cX11_day 14 = .ok (.ireturn, 1) ∧ decode cX11_day 15 = .ok (.aload_n 0, 1) ∧ decode cX11_day 16 = .ok (.getfield 369, 3) ∧ decode cX11_day 19 = .ok (.istore_n 2, 1) ∧ decode cX11_day 20 = .ok (.aload_n 0, 1) := by decide +kernel
theorem dX11_day_0 : decode cX11_day 0 = .ok (.aload_n 0, 1) := dX11_day_all0.1
theorem dX11_day_1 : decode cX11_day 1 = .ok (.iconst 0, 1) := dX11_day_all0.2.1
theorem dX11_day_2 : decode cX11_day 2 = .ok (.putfield 1, 3) := dX11_day_all0.2.2.1
theorem dX11_day_5 : decode cX11_day 5 = .ok (.iload_n 1, 1) := dX11_day_all0.2.2.2.1
theorem dX11_day_6 : decode cX11_day 6 = .ok (.invokestatic 178, 3) := dX11_day_all0.2.2.2.2.1
theorem dX11_day_9 : decode cX11_day 9 = .ok (.ifCond .ne 6, 3) := dX11_day_all0.2.2.2.2.2.1
theorem dX11_day_12 : decode cX11_day 12 = .ok (.ldc 157, 2) := dX11_day_all0.2.2.2.2.2.2.1
theorem dX11_day_14 : decode cX11_day 14 = .ok (.ireturn, 1) := dX11_day_all0.2.2.2.2.2.2.2.1
theorem dX11_day_15 : decode cX11_day 15 = .ok (.aload_n 0, 1) := dX11_day_all0.2.2.2.2.2.2.2.2.1
theorem dX11_day_16 : decode cX11_day 16 = .ok (.getfield 369, 3) := dX11_day_all0.2.2.2.2.2.2.2.2.2.1
theorem dX11_day_19 : decode cX11_day 19 = .ok (.istore_n 2, 1) := dX11_day_all0.2.2.2.2.2.2.2.2.2.2.1
theorem dX11_day_20 : decode cX11_day 20 = .ok (.aload_n 0, 1) := dX11_day_all0.2.2.2.2.2.2.2.2.2.2.2
theorem dX11_day_all1 : decode cX11_day 21 = .ok (.iload_n 1, 1) ∧ decode cX11_day 22 = .ok (.putfield 369, 3) ∧ decode cX11_day 25 = .ok (.iload_n 2, 1) ∧ decode cX11_day 26 = .ok (.ireturn, 1) := by decide +kernel
theorem dX11_day_21 : decode cX11_day 21 = .ok (.iload_n 1, 1) := dX11_day_all1.1
theorem dX11_day_22 : decode cX11_day 22 = .ok (.putfield 369, 3) := dX11_day_all1.2.1
theorem dX11_day_25 : decode cX11_day 25 = .ok (.iload_n 2, 1) := dX11_day_all1.2.2.1
theorem dX11_day_26 : decode cX11_day 26 = .ok (.ireturn, 1) := dX11_day_all1.2.2.2
theorem dX11_status_all0 : decode cX11_status 0 = .ok (.aload_n 0, 1) ∧ decode cX11_status 1 = .ok (.iconst 0, 1) ∧ decode cX11_status 2 = .ok (.putfield 1, 3) ∧ decode cX11_status 5 = .ok (.aload_n 0, 1) ∧ decode cX11_status 6 = .ok (.getfield 141, 3) ∧ decode cX11_status 9 = .ok (.ireturn, 1) := by decide +kernel
theorem dX11_status_0 : decode cX11_status 0 = .ok (.aload_n 0, 1) := dX11_status_all0.1
theorem dX11_status_1 : decode cX11_status 1 = .ok (.iconst 0, 1) := dX11_status_all0.2.1
theorem dX11_status_2 : decode cX11_status 2 = .ok (.putfield 1, 3) := dX11_status_all0.2.2.1
theorem dX11_status_5 : decode cX11_status 5 = .ok (.aload_n 0, 1) := dX11_status_all0.2.2.2.1
theorem dX11_status_6 : decode cX11_status 6 = .ok (.getfield 141, 3) := dX11_status_all0.2.2.2.2.1
theorem dX11_status_9 : decode cX11_status 9 = .ok (.ireturn, 1) := dX11_status_all0.2.2.2.2.2
set_option maxHeartbeats 4000000 in
set_option maxRecDepth 100000 in
theorem ct_X11_in (l : Launch) (D : va_G) (cI cY cJ cQ : ClassId) (sz : Nat) (a : Int64) (b : Int64) (d : Int64)   : Met l yX11_in wsX11_in ({ frames := 0, cells := 0, slots := 0, locals := 0 }) (cPre D (ty4 cI cY cJ cQ) [] sz [.long a, .long b, .long d]) (va_Qi (fun (r : Int32) (u : Unit) => r = if b.toInt ≤ a.toInt ∧ a.toInt ≤ d.toInt then 1 else 0) (cB D (ty4 cI cY cJ cQ) (fun (u : Unit) => []) (va_A [] sz)) (va_A [] sz)) 0 0 (va_A [] sz) := by
  refine Met.ofW (cc := cX11_in) (maxL := 6) (ret := (some .boolean)) (by decide) rfl ?_
  intro p e s m args below meth c s₁ B hml hv
  obtain ⟨rfl, hsz, hP, hK, hD0, hN⟩ := hv
  have hx := B.exec
  have hb := B.bytes
  have hr := B.returns
  have hts := atoms_spec (ws := wsX11_in) B.pre
  have hown : s.vm.findClass RX11 = some m.cls := findClass_of_methodNamed B.named
  have hlocks := B.notSynchronized
  subst hsz
  have hD := hD0.self (sz := s.heap.size)
  generalize hAe : va_A [] s.heap.size = A at hD ⊢
  have hA : ∀ q : Nat, s.heap.size ≤ q → A q := fun q h => by rw [← hAe]; exact Or.inr h
  have hS : va_S A s.heap s.heap [] := va_S.rf
  have hP : va_P D vwCl [] s.heap := hP
  have hl := lv_entry ([.long a, .long b, .long d]) (n := 6) (Nat.le_of_ble_eq_true rfl)
  rw [lg_entry_eq]
  generalize (lg_sl ([.long a, .long b, .long d]) ++ List.replicate (6 - (lg_sl ([.long a, .long b, .long d])).length) Slot.unset).toArray = ls at hl ⊢
  have hl : lv_has ls 6 [(0, .long a), (2, .long b), (4, .long d)] := hl
  have k0 : (0 : Int32).toInt = 0 := by decide
  refine lv_lload_n hx hb dX11_in_0 rfl (lv_at hl 0 rfl) ?_
  refine lv_lload_n hx hb dX11_in_1 rfl (lv_at hl 1 rfl) ?_
  refine W.lcmp hx hb dX11_in_2 ?_
  refine lv_topi (fun v1 ev1 => ?_)
  refine lv_if_lt (tgt := 17) hx hb dX11_in_3 (by decide) (fun c2 => ?_) (fun c2 => ?_)
  · skip
    have f3 := lc_lt ev1 c2
    refine lv_iconst (v := 0) hx hb dX11_in_17 (by decide) ?_
    have hP9 := hP
    have hD9 := hD
    exact W.zret (v := 0) hx hb hr rfl (fun t ht hW => ⟨⟨0, (), rfl, bo_no (by omega), by rw [ht]; exact hP9, va_K.moved hW.alike hK, hD9⟩, hS.F ht⟩) hS.2.2 dX11_in_18
  · skip
    have f4 := lc_ltN ev1 c2
    refine lv_lload_n hx hb dX11_in_6 rfl (lv_at hl 0 rfl) ?_
    refine lv_lload hx hb dX11_in_7 (lv_at hl 2 rfl) ?_
    refine W.lcmp hx hb dX11_in_9 ?_
    refine lv_topi (fun v5 ev5 => ?_)
    refine lv_if_gt (tgt := 17) hx hb dX11_in_10 (by decide) (fun c6 => ?_) (fun c6 => ?_)
    · skip
      have f7 := lc_gt ev5 c6
      refine lv_iconst (v := 0) hx hb dX11_in_17 (by decide) ?_
      have hP9 := hP
      have hD9 := hD
      exact W.zret (v := 0) hx hb hr rfl (fun t ht hW => ⟨⟨0, (), rfl, bo_no (by omega), by rw [ht]; exact hP9, va_K.moved hW.alike hK, hD9⟩, hS.F ht⟩) hS.2.2 dX11_in_18
    · skip
      have f8 := lc_gtN ev5 c6
      refine lv_iconst (v := 1) hx hb dX11_in_13 (by decide) ?_
      refine lv_goto (tgt := 18) hx hb dX11_in_14 (by decide) ?_
      have hP9 := hP
      have hD9 := hD
      exact W.zret (v := 1) hx hb hr rfl (fun t ht hW => ⟨⟨1, (), rfl, bo_yes (by omega), by rw [ht]; exact hP9, va_K.moved hW.alike hK, hD9⟩, hS.F ht⟩) hS.2.2 dX11_in_18

set_option maxHeartbeats 4000000 in
set_option maxRecDepth 100000 in
theorem ct_X11_isSheet (l : Launch) (D : va_G) (cI cY cJ cQ : ClassId) (sz : Nat) (a : Int32)   : Met l yX11_isSheet wsX11_isSheet ({ frames := 1, cells := 0, slots := 0, locals := 25 }) (cPre D (ty4 cI cY cJ cQ) [] sz [.int a]) (va_Qi (fun (r : Int32) (u : Unit) => r = if 0 ≤ a.toInt ∧ a.toInt ≤ 7 then 1 else 0) (cB D (ty4 cI cY cJ cQ) (fun (u : Unit) => []) (va_A [] sz)) (va_A [] sz)) 0 0 (va_A [] sz) := by
  refine Met.ofW (cc := cX11_isSheet) (maxL := 1) (ret := (some .boolean)) (by decide) rfl ?_
  intro p e s m args below meth c s₁ B hml hv
  obtain ⟨rfl, hsz, hP, hK, hD0, hN⟩ := hv
  have hx := B.exec
  have hb := B.bytes
  have hr := B.returns
  have hts := atoms_spec (ws := wsX11_isSheet) B.pre
  have hown : s.vm.findClass RX11 = some m.cls := findClass_of_methodNamed B.named
  have hlocks := B.notSynchronized
  subst hsz
  have hD := hD0.self (sz := s.heap.size)
  generalize hAe : va_A [] s.heap.size = A at hD ⊢
  have hA : ∀ q : Nat, s.heap.size ≤ q → A q := fun q h => by rw [← hAe]; exact Or.inr h
  have hS : va_S A s.heap s.heap [] := va_S.rf
  have hP : va_P D vwCl [] s.heap := hP
  have hl := lv_entry ([.int a]) (n := 1) (Nat.le_of_ble_eq_true rfl)
  rw [lg_entry_eq]
  generalize (lg_sl ([.int a]) ++ List.replicate (1 - (lg_sl ([.int a])).length) Slot.unset).toArray = ls at hl ⊢
  have hl : lv_has ls 1 [(0, .int a)] := hl
  have kl0 : (0 : Int64).toInt = 0 := by decide
  have kl7 : (7 : Int64).toInt = 7 := by decide
  refine lv_iload_n hx hb dX11_isSheet_0 rfl (lv_at hl 0 rfl) ?_
  refine lv_i2l hx hb dX11_isSheet_1 rfl ?_
  have w1 := i_w a
  have w2 := i_rng a
  refine lv_lconst (v := 0) hx hb dX11_isSheet_2 (by decide) ?_
  refine lv_ldc2 hx hb hown (hts (Cond.constantLong RX11 145 (7)) (wm_t (wm_l (wm_i 0 rfl)))) dX11_isSheet_3 ?_
  refine st_i1 (va_runS (As := [.long (a.toInt64), .long 0, .long 7]) (rest := []) ⟨hx, hb, hml, hown, hts⟩ (ct_X11_in l D cI cY cJ cQ _ a.toInt64 (0 : Int64) (7 : Int64)) (va_cwS 3 hts gX11_isSheet_X11_in rfl rfl rfl cdX11_in ⟨Nat.le_of_ble_eq_true rfl, Nat.le_of_ble_eq_true rfl⟩) (cPreS (hP.sub [] rfl) hK (hD.sub [] (by decide +kernel) rfl) hN) rfl rfl hl.1 rfl (lv_room (Nat.le_of_ble_eq_true rfl)) dX11_isSheet_6 ⟨Nat.le_of_ble_eq_true rfl, Nat.le_of_ble_eq_true rfl⟩) hP hD hS hA [] rfl (fun _ => rfl) (fun r5 u3 H locs hw4 => ?_)
  clear hP hS
  intro hP hS
  replace hw4 : r5 = if (0 : Int64).toInt ≤ a.toInt64.toInt ∧ a.toInt64.toInt ≤ (7 : Int64).toInt then 1 else 0 := hw4
  have hP9 := hP
  have hD9 := hD
  exact W.zret (v := r5) hx hb hr (zn_b hw4) (fun t ht hW => ⟨⟨r5, (), rfl, bo_iff hw4 ⟨fun h => by omega, fun h => by omega⟩, by rw [ht]; exact hP9, va_K.moved hW.alike hK, hD9⟩, hS.F ht⟩) hS.2.2 dX11_isSheet_9

set_option maxHeartbeats 4000000 in
set_option maxRecDepth 100000 in
theorem ct_X11_isOwner (l : Launch) (D : va_G) (cI cY cJ cQ : ClassId) (sz : Nat) (a : Int32)   : Met l yX11_isOwner wsX11_isOwner ({ frames := 1, cells := 0, slots := 0, locals := 25 }) (cPre D (ty4 cI cY cJ cQ) [] sz [.int a]) (va_Qi (fun (r : Int32) (u : Unit) => r = if 0 ≤ a.toInt ∧ a.toInt ≤ 19 then 1 else 0) (cB D (ty4 cI cY cJ cQ) (fun (u : Unit) => []) (va_A [] sz)) (va_A [] sz)) 0 0 (va_A [] sz) := by
  refine Met.ofW (cc := cX11_isOwner) (maxL := 1) (ret := (some .boolean)) (by decide) rfl ?_
  intro p e s m args below meth c s₁ B hml hv
  obtain ⟨rfl, hsz, hP, hK, hD0, hN⟩ := hv
  have hx := B.exec
  have hb := B.bytes
  have hr := B.returns
  have hts := atoms_spec (ws := wsX11_isOwner) B.pre
  have hown : s.vm.findClass RX11 = some m.cls := findClass_of_methodNamed B.named
  have hlocks := B.notSynchronized
  subst hsz
  have hD := hD0.self (sz := s.heap.size)
  generalize hAe : va_A [] s.heap.size = A at hD ⊢
  have hA : ∀ q : Nat, s.heap.size ≤ q → A q := fun q h => by rw [← hAe]; exact Or.inr h
  have hS : va_S A s.heap s.heap [] := va_S.rf
  have hP : va_P D vwCl [] s.heap := hP
  have hl := lv_entry ([.int a]) (n := 1) (Nat.le_of_ble_eq_true rfl)
  rw [lg_entry_eq]
  generalize (lg_sl ([.int a]) ++ List.replicate (1 - (lg_sl ([.int a])).length) Slot.unset).toArray = ls at hl ⊢
  have hl : lv_has ls 1 [(0, .int a)] := hl
  have kl0 : (0 : Int64).toInt = 0 := by decide
  have kl19 : (19 : Int64).toInt = 19 := by decide
  refine lv_iload_n hx hb dX11_isOwner_0 rfl (lv_at hl 0 rfl) ?_
  refine lv_i2l hx hb dX11_isOwner_1 rfl ?_
  have w1 := i_w a
  have w2 := i_rng a
  refine lv_lconst (v := 0) hx hb dX11_isOwner_2 (by decide) ?_
  refine lv_ldc2 hx hb hown (hts (Cond.constantLong RX11 162 (19)) (wm_t (wm_l (wm_i 0 rfl)))) dX11_isOwner_3 ?_
  refine st_i1 (va_runS (As := [.long (a.toInt64), .long 0, .long 19]) (rest := []) ⟨hx, hb, hml, hown, hts⟩ (ct_X11_in l D cI cY cJ cQ _ a.toInt64 (0 : Int64) (19 : Int64)) (va_cwS 3 hts gX11_isOwner_X11_in rfl rfl rfl cdX11_in ⟨Nat.le_of_ble_eq_true rfl, Nat.le_of_ble_eq_true rfl⟩) (cPreS (hP.sub [] rfl) hK (hD.sub [] (by decide +kernel) rfl) hN) rfl rfl hl.1 rfl (lv_room (Nat.le_of_ble_eq_true rfl)) dX11_isOwner_6 ⟨Nat.le_of_ble_eq_true rfl, Nat.le_of_ble_eq_true rfl⟩) hP hD hS hA [] rfl (fun _ => rfl) (fun r5 u3 H locs hw4 => ?_)
  clear hP hS
  intro hP hS
  replace hw4 : r5 = if (0 : Int64).toInt ≤ a.toInt64.toInt ∧ a.toInt64.toInt ≤ (19 : Int64).toInt then 1 else 0 := hw4
  have hP9 := hP
  have hD9 := hD
  exact W.zret (v := r5) hx hb hr (zn_b hw4) (fun t ht hW => ⟨⟨r5, (), rfl, bo_iff hw4 ⟨fun h => by omega, fun h => by omega⟩, by rw [ht]; exact hP9, va_K.moved hW.alike hK, hD9⟩, hS.F ht⟩) hS.2.2 dX11_isOwner_9

set_option maxHeartbeats 4000000 in
set_option maxRecDepth 100000 in
theorem ct_X11_isPerson (l : Launch) (D : va_G) (cI cY cJ cQ : ClassId) (sz : Nat) (a : Int32)   : Met l yX11_isPerson wsX11_isPerson ({ frames := 1, cells := 0, slots := 0, locals := 25 }) (cPre D (ty4 cI cY cJ cQ) [] sz [.int a]) (va_Qi (fun (r : Int32) (u : Unit) => r = if 0 ≤ a.toInt ∧ a.toInt ≤ 9 then 1 else 0) (cB D (ty4 cI cY cJ cQ) (fun (u : Unit) => []) (va_A [] sz)) (va_A [] sz)) 0 0 (va_A [] sz) := by
  refine Met.ofW (cc := cX11_isPerson) (maxL := 1) (ret := (some .boolean)) (by decide) rfl ?_
  intro p e s m args below meth c s₁ B hml hv
  obtain ⟨rfl, hsz, hP, hK, hD0, hN⟩ := hv
  have hx := B.exec
  have hb := B.bytes
  have hr := B.returns
  have hts := atoms_spec (ws := wsX11_isPerson) B.pre
  have hown : s.vm.findClass RX11 = some m.cls := findClass_of_methodNamed B.named
  have hlocks := B.notSynchronized
  subst hsz
  have hD := hD0.self (sz := s.heap.size)
  generalize hAe : va_A [] s.heap.size = A at hD ⊢
  have hA : ∀ q : Nat, s.heap.size ≤ q → A q := fun q h => by rw [← hAe]; exact Or.inr h
  have hS : va_S A s.heap s.heap [] := va_S.rf
  have hP : va_P D vwCl [] s.heap := hP
  have hl := lv_entry ([.int a]) (n := 1) (Nat.le_of_ble_eq_true rfl)
  rw [lg_entry_eq]
  generalize (lg_sl ([.int a]) ++ List.replicate (1 - (lg_sl ([.int a])).length) Slot.unset).toArray = ls at hl ⊢
  have hl : lv_has ls 1 [(0, .int a)] := hl
  have kl0 : (0 : Int64).toInt = 0 := by decide
  have kl9 : (9 : Int64).toInt = 9 := by decide
  refine lv_iload_n hx hb dX11_isPerson_0 rfl (lv_at hl 0 rfl) ?_
  refine lv_i2l hx hb dX11_isPerson_1 rfl ?_
  have w1 := i_w a
  have w2 := i_rng a
  refine lv_lconst (v := 0) hx hb dX11_isPerson_2 (by decide) ?_
  refine lv_ldc2 hx hb hown (hts (Cond.constantLong RX11 164 (9)) (wm_t (wm_l (wm_i 0 rfl)))) dX11_isPerson_3 ?_
  refine st_i1 (va_runS (As := [.long (a.toInt64), .long 0, .long 9]) (rest := []) ⟨hx, hb, hml, hown, hts⟩ (ct_X11_in l D cI cY cJ cQ _ a.toInt64 (0 : Int64) (9 : Int64)) (va_cwS 3 hts gX11_isPerson_X11_in rfl rfl rfl cdX11_in ⟨Nat.le_of_ble_eq_true rfl, Nat.le_of_ble_eq_true rfl⟩) (cPreS (hP.sub [] rfl) hK (hD.sub [] (by decide +kernel) rfl) hN) rfl rfl hl.1 rfl (lv_room (Nat.le_of_ble_eq_true rfl)) dX11_isPerson_6 ⟨Nat.le_of_ble_eq_true rfl, Nat.le_of_ble_eq_true rfl⟩) hP hD hS hA [] rfl (fun _ => rfl) (fun r5 u3 H locs hw4 => ?_)
  clear hP hS
  intro hP hS
  replace hw4 : r5 = if (0 : Int64).toInt ≤ a.toInt64.toInt ∧ a.toInt64.toInt ≤ (9 : Int64).toInt then 1 else 0 := hw4
  have hP9 := hP
  have hD9 := hD
  exact W.zret (v := r5) hx hb hr (zn_b hw4) (fun t ht hW => ⟨⟨r5, (), rfl, bo_iff hw4 ⟨fun h => by omega, fun h => by omega⟩, by rw [ht]; exact hP9, va_K.moved hW.alike hK, hD9⟩, hS.F ht⟩) hS.2.2 dX11_isPerson_9

set_option maxHeartbeats 4000000 in
set_option maxRecDepth 100000 in
theorem ct_X11_isCompany (l : Launch) (D : va_G) (cI cY cJ cQ : ClassId) (sz : Nat) (a : Int32)   : Met l yX11_isCompany wsX11_isCompany ({ frames := 1, cells := 0, slots := 0, locals := 25 }) (cPre D (ty4 cI cY cJ cQ) [] sz [.int a]) (va_Qi (fun (r : Int32) (u : Unit) => r = if 10 ≤ a.toInt ∧ a.toInt ≤ 19 then 1 else 0) (cB D (ty4 cI cY cJ cQ) (fun (u : Unit) => []) (va_A [] sz)) (va_A [] sz)) 0 0 (va_A [] sz) := by
  refine Met.ofW (cc := cX11_isCompany) (maxL := 1) (ret := (some .boolean)) (by decide) rfl ?_
  intro p e s m args below meth c s₁ B hml hv
  obtain ⟨rfl, hsz, hP, hK, hD0, hN⟩ := hv
  have hx := B.exec
  have hb := B.bytes
  have hr := B.returns
  have hts := atoms_spec (ws := wsX11_isCompany) B.pre
  have hown : s.vm.findClass RX11 = some m.cls := findClass_of_methodNamed B.named
  have hlocks := B.notSynchronized
  subst hsz
  have hD := hD0.self (sz := s.heap.size)
  generalize hAe : va_A [] s.heap.size = A at hD ⊢
  have hA : ∀ q : Nat, s.heap.size ≤ q → A q := fun q h => by rw [← hAe]; exact Or.inr h
  have hS : va_S A s.heap s.heap [] := va_S.rf
  have hP : va_P D vwCl [] s.heap := hP
  have hl := lv_entry ([.int a]) (n := 1) (Nat.le_of_ble_eq_true rfl)
  rw [lg_entry_eq]
  generalize (lg_sl ([.int a]) ++ List.replicate (1 - (lg_sl ([.int a])).length) Slot.unset).toArray = ls at hl ⊢
  have hl : lv_has ls 1 [(0, .int a)] := hl
  have kl10 : (10 : Int64).toInt = 10 := by decide
  have kl19 : (19 : Int64).toInt = 19 := by decide
  refine lv_iload_n hx hb dX11_isCompany_0 rfl (lv_at hl 0 rfl) ?_
  refine lv_i2l hx hb dX11_isCompany_1 rfl ?_
  have w1 := i_w a
  have w2 := i_rng a
  refine lv_ldc2 hx hb hown (hts (Cond.constantLong RX11 166 (10)) (wm_t (wm_l (wm_i 0 rfl)))) dX11_isCompany_2 ?_
  refine lv_ldc2 hx hb hown (hts (Cond.constantLong RX11 162 (19)) (wm_t (wm_l (wm_i 1 rfl)))) dX11_isCompany_5 ?_
  refine st_i1 (va_runS (As := [.long (a.toInt64), .long 10, .long 19]) (rest := []) ⟨hx, hb, hml, hown, hts⟩ (ct_X11_in l D cI cY cJ cQ _ a.toInt64 (10 : Int64) (19 : Int64)) (va_cwS 3 hts gX11_isCompany_X11_in rfl rfl rfl cdX11_in ⟨Nat.le_of_ble_eq_true rfl, Nat.le_of_ble_eq_true rfl⟩) (cPreS (hP.sub [] rfl) hK (hD.sub [] (by decide +kernel) rfl) hN) rfl rfl hl.1 rfl (lv_room (Nat.le_of_ble_eq_true rfl)) dX11_isCompany_8 ⟨Nat.le_of_ble_eq_true rfl, Nat.le_of_ble_eq_true rfl⟩) hP hD hS hA [] rfl (fun _ => rfl) (fun r5 u3 H locs hw4 => ?_)
  clear hP hS
  intro hP hS
  replace hw4 : r5 = if (10 : Int64).toInt ≤ a.toInt64.toInt ∧ a.toInt64.toInt ≤ (19 : Int64).toInt then 1 else 0 := hw4
  have hP9 := hP
  have hD9 := hD
  exact W.zret (v := r5) hx hb hr (zn_b hw4) (fun t ht hW => ⟨⟨r5, (), rfl, bo_iff hw4 ⟨fun h => by omega, fun h => by omega⟩, by rw [ht]; exact hP9, va_K.moved hW.alike hK, hD9⟩, hS.F ht⟩) hS.2.2 dX11_isCompany_11

set_option maxHeartbeats 4000000 in
set_option maxRecDepth 100000 in
theorem ct_X11_isDay (l : Launch) (D : va_G) (cI cY cJ cQ : ClassId) (sz : Nat) (a : Int32)   : Met l yX11_isDay wsX11_isDay ({ frames := 1, cells := 0, slots := 0, locals := 25 }) (cPre D (ty4 cI cY cJ cQ) [] sz [.int a]) (va_Qi (fun (r : Int32) (u : Unit) => r = if 0 ≤ a.toInt ∧ a.toInt ≤ 9999 then 1 else 0) (cB D (ty4 cI cY cJ cQ) (fun (u : Unit) => []) (va_A [] sz)) (va_A [] sz)) 0 0 (va_A [] sz) := by
  refine Met.ofW (cc := cX11_isDay) (maxL := 1) (ret := (some .boolean)) (by decide) rfl ?_
  intro p e s m args below meth c s₁ B hml hv
  obtain ⟨rfl, hsz, hP, hK, hD0, hN⟩ := hv
  have hx := B.exec
  have hb := B.bytes
  have hr := B.returns
  have hts := atoms_spec (ws := wsX11_isDay) B.pre
  have hown : s.vm.findClass RX11 = some m.cls := findClass_of_methodNamed B.named
  have hlocks := B.notSynchronized
  subst hsz
  have hD := hD0.self (sz := s.heap.size)
  generalize hAe : va_A [] s.heap.size = A at hD ⊢
  have hA : ∀ q : Nat, s.heap.size ≤ q → A q := fun q h => by rw [← hAe]; exact Or.inr h
  have hS : va_S A s.heap s.heap [] := va_S.rf
  have hP : va_P D vwCl [] s.heap := hP
  have hl := lv_entry ([.int a]) (n := 1) (Nat.le_of_ble_eq_true rfl)
  rw [lg_entry_eq]
  generalize (lg_sl ([.int a]) ++ List.replicate (1 - (lg_sl ([.int a])).length) Slot.unset).toArray = ls at hl ⊢
  have hl : lv_has ls 1 [(0, .int a)] := hl
  have kl0 : (0 : Int64).toInt = 0 := by decide
  have kl9999 : (9999 : Int64).toInt = 9999 := by decide
  refine lv_iload_n hx hb dX11_isDay_0 rfl (lv_at hl 0 rfl) ?_
  refine lv_i2l hx hb dX11_isDay_1 rfl ?_
  have w1 := i_w a
  have w2 := i_rng a
  refine lv_lconst (v := 0) hx hb dX11_isDay_2 (by decide) ?_
  refine lv_ldc2 hx hb hown (hts (Cond.constantLong RX11 168 (9999)) (wm_t (wm_l (wm_i 0 rfl)))) dX11_isDay_3 ?_
  refine st_i1 (va_runS (As := [.long (a.toInt64), .long 0, .long 9999]) (rest := []) ⟨hx, hb, hml, hown, hts⟩ (ct_X11_in l D cI cY cJ cQ _ a.toInt64 (0 : Int64) (9999 : Int64)) (va_cwS 3 hts gX11_isDay_X11_in rfl rfl rfl cdX11_in ⟨Nat.le_of_ble_eq_true rfl, Nat.le_of_ble_eq_true rfl⟩) (cPreS (hP.sub [] rfl) hK (hD.sub [] (by decide +kernel) rfl) hN) rfl rfl hl.1 rfl (lv_room (Nat.le_of_ble_eq_true rfl)) dX11_isDay_6 ⟨Nat.le_of_ble_eq_true rfl, Nat.le_of_ble_eq_true rfl⟩) hP hD hS hA [] rfl (fun _ => rfl) (fun r5 u3 H locs hw4 => ?_)
  clear hP hS
  intro hP hS
  replace hw4 : r5 = if (0 : Int64).toInt ≤ a.toInt64.toInt ∧ a.toInt64.toInt ≤ (9999 : Int64).toInt then 1 else 0 := hw4
  have hP9 := hP
  have hD9 := hD
  exact W.zret (v := r5) hx hb hr (zn_b hw4) (fun t ht hW => ⟨⟨r5, (), rfl, bo_iff hw4 ⟨fun h => by omega, fun h => by omega⟩, by rw [ht]; exact hP9, va_K.moved hW.alike hK, hD9⟩, hS.F ht⟩) hS.2.2 dX11_isDay_9

set_option maxHeartbeats 4000000 in
set_option maxRecDepth 100000 in
theorem ct_X11_isRoom (l : Launch) (D : va_G) (cI cY cJ cQ : ClassId) (sz : Nat) (a : Int32)   : Met l yX11_isRoom wsX11_isRoom ({ frames := 1, cells := 0, slots := 0, locals := 25 }) (cPre D (ty4 cI cY cJ cQ) [] sz [.int a]) (va_Qi (fun (r : Int32) (u : Unit) => r = if 0 ≤ a.toInt ∧ a.toInt ≤ 5 then 1 else 0) (cB D (ty4 cI cY cJ cQ) (fun (u : Unit) => []) (va_A [] sz)) (va_A [] sz)) 0 0 (va_A [] sz) := by
  refine Met.ofW (cc := cX11_isRoom) (maxL := 1) (ret := (some .boolean)) (by decide) rfl ?_
  intro p e s m args below meth c s₁ B hml hv
  obtain ⟨rfl, hsz, hP, hK, hD0, hN⟩ := hv
  have hx := B.exec
  have hb := B.bytes
  have hr := B.returns
  have hts := atoms_spec (ws := wsX11_isRoom) B.pre
  have hown : s.vm.findClass RX11 = some m.cls := findClass_of_methodNamed B.named
  have hlocks := B.notSynchronized
  subst hsz
  have hD := hD0.self (sz := s.heap.size)
  generalize hAe : va_A [] s.heap.size = A at hD ⊢
  have hA : ∀ q : Nat, s.heap.size ≤ q → A q := fun q h => by rw [← hAe]; exact Or.inr h
  have hS : va_S A s.heap s.heap [] := va_S.rf
  have hP : va_P D vwCl [] s.heap := hP
  have hl := lv_entry ([.int a]) (n := 1) (Nat.le_of_ble_eq_true rfl)
  rw [lg_entry_eq]
  generalize (lg_sl ([.int a]) ++ List.replicate (1 - (lg_sl ([.int a])).length) Slot.unset).toArray = ls at hl ⊢
  have hl : lv_has ls 1 [(0, .int a)] := hl
  have kl0 : (0 : Int64).toInt = 0 := by decide
  have kl5 : (5 : Int64).toInt = 5 := by decide
  refine lv_iload_n hx hb dX11_isRoom_0 rfl (lv_at hl 0 rfl) ?_
  refine lv_i2l hx hb dX11_isRoom_1 rfl ?_
  have w1 := i_w a
  have w2 := i_rng a
  refine lv_lconst (v := 0) hx hb dX11_isRoom_2 (by decide) ?_
  refine lv_ldc2 hx hb hown (hts (Cond.constantLong RX11 325 (5)) (wm_t (wm_l (wm_i 0 rfl)))) dX11_isRoom_3 ?_
  refine st_i1 (va_runS (As := [.long (a.toInt64), .long 0, .long 5]) (rest := []) ⟨hx, hb, hml, hown, hts⟩ (ct_X11_in l D cI cY cJ cQ _ a.toInt64 (0 : Int64) (5 : Int64)) (va_cwS 3 hts gX11_isRoom_X11_in rfl rfl rfl cdX11_in ⟨Nat.le_of_ble_eq_true rfl, Nat.le_of_ble_eq_true rfl⟩) (cPreS (hP.sub [] rfl) hK (hD.sub [] (by decide +kernel) rfl) hN) rfl rfl hl.1 rfl (lv_room (Nat.le_of_ble_eq_true rfl)) dX11_isRoom_6 ⟨Nat.le_of_ble_eq_true rfl, Nat.le_of_ble_eq_true rfl⟩) hP hD hS hA [] rfl (fun _ => rfl) (fun r5 u3 H locs hw4 => ?_)
  clear hP hS
  intro hP hS
  replace hw4 : r5 = if (0 : Int64).toInt ≤ a.toInt64.toInt ∧ a.toInt64.toInt ≤ (5 : Int64).toInt then 1 else 0 := hw4
  have hP9 := hP
  have hD9 := hD
  exact W.zret (v := r5) hx hb hr (zn_b hw4) (fun t ht hW => ⟨⟨r5, (), rfl, bo_iff hw4 ⟨fun h => by omega, fun h => by omega⟩, by rw [ht]; exact hP9, va_K.moved hW.alike hK, hD9⟩, hS.F ht⟩) hS.2.2 dX11_isRoom_9

set_option maxHeartbeats 4000000 in
set_option maxRecDepth 100000 in
theorem ct_X11_isLetter (l : Launch) (D : va_G) (cI cY cJ cQ : ClassId) (sz : Nat) (a : Int32)   : Met l yX11_isLetter wsX11_isLetter ({ frames := 0, cells := 0, slots := 0, locals := 0 }) (cPre D (ty4 cI cY cJ cQ) [] sz [.int a]) (va_Qi (fun (r : Int32) (u : Unit) => r = if 97 ≤ a.toInt ∧ a.toInt ≤ 122 then 1 else 0) (cB D (ty4 cI cY cJ cQ) (fun (u : Unit) => []) (va_A [] sz)) (va_A [] sz)) 0 0 (va_A [] sz) := by
  refine Met.ofW (cc := cX11_isLetter) (maxL := 1) (ret := (some .boolean)) (by decide) rfl ?_
  intro p e s m args below meth c s₁ B hml hv
  obtain ⟨rfl, hsz, hP, hK, hD0, hN⟩ := hv
  have hx := B.exec
  have hb := B.bytes
  have hr := B.returns
  have hts := atoms_spec (ws := wsX11_isLetter) B.pre
  have hown : s.vm.findClass RX11 = some m.cls := findClass_of_methodNamed B.named
  have hlocks := B.notSynchronized
  subst hsz
  have hD := hD0.self (sz := s.heap.size)
  generalize hAe : va_A [] s.heap.size = A at hD ⊢
  have hA : ∀ q : Nat, s.heap.size ≤ q → A q := fun q h => by rw [← hAe]; exact Or.inr h
  have hS : va_S A s.heap s.heap [] := va_S.rf
  have hP : va_P D vwCl [] s.heap := hP
  have hl := lv_entry ([.int a]) (n := 1) (Nat.le_of_ble_eq_true rfl)
  rw [lg_entry_eq]
  generalize (lg_sl ([.int a]) ++ List.replicate (1 - (lg_sl ([.int a])).length) Slot.unset).toArray = ls at hl ⊢
  have hl : lv_has ls 1 [(0, .int a)] := hl
  have k97 : (97 : Int32).toInt = 97 := by decide
  have k122 : (122 : Int32).toInt = 122 := by decide
  refine lv_iload_n hx hb dX11_isLetter_0 rfl (lv_at hl 0 rfl) ?_
  refine lv_bipush (v := 97) hx hb dX11_isLetter_1 (by decide) ?_
  refine lv_icmp_lt (tgt := 16) hx hb dX11_isLetter_3 (by decide) (fun c1 => ?_) (fun c1 => ?_)
  · skip
    have f2 := i_lt c1
    refine lv_iconst (v := 0) hx hb dX11_isLetter_16 (by decide) ?_
    have hP9 := hP
    have hD9 := hD
    exact W.zret (v := 0) hx hb hr rfl (fun t ht hW => ⟨⟨0, (), rfl, bo_no (by omega), by rw [ht]; exact hP9, va_K.moved hW.alike hK, hD9⟩, hS.F ht⟩) hS.2.2 dX11_isLetter_17
  · skip
    have f3 := i_nlt c1
    refine lv_iload_n hx hb dX11_isLetter_6 rfl (lv_at hl 0 rfl) ?_
    refine lv_bipush (v := 122) hx hb dX11_isLetter_7 (by decide) ?_
    refine lv_icmp_gt (tgt := 16) hx hb dX11_isLetter_9 (by decide) (fun c4 => ?_) (fun c4 => ?_)
    · skip
      have f5 := i_lt c4
      refine lv_iconst (v := 0) hx hb dX11_isLetter_16 (by decide) ?_
      have hP9 := hP
      have hD9 := hD
      exact W.zret (v := 0) hx hb hr rfl (fun t ht hW => ⟨⟨0, (), rfl, bo_no (by omega), by rw [ht]; exact hP9, va_K.moved hW.alike hK, hD9⟩, hS.F ht⟩) hS.2.2 dX11_isLetter_17
    · skip
      have f6 := i_nlt c4
      refine lv_iconst (v := 1) hx hb dX11_isLetter_12 (by decide) ?_
      refine lv_goto (tgt := 17) hx hb dX11_isLetter_13 (by decide) ?_
      have hP9 := hP
      have hD9 := hD
      exact W.zret (v := 1) hx hb hr rfl (fun t ht hW => ⟨⟨1, (), rfl, bo_yes (by omega), by rw [ht]; exact hP9, va_K.moved hW.alike hK, hD9⟩, hS.F ht⟩) hS.2.2 dX11_isLetter_17

set_option maxHeartbeats 4000000 in
set_option maxRecDepth 100000 in
theorem ct_X11_isFigure (l : Launch) (D : va_G) (cI cY cJ cQ : ClassId) (sz : Nat) (a : Int32)   : Met l yX11_isFigure wsX11_isFigure ({ frames := 0, cells := 0, slots := 0, locals := 0 }) (cPre D (ty4 cI cY cJ cQ) [] sz [.int a]) (va_Qi (fun (r : Int32) (u : Unit) => r = if 48 ≤ a.toInt ∧ a.toInt ≤ 57 then 1 else 0) (cB D (ty4 cI cY cJ cQ) (fun (u : Unit) => []) (va_A [] sz)) (va_A [] sz)) 0 0 (va_A [] sz) := by
  refine Met.ofW (cc := cX11_isFigure) (maxL := 1) (ret := (some .boolean)) (by decide) rfl ?_
  intro p e s m args below meth c s₁ B hml hv
  obtain ⟨rfl, hsz, hP, hK, hD0, hN⟩ := hv
  have hx := B.exec
  have hb := B.bytes
  have hr := B.returns
  have hts := atoms_spec (ws := wsX11_isFigure) B.pre
  have hown : s.vm.findClass RX11 = some m.cls := findClass_of_methodNamed B.named
  have hlocks := B.notSynchronized
  subst hsz
  have hD := hD0.self (sz := s.heap.size)
  generalize hAe : va_A [] s.heap.size = A at hD ⊢
  have hA : ∀ q : Nat, s.heap.size ≤ q → A q := fun q h => by rw [← hAe]; exact Or.inr h
  have hS : va_S A s.heap s.heap [] := va_S.rf
  have hP : va_P D vwCl [] s.heap := hP
  have hl := lv_entry ([.int a]) (n := 1) (Nat.le_of_ble_eq_true rfl)
  rw [lg_entry_eq]
  generalize (lg_sl ([.int a]) ++ List.replicate (1 - (lg_sl ([.int a])).length) Slot.unset).toArray = ls at hl ⊢
  have hl : lv_has ls 1 [(0, .int a)] := hl
  have k48 : (48 : Int32).toInt = 48 := by decide
  have k57 : (57 : Int32).toInt = 57 := by decide
  refine lv_iload_n hx hb dX11_isFigure_0 rfl (lv_at hl 0 rfl) ?_
  refine lv_bipush (v := 48) hx hb dX11_isFigure_1 (by decide) ?_
  refine lv_icmp_lt (tgt := 16) hx hb dX11_isFigure_3 (by decide) (fun c1 => ?_) (fun c1 => ?_)
  · skip
    have f2 := i_lt c1
    refine lv_iconst (v := 0) hx hb dX11_isFigure_16 (by decide) ?_
    have hP9 := hP
    have hD9 := hD
    exact W.zret (v := 0) hx hb hr rfl (fun t ht hW => ⟨⟨0, (), rfl, bo_no (by omega), by rw [ht]; exact hP9, va_K.moved hW.alike hK, hD9⟩, hS.F ht⟩) hS.2.2 dX11_isFigure_17
  · skip
    have f3 := i_nlt c1
    refine lv_iload_n hx hb dX11_isFigure_6 rfl (lv_at hl 0 rfl) ?_
    refine lv_bipush (v := 57) hx hb dX11_isFigure_7 (by decide) ?_
    refine lv_icmp_gt (tgt := 16) hx hb dX11_isFigure_9 (by decide) (fun c4 => ?_) (fun c4 => ?_)
    · skip
      have f5 := i_lt c4
      refine lv_iconst (v := 0) hx hb dX11_isFigure_16 (by decide) ?_
      have hP9 := hP
      have hD9 := hD
      exact W.zret (v := 0) hx hb hr rfl (fun t ht hW => ⟨⟨0, (), rfl, bo_no (by omega), by rw [ht]; exact hP9, va_K.moved hW.alike hK, hD9⟩, hS.F ht⟩) hS.2.2 dX11_isFigure_17
    · skip
      have f6 := i_nlt c4
      refine lv_iconst (v := 1) hx hb dX11_isFigure_12 (by decide) ?_
      refine lv_goto (tgt := 17) hx hb dX11_isFigure_13 (by decide) ?_
      have hP9 := hP
      have hD9 := hD
      exact W.zret (v := 1) hx hb hr rfl (fun t ht hW => ⟨⟨1, (), rfl, bo_yes (by omega), by rw [ht]; exact hP9, va_K.moved hW.alike hK, hD9⟩, hS.F ht⟩) hS.2.2 dX11_isFigure_17

set_option maxHeartbeats 4000000 in
set_option maxRecDepth 100000 in
theorem ct_X11_isCrate (l : Launch) (D : va_G) (cI cY cJ cQ : ClassId) (sz : Nat) (md : Nat → Nat) (sd : Int32) (mth mst hn cn pn mq gn mln mnn ln mlt msz mcu mtk mfr mti mfa mfb an un lc td mtn : Int32) (a : Int32)  (h1 : 0 ≤ cn.toInt) (h2 : cn.toInt ≤ 12)  : Met l yX11_isCrate wsX11_isCrate ({ frames := 1, cells := 0, slots := 0, locals := 25 }) (cPre D (ty4 cI cY cJ cQ) [(moC md sd mth mst hn cn pn mq gn mln mnn ln mlt msz mcu mtk mfr mti mfa mfb an un lc td mtn)] sz [.ref (md 64), .int a]) (va_Qi (fun (r : Int32) (u : Unit) => r = if 0 ≤ a.toInt ∧ a.toInt < cn.toInt then 1 else 0) (cB D (ty4 cI cY cJ cQ) (fun (u : Unit) => [(moC md sd mth mst hn cn pn mq gn mln mnn ln mlt msz mcu mtk mfr mti mfa mfb an un lc td mtn)]) (va_A [(moC md sd mth mst hn cn pn mq gn mln mnn ln mlt msz mcu mtk mfr mti mfa mfb an un lc td mtn)] sz)) (va_A [(moC md sd mth mst hn cn pn mq gn mln mnn ln mlt msz mcu mtk mfr mti mfa mfb an un lc td mtn)] sz)) 0 0 (va_A [(moC md sd mth mst hn cn pn mq gn mln mnn ln mlt msz mcu mtk mfr mti mfa mfb an un lc td mtn)] sz) := by
  refine Met.ofW (cc := cX11_isCrate) (maxL := 2) (ret := (some .boolean)) (by decide) rfl ?_
  intro p e s m args below meth c s₁ B hml hv
  obtain ⟨rfl, hsz, hP, hK, hD0, hN⟩ := hv
  have hx := B.exec
  have hb := B.bytes
  have hr := B.returns
  have hts := atoms_spec (ws := wsX11_isCrate) B.pre
  have hown : s.vm.findClass RX11 = some m.cls := findClass_of_methodNamed B.named
  have hlocks := B.notSynchronized
  subst hsz
  have hD := hD0.self (sz := s.heap.size)
  generalize hAe : va_A [(moC md sd mth mst hn cn pn mq gn mln mnn ln mlt msz mcu mtk mfr mti mfa mfb an un lc td mtn)] s.heap.size = A at hD ⊢
  have hA : ∀ q : Nat, s.heap.size ≤ q → A q := fun q h => by rw [← hAe]; exact Or.inr h
  have hS : va_S A s.heap s.heap [] := va_S.rf
  have hP : va_P D vwCl [(moC md sd mth mst hn cn pn mq gn mln mnn ln mlt msz mcu mtk mfr mti mfa mfb an un lc td mtn)] s.heap := hP
  have hl := lv_entry ([.ref (md 64), .int a]) (n := 2) (Nat.le_of_ble_eq_true rfl)
  rw [lg_entry_eq]
  generalize (lg_sl ([.ref (md 64), .int a]) ++ List.replicate (2 - (lg_sl ([.ref (md 64), .int a])).length) Slot.unset).toArray = ls at hl ⊢
  have hl : lv_has ls 2 [(0, .ref (md 64)), (1, .int a)] := hl
  have k1 : (1 : Int32).toInt = 1 := by decide
  have kl0 : (0 : Int64).toInt = 0 := by decide
  refine lv_iload_n hx hb dX11_isCrate_0 rfl (lv_at hl 1 rfl) ?_
  refine lv_i2l hx hb dX11_isCrate_1 rfl ?_
  have w1 := i_w a
  have w2 := i_rng a
  refine lv_lconst (v := 0) hx hb dX11_isCrate_2 (by decide) ?_
  refine lv_aload_n hx hb dX11_isCrate_3 rfl (lv_at hl 0 rfl) ?_
  refine va_get (D := D) (ci := 11) (v := .int cn) (C := RX11) (T := TX11) (N := 64) hx hb hts inX11_isCrate_X11 hown hK hP 0 rfl rfl 15 (by decide) (hts (Cond.fieldLink RX11 214 "PortRoomsModel" "crates" "I") (wm_t (wm_l (wm_i 0 rfl)))) (fun _ h9 => h9) rfl dX11_isCrate_4 ?_
  refine lv_iconst (v := 1) hx hb dX11_isCrate_7 (by decide) ?_
  refine lv_isub hx hb dX11_isCrate_8 ?_
  refine lv_topi (fun v3 ev3 => ?_)
  try have tv3 : v3.toInt = cn.toInt - 1 := by rw [ev3]; exact (i_sub (x := cn) (y := (1 : Int32)) (by rw [k1]; omega) (by rw [k1]; omega)).trans (by rw [k1])
  refine lv_i2l hx hb dX11_isCrate_9 rfl ?_
  have w4 := i_w v3
  have w5 := i_rng v3
  refine st_i1 (va_runS (As := [.long (a.toInt64), .long 0, .long (v3.toInt64)]) (rest := []) ⟨hx, hb, hml, hown, hts⟩ (ct_X11_in l D cI cY cJ cQ _ a.toInt64 (0 : Int64) v3.toInt64) (va_cwS 3 hts gX11_isCrate_X11_in rfl rfl rfl cdX11_in ⟨Nat.le_of_ble_eq_true rfl, Nat.le_of_ble_eq_true rfl⟩) (cPreS (hP.sub [] rfl) hK (hD.sub [] (by decide +kernel) rfl) hN) rfl rfl hl.1 rfl (lv_room (Nat.le_of_ble_eq_true rfl)) dX11_isCrate_10 ⟨Nat.le_of_ble_eq_true rfl, Nat.le_of_ble_eq_true rfl⟩) hP hD hS hA [] rfl (fun _ => rfl) (fun r8 u6 H locs hw7 => ?_)
  clear hP hS
  intro hP hS
  replace hw7 : r8 = if (0 : Int64).toInt ≤ a.toInt64.toInt ∧ a.toInt64.toInt ≤ v3.toInt64.toInt then 1 else 0 := hw7
  have hP9 := hP
  have hD9 := hD
  exact W.zret (v := r8) hx hb hr (zn_b hw7) (fun t ht hW => ⟨⟨r8, (), rfl, bo_iff hw7 ⟨fun h => by omega, fun h => by omega⟩, by rw [ht]; exact hP9, va_K.moved hW.alike hK, hD9⟩, hS.F ht⟩) hS.2.2 dX11_isCrate_13

set_option maxHeartbeats 4000000 in
set_option maxRecDepth 100000 in
theorem ct_X11_found (l : Launch) (D : va_G) (cI cY cJ cQ : ClassId) (sz : Nat) (md : Nat → Nat) (sd : Int32) (mth mst hn cn pn mq gn mln mnn ln mlt msz mcu mtk mfr mti mfa mfb an un lc td mtn : Int32) (a : Int32)   : Met l yX11_found wsX11_found ({ frames := 0, cells := 0, slots := 0, locals := 0 }) (cPre D (ty4 cI cY cJ cQ) [(moC md sd mth mst hn cn pn mq gn mln mnn ln mlt msz mcu mtk mfr mti mfa mfb an un lc td mtn)] sz [.ref (md 64), .int a]) (va_Qi (fun (r : Int32) (u : Unit) => r = (-1000010) - a) (cB D (ty4 cI cY cJ cQ) (fun (u : Unit) => [(moC md sd mth a hn cn pn mq gn mln mnn ln mlt msz mcu mtk mfr mti mfa mfb an un lc td mtn)]) (va_A [(moC md sd mth mst hn cn pn mq gn mln mnn ln mlt msz mcu mtk mfr mti mfa mfb an un lc td mtn)] sz)) (va_A [(moC md sd mth mst hn cn pn mq gn mln mnn ln mlt msz mcu mtk mfr mti mfa mfb an un lc td mtn)] sz)) 0 0 (va_A [(moC md sd mth mst hn cn pn mq gn mln mnn ln mlt msz mcu mtk mfr mti mfa mfb an un lc td mtn)] sz) := by
  refine Met.ofW (cc := cX11_found) (maxL := 2) (ret := (some .int)) (by decide) rfl ?_
  intro p e s m args below meth c s₁ B hml hv
  obtain ⟨rfl, hsz, hP, hK, hD0, hN⟩ := hv
  have hx := B.exec
  have hb := B.bytes
  have hr := B.returns
  have hts := atoms_spec (ws := wsX11_found) B.pre
  have hown : s.vm.findClass RX11 = some m.cls := findClass_of_methodNamed B.named
  have hlocks := B.notSynchronized
  subst hsz
  have hD := hD0.self (sz := s.heap.size)
  generalize hAe : va_A [(moC md sd mth mst hn cn pn mq gn mln mnn ln mlt msz mcu mtk mfr mti mfa mfb an un lc td mtn)] s.heap.size = A at hD ⊢
  have hA : ∀ q : Nat, s.heap.size ≤ q → A q := fun q h => by rw [← hAe]; exact Or.inr h
  have hS : va_S A s.heap s.heap [] := va_S.rf
  have hP : va_P D vwCl [(moC md sd mth mst hn cn pn mq gn mln mnn ln mlt msz mcu mtk mfr mti mfa mfb an un lc td mtn)] s.heap := hP
  have hl := lv_entry ([.ref (md 64), .int a]) (n := 2) (Nat.le_of_ble_eq_true rfl)
  rw [lg_entry_eq]
  generalize (lg_sl ([.ref (md 64), .int a]) ++ List.replicate (2 - (lg_sl ([.ref (md 64), .int a])).length) Slot.unset).toArray = ls at hl ⊢
  have hl : lv_has ls 2 [(0, .ref (md 64)), (1, .int a)] := hl
  have km1000010 : (-1000010 : Int32).toInt = -1000010 := by decide
  refine lv_aload_n hx hb dX11_found_0 rfl (lv_at hl 0 rfl) ?_
  refine lv_iload_n hx hb dX11_found_1 rfl (lv_at hl 1 rfl) ?_
  refine va_put (D := D) (ci := 11) (v := .int a) (ty := .int) (C := RX11) (T := TX11) (N := 64) hx hb hts inX11_found_X11 tyX11 tyX11_ok nmX11 hown hK hP hD hS 0 rfl rfl 2 (by decide) (hts (Cond.fieldLink RX11 141 "PortRoomsModel" "status" "I") (wm_t (wm_l (wm_i 0 rfl)))) (fun _ h9 => h9) rfl (tyX11_ok 2 (by decide)) rfl rfl (Nat.le_of_ble_eq_true rfl) dX11_found_2 (fun H locs => ?_)
  clear hP hD hS
  intro hP hD hS
  replace hP : va_P D vwCl [(moC md sd mth a hn cn pn mq gn mln mnn ln mlt msz mcu mtk mfr mti mfa mfb an un lc td mtn)] H := hP
  replace hD : va_D A [(moC md sd mth a hn cn pn mq gn mln mnn ln mlt msz mcu mtk mfr mti mfa mfb an un lc td mtn)] := hD
  refine lv_ldc hx hb hown (hts (Cond.constant RX11 144 (-1000010)) (wm_t (wm_l (wm_i 1 rfl)))) dX11_found_5 ?_
  refine lv_iload_n hx hb dX11_found_7 rfl (lv_at hl 1 rfl) ?_
  refine lv_isub hx hb dX11_found_8 ?_
  refine lv_topi (fun v1 ev1 => ?_)
  try have tv1 : v1.toInt = (-1000010) - a.toInt := by rw [ev1]; exact (i_sub (x := ((-1000010) : Int32)) (y := a) (by rw [km1000010]; omega) (by rw [km1000010]; omega)).trans (by rw [km1000010])
  have hP9 := hP
  have hD9 := hD
  exact W.iret (v := v1) hx hb hr (fun t ht hW => ⟨⟨v1, (), rfl, ev1, by rw [ht]; exact hP9, va_K.moved hW.alike hK, hD9⟩, hS.F ht⟩) hS.2.2 dX11_found_9

set_option maxHeartbeats 4000000 in
set_option maxRecDepth 100000 in
theorem ct_X11_status (l : Launch) (D : va_G) (cI cY cJ cQ : ClassId) (sz : Nat) (md : Nat → Nat) (sd : Int32) (mth mst hn cn pn mq gn mln mnn ln mlt msz mcu mtk mfr mti mfa mfb an un lc td mtn : Int32)   : Met l yX11_status wsX11_status ({ frames := 0, cells := 0, slots := 0, locals := 0 }) (cPre D (ty4 cI cY cJ cQ) [(moC md sd mth mst hn cn pn mq gn mln mnn ln mlt msz mcu mtk mfr mti mfa mfb an un lc td mtn)] sz [.ref (md 64)]) (va_Qi (fun (r : Int32) (u : Unit) => r = mst) (cB D (ty4 cI cY cJ cQ) (fun (u : Unit) => [(moC md sd 0 mst hn cn pn mq gn mln mnn ln mlt msz mcu mtk mfr mti mfa mfb an un lc td mtn)]) (va_A [(moC md sd mth mst hn cn pn mq gn mln mnn ln mlt msz mcu mtk mfr mti mfa mfb an un lc td mtn)] sz)) (va_A [(moC md sd mth mst hn cn pn mq gn mln mnn ln mlt msz mcu mtk mfr mti mfa mfb an un lc td mtn)] sz)) 0 0 (va_A [(moC md sd mth mst hn cn pn mq gn mln mnn ln mlt msz mcu mtk mfr mti mfa mfb an un lc td mtn)] sz) := by
  refine Met.ofW (cc := cX11_status) (maxL := 1) (ret := (some .int)) (by decide) rfl ?_
  intro p e s m args below meth c s₁ B hml hv
  obtain ⟨rfl, hsz, hP, hK, hD0, hN⟩ := hv
  have hx := B.exec
  have hb := B.bytes
  have hr := B.returns
  have hts := atoms_spec (ws := wsX11_status) B.pre
  have hown : s.vm.findClass RX11 = some m.cls := findClass_of_methodNamed B.named
  have hlocks := B.notSynchronized
  subst hsz
  have hD := hD0.self (sz := s.heap.size)
  generalize hAe : va_A [(moC md sd mth mst hn cn pn mq gn mln mnn ln mlt msz mcu mtk mfr mti mfa mfb an un lc td mtn)] s.heap.size = A at hD ⊢
  have hA : ∀ q : Nat, s.heap.size ≤ q → A q := fun q h => by rw [← hAe]; exact Or.inr h
  have hS : va_S A s.heap s.heap [] := va_S.rf
  have hP : va_P D vwCl [(moC md sd mth mst hn cn pn mq gn mln mnn ln mlt msz mcu mtk mfr mti mfa mfb an un lc td mtn)] s.heap := hP
  have hl := lv_entry ([.ref (md 64)]) (n := 1) (Nat.le_of_ble_eq_true rfl)
  rw [lg_entry_eq]
  generalize (lg_sl ([.ref (md 64)]) ++ List.replicate (1 - (lg_sl ([.ref (md 64)])).length) Slot.unset).toArray = ls at hl ⊢
  have hl : lv_has ls 1 [(0, .ref (md 64))] := hl
  refine lv_aload_n hx hb dX11_status_0 rfl (lv_at hl 0 rfl) ?_
  refine lv_iconst (v := 0) hx hb dX11_status_1 (by decide) ?_
  refine va_put (D := D) (ci := 11) (v := .int 0) (ty := .int) (C := RX11) (T := TX11) (N := 64) hx hb hts inX11_status_X11 tyX11 tyX11_ok nmX11 hown hK hP hD hS 0 rfl rfl 0 (by decide) (hts (Cond.fieldLink RX11 1 "PortRoomsModel" "thrown" "I") (wm_t (wm_l (wm_i 0 rfl)))) (fun _ h9 => h9) rfl (tyX11_ok 0 (by decide)) rfl rfl (Nat.le_of_ble_eq_true rfl) dX11_status_2 (fun H locs => ?_)
  clear hP hD hS
  intro hP hD hS
  replace hP : va_P D vwCl [(moC md sd (0) mst hn cn pn mq gn mln mnn ln mlt msz mcu mtk mfr mti mfa mfb an un lc td mtn)] H := hP
  replace hD : va_D A [(moC md sd (0) mst hn cn pn mq gn mln mnn ln mlt msz mcu mtk mfr mti mfa mfb an un lc td mtn)] := hD
  refine lv_aload_n hx hb dX11_status_5 rfl (lv_at hl 0 rfl) ?_
  refine va_get (D := D) (ci := 11) (v := .int mst) (C := RX11) (T := TX11) (N := 64) hx hb hts inX11_status_X11 hown hK hP 0 rfl rfl 2 (by decide) (hts (Cond.fieldLink RX11 141 "PortRoomsModel" "status" "I") (wm_t (wm_l (wm_i 1 rfl)))) (fun _ h9 => h9) rfl dX11_status_6 ?_
  have hP9 := hP
  have hD9 := hD
  exact W.iret (v := mst) hx hb hr (fun t ht hW => ⟨⟨mst, (), rfl, rfl, by rw [ht]; exact hP9, va_K.moved hW.alike hK, hD9⟩, hS.F ht⟩) hS.2.2 dX11_status_9

set_option maxHeartbeats 4000000 in
set_option maxRecDepth 100000 in
theorem ct_X11_fault (l : Launch) (D : va_G) (cI cY cJ cQ : ClassId) (sz : Nat) (md : Nat → Nat) (sd : Int32) (mth mst hn cn pn mq gn mln mnn ln mlt msz mcu mtk mfr mti mfa mfb an un lc td mtn : Int32)   : Met l yX11_fault wsX11_fault ({ frames := 0, cells := 0, slots := 0, locals := 0 }) (cPre D (ty4 cI cY cJ cQ) [(moC md sd mth mst hn cn pn mq gn mln mnn ln mlt msz mcu mtk mfr mti mfa mfb an un lc td mtn)] sz [.ref (md 64)]) (va_Qi (fun (r : Int32) (u : Unit) => r = mlt) (cB D (ty4 cI cY cJ cQ) (fun (u : Unit) => [(moC md sd 0 mst hn cn pn mq gn mln mnn ln mlt msz mcu mtk mfr mti mfa mfb an un lc td mtn)]) (va_A [(moC md sd mth mst hn cn pn mq gn mln mnn ln mlt msz mcu mtk mfr mti mfa mfb an un lc td mtn)] sz)) (va_A [(moC md sd mth mst hn cn pn mq gn mln mnn ln mlt msz mcu mtk mfr mti mfa mfb an un lc td mtn)] sz)) 0 0 (va_A [(moC md sd mth mst hn cn pn mq gn mln mnn ln mlt msz mcu mtk mfr mti mfa mfb an un lc td mtn)] sz) := by
  refine Met.ofW (cc := cX11_fault) (maxL := 1) (ret := (some .int)) (by decide) rfl ?_
  intro p e s m args below meth c s₁ B hml hv
  obtain ⟨rfl, hsz, hP, hK, hD0, hN⟩ := hv
  have hx := B.exec
  have hb := B.bytes
  have hr := B.returns
  have hts := atoms_spec (ws := wsX11_fault) B.pre
  have hown : s.vm.findClass RX11 = some m.cls := findClass_of_methodNamed B.named
  have hlocks := B.notSynchronized
  subst hsz
  have hD := hD0.self (sz := s.heap.size)
  generalize hAe : va_A [(moC md sd mth mst hn cn pn mq gn mln mnn ln mlt msz mcu mtk mfr mti mfa mfb an un lc td mtn)] s.heap.size = A at hD ⊢
  have hA : ∀ q : Nat, s.heap.size ≤ q → A q := fun q h => by rw [← hAe]; exact Or.inr h
  have hS : va_S A s.heap s.heap [] := va_S.rf
  have hP : va_P D vwCl [(moC md sd mth mst hn cn pn mq gn mln mnn ln mlt msz mcu mtk mfr mti mfa mfb an un lc td mtn)] s.heap := hP
  have hl := lv_entry ([.ref (md 64)]) (n := 1) (Nat.le_of_ble_eq_true rfl)
  rw [lg_entry_eq]
  generalize (lg_sl ([.ref (md 64)]) ++ List.replicate (1 - (lg_sl ([.ref (md 64)])).length) Slot.unset).toArray = ls at hl ⊢
  have hl : lv_has ls 1 [(0, .ref (md 64))] := hl
  refine lv_aload_n hx hb dX11_fault_0 rfl (lv_at hl 0 rfl) ?_
  refine lv_iconst (v := 0) hx hb dX11_fault_1 (by decide) ?_
  refine va_put (D := D) (ci := 11) (v := .int 0) (ty := .int) (C := RX11) (T := TX11) (N := 64) hx hb hts inX11_fault_X11 tyX11 tyX11_ok nmX11 hown hK hP hD hS 0 rfl rfl 0 (by decide) (hts (Cond.fieldLink RX11 1 "PortRoomsModel" "thrown" "I") (wm_t (wm_l (wm_i 0 rfl)))) (fun _ h9 => h9) rfl (tyX11_ok 0 (by decide)) rfl rfl (Nat.le_of_ble_eq_true rfl) dX11_fault_2 (fun H locs => ?_)
  clear hP hD hS
  intro hP hD hS
  replace hP : va_P D vwCl [(moC md sd (0) mst hn cn pn mq gn mln mnn ln mlt msz mcu mtk mfr mti mfa mfb an un lc td mtn)] H := hP
  replace hD : va_D A [(moC md sd (0) mst hn cn pn mq gn mln mnn ln mlt msz mcu mtk mfr mti mfa mfb an un lc td mtn)] := hD
  refine lv_aload_n hx hb dX11_fault_5 rfl (lv_at hl 0 rfl) ?_
  refine va_get (D := D) (ci := 11) (v := .int mlt) (C := RX11) (T := TX11) (N := 64) hx hb hts inX11_fault_X11 hown hK hP 0 rfl rfl 36 (by decide) (hts (Cond.fieldLink RX11 310 "PortRoomsModel" "latest" "I") (wm_t (wm_l (wm_i 1 rfl)))) (fun _ h9 => h9) rfl dX11_fault_6 ?_
  have hP9 := hP
  have hD9 := hD
  exact W.iret (v := mlt) hx hb hr (fun t ht hW => ⟨⟨mlt, (), rfl, rfl, by rw [ht]; exact hP9, va_K.moved hW.alike hK, hD9⟩, hS.F ht⟩) hS.2.2 dX11_fault_9

set_option maxHeartbeats 4000000 in
set_option maxRecDepth 100000 in
theorem ct_X11_day (l : Launch) (D : va_G) (cI cY cJ cQ : ClassId) (sz : Nat) (md : Nat → Nat) (sd : Int32) (mth mst hn cn pn mq gn mln mnn ln mlt msz mcu mtk mfr mti mfa mfb an un lc td mtn : Int32) (d : Int32)   : Met l yX11_day wsX11_day ({ frames := 2, cells := 0, slots := 0, locals := 45 }) (cPre D (ty4 cI cY cJ cQ) [(moC md sd mth mst hn cn pn mq gn mln mnn ln mlt msz mcu mtk mfr mti mfa mfb an un lc td mtn)] sz [.ref (md 64), .int d]) (va_Qi (fun (r : Int32) (u : Int32) => (r, u) = sp_day td d) (cB D (ty4 cI cY cJ cQ) (fun (u : Int32) => [(moC md sd 0 mst hn cn pn mq gn mln mnn ln mlt msz mcu mtk mfr mti mfa mfb an un lc u mtn)]) (va_A [(moC md sd mth mst hn cn pn mq gn mln mnn ln mlt msz mcu mtk mfr mti mfa mfb an un lc td mtn)] sz)) (va_A [(moC md sd mth mst hn cn pn mq gn mln mnn ln mlt msz mcu mtk mfr mti mfa mfb an un lc td mtn)] sz)) 0 0 (va_A [(moC md sd mth mst hn cn pn mq gn mln mnn ln mlt msz mcu mtk mfr mti mfa mfb an un lc td mtn)] sz) := by
  refine Met.ofW (cc := cX11_day) (maxL := 3) (ret := (some .int)) (by decide) rfl ?_
  intro p e s m args below meth c s₁ B hml hv
  obtain ⟨rfl, hsz, hP, hK, hD0, hN⟩ := hv
  have hx := B.exec
  have hb := B.bytes
  have hr := B.returns
  have hts := atoms_spec (ws := wsX11_day) B.pre
  have hown : s.vm.findClass RX11 = some m.cls := findClass_of_methodNamed B.named
  have hlocks := B.notSynchronized
  subst hsz
  have hD := hD0.self (sz := s.heap.size)
  generalize hAe : va_A [(moC md sd mth mst hn cn pn mq gn mln mnn ln mlt msz mcu mtk mfr mti mfa mfb an un lc td mtn)] s.heap.size = A at hD ⊢
  have hA : ∀ q : Nat, s.heap.size ≤ q → A q := fun q h => by rw [← hAe]; exact Or.inr h
  have hS : va_S A s.heap s.heap [] := va_S.rf
  have hP : va_P D vwCl [(moC md sd mth mst hn cn pn mq gn mln mnn ln mlt msz mcu mtk mfr mti mfa mfb an un lc td mtn)] s.heap := hP
  have hl := lv_entry ([.ref (md 64), .int d]) (n := 3) (Nat.le_of_ble_eq_true rfl)
  rw [lg_entry_eq]
  generalize (lg_sl ([.ref (md 64), .int d]) ++ List.replicate (3 - (lg_sl ([.ref (md 64), .int d])).length) Slot.unset).toArray = ls at hl ⊢
  have hl : lv_has ls 3 [(0, .ref (md 64)), (1, .int d)] := hl
  have km1000001 : (-1000001 : Int32).toInt = -1000001 := by decide
  have k0 : (0 : Int32).toInt = 0 := by decide
  refine lv_aload_n hx hb dX11_day_0 rfl (lv_at hl 0 rfl) ?_
  refine lv_iconst (v := 0) hx hb dX11_day_1 (by decide) ?_
  refine va_put (D := D) (ci := 11) (v := .int 0) (ty := .int) (C := RX11) (T := TX11) (N := 64) hx hb hts inX11_day_X11 tyX11 tyX11_ok nmX11 hown hK hP hD hS 0 rfl rfl 0 (by decide) (hts (Cond.fieldLink RX11 1 "PortRoomsModel" "thrown" "I") (wm_t (wm_l (wm_i 0 rfl)))) (fun _ h9 => h9) rfl (tyX11_ok 0 (by decide)) rfl rfl (Nat.le_of_ble_eq_true rfl) dX11_day_2 (fun H locs => ?_)
  clear hP hD hS
  intro hP hD hS
  replace hP : va_P D vwCl [(moC md sd (0) mst hn cn pn mq gn mln mnn ln mlt msz mcu mtk mfr mti mfa mfb an un lc td mtn)] H := hP
  replace hD : va_D A [(moC md sd (0) mst hn cn pn mq gn mln mnn ln mlt msz mcu mtk mfr mti mfa mfb an un lc td mtn)] := hD
  refine lv_iload_n hx hb dX11_day_5 rfl (lv_at hl 1 rfl) ?_
  refine st_i1 (va_runS (As := [.int d]) (rest := []) ⟨hx, hb, hml, hown, hts⟩ (ct_X11_isDay l D cI cY cJ cQ _ d) (va_cwS 1 hts gX11_day_X11_isDay rfl rfl rfl cdX11_isDay ⟨Nat.le_of_ble_eq_true rfl, Nat.le_of_ble_eq_true rfl⟩) (cPreS (hP.sub [] rfl) hK (hD.sub [] (by decide +kernel) rfl) hN) rfl rfl hl.1 rfl (lv_room (Nat.le_of_ble_eq_true rfl)) dX11_day_6 ⟨Nat.le_of_ble_eq_true rfl, Nat.le_of_ble_eq_true rfl⟩) hP hD hS hA [] rfl (fun _ => rfl) (fun r3 u1 H locs hw2 => ?_)
  clear hP hS
  intro hP hS
  replace hw2 : r3 = if 0 ≤ d.toInt ∧ d.toInt ≤ 9999 then 1 else 0 := hw2
  refine lv_if_ne (tgt := 15) hx hb dX11_day_9 (by decide) (fun c4 => ?_) (fun c4 => ?_)
  · skip
    have f5 := bo_t hw2 c4
    refine lv_aload_n hx hb dX11_day_15 rfl (lv_at hl 0 rfl) ?_
    refine va_get (D := D) (ci := 11) (v := .int td) (C := RX11) (T := TX11) (N := 64) hx hb hts inX11_day_X11 hown hK hP 0 rfl rfl 61 (by decide) (hts (Cond.fieldLink RX11 369 "PortRoomsModel" "theDay" "I") (wm_t (wm_l (wm_i 2 rfl)))) (fun _ h9 => h9) rfl dX11_day_16 ?_
    refine lv_istore_n (lv' := [(2, .int td), (0, .ref (md 64)), (1, .int d)]) hx hb dX11_day_19 rfl hl (by decide) rfl (fun ls hl => ?_)
    refine lv_aload_n hx hb dX11_day_20 rfl (lv_at hl 1 rfl) ?_
    refine lv_iload_n hx hb dX11_day_21 rfl (lv_at hl 2 rfl) ?_
    refine va_put (D := D) (ci := 11) (v := .int d) (ty := .int) (C := RX11) (T := TX11) (N := 64) hx hb hts inX11_day_X11 tyX11 tyX11_ok nmX11 hown hK hP hD hS 0 rfl rfl 61 (by decide) (hts (Cond.fieldLink RX11 369 "PortRoomsModel" "theDay" "I") (wm_t (wm_l (wm_i 2 rfl)))) (fun _ h9 => h9) rfl (tyX11_ok 61 (by decide)) rfl rfl (Nat.le_of_ble_eq_true rfl) dX11_day_22 (fun H locs => ?_)
    clear hP hD hS
    intro hP hD hS
    replace hP : va_P D vwCl [(moC md sd (0) mst hn cn pn mq gn mln mnn ln mlt msz mcu mtk mfr mti mfa mfb an un lc d mtn)] H := hP
    replace hD : va_D A [(moC md sd (0) mst hn cn pn mq gn mln mnn ln mlt msz mcu mtk mfr mti mfa mfb an un lc d mtn)] := hD
    refine lv_iload_n hx hb dX11_day_25 rfl (lv_at hl 0 rfl) ?_
    have hP9 := hP
    have hD9 := hD
    exact W.iret (v := td) hx hb hr (fun t ht hW => ⟨⟨td, d, rfl, (by unfold sp_day; (repeat' split) <;> first | rfl | (exfalso; omega) | (subst_vars; rfl)), by rw [ht]; exact hP9, va_K.moved hW.alike hK, hD9⟩, hS.F ht⟩) hS.2.2 dX11_day_26
  · skip
    have f6 := bo_f hw2 c4
    refine lv_ldc hx hb hown (hts (Cond.constant RX11 157 (-1000001)) (wm_t (wm_l (wm_i 1 rfl)))) dX11_day_12 ?_
    have hP9 := hP
    have hD9 := hD
    exact W.iret (v := (-1000001)) hx hb hr (fun t ht hW => ⟨⟨(-1000001), td, rfl, (by unfold sp_day; (repeat' split) <;> first | rfl | (exfalso; omega) | (subst_vars; rfl)), by rw [ht]; exact hP9, va_K.moved hW.alike hK, hD9⟩, hS.F ht⟩) hS.2.2 dX11_day_14
end
