theorem cdX8_isKnown : yX8_isKnown.cls ≠ "java/lang/invoke/MethodHandle" ∧ yX8_isKnown.cls ≠ "java/lang/invoke/VarHandle" ∧ (parseMethodDescriptor yX8_isKnown.desc).map (fun d => d.parameters.length) = some 3 := by decide +kernel
theorem cdX8_putInOrder : yX8_putInOrder.cls ≠ "java/lang/invoke/MethodHandle" ∧ yX8_putInOrder.cls ≠ "java/lang/invoke/VarHandle" ∧ (parseMethodDescriptor yX8_putInOrder.desc).map (fun d => d.parameters.length) = some 3 := by decide +kernel
theorem cdX8_putBehind : yX8_putBehind.cls ≠ "java/lang/invoke/MethodHandle" ∧ yX8_putBehind.cls ≠ "java/lang/invoke/VarHandle" ∧ (parseMethodDescriptor yX8_putBehind.desc).map (fun d => d.parameters.length) = some 3 := by decide +kernel
theorem cdX8_isAhead : yX8_isAhead.cls ≠ "java/lang/invoke/MethodHandle" ∧ yX8_isAhead.cls ≠ "java/lang/invoke/VarHandle" ∧ (parseMethodDescriptor yX8_isAhead.desc).map (fun d => d.parameters.length) = some 3 := by decide +kernel
theorem cdX8_paidTo : yX8_paidTo.cls ≠ "java/lang/invoke/MethodHandle" ∧ yX8_paidTo.cls ≠ "java/lang/invoke/VarHandle" ∧ (parseMethodDescriptor yX8_paidTo.desc).map (fun d => d.parameters.length) = some 2 := by decide +kernel
theorem Gd_X8_isKnown : gdA wsX8_isKnown := gd_cons (by decide +kernel) (gd_app (gd_all (ws := wsX8_isKnown_o1) (by decide +kernel)) Gd_X80)
theorem inX8_isKnown_X8 : ∀ w ∈ u_ws RX8 TX8 6, w ∈ wsX8_isKnown := fun _ h => (List.mem_cons_of_mem _ (List.mem_append_right _ h))
theorem inX8_sumsOn_X8 : ∀ w ∈ u_ws RX8 TX8 6, w ∈ wsX8_sumsOn := fun _ h => (List.mem_cons_of_mem _ (List.mem_append_right _ (List.mem_append_left _ h)))
theorem Gd_X8_isAhead : gdA wsX8_isAhead := gd_cons (by decide +kernel) (gd_app (gd_all (ws := wsX8_isAhead_o1) (by decide +kernel)) Gd_X80)
theorem inX8_isAhead_X8 : ∀ w ∈ u_ws RX8 TX8 6, w ∈ wsX8_isAhead := fun _ h => (List.mem_cons_of_mem _ (List.mem_append_right _ h))
theorem Gd_X8_putBehind : gdA wsX8_putBehind := gd_cons (by decide +kernel) (gd_app (gd_all (ws := wsX8_putBehind_o1) (by decide +kernel)) (gd_app Gd_X80 Gd_X8_isAhead))
theorem inX8_putBehind_X8 : ∀ w ∈ u_ws RX8 TX8 6, w ∈ wsX8_putBehind := fun _ h => (List.mem_cons_of_mem _ (List.mem_append_right _ (List.mem_append_left _ h)))
theorem Gd_X8_putInOrder : gdA wsX8_putInOrder := gd_cons (by decide +kernel) (gd_app (gd_all (ws := wsX8_putInOrder_o1) (by decide +kernel)) (gd_app (gd_app Gd_X80 Gd_X8_isKnown) Gd_X8_putBehind))
theorem inX8_putInOrder_X8 : ∀ w ∈ u_ws RX8 TX8 6, w ∈ wsX8_putInOrder := fun _ h => (List.mem_cons_of_mem _ (List.mem_append_right _ (List.mem_append_left _ (List.mem_append_left _ h))))
theorem Gd_X8_paidTo : gdA wsX8_paidTo := gd_cons (by decide +kernel) (gd_app (gd_all (ws := wsX8_paidTo_o1) (by decide +kernel)) Gd_X80)
theorem inX8_paidTo_X8 : ∀ w ∈ u_ws RX8 TX8 6, w ∈ wsX8_paidTo := fun _ h => (List.mem_cons_of_mem _ (List.mem_append_right _ h))
theorem inX10_rank_X8 : ∀ w ∈ u_ws RX8 TX8 6, w ∈ wsX10_rank := fun _ h => (List.mem_cons_of_mem _ (List.mem_append_right _ (List.mem_append_left _ (List.mem_append_left _ (List.mem_append_right _ h)))))
theorem inX10_rank_X1 : ∀ w ∈ u_ws RX1 TX1 6, w ∈ wsX10_rank := fun _ h => (List.mem_cons_of_mem _ (List.mem_append_right _ (List.mem_append_left _ (List.mem_append_right _ (List.mem_append_left _ h)))))
theorem inX10_rank_X10 : ∀ w ∈ u_ws RX10 TX10 14, w ∈ wsX10_rank := fun _ h => (List.mem_cons_of_mem _ (List.mem_append_right _ (List.mem_append_left _ (List.mem_append_left _ (List.mem_append_left _ h)))))
theorem dX8_isKnown_all0 : decode cX8_isKnown 0 = .ok (.aload_n 0, 1) ∧ decode cX8_isKnown 1 = .ok (.getfield 9, 3) ∧ decode cX8_isKnown 4 = .ok (.iload_n 1, 1) ∧ decode cX8_isKnown 5 = .ok (.iaload, 1) ∧ decode cX8_isKnown 6 = .ok (.iload_n 2, 1) ∧ decode cX8_isKnown 7 = .ok (.if_icmp .ne 17, 3) ∧ decode cX8_isKnown 10 = .ok (.aload_n 0, 1) ∧ decode cX8_isKnown 11 = .ok (.getfield 21, 3) ∧ decode cX8_isKnown 14 = .ok (.iload_n 1, 1) ∧ decode cX8_isKnown 15 = .ok (.iaload, 1) ∧ decode cX8_isKnown 16 = .ok (.iload_n 3, 1) ∧ decode cX8_isKnown 17 = .ok (.if_icmp .gt 7, 3) := by decide +kernel
theorem dX8_isKnown_0 : decode cX8_isKnown 0 = .ok (.aload_n 0, 1) := dX8_isKnown_all0.1
theorem dX8_isKnown_1 : decode cX8_isKnown 1 = .ok (.getfield 9, 3) := dX8_isKnown_all0.2.1
theorem dX8_isKnown_4 : decode cX8_isKnown 4 = .ok (.iload_n 1, 1) := dX8_isKnown_all0.2.2.1
theorem dX8_isKnown_5 : decode cX8_isKnown 5 = .ok (.iaload, 1) := dX8_isKnown_all0.2.2.2.1
theorem dX8_isKnown_6 : decode cX8_isKnown 6 = .ok (.iload_n 2, 1) := dX8_isKnown_all0.2.2.2.2.1
theorem dX8_isKnown_7 : decode cX8_isKnown 7 = .ok (.if_icmp .ne 17, 3) := dX8_isKnown_all0.2.2.2.2.2.1
theorem dX8_isKnown_10 : decode cX8_isKnown 10 = .ok (.aload_n 0, 1) := dX8_isKnown_all0.2.2.2.2.2.2.1
theorem dX8_isKnown_11 : decode cX8_isKnown 11 = .ok (.getfield 21, 3) := dX8_isKnown_all0.2.2.2.2.2.2.2.1
theorem dX8_isKnown_14 : decode cX8_isKnown 14 = .ok (.iload_n 1, 1) := dX8_isKnown_all0.2.2.2.2.2.2.2.2.1
theorem dX8_isKnown_15 : decode cX8_isKnown 15 = .ok (.iaload, 1) := dX8_isKnown_all0.2.2.2.2.2.2.2.2.2.1
theorem dX8_isKnown_16 : decode cX8_isKnown 16 = .ok (.iload_n 3, 1) := dX8_isKnown_all0.2.2.2.2.2.2.2.2.2.2.1
theorem dX8_isKnown_17 : decode cX8_isKnown 17 = .ok (.if_icmp .gt 7, 3) := dX8_isKnown_all0.2.2.2.2.2.2.2.2.2.2.2
theorem dX8_isKnown_all1 : decode cX8_isKnown 20 = .ok (.iconst 1, 1) ∧ decode cX8_isKnown 21 = .ok (.goto 4, 3) ∧ decode cX8_isKnown 24 = .ok (.iconst 0, 1) ∧ decode cX8_isKnown 25 = .ok (.ireturn, 1) := by decide +kernel
theorem dX8_isKnown_20 : decode cX8_isKnown 20 = .ok (.iconst 1, 1) := dX8_isKnown_all1.1
theorem dX8_isKnown_21 : decode cX8_isKnown 21 = .ok (.goto 4, 3) := dX8_isKnown_all1.2.1
theorem dX8_isKnown_24 : decode cX8_isKnown 24 = .ok (.iconst 0, 1) := dX8_isKnown_all1.2.2.1
theorem dX8_isKnown_25 : decode cX8_isKnown 25 = .ok (.ireturn, 1) := dX8_isKnown_all1.2.2.2
theorem ggX8_sumsOn_X8_isKnown : GoodIn wsX8_sumsOn wsX8_isKnown := goodIn_s (fun _ h => wm_t (wm_r (wm_r h))) Gd_X8_isKnown
theorem gX8_sumsOn_X8_isKnown : GoodIn wsX8_sumsOn (wsV RX8 31 RX8 yX8_isKnown wsX8_isKnown) := goodIn_V (own := RX8) (idx := 31) (C := RX8) (y := yX8_isKnown) (wm_t (wm_l (wm_i 2 rfl))) (wm_t (wm_l (wm_i 3 rfl))) (wm_t (wm_l (wm_i 4 rfl))) (wm_t (wm_l (wm_i 5 rfl))) ggX8_sumsOn_X8_isKnown
theorem dX8_sumsOn_all0 : decode cX8_sumsOn 0 = .ok (.iconst 0, 1) ∧ decode cX8_sumsOn 1 = .ok (.istore_n 3, 1) ∧ decode cX8_sumsOn 2 = .ok (.iconst 0, 1) ∧ decode cX8_sumsOn 3 = .ok (.istore 4, 2) ∧ decode cX8_sumsOn 5 = .ok (.iload 4, 2) ∧ decode cX8_sumsOn 7 = .ok (.aload_n 0, 1) ∧ decode cX8_sumsOn 8 = .ok (.getfield 27, 3) ∧ decode cX8_sumsOn 11 = .ok (.if_icmp .ge 30, 3) ∧ decode cX8_sumsOn 14 = .ok (.aload_n 0, 1) ∧ decode cX8_sumsOn 15 = .ok (.iload 4, 2) ∧ decode cX8_sumsOn 17 = .ok (.iload_n 1, 1) ∧ decode cX8_sumsOn 18 = .ok (.iload_n 2, 1) := by decide +kernel
theorem dX8_sumsOn_0 : decode cX8_sumsOn 0 = .ok (.iconst 0, 1) := dX8_sumsOn_all0.1
theorem dX8_sumsOn_1 : decode cX8_sumsOn 1 = .ok (.istore_n 3, 1) := dX8_sumsOn_all0.2.1
theorem dX8_sumsOn_2 : decode cX8_sumsOn 2 = .ok (.iconst 0, 1) := dX8_sumsOn_all0.2.2.1
theorem dX8_sumsOn_3 : decode cX8_sumsOn 3 = .ok (.istore 4, 2) := dX8_sumsOn_all0.2.2.2.1
theorem dX8_sumsOn_5 : decode cX8_sumsOn 5 = .ok (.iload 4, 2) := dX8_sumsOn_all0.2.2.2.2.1
theorem dX8_sumsOn_7 : decode cX8_sumsOn 7 = .ok (.aload_n 0, 1) := dX8_sumsOn_all0.2.2.2.2.2.1
theorem dX8_sumsOn_8 : decode cX8_sumsOn 8 = .ok (.getfield 27, 3) := dX8_sumsOn_all0.2.2.2.2.2.2.1
theorem dX8_sumsOn_11 : decode cX8_sumsOn 11 = .ok (.if_icmp .ge 30, 3) := dX8_sumsOn_all0.2.2.2.2.2.2.2.1
theorem dX8_sumsOn_14 : decode cX8_sumsOn 14 = .ok (.aload_n 0, 1) := dX8_sumsOn_all0.2.2.2.2.2.2.2.2.1
theorem dX8_sumsOn_15 : decode cX8_sumsOn 15 = .ok (.iload 4, 2) := dX8_sumsOn_all0.2.2.2.2.2.2.2.2.2.1
theorem dX8_sumsOn_17 : decode cX8_sumsOn 17 = .ok (.iload_n 1, 1) := dX8_sumsOn_all0.2.2.2.2.2.2.2.2.2.2.1
theorem dX8_sumsOn_18 : decode cX8_sumsOn 18 = .ok (.iload_n 2, 1) := dX8_sumsOn_all0.2.2.2.2.2.2.2.2.2.2.2
theorem dX8_sumsOn_all1 : decode cX8_sumsOn 19 = .ok (.invokevirtual 31, 3) ∧ decode cX8_sumsOn 22 = .ok (.ifCond .eq 13, 3) ∧ decode cX8_sumsOn 25 = .ok (.iload_n 3, 1) ∧ decode cX8_sumsOn 26 = .ok (.aload_n 0, 1) ∧ decode cX8_sumsOn 27 = .ok (.getfield 15, 3) ∧ decode cX8_sumsOn 30 = .ok (.iload 4, 2) ∧ decode cX8_sumsOn 32 = .ok (.iaload, 1) ∧ decode cX8_sumsOn 33 = .ok (.iadd, 1) ∧ decode cX8_sumsOn 34 = .ok (.istore_n 3, 1) ∧ decode cX8_sumsOn 35 = .ok (.iinc 4 1, 3) ∧ decode cX8_sumsOn 38 = .ok (.goto (-33), 3) ∧ decode cX8_sumsOn 41 = .ok (.iload_n 3, 1) := by decide +kernel
theorem dX8_sumsOn_19 : decode cX8_sumsOn 19 = .ok (.invokevirtual 31, 3) := dX8_sumsOn_all1.1
theorem dX8_sumsOn_22 : decode cX8_sumsOn 22 = .ok (.ifCond .eq 13, 3) := dX8_sumsOn_all1.2.1
theorem dX8_sumsOn_25 : decode cX8_sumsOn 25 = .ok (.iload_n 3, 1) := dX8_sumsOn_all1.2.2.1
theorem dX8_sumsOn_26 : decode cX8_sumsOn 26 = .ok (.aload_n 0, 1) := dX8_sumsOn_all1.2.2.2.1
theorem dX8_sumsOn_27 : decode cX8_sumsOn 27 = .ok (.getfield 15, 3) := dX8_sumsOn_all1.2.2.2.2.1
theorem dX8_sumsOn_30 : decode cX8_sumsOn 30 = .ok (.iload 4, 2) := dX8_sumsOn_all1.2.2.2.2.2.1
theorem dX8_sumsOn_32 : decode cX8_sumsOn 32 = .ok (.iaload, 1) := dX8_sumsOn_all1.2.2.2.2.2.2.1
theorem dX8_sumsOn_33 : decode cX8_sumsOn 33 = .ok (.iadd, 1) := dX8_sumsOn_all1.2.2.2.2.2.2.2.1
theorem dX8_sumsOn_34 : decode cX8_sumsOn 34 = .ok (.istore_n 3, 1) := dX8_sumsOn_all1.2.2.2.2.2.2.2.2.1
theorem dX8_sumsOn_35 : decode cX8_sumsOn 35 = .ok (.iinc 4 1, 3) := dX8_sumsOn_all1.2.2.2.2.2.2.2.2.2.1
theorem dX8_sumsOn_38 : decode cX8_sumsOn 38 = .ok (.goto (-33), 3) := dX8_sumsOn_all1.2.2.2.2.2.2.2.2.2.2.1
theorem dX8_sumsOn_41 : decode cX8_sumsOn 41 = .ok (.iload_n 3, 1) := dX8_sumsOn_all1.2.2.2.2.2.2.2.2.2.2.2
theorem dX8_sumsOn_42 : decode cX8_sumsOn 42 = .ok (.ireturn, 1) := by decide +kernel
theorem ggX8_putInOrder_X8_isKnown : GoodIn wsX8_putInOrder wsX8_isKnown := goodIn_s (fun _ h => wm_t (wm_r (wm_l (wm_r h)))) Gd_X8_isKnown
theorem gX8_putInOrder_X8_isKnown : GoodIn wsX8_putInOrder (wsV RX8 31 RX8 yX8_isKnown wsX8_isKnown) := goodIn_V (own := RX8) (idx := 31) (C := RX8) (y := yX8_isKnown) (wm_t (wm_l (wm_i 1 rfl))) (wm_t (wm_l (wm_i 2 rfl))) (wm_t (wm_l (wm_i 3 rfl))) (wm_t (wm_l (wm_i 4 rfl))) ggX8_putInOrder_X8_isKnown
theorem ggX8_putInOrder_X8_putBehind : GoodIn wsX8_putInOrder wsX8_putBehind := goodIn_s (fun _ h => wm_t (wm_r (wm_r h))) Gd_X8_putBehind
theorem gX8_putInOrder_X8_putBehind : GoodIn wsX8_putInOrder (wsV RX8 35 RX8 yX8_putBehind wsX8_putBehind) := goodIn_V (own := RX8) (idx := 35) (C := RX8) (y := yX8_putBehind) (wm_t (wm_l (wm_i 5 rfl))) (wm_t (wm_l (wm_i 6 rfl))) (wm_t (wm_l (wm_i 7 rfl))) (wm_t (wm_l (wm_i 4 rfl))) ggX8_putInOrder_X8_putBehind
theorem dX8_putInOrder_all0 : decode cX8_putInOrder 0 = .ok (.iconst 0, 1) ∧ decode cX8_putInOrder 1 = .ok (.istore 4, 2) ∧ decode cX8_putInOrder 3 = .ok (.iconst 0, 1) ∧ decode cX8_putInOrder 4 = .ok (.istore 5, 2) ∧ decode cX8_putInOrder 6 = .ok (.iload 5, 2) ∧ decode cX8_putInOrder 8 = .ok (.aload_n 0, 1) ∧ decode cX8_putInOrder 9 = .ok (.getfield 27, 3) ∧ decode cX8_putInOrder 12 = .ok (.if_icmp .ge 32, 3) ∧ decode cX8_putInOrder 15 = .ok (.aload_n 0, 1) ∧ decode cX8_putInOrder 16 = .ok (.iload 5, 2) ∧ decode cX8_putInOrder 18 = .ok (.iload_n 1, 1) ∧ decode cX8_putInOrder 19 = .ok (.iload_n 2, 1) := by decide +kernel
theorem dX8_putInOrder_0 : decode cX8_putInOrder 0 = .ok (.iconst 0, 1) := dX8_putInOrder_all0.1
theorem dX8_putInOrder_1 : decode cX8_putInOrder 1 = .ok (.istore 4, 2) := dX8_putInOrder_all0.2.1
theorem dX8_putInOrder_3 : decode cX8_putInOrder 3 = .ok (.iconst 0, 1) := dX8_putInOrder_all0.2.2.1
theorem dX8_putInOrder_4 : decode cX8_putInOrder 4 = .ok (.istore 5, 2) := dX8_putInOrder_all0.2.2.2.1
theorem dX8_putInOrder_6 : decode cX8_putInOrder 6 = .ok (.iload 5, 2) := dX8_putInOrder_all0.2.2.2.2.1
theorem dX8_putInOrder_8 : decode cX8_putInOrder 8 = .ok (.aload_n 0, 1) := dX8_putInOrder_all0.2.2.2.2.2.1
theorem dX8_putInOrder_9 : decode cX8_putInOrder 9 = .ok (.getfield 27, 3) := dX8_putInOrder_all0.2.2.2.2.2.2.1
theorem dX8_putInOrder_12 : decode cX8_putInOrder 12 = .ok (.if_icmp .ge 32, 3) := dX8_putInOrder_all0.2.2.2.2.2.2.2.1
theorem dX8_putInOrder_15 : decode cX8_putInOrder 15 = .ok (.aload_n 0, 1) := dX8_putInOrder_all0.2.2.2.2.2.2.2.2.1
theorem dX8_putInOrder_16 : decode cX8_putInOrder 16 = .ok (.iload 5, 2) := dX8_putInOrder_all0.2.2.2.2.2.2.2.2.2.1
theorem dX8_putInOrder_18 : decode cX8_putInOrder 18 = .ok (.iload_n 1, 1) := dX8_putInOrder_all0.2.2.2.2.2.2.2.2.2.2.1
theorem dX8_putInOrder_19 : decode cX8_putInOrder 19 = .ok (.iload_n 2, 1) := dX8_putInOrder_all0.2.2.2.2.2.2.2.2.2.2.2
theorem dX8_putInOrder_all1 : decode cX8_putInOrder 20 = .ok (.invokevirtual 31, 3) ∧ decode cX8_putInOrder 23 = .ok (.ifCond .eq 15, 3) ∧ decode cX8_putInOrder 26 = .ok (.aload_n 0, 1) ∧ decode cX8_putInOrder 27 = .ok (.iload 4, 2) ∧ decode cX8_putInOrder 29 = .ok (.iload 5, 2) ∧ decode cX8_putInOrder 31 = .ok (.iload_n 3, 1) ∧ decode cX8_putInOrder 32 = .ok (.invokevirtual 35, 3) ∧ decode cX8_putInOrder 35 = .ok (.iinc 4 1, 3) ∧ decode cX8_putInOrder 38 = .ok (.iinc 5 1, 3) ∧ decode cX8_putInOrder 41 = .ok (.goto (-35), 3) ∧ decode cX8_putInOrder 44 = .ok (.iload 4, 2) ∧ decode cX8_putInOrder 46 = .ok (.ireturn, 1) := by decide +kernel
theorem dX8_putInOrder_20 : decode cX8_putInOrder 20 = .ok (.invokevirtual 31, 3) := dX8_putInOrder_all1.1
theorem dX8_putInOrder_23 : decode cX8_putInOrder 23 = .ok (.ifCond .eq 15, 3) := dX8_putInOrder_all1.2.1
theorem dX8_putInOrder_26 : decode cX8_putInOrder 26 = .ok (.aload_n 0, 1) := dX8_putInOrder_all1.2.2.1
theorem dX8_putInOrder_27 : decode cX8_putInOrder 27 = .ok (.iload 4, 2) := dX8_putInOrder_all1.2.2.2.1
theorem dX8_putInOrder_29 : decode cX8_putInOrder 29 = .ok (.iload 5, 2) := dX8_putInOrder_all1.2.2.2.2.1
theorem dX8_putInOrder_31 : decode cX8_putInOrder 31 = .ok (.iload_n 3, 1) := dX8_putInOrder_all1.2.2.2.2.2.1
theorem dX8_putInOrder_32 : decode cX8_putInOrder 32 = .ok (.invokevirtual 35, 3) := dX8_putInOrder_all1.2.2.2.2.2.2.1
theorem dX8_putInOrder_35 : decode cX8_putInOrder 35 = .ok (.iinc 4 1, 3) := dX8_putInOrder_all1.2.2.2.2.2.2.2.1
theorem dX8_putInOrder_38 : decode cX8_putInOrder 38 = .ok (.iinc 5 1, 3) := dX8_putInOrder_all1.2.2.2.2.2.2.2.2.1
theorem dX8_putInOrder_41 : decode cX8_putInOrder 41 = .ok (.goto (-35), 3) := dX8_putInOrder_all1.2.2.2.2.2.2.2.2.2.1
theorem dX8_putInOrder_44 : decode cX8_putInOrder 44 = .ok (.iload 4, 2) := dX8_putInOrder_all1.2.2.2.2.2.2.2.2.2.2.1
theorem dX8_putInOrder_46 : decode cX8_putInOrder 46 = .ok (.ireturn, 1) := dX8_putInOrder_all1.2.2.2.2.2.2.2.2.2.2.2
theorem ggX8_putBehind_X8_isAhead : GoodIn wsX8_putBehind wsX8_isAhead := goodIn_s (fun _ h => wm_t (wm_r (wm_r h))) Gd_X8_isAhead
theorem gX8_putBehind_X8_isAhead : GoodIn wsX8_putBehind (wsV RX8 39 RX8 yX8_isAhead wsX8_isAhead) := goodIn_V (own := RX8) (idx := 39) (C := RX8) (y := yX8_isAhead) (wm_t (wm_l (wm_i 1 rfl))) (wm_t (wm_l (wm_i 2 rfl))) (wm_t (wm_l (wm_i 3 rfl))) (wm_t (wm_l (wm_i 4 rfl))) ggX8_putBehind_X8_isAhead
theorem dX8_putBehind_all0 : decode cX8_putBehind 0 = .ok (.iload_n 1, 1) ∧ decode cX8_putBehind 1 = .ok (.istore 4, 2) ∧ decode cX8_putBehind 3 = .ok (.iload 4, 2) ∧ decode cX8_putBehind 5 = .ok (.ifCond .le 43, 3) ∧ decode cX8_putBehind 8 = .ok (.aload_n 0, 1) ∧ decode cX8_putBehind 9 = .ok (.iload_n 2, 1) ∧ decode cX8_putBehind 10 = .ok (.aload_n 0, 1) ∧ decode cX8_putBehind 11 = .ok (.getfield 24, 3) ∧ decode cX8_putBehind 14 = .ok (.iload 4, 2) ∧ decode cX8_putBehind 16 = .ok (.iconst 1, 1) ∧ decode cX8_putBehind 17 = .ok (.isub, 1) ∧ decode cX8_putBehind 18 = .ok (.iaload, 1) := by decide +kernel
theorem dX8_putBehind_0 : decode cX8_putBehind 0 = .ok (.iload_n 1, 1) := dX8_putBehind_all0.1
theorem dX8_putBehind_1 : decode cX8_putBehind 1 = .ok (.istore 4, 2) := dX8_putBehind_all0.2.1
theorem dX8_putBehind_3 : decode cX8_putBehind 3 = .ok (.iload 4, 2) := dX8_putBehind_all0.2.2.1
theorem dX8_putBehind_5 : decode cX8_putBehind 5 = .ok (.ifCond .le 43, 3) := dX8_putBehind_all0.2.2.2.1
theorem dX8_putBehind_8 : decode cX8_putBehind 8 = .ok (.aload_n 0, 1) := dX8_putBehind_all0.2.2.2.2.1
theorem dX8_putBehind_9 : decode cX8_putBehind 9 = .ok (.iload_n 2, 1) := dX8_putBehind_all0.2.2.2.2.2.1
theorem dX8_putBehind_10 : decode cX8_putBehind 10 = .ok (.aload_n 0, 1) := dX8_putBehind_all0.2.2.2.2.2.2.1
theorem dX8_putBehind_11 : decode cX8_putBehind 11 = .ok (.getfield 24, 3) := dX8_putBehind_all0.2.2.2.2.2.2.2.1
theorem dX8_putBehind_14 : decode cX8_putBehind 14 = .ok (.iload 4, 2) := dX8_putBehind_all0.2.2.2.2.2.2.2.2.1
theorem dX8_putBehind_16 : decode cX8_putBehind 16 = .ok (.iconst 1, 1) := dX8_putBehind_all0.2.2.2.2.2.2.2.2.2.1
theorem dX8_putBehind_17 : decode cX8_putBehind 17 = .ok (.isub, 1) := dX8_putBehind_all0.2.2.2.2.2.2.2.2.2.2.1
theorem dX8_putBehind_18 : decode cX8_putBehind 18 = .ok (.iaload, 1) := dX8_putBehind_all0.2.2.2.2.2.2.2.2.2.2.2
theorem dX8_putBehind_all1 : decode cX8_putBehind 19 = .ok (.iload_n 3, 1) ∧ decode cX8_putBehind 20 = .ok (.invokevirtual 39, 3) ∧ decode cX8_putBehind 23 = .ok (.ifCond .eq 25, 3) ∧ decode cX8_putBehind 26 = .ok (.aload_n 0, 1) ∧ decode cX8_putBehind 27 = .ok (.getfield 24, 3) ∧ decode cX8_putBehind 30 = .ok (.iload 4, 2) ∧ decode cX8_putBehind 32 = .ok (.aload_n 0, 1) ∧ decode cX8_putBehind 33 = .ok (.getfield 24, 3) ∧ decode cX8_putBehind 36 = .ok (.iload 4, 2) ∧ decode cX8_putBehind 38 = .ok (.iconst 1, 1) ∧ decode cX8_putBehind 39 = .ok (.isub, 1) ∧ decode cX8_putBehind 40 = .ok (.iaload, 1) := by decide +kernel
theorem dX8_putBehind_19 : decode cX8_putBehind 19 = .ok (.iload_n 3, 1) := dX8_putBehind_all1.1
theorem dX8_putBehind_20 : decode cX8_putBehind 20 = .ok (.invokevirtual 39, 3) := dX8_putBehind_all1.2.1
theorem dX8_putBehind_23 : decode cX8_putBehind 23 = .ok (.ifCond .eq 25, 3) := dX8_putBehind_all1.2.2.1
theorem dX8_putBehind_26 : decode cX8_putBehind 26 = .ok (.aload_n 0, 1) := dX8_putBehind_all1.2.2.2.1
theorem dX8_putBehind_27 : decode cX8_putBehind 27 = .ok (.getfield 24, 3) := dX8_putBehind_all1.2.2.2.2.1
theorem dX8_putBehind_30 : decode cX8_putBehind 30 = .ok (.iload 4, 2) := dX8_putBehind_all1.2.2.2.2.2.1
theorem dX8_putBehind_32 : decode cX8_putBehind 32 = .ok (.aload_n 0, 1) := dX8_putBehind_all1.2.2.2.2.2.2.1
theorem dX8_putBehind_33 : decode cX8_putBehind 33 = .ok (.getfield 24, 3) := dX8_putBehind_all1.2.2.2.2.2.2.2.1
theorem dX8_putBehind_36 : decode cX8_putBehind 36 = .ok (.iload 4, 2) := dX8_putBehind_all1.2.2.2.2.2.2.2.2.1
theorem dX8_putBehind_38 : decode cX8_putBehind 38 = .ok (.iconst 1, 1) := dX8_putBehind_all1.2.2.2.2.2.2.2.2.2.1
theorem dX8_putBehind_39 : decode cX8_putBehind 39 = .ok (.isub, 1) := dX8_putBehind_all1.2.2.2.2.2.2.2.2.2.2.1
theorem dX8_putBehind_40 : decode cX8_putBehind 40 = .ok (.iaload, 1) := dX8_putBehind_all1.2.2.2.2.2.2.2.2.2.2.2
theorem dX8_putBehind_all2 : decode cX8_putBehind 41 = .ok (.iastore, 1) ∧ decode cX8_putBehind 42 = .ok (.iinc 4 (-1), 3) ∧ decode cX8_putBehind 45 = .ok (.goto (-42), 3) ∧ decode cX8_putBehind 48 = .ok (.aload_n 0, 1) ∧ decode cX8_putBehind 49 = .ok (.getfield 24, 3) ∧ decode cX8_putBehind 52 = .ok (.iload 4, 2) ∧ decode cX8_putBehind 54 = .ok (.iload_n 2, 1) ∧ decode cX8_putBehind 55 = .ok (.iastore, 1) ∧ decode cX8_putBehind 56 = .ok (.return_, 1) := by decide +kernel
theorem dX8_putBehind_41 : decode cX8_putBehind 41 = .ok (.iastore, 1) := dX8_putBehind_all2.1
theorem dX8_putBehind_42 : decode cX8_putBehind 42 = .ok (.iinc 4 (-1), 3) := dX8_putBehind_all2.2.1
theorem dX8_putBehind_45 : decode cX8_putBehind 45 = .ok (.goto (-42), 3) := dX8_putBehind_all2.2.2.1
theorem dX8_putBehind_48 : decode cX8_putBehind 48 = .ok (.aload_n 0, 1) := dX8_putBehind_all2.2.2.2.1
theorem dX8_putBehind_49 : decode cX8_putBehind 49 = .ok (.getfield 24, 3) := dX8_putBehind_all2.2.2.2.2.1
theorem dX8_putBehind_52 : decode cX8_putBehind 52 = .ok (.iload 4, 2) := dX8_putBehind_all2.2.2.2.2.2.1
theorem dX8_putBehind_54 : decode cX8_putBehind 54 = .ok (.iload_n 2, 1) := dX8_putBehind_all2.2.2.2.2.2.2.1
theorem dX8_putBehind_55 : decode cX8_putBehind 55 = .ok (.iastore, 1) := dX8_putBehind_all2.2.2.2.2.2.2.2.1
theorem dX8_putBehind_56 : decode cX8_putBehind 56 = .ok (.return_, 1) := dX8_putBehind_all2.2.2.2.2.2.2.2.2
theorem dX8_isAhead_all0 : decode cX8_isAhead 0 = .ok (.iload_n 3, 1) ∧ decode cX8_isAhead 1 = .ok (.tableswitch 90 0 2 #[27, 48, 69], 27) ∧ decode cX8_isAhead 28 = .ok (.aload_n 0, 1) ∧ decode cX8_isAhead 29 = .ok (.getfield 21, 3) ∧ decode cX8_isAhead 32 = .ok (.iload_n 1, 1) ∧ decode cX8_isAhead 33 = .ok (.iaload, 1) ∧ decode cX8_isAhead 34 = .ok (.aload_n 0, 1) ∧ decode cX8_isAhead 35 = .ok (.getfield 21, 3) ∧ decode cX8_isAhead 38 = .ok (.iload_n 2, 1) ∧ decode cX8_isAhead 39 = .ok (.iaload, 1) ∧ decode cX8_isAhead 40 = .ok (.if_icmp .ge 7, 3) ∧ decode cX8_isAhead 43 = .ok (.iconst 1, 1) := by decide +kernel
theorem dX8_isAhead_0 : decode cX8_isAhead 0 = .ok (.iload_n 3, 1) := dX8_isAhead_all0.1
theorem dX8_isAhead_1 : decode cX8_isAhead 1 = .ok (.tableswitch 90 0 2 #[27, 48, 69], 27) := dX8_isAhead_all0.2.1
theorem dX8_isAhead_28 : decode cX8_isAhead 28 = .ok (.aload_n 0, 1) := dX8_isAhead_all0.2.2.1
theorem dX8_isAhead_29 : decode cX8_isAhead 29 = .ok (.getfield 21, 3) := dX8_isAhead_all0.2.2.2.1
theorem dX8_isAhead_32 : decode cX8_isAhead 32 = .ok (.iload_n 1, 1) := dX8_isAhead_all0.2.2.2.2.1
theorem dX8_isAhead_33 : decode cX8_isAhead 33 = .ok (.iaload, 1) := dX8_isAhead_all0.2.2.2.2.2.1
theorem dX8_isAhead_34 : decode cX8_isAhead 34 = .ok (.aload_n 0, 1) := dX8_isAhead_all0.2.2.2.2.2.2.1
theorem dX8_isAhead_35 : decode cX8_isAhead 35 = .ok (.getfield 21, 3) := dX8_isAhead_all0.2.2.2.2.2.2.2.1
theorem dX8_isAhead_38 : decode cX8_isAhead 38 = .ok (.iload_n 2, 1) := dX8_isAhead_all0.2.2.2.2.2.2.2.2.1
theorem dX8_isAhead_39 : decode cX8_isAhead 39 = .ok (.iaload, 1) := dX8_isAhead_all0.2.2.2.2.2.2.2.2.2.1
theorem dX8_isAhead_40 : decode cX8_isAhead 40 = .ok (.if_icmp .ge 7, 3) := dX8_isAhead_all0.2.2.2.2.2.2.2.2.2.2.1
theorem dX8_isAhead_43 : decode cX8_isAhead 43 = .ok (.iconst 1, 1) := dX8_isAhead_all0.2.2.2.2.2.2.2.2.2.2.2
theorem dX8_isAhead_all1 : decode cX8_isAhead 44 = .ok (.goto 4, 3) ∧ decode cX8_isAhead 47 = .ok (.iconst 0, 1) ∧ decode cX8_isAhead 48 = .ok (.ireturn, 1) ∧ decode cX8_isAhead 49 = .ok (.aload_n 0, 1) ∧ decode cX8_isAhead 50 = .ok (.getfield 18, 3) ∧ decode cX8_isAhead 53 = .ok (.iload_n 1, 1) ∧ decode cX8_isAhead 54 = .ok (.iaload, 1) ∧ decode cX8_isAhead 55 = .ok (.aload_n 0, 1) ∧ decode cX8_isAhead 56 = .ok (.getfield 18, 3) ∧ decode cX8_isAhead 59 = .ok (.iload_n 2, 1) ∧ decode cX8_isAhead 60 = .ok (.iaload, 1) ∧ decode cX8_isAhead 61 = .ok (.if_icmp .ge 7, 3) := by decide +kernel
theorem dX8_isAhead_44 : decode cX8_isAhead 44 = .ok (.goto 4, 3) := dX8_isAhead_all1.1
theorem dX8_isAhead_47 : decode cX8_isAhead 47 = .ok (.iconst 0, 1) := dX8_isAhead_all1.2.1
theorem dX8_isAhead_48 : decode cX8_isAhead 48 = .ok (.ireturn, 1) := dX8_isAhead_all1.2.2.1
theorem dX8_isAhead_49 : decode cX8_isAhead 49 = .ok (.aload_n 0, 1) := dX8_isAhead_all1.2.2.2.1
theorem dX8_isAhead_50 : decode cX8_isAhead 50 = .ok (.getfield 18, 3) := dX8_isAhead_all1.2.2.2.2.1
theorem dX8_isAhead_53 : decode cX8_isAhead 53 = .ok (.iload_n 1, 1) := dX8_isAhead_all1.2.2.2.2.2.1
theorem dX8_isAhead_54 : decode cX8_isAhead 54 = .ok (.iaload, 1) := dX8_isAhead_all1.2.2.2.2.2.2.1
theorem dX8_isAhead_55 : decode cX8_isAhead 55 = .ok (.aload_n 0, 1) := dX8_isAhead_all1.2.2.2.2.2.2.2.1
theorem dX8_isAhead_56 : decode cX8_isAhead 56 = .ok (.getfield 18, 3) := dX8_isAhead_all1.2.2.2.2.2.2.2.2.1
theorem dX8_isAhead_59 : decode cX8_isAhead 59 = .ok (.iload_n 2, 1) := dX8_isAhead_all1.2.2.2.2.2.2.2.2.2.1
theorem dX8_isAhead_60 : decode cX8_isAhead 60 = .ok (.iaload, 1) := dX8_isAhead_all1.2.2.2.2.2.2.2.2.2.2.1
theorem dX8_isAhead_61 : decode cX8_isAhead 61 = .ok (.if_icmp .ge 7, 3) := dX8_isAhead_all1.2.2.2.2.2.2.2.2.2.2.2
theorem dX8_isAhead_all2 : decode cX8_isAhead 64 = .ok (.iconst 1, 1) ∧ decode cX8_isAhead 65 = .ok (.goto 4, 3) ∧ decode cX8_isAhead 68 = .ok (.iconst 0, 1) ∧ decode cX8_isAhead 69 = .ok (.ireturn, 1) ∧ decode cX8_isAhead 70 = .ok (.aload_n 0, 1) ∧ decode cX8_isAhead 71 = .ok (.getfield 15, 3) ∧ decode cX8_isAhead 74 = .ok (.iload_n 1, 1) ∧ decode cX8_isAhead 75 = .ok (.iaload, 1) ∧ decode cX8_isAhead 76 = .ok (.aload_n 0, 1) ∧ decode cX8_isAhead 77 = .ok (.getfield 15, 3) ∧ decode cX8_isAhead 80 = .ok (.iload_n 2, 1) ∧ decode cX8_isAhead 81 = .ok (.iaload, 1) := by decide +kernel
theorem dX8_isAhead_64 : decode cX8_isAhead 64 = .ok (.iconst 1, 1) := dX8_isAhead_all2.1
theorem dX8_isAhead_65 : decode cX8_isAhead 65 = .ok (.goto 4, 3) := dX8_isAhead_all2.2.1
theorem dX8_isAhead_68 : decode cX8_isAhead 68 = .ok (.iconst 0, 1) := dX8_isAhead_all2.2.2.1
theorem dX8_isAhead_69 : decode cX8_isAhead 69 = .ok (.ireturn, 1) := dX8_isAhead_all2.2.2.2.1
theorem dX8_isAhead_70 : decode cX8_isAhead 70 = .ok (.aload_n 0, 1) := dX8_isAhead_all2.2.2.2.2.1
theorem dX8_isAhead_71 : decode cX8_isAhead 71 = .ok (.getfield 15, 3) := dX8_isAhead_all2.2.2.2.2.2.1
theorem dX8_isAhead_74 : decode cX8_isAhead 74 = .ok (.iload_n 1, 1) := dX8_isAhead_all2.2.2.2.2.2.2.1
theorem dX8_isAhead_75 : decode cX8_isAhead 75 = .ok (.iaload, 1) := dX8_isAhead_all2.2.2.2.2.2.2.2.1
theorem dX8_isAhead_76 : decode cX8_isAhead 76 = .ok (.aload_n 0, 1) := dX8_isAhead_all2.2.2.2.2.2.2.2.2.1
theorem dX8_isAhead_77 : decode cX8_isAhead 77 = .ok (.getfield 15, 3) := dX8_isAhead_all2.2.2.2.2.2.2.2.2.2.1
theorem dX8_isAhead_80 : decode cX8_isAhead 80 = .ok (.iload_n 2, 1) := dX8_isAhead_all2.2.2.2.2.2.2.2.2.2.2.1
theorem dX8_isAhead_81 : decode cX8_isAhead 81 = .ok (.iaload, 1) := dX8_isAhead_all2.2.2.2.2.2.2.2.2.2.2.2
theorem dX8_isAhead_all3 : decode cX8_isAhead 82 = .ok (.if_icmp .le 7, 3) ∧ decode cX8_isAhead 85 = .ok (.iconst 1, 1) ∧ decode cX8_isAhead 86 = .ok (.goto 4, 3) ∧ decode cX8_isAhead 89 = .ok (.iconst 0, 1) ∧ decode cX8_isAhead 90 = .ok (.ireturn, 1) ∧ decode cX8_isAhead 91 = .ok (.aload_n 0, 1) ∧ decode cX8_isAhead 92 = .ok (.getfield 21, 3) ∧ decode cX8_isAhead 95 = .ok (.iload_n 1, 1) ∧ decode cX8_isAhead 96 = .ok (.iaload, 1) ∧ decode cX8_isAhead 97 = .ok (.aload_n 0, 1) ∧ decode cX8_isAhead 98 = .ok (.getfield 21, 3) ∧ decode cX8_isAhead 101 = .ok (.iload_n 2, 1) := by decide +kernel
theorem dX8_isAhead_82 : decode cX8_isAhead 82 = .ok (.if_icmp .le 7, 3) := dX8_isAhead_all3.1
theorem dX8_isAhead_85 : decode cX8_isAhead 85 = .ok (.iconst 1, 1) := dX8_isAhead_all3.2.1
theorem dX8_isAhead_86 : decode cX8_isAhead 86 = .ok (.goto 4, 3) := dX8_isAhead_all3.2.2.1
theorem dX8_isAhead_89 : decode cX8_isAhead 89 = .ok (.iconst 0, 1) := dX8_isAhead_all3.2.2.2.1
theorem dX8_isAhead_90 : decode cX8_isAhead 90 = .ok (.ireturn, 1) := dX8_isAhead_all3.2.2.2.2.1
theorem dX8_isAhead_91 : decode cX8_isAhead 91 = .ok (.aload_n 0, 1) := dX8_isAhead_all3.2.2.2.2.2.1
theorem dX8_isAhead_92 : decode cX8_isAhead 92 = .ok (.getfield 21, 3) := dX8_isAhead_all3.2.2.2.2.2.2.1
theorem dX8_isAhead_95 : decode cX8_isAhead 95 = .ok (.iload_n 1, 1) := dX8_isAhead_all3.2.2.2.2.2.2.2.1
theorem dX8_isAhead_96 : decode cX8_isAhead 96 = .ok (.iaload, 1) := dX8_isAhead_all3.2.2.2.2.2.2.2.2.1
theorem dX8_isAhead_97 : decode cX8_isAhead 97 = .ok (.aload_n 0, 1) := dX8_isAhead_all3.2.2.2.2.2.2.2.2.2.1
theorem dX8_isAhead_98 : decode cX8_isAhead 98 = .ok (.getfield 21, 3) := dX8_isAhead_all3.2.2.2.2.2.2.2.2.2.2.1
theorem dX8_isAhead_101 : decode cX8_isAhead 101 = .ok (.iload_n 2, 1) := dX8_isAhead_all3.2.2.2.2.2.2.2.2.2.2.2
theorem dX8_isAhead_all4 : decode cX8_isAhead 102 = .ok (.iaload, 1) ∧ decode cX8_isAhead 103 = .ok (.if_icmp .le 7, 3) ∧ decode cX8_isAhead 106 = .ok (.iconst 1, 1) ∧ decode cX8_isAhead 107 = .ok (.goto 4, 3) ∧ decode cX8_isAhead 110 = .ok (.iconst 0, 1) ∧ decode cX8_isAhead 111 = .ok (.ireturn, 1) := by decide +kernel
theorem dX8_isAhead_102 : decode cX8_isAhead 102 = .ok (.iaload, 1) := dX8_isAhead_all4.1
theorem dX8_isAhead_103 : decode cX8_isAhead 103 = .ok (.if_icmp .le 7, 3) := dX8_isAhead_all4.2.1
theorem dX8_isAhead_106 : decode cX8_isAhead 106 = .ok (.iconst 1, 1) := dX8_isAhead_all4.2.2.1
theorem dX8_isAhead_107 : decode cX8_isAhead 107 = .ok (.goto 4, 3) := dX8_isAhead_all4.2.2.2.1
theorem dX8_isAhead_110 : decode cX8_isAhead 110 = .ok (.iconst 0, 1) := dX8_isAhead_all4.2.2.2.2.1
theorem dX8_isAhead_111 : decode cX8_isAhead 111 = .ok (.ireturn, 1) := dX8_isAhead_all4.2.2.2.2.2
theorem dX8_paidTo_all0 : decode cX8_paidTo 0 = .ok (.iload_n 2, 1) ∧ decode cX8_paidTo 1 = .ok (.istore_n 3, 1) ∧ decode cX8_paidTo 2 = .ok (.iconst 0, 1) ∧ decode cX8_paidTo 3 = .ok (.istore 4, 2) ∧ decode cX8_paidTo 5 = .ok (.iload 4, 2) ∧ decode cX8_paidTo 7 = .ok (.iload_n 1, 1) ∧ decode cX8_paidTo 8 = .ok (.if_icmp .ge 28, 3) ∧ decode cX8_paidTo 11 = .ok (.iload_n 3, 1) ∧ decode cX8_paidTo 12 = .ok (.iload_n 3, 1) ∧ decode cX8_paidTo 13 = .ok (.aload_n 0, 1) ∧ decode cX8_paidTo 14 = .ok (.getfield 15, 3) ∧ decode cX8_paidTo 17 = .ok (.aload_n 0, 1) := by decide +kernel
theorem dX8_paidTo_0 : decode cX8_paidTo 0 = .ok (.iload_n 2, 1) := dX8_paidTo_all0.1
theorem dX8_paidTo_1 : decode cX8_paidTo 1 = .ok (.istore_n 3, 1) := dX8_paidTo_all0.2.1
theorem dX8_paidTo_2 : decode cX8_paidTo 2 = .ok (.iconst 0, 1) := dX8_paidTo_all0.2.2.1
theorem dX8_paidTo_3 : decode cX8_paidTo 3 = .ok (.istore 4, 2) := dX8_paidTo_all0.2.2.2.1
theorem dX8_paidTo_5 : decode cX8_paidTo 5 = .ok (.iload 4, 2) := dX8_paidTo_all0.2.2.2.2.1
theorem dX8_paidTo_7 : decode cX8_paidTo 7 = .ok (.iload_n 1, 1) := dX8_paidTo_all0.2.2.2.2.2.1
theorem dX8_paidTo_8 : decode cX8_paidTo 8 = .ok (.if_icmp .ge 28, 3) := dX8_paidTo_all0.2.2.2.2.2.2.1
theorem dX8_paidTo_11 : decode cX8_paidTo 11 = .ok (.iload_n 3, 1) := dX8_paidTo_all0.2.2.2.2.2.2.2.1
theorem dX8_paidTo_12 : decode cX8_paidTo 12 = .ok (.iload_n 3, 1) := dX8_paidTo_all0.2.2.2.2.2.2.2.2.1
theorem dX8_paidTo_13 : decode cX8_paidTo 13 = .ok (.aload_n 0, 1) := dX8_paidTo_all0.2.2.2.2.2.2.2.2.2.1
theorem dX8_paidTo_14 : decode cX8_paidTo 14 = .ok (.getfield 15, 3) := dX8_paidTo_all0.2.2.2.2.2.2.2.2.2.2.1
theorem dX8_paidTo_17 : decode cX8_paidTo 17 = .ok (.aload_n 0, 1) := dX8_paidTo_all0.2.2.2.2.2.2.2.2.2.2.2
theorem dX8_paidTo_all1 : decode cX8_paidTo 18 = .ok (.getfield 24, 3) ∧ decode cX8_paidTo 21 = .ok (.iload 4, 2) ∧ decode cX8_paidTo 23 = .ok (.iaload, 1) ∧ decode cX8_paidTo 24 = .ok (.iaload, 1) ∧ decode cX8_paidTo 25 = .ok (.invokestatic 42, 3) ∧ decode cX8_paidTo 28 = .ok (.isub, 1) ∧ decode cX8_paidTo 29 = .ok (.istore_n 3, 1) ∧ decode cX8_paidTo 30 = .ok (.iinc 4 1, 3) ∧ decode cX8_paidTo 33 = .ok (.goto (-28), 3) ∧ decode cX8_paidTo 36 = .ok (.iload_n 3, 1) ∧ decode cX8_paidTo 37 = .ok (.aload_n 0, 1) ∧ decode cX8_paidTo 38 = .ok (.getfield 15, 3) := by decide +kernel
theorem dX8_paidTo_18 : decode cX8_paidTo 18 = .ok (.getfield 24, 3) := dX8_paidTo_all1.1
theorem dX8_paidTo_21 : decode cX8_paidTo 21 = .ok (.iload 4, 2) := dX8_paidTo_all1.2.1
theorem dX8_paidTo_23 : decode cX8_paidTo 23 = .ok (.iaload, 1) := dX8_paidTo_all1.2.2.1
theorem dX8_paidTo_24 : decode cX8_paidTo 24 = .ok (.iaload, 1) := dX8_paidTo_all1.2.2.2.1
theorem dX8_paidTo_25 : decode cX8_paidTo 25 = .ok (.invokestatic 42, 3) := dX8_paidTo_all1.2.2.2.2.1
theorem dX8_paidTo_28 : decode cX8_paidTo 28 = .ok (.isub, 1) := dX8_paidTo_all1.2.2.2.2.2.1
theorem dX8_paidTo_29 : decode cX8_paidTo 29 = .ok (.istore_n 3, 1) := dX8_paidTo_all1.2.2.2.2.2.2.1
theorem dX8_paidTo_30 : decode cX8_paidTo 30 = .ok (.iinc 4 1, 3) := dX8_paidTo_all1.2.2.2.2.2.2.2.1
theorem dX8_paidTo_33 : decode cX8_paidTo 33 = .ok (.goto (-28), 3) := dX8_paidTo_all1.2.2.2.2.2.2.2.2.1
theorem dX8_paidTo_36 : decode cX8_paidTo 36 = .ok (.iload_n 3, 1) := dX8_paidTo_all1.2.2.2.2.2.2.2.2.2.1
theorem dX8_paidTo_37 : decode cX8_paidTo 37 = .ok (.aload_n 0, 1) := dX8_paidTo_all1.2.2.2.2.2.2.2.2.2.2.1
theorem dX8_paidTo_38 : decode cX8_paidTo 38 = .ok (.getfield 15, 3) := dX8_paidTo_all1.2.2.2.2.2.2.2.2.2.2.2
theorem dX8_paidTo_all2 : decode cX8_paidTo 41 = .ok (.aload_n 0, 1) ∧ decode cX8_paidTo 42 = .ok (.getfield 24, 3) ∧ decode cX8_paidTo 45 = .ok (.iload_n 1, 1) ∧ decode cX8_paidTo 46 = .ok (.iaload, 1) ∧ decode cX8_paidTo 47 = .ok (.iaload, 1) ∧ decode cX8_paidTo 48 = .ok (.invokestatic 42, 3) ∧ decode cX8_paidTo 51 = .ok (.ireturn, 1) := by decide +kernel
theorem dX8_paidTo_41 : decode cX8_paidTo 41 = .ok (.aload_n 0, 1) := dX8_paidTo_all2.1
theorem dX8_paidTo_42 : decode cX8_paidTo 42 = .ok (.getfield 24, 3) := dX8_paidTo_all2.2.1
theorem dX8_paidTo_45 : decode cX8_paidTo 45 = .ok (.iload_n 1, 1) := dX8_paidTo_all2.2.2.1
theorem dX8_paidTo_46 : decode cX8_paidTo 46 = .ok (.iaload, 1) := dX8_paidTo_all2.2.2.2.1
theorem dX8_paidTo_47 : decode cX8_paidTo 47 = .ok (.iaload, 1) := dX8_paidTo_all2.2.2.2.2.1
theorem dX8_paidTo_48 : decode cX8_paidTo 48 = .ok (.invokestatic 42, 3) := dX8_paidTo_all2.2.2.2.2.2.1
theorem dX8_paidTo_51 : decode cX8_paidTo 51 = .ok (.ireturn, 1) := dX8_paidTo_all2.2.2.2.2.2.2
theorem ggX10_rank_X10_isCrate : GoodIn wsX10_rank wsX10_isCrate := goodIn_s (fun _ h => wm_t (wm_r (wm_l (wm_r (wm_r h))))) Gd_X10_isCrate
theorem gX10_rank_X10_isCrate : GoodIn wsX10_rank (wsV RX10 180 RX10 yX10_isCrate wsX10_isCrate) := goodIn_V (own := RX10) (idx := 180) (C := RX10) (y := yX10_isCrate) (wm_t (wm_l (wm_i 6 rfl))) (wm_t (wm_l (wm_i 7 rfl))) (wm_t (wm_l (wm_i 8 rfl))) (wm_t (wm_l (wm_i 9 rfl))) ggX10_rank_X10_isCrate
theorem ggX10_rank_X10_isDay : GoodIn wsX10_rank wsX10_isDay := goodIn_s (fun _ h => wm_t (wm_r (wm_r (wm_l (wm_l h))))) Gd_X10_isDay
theorem gX10_rank_X10_isDay : GoodIn wsX10_rank (va_wsS RX10 138 yX10_isDay wsX10_isDay) := goodIn_S (own := RX10) (idx := 138) (y := yX10_isDay) (wm_t (wm_l (wm_i 12 rfl))) (wm_t (wm_l (wm_i 13 rfl))) (wm_t (wm_l (wm_i 9 rfl))) ggX10_rank_X10_isDay
theorem ggX10_rank_X10_isBelow : GoodIn wsX10_rank wsX10_isBelow := goodIn_s (fun _ h => wm_t (wm_r (wm_r (wm_l (wm_r h))))) Gd_X10_isBelow
theorem gX10_rank_X10_isBelow : GoodIn wsX10_rank (va_wsS RX10 85 yX10_isBelow wsX10_isBelow) := goodIn_S (own := RX10) (idx := 85) (y := yX10_isBelow) (wm_t (wm_l (wm_i 10 rfl))) (wm_t (wm_l (wm_i 11 rfl))) (wm_t (wm_l (wm_i 9 rfl))) ggX10_rank_X10_isBelow
theorem ggX10_rank_X8_putInOrder : GoodIn wsX10_rank wsX8_putInOrder := goodIn_s (fun _ h => wm_t (wm_r (wm_r (wm_r (wm_l h))))) Gd_X8_putInOrder
theorem gX10_rank_X8_putInOrder : GoodIn wsX10_rank (wsV RX10 201 RX8 yX8_putInOrder wsX8_putInOrder) := goodIn_V (own := RX10) (idx := 201) (C := RX8) (y := yX8_putInOrder) (wm_t (wm_l (wm_i 14 rfl))) (wm_t (wm_l (wm_i 15 rfl))) (wm_t (wm_l (wm_i 16 rfl))) (wm_t (wm_l (wm_i 17 rfl))) ggX10_rank_X8_putInOrder
theorem ggX10_rank_X8_paidTo : GoodIn wsX10_rank wsX8_paidTo := goodIn_s (fun _ h => wm_t (wm_r (wm_r (wm_r (wm_r h))))) Gd_X8_paidTo
theorem gX10_rank_X8_paidTo : GoodIn wsX10_rank (wsV RX10 210 RX8 yX8_paidTo wsX8_paidTo) := goodIn_V (own := RX10) (idx := 210) (C := RX8) (y := yX8_paidTo) (wm_t (wm_l (wm_i 18 rfl))) (wm_t (wm_l (wm_i 19 rfl))) (wm_t (wm_l (wm_i 20 rfl))) (wm_t (wm_l (wm_i 17 rfl))) ggX10_rank_X8_paidTo
theorem dX10_rank_all0 : decode cX10_rank 0 = .ok (.aload_n 0, 1) ∧ decode cX10_rank 1 = .ok (.iload_n 1, 1) ∧ decode cX10_rank 2 = .ok (.invokevirtual 180, 3) ∧ decode cX10_rank 5 = .ok (.ifCond .eq 32, 3) ∧ decode cX10_rank 8 = .ok (.iload_n 2, 1) ∧ decode cX10_rank 9 = .ok (.invokestatic 138, 3) ∧ decode cX10_rank 12 = .ok (.ifCond .eq 25, 3) ∧ decode cX10_rank 15 = .ok (.iload_n 3, 1) ∧ decode cX10_rank 16 = .ok (.iconst 4, 1) ∧ decode cX10_rank 17 = .ok (.invokestatic 85, 3) ∧ decode cX10_rank 20 = .ok (.ifCond .eq 17, 3) ∧ decode cX10_rank 23 = .ok (.iload 4, 2) := by decide +kernel
theorem dX10_rank_0 : decode cX10_rank 0 = .ok (.aload_n 0, 1) := dX10_rank_all0.1
theorem dX10_rank_1 : decode cX10_rank 1 = .ok (.iload_n 1, 1) := dX10_rank_all0.2.1
theorem dX10_rank_2 : decode cX10_rank 2 = .ok (.invokevirtual 180, 3) := dX10_rank_all0.2.2.1
theorem dX10_rank_5 : decode cX10_rank 5 = .ok (.ifCond .eq 32, 3) := dX10_rank_all0.2.2.2.1
theorem dX10_rank_8 : decode cX10_rank 8 = .ok (.iload_n 2, 1) := dX10_rank_all0.2.2.2.2.1
theorem dX10_rank_9 : decode cX10_rank 9 = .ok (.invokestatic 138, 3) := dX10_rank_all0.2.2.2.2.2.1
theorem dX10_rank_12 : decode cX10_rank 12 = .ok (.ifCond .eq 25, 3) := dX10_rank_all0.2.2.2.2.2.2.1
theorem dX10_rank_15 : decode cX10_rank 15 = .ok (.iload_n 3, 1) := dX10_rank_all0.2.2.2.2.2.2.2.1
theorem dX10_rank_16 : decode cX10_rank 16 = .ok (.iconst 4, 1) := dX10_rank_all0.2.2.2.2.2.2.2.2.1
theorem dX10_rank_17 : decode cX10_rank 17 = .ok (.invokestatic 85, 3) := dX10_rank_all0.2.2.2.2.2.2.2.2.2.1
theorem dX10_rank_20 : decode cX10_rank 20 = .ok (.ifCond .eq 17, 3) := dX10_rank_all0.2.2.2.2.2.2.2.2.2.2.1
theorem dX10_rank_23 : decode cX10_rank 23 = .ok (.iload 4, 2) := dX10_rank_all0.2.2.2.2.2.2.2.2.2.2.2
theorem dX10_rank_all1 : decode cX10_rank 25 = .ok (.ifCond .lt 12, 3) ∧ decode cX10_rank 28 = .ok (.iload 5, 2) ∧ decode cX10_rank 30 = .ok (.iconst 2, 1) ∧ decode cX10_rank 31 = .ok (.invokestatic 85, 3) ∧ decode cX10_rank 34 = .ok (.ifCond .ne 6, 3) ∧ decode cX10_rank 37 = .ok (.ldc 89, 2) ∧ decode cX10_rank 39 = .ok (.ireturn, 1) ∧ decode cX10_rank 40 = .ok (.aload_n 0, 1) ∧ decode cX10_rank 41 = .ok (.getfield 40, 3) ∧ decode cX10_rank 44 = .ok (.iload_n 1, 1) ∧ decode cX10_rank 45 = .ok (.iload_n 2, 1) ∧ decode cX10_rank 46 = .ok (.iload_n 3, 1) := by decide +kernel
theorem dX10_rank_25 : decode cX10_rank 25 = .ok (.ifCond .lt 12, 3) := dX10_rank_all1.1
theorem dX10_rank_28 : decode cX10_rank 28 = .ok (.iload 5, 2) := dX10_rank_all1.2.1
theorem dX10_rank_30 : decode cX10_rank 30 = .ok (.iconst 2, 1) := dX10_rank_all1.2.2.1
theorem dX10_rank_31 : decode cX10_rank 31 = .ok (.invokestatic 85, 3) := dX10_rank_all1.2.2.2.1
theorem dX10_rank_34 : decode cX10_rank 34 = .ok (.ifCond .ne 6, 3) := dX10_rank_all1.2.2.2.2.1
theorem dX10_rank_37 : decode cX10_rank 37 = .ok (.ldc 89, 2) := dX10_rank_all1.2.2.2.2.2.1
theorem dX10_rank_39 : decode cX10_rank 39 = .ok (.ireturn, 1) := dX10_rank_all1.2.2.2.2.2.2.1
theorem dX10_rank_40 : decode cX10_rank 40 = .ok (.aload_n 0, 1) := dX10_rank_all1.2.2.2.2.2.2.2.1
theorem dX10_rank_41 : decode cX10_rank 41 = .ok (.getfield 40, 3) := dX10_rank_all1.2.2.2.2.2.2.2.2.1
theorem dX10_rank_44 : decode cX10_rank 44 = .ok (.iload_n 1, 1) := dX10_rank_all1.2.2.2.2.2.2.2.2.2.1
theorem dX10_rank_45 : decode cX10_rank 45 = .ok (.iload_n 2, 1) := dX10_rank_all1.2.2.2.2.2.2.2.2.2.2.1
theorem dX10_rank_46 : decode cX10_rank 46 = .ok (.iload_n 3, 1) := dX10_rank_all1.2.2.2.2.2.2.2.2.2.2.2
theorem dX10_rank_all2 : decode cX10_rank 47 = .ok (.invokevirtual 201, 3) ∧ decode cX10_rank 50 = .ok (.istore 6, 2) ∧ decode cX10_rank 52 = .ok (.iload 4, 2) ∧ decode cX10_rank 54 = .ok (.iload 6, 2) ∧ decode cX10_rank 56 = .ok (.if_icmp .lt 6, 3) ∧ decode cX10_rank 59 = .ok (.ldc 169, 2) ∧ decode cX10_rank 61 = .ok (.ireturn, 1) ∧ decode cX10_rank 62 = .ok (.iload 5, 2) ∧ decode cX10_rank 64 = .ok (.ifCond .ne 16, 3) ∧ decode cX10_rank 67 = .ok (.aload_n 0, 1) ∧ decode cX10_rank 68 = .ok (.getfield 40, 3) ∧ decode cX10_rank 71 = .ok (.getfield 204, 3) := by decide +kernel
theorem dX10_rank_47 : decode cX10_rank 47 = .ok (.invokevirtual 201, 3) := dX10_rank_all2.1
theorem dX10_rank_50 : decode cX10_rank 50 = .ok (.istore 6, 2) := dX10_rank_all2.2.1
theorem dX10_rank_52 : decode cX10_rank 52 = .ok (.iload 4, 2) := dX10_rank_all2.2.2.1
theorem dX10_rank_54 : decode cX10_rank 54 = .ok (.iload 6, 2) := dX10_rank_all2.2.2.2.1
theorem dX10_rank_56 : decode cX10_rank 56 = .ok (.if_icmp .lt 6, 3) := dX10_rank_all2.2.2.2.2.1
theorem dX10_rank_59 : decode cX10_rank 59 = .ok (.ldc 169, 2) := dX10_rank_all2.2.2.2.2.2.1
theorem dX10_rank_61 : decode cX10_rank 61 = .ok (.ireturn, 1) := dX10_rank_all2.2.2.2.2.2.2.1
theorem dX10_rank_62 : decode cX10_rank 62 = .ok (.iload 5, 2) := dX10_rank_all2.2.2.2.2.2.2.2.1
theorem dX10_rank_64 : decode cX10_rank 64 = .ok (.ifCond .ne 16, 3) := dX10_rank_all2.2.2.2.2.2.2.2.2.1
theorem dX10_rank_67 : decode cX10_rank 67 = .ok (.aload_n 0, 1) := dX10_rank_all2.2.2.2.2.2.2.2.2.2.1
theorem dX10_rank_68 : decode cX10_rank 68 = .ok (.getfield 40, 3) := dX10_rank_all2.2.2.2.2.2.2.2.2.2.2.1
theorem dX10_rank_71 : decode cX10_rank 71 = .ok (.getfield 204, 3) := dX10_rank_all2.2.2.2.2.2.2.2.2.2.2.2
theorem dX10_rank_all3 : decode cX10_rank 74 = .ok (.iload 4, 2) ∧ decode cX10_rank 76 = .ok (.iaload, 1) ∧ decode cX10_rank 77 = .ok (.goto 21, 3) ∧ decode cX10_rank 80 = .ok (.aload_n 0, 1) ∧ decode cX10_rank 81 = .ok (.getfield 40, 3) ∧ decode cX10_rank 84 = .ok (.iload 4, 2) ∧ decode cX10_rank 86 = .ok (.aload_n 0, 1) ∧ decode cX10_rank 87 = .ok (.getfield 26, 3) ∧ decode cX10_rank 90 = .ok (.getfield 207, 3) ∧ decode cX10_rank 93 = .ok (.iload_n 1, 1) ∧ decode cX10_rank 94 = .ok (.iaload, 1) ∧ decode cX10_rank 95 = .ok (.invokevirtual 210, 3) := by decide +kernel
theorem dX10_rank_74 : decode cX10_rank 74 = .ok (.iload 4, 2) := dX10_rank_all3.1
theorem dX10_rank_76 : decode cX10_rank 76 = .ok (.iaload, 1) := dX10_rank_all3.2.1
theorem dX10_rank_77 : decode cX10_rank 77 = .ok (.goto 21, 3) := dX10_rank_all3.2.2.1
theorem dX10_rank_80 : decode cX10_rank 80 = .ok (.aload_n 0, 1) := dX10_rank_all3.2.2.2.1
theorem dX10_rank_81 : decode cX10_rank 81 = .ok (.getfield 40, 3) := dX10_rank_all3.2.2.2.2.1
theorem dX10_rank_84 : decode cX10_rank 84 = .ok (.iload 4, 2) := dX10_rank_all3.2.2.2.2.2.1
theorem dX10_rank_86 : decode cX10_rank 86 = .ok (.aload_n 0, 1) := dX10_rank_all3.2.2.2.2.2.2.1
theorem dX10_rank_87 : decode cX10_rank 87 = .ok (.getfield 26, 3) := dX10_rank_all3.2.2.2.2.2.2.2.1
theorem dX10_rank_90 : decode cX10_rank 90 = .ok (.getfield 207, 3) := dX10_rank_all3.2.2.2.2.2.2.2.2.1
theorem dX10_rank_93 : decode cX10_rank 93 = .ok (.iload_n 1, 1) := dX10_rank_all3.2.2.2.2.2.2.2.2.2.1
theorem dX10_rank_94 : decode cX10_rank 94 = .ok (.iaload, 1) := dX10_rank_all3.2.2.2.2.2.2.2.2.2.2.1
theorem dX10_rank_95 : decode cX10_rank 95 = .ok (.invokevirtual 210, 3) := dX10_rank_all3.2.2.2.2.2.2.2.2.2.2.2
theorem dX10_rank_98 : decode cX10_rank 98 = .ok (.ireturn, 1) := by decide +kernel

/-- the first n places of the pledges' order name pledges -/
def okR (n m : Int32) (gr : Nat → Int32) : Prop := ∀ j : Nat, (j : Int) < n.toInt → 0 ≤ (gr j).toInt ∧ (gr j).toInt < m.toInt
def okQ (n a m : Int32) (gr : Nat → Int32) : Prop := ∀ j : Nat, (j : Int) ≤ n.toInt → ¬ (j : Int) = a.toInt → 0 ≤ (gr j).toInt ∧ (gr j).toInt < m.toInt
theorem okR_at {n m : Int32} {pr : Nat → Int32} (h : okR n m pr) {v i : Int32} (e : v = pr i.toNatClampNeg) (h0 : 0 ≤ i.toInt) (h1 : i.toInt < n.toInt) : 0 ≤ v.toInt ∧ v.toInt < m.toInt := by
  have := i_cl h0
  rw [e]
  exact h _ (by omega)
theorem okQ_at {n a m : Int32} {pr : Nat → Int32} (h : okQ n a m pr) {v i : Int32} (e : v = pr i.toNatClampNeg) (h0 : 0 ≤ i.toInt) (h1 : i.toInt ≤ n.toInt) (h2 : ¬ i.toInt = a.toInt) : 0 ≤ v.toInt ∧ v.toInt < m.toInt := by
  have := i_cl h0
  rw [e]
  exact h _ (by omega) (by omega)
theorem okQ_0 {n m : Int32} {pr : Nat → Int32} (h : okR n m pr) : okQ n n m pr := fun j h1 h2 => h j (by omega)
theorem okQ_step {n m a b v w : Int32} {f : Nat → Int32} (h : okQ n a m f) (hv : v = f w.toNatClampNeg) (hw : w.toInt = a.toInt - 1) (hb : b.toInt = a.toInt - 1) (h0 : 0 < a.toInt) (h1 : a.toInt ≤ n.toInt) : okQ n b m (upd f a.toNatClampNeg v) := by
  have ca := i_cl (x := a) (by omega)
  have hv' := okQ_at h hv (by omega) (by omega) (by omega)
  intro j h2 h3
  by_cases hj : j = a.toNatClampNeg
  · subst hj; rw [upd_s]; exact hv'
  · rw [upd_n _ _ hj]; exact h j h2 (by omega)
theorem okQ_end {n m a b x : Int32} {f : Nat → Int32} (h : okQ n a m f) (hb : b.toInt = n.toInt + 1) (h0 : 0 ≤ a.toInt) (hx : 0 ≤ x.toInt) (hx2 : x.toInt < m.toInt) : okR b m (upd f a.toNatClampNeg x) := by
  have ca := i_cl h0
  intro j h2
  by_cases hj : j = a.toNatClampNeg
  · subst hj; rw [upd_s]; omega
  · rw [upd_n _ _ hj]; exact h j (by omega) (by omega)


/-- what is owed on a crate, as known on a day -/
def suV (gk gs ge : Nat → Int32) (k d : Int32) : Nat → Int32
  | 0 => 0
  | n + 1 => if (gk n).toInt = k.toInt ∧ (ge n).toInt ≤ d.toInt then suV gk gs ge k d n + gs n else suV gk gs ge k d n
theorem suV_s (gk gs ge : Nat → Int32) (k d : Int32) (n : Nat) : suV gk gs ge k d (n + 1) = if (gk n).toInt = k.toInt ∧ (ge n).toInt ≤ d.toInt then suV gk gs ge k d n + gs n else suV gk gs ge k d n := rfl

set_option maxHeartbeats 4000000 in
set_option maxRecDepth 100000 in
theorem ct_X8_isKnown (l : Launch) (D : va_G) (cI cY cJ cQ : ClassId) (sz : Nat) (ad : Nat → Nat) (gn : Int32) (gk ge : Nat → Int32) (x : Int32) (k : Int32) (d : Int32)  (h1 : 0 ≤ x.toInt) (h2 : x.toInt < 40)  : Met l yX8_isKnown wsX8_isKnown ({ frames := 0, cells := 0, slots := 0, locals := 0 }) (cPre D (ty4 cI cY cJ cQ) [(oC8 ad gn), (aI cI (ad 42) 40 gk), (aI cI (ad 45) 40 ge)] sz [.ref (ad 5), .int x, .int k, .int d]) (va_Qi (fun (r : Int32) (u : Unit) => r = if (gk x.toNatClampNeg).toInt = k.toInt ∧ (ge x.toNatClampNeg).toInt ≤ d.toInt then 1 else 0) (cB D (ty4 cI cY cJ cQ) (fun (u : Unit) => [(oC8 ad gn), (aI cI (ad 42) 40 gk), (aI cI (ad 45) 40 ge)]) (va_A [(oC8 ad gn), (aI cI (ad 42) 40 gk), (aI cI (ad 45) 40 ge)] sz)) (va_A [(oC8 ad gn), (aI cI (ad 42) 40 gk), (aI cI (ad 45) 40 ge)] sz)) 0 0 (va_A [(oC8 ad gn), (aI cI (ad 42) 40 gk), (aI cI (ad 45) 40 ge)] sz) := by
  refine Met.ofW (cc := cX8_isKnown) (maxL := 4) (ret := (some .boolean)) (by decide) rfl ?_
  intro p e s m args below meth c s₁ B hml hv
  obtain ⟨rfl, hsz, hP, hK, hD0, hN⟩ := hv
  have hx := B.exec
  have hb := B.bytes
  have hr := B.returns
  have hts := atoms_spec (ws := wsX8_isKnown) B.pre
  have hown : s.vm.findClass RX8 = some m.cls := findClass_of_methodNamed B.named
  have hlocks := B.notSynchronized
  subst hsz
  have hD := hD0.self (sz := s.heap.size)
  generalize hAe : va_A [(oC8 ad gn), (aI cI (ad 42) 40 gk), (aI cI (ad 45) 40 ge)] s.heap.size = A at hD ⊢
  have hA : ∀ q : Nat, s.heap.size ≤ q → A q := fun q h => by rw [← hAe]; exact Or.inr h
  have hS : va_S A s.heap s.heap [] := va_S.rf
  have hP : va_P D vwCl [(oC8 ad gn), (aI cI (ad 42) 40 gk), (aI cI (ad 45) 40 ge)] s.heap := hP
  have hl := lv_entry ([.ref (ad 5), .int x, .int k, .int d]) (n := 4) (Nat.le_of_ble_eq_true rfl)
  rw [lg_entry_eq]
  generalize (lg_sl ([.ref (ad 5), .int x, .int k, .int d]) ++ List.replicate (4 - (lg_sl ([.ref (ad 5), .int x, .int k, .int d])).length) Slot.unset).toArray = ls at hl ⊢
  have hl : lv_has ls 4 [(0, .ref (ad 5)), (1, .int x), (2, .int k), (3, .int d)] := hl
  refine lv_aload_n hx hb dX8_isKnown_0 rfl (lv_at hl 0 rfl) ?_
  refine va_get (D := D) (ci := 8) (v := .ref (ad 42)) (C := RX8) (T := TX8) (N := 6) hx hb hts inX8_isKnown_X8 hown hK hP 0 rfl rfl 0 (by decide) (hts (Cond.fieldLink RX8 9 "PortRooms$Pledges" "crate" "[I") (wm_t (wm_l (wm_i 0 rfl)))) (fun _ h9 => h9) rfl dX8_isKnown_1 ?_
  refine lv_iload_n hx hb dX8_isKnown_4 rfl (lv_at hl 1 rfl) ?_
  refine va_iald hx hb hK hP 1 0 rfl rfl (i_in (by omega) (by omega)) dX8_isKnown_5 ?_
  refine lv_topi (fun v1 ev1 => ?_)
  have tlv1 : v1.toInt = (gk x.toNatClampNeg).toInt := by rw [ev1]
  refine lv_iload_n hx hb dX8_isKnown_6 rfl (lv_at hl 2 rfl) ?_
  refine lv_icmp_ne (tgt := 24) hx hb dX8_isKnown_7 (by decide) (fun c2 => ?_) (fun c2 => ?_)
  · skip
    have f3 := i_ne c2
    refine lv_iconst (v := 0) hx hb dX8_isKnown_24 (by decide) ?_
    have hP9 := hP
    have hD9 := hD
    exact W.zret (v := 0) hx hb hr rfl (fun t ht hW => ⟨⟨0, (), rfl, bo_no (by omega), by rw [ht]; exact hP9, va_K.moved hW.alike hK, hD9⟩, hS.F ht⟩) hS.2.2 dX8_isKnown_25
  · skip
    have f4 := i_eq c2
    refine lv_aload_n hx hb dX8_isKnown_10 rfl (lv_at hl 0 rfl) ?_
    refine va_get (D := D) (ci := 8) (v := .ref (ad 45)) (C := RX8) (T := TX8) (N := 6) hx hb hts inX8_isKnown_X8 hown hK hP 0 rfl rfl 3 (by decide) (hts (Cond.fieldLink RX8 21 "PortRooms$Pledges" "filed" "[I") (wm_t (wm_l (wm_i 1 rfl)))) (fun _ h9 => h9) rfl dX8_isKnown_11 ?_
    refine lv_iload_n hx hb dX8_isKnown_14 rfl (lv_at hl 1 rfl) ?_
    refine va_iald hx hb hK hP 2 0 rfl rfl (i_in (by omega) (by omega)) dX8_isKnown_15 ?_
    refine lv_topi (fun v5 ev5 => ?_)
    have tlv5 : v5.toInt = (ge x.toNatClampNeg).toInt := by rw [ev5]
    refine lv_iload_n hx hb dX8_isKnown_16 rfl (lv_at hl 3 rfl) ?_
    refine lv_icmp_gt (tgt := 24) hx hb dX8_isKnown_17 (by decide) (fun c6 => ?_) (fun c6 => ?_)
    · skip
      have f7 := i_lt c6
      refine lv_iconst (v := 0) hx hb dX8_isKnown_24 (by decide) ?_
      have hP9 := hP
      have hD9 := hD
      exact W.zret (v := 0) hx hb hr rfl (fun t ht hW => ⟨⟨0, (), rfl, bo_no (by omega), by rw [ht]; exact hP9, va_K.moved hW.alike hK, hD9⟩, hS.F ht⟩) hS.2.2 dX8_isKnown_25
    · skip
      have f8 := i_nlt c6
      refine lv_iconst (v := 1) hx hb dX8_isKnown_20 (by decide) ?_
      refine lv_goto (tgt := 25) hx hb dX8_isKnown_21 (by decide) ?_
      have hP9 := hP
      have hD9 := hD
      exact W.zret (v := 1) hx hb hr rfl (fun t ht hW => ⟨⟨1, (), rfl, bo_yes (by omega), by rw [ht]; exact hP9, va_K.moved hW.alike hK, hD9⟩, hS.F ht⟩) hS.2.2 dX8_isKnown_25

set_option maxHeartbeats 4000000 in
set_option maxRecDepth 100000 in
theorem ct_X8_sumsOn (l : Launch) (D : va_G) (cI cY cJ cQ : ClassId) (sz : Nat) (ad : Nat → Nat) (gn : Int32) (gk gs gd ge : Nat → Int32) (k : Int32) (d : Int32)  (h1 : 0 ≤ gn.toInt) (h2 : gn.toInt ≤ 40)  : Met l yX8_sumsOn wsX8_sumsOn ({ frames := 1, cells := 0, slots := 0, locals := 23 }) (cPre D (ty4 cI cY cJ cQ) [(oC8 ad gn), (aI cI (ad 42) 40 gk), (aI cI (ad 43) 40 gs), (aI cI (ad 44) 40 gd), (aI cI (ad 45) 40 ge)] sz [.ref (ad 5), .int k, .int d]) (va_Qi (fun (r : Int32) (u : Unit) => r = suV gk gs ge k d gn.toNatClampNeg) (cB D (ty4 cI cY cJ cQ) (fun (u : Unit) => [(oC8 ad gn), (aI cI (ad 42) 40 gk), (aI cI (ad 43) 40 gs), (aI cI (ad 44) 40 gd), (aI cI (ad 45) 40 ge)]) (va_A [(oC8 ad gn), (aI cI (ad 42) 40 gk), (aI cI (ad 43) 40 gs), (aI cI (ad 44) 40 gd), (aI cI (ad 45) 40 ge)] sz)) (va_A [(oC8 ad gn), (aI cI (ad 42) 40 gk), (aI cI (ad 43) 40 gs), (aI cI (ad 44) 40 gd), (aI cI (ad 45) 40 ge)] sz)) 0 0 (va_A [(oC8 ad gn), (aI cI (ad 42) 40 gk), (aI cI (ad 43) 40 gs), (aI cI (ad 44) 40 gd), (aI cI (ad 45) 40 ge)] sz) := by
  refine Met.ofW (cc := cX8_sumsOn) (maxL := 5) (ret := (some .int)) (by decide) rfl ?_
  intro p e s m args below meth c s₁ B hml hv
  obtain ⟨rfl, hsz, hP, hK, hD0, hN⟩ := hv
  have hx := B.exec
  have hb := B.bytes
  have hr := B.returns
  have hts := atoms_spec (ws := wsX8_sumsOn) B.pre
  have hown : s.vm.findClass RX8 = some m.cls := findClass_of_methodNamed B.named
  have hlocks := B.notSynchronized
  subst hsz
  have hD := hD0.self (sz := s.heap.size)
  generalize hAe : va_A [(oC8 ad gn), (aI cI (ad 42) 40 gk), (aI cI (ad 43) 40 gs), (aI cI (ad 44) 40 gd), (aI cI (ad 45) 40 ge)] s.heap.size = A at hD ⊢
  have hA : ∀ q : Nat, s.heap.size ≤ q → A q := fun q h => by rw [← hAe]; exact Or.inr h
  have hS : va_S A s.heap s.heap [] := va_S.rf
  have hP : va_P D vwCl [(oC8 ad gn), (aI cI (ad 42) 40 gk), (aI cI (ad 43) 40 gs), (aI cI (ad 44) 40 gd), (aI cI (ad 45) 40 ge)] s.heap := hP
  have hl := lv_entry ([.ref (ad 5), .int k, .int d]) (n := 5) (Nat.le_of_ble_eq_true rfl)
  rw [lg_entry_eq]
  generalize (lg_sl ([.ref (ad 5), .int k, .int d]) ++ List.replicate (5 - (lg_sl ([.ref (ad 5), .int k, .int d])).length) Slot.unset).toArray = ls at hl ⊢
  have hl : lv_has ls 5 [(0, .ref (ad 5)), (1, .int k), (2, .int d)] := hl
  have k0 : (0 : Int32).toInt = 0 := by decide
  have k1 : (1 : Int32).toInt = 1 := by decide
  refine lv_iconst (v := 0) hx hb dX8_sumsOn_0 (by decide) ?_
  refine lv_istore_n (lv' := [(3, .int 0), (0, .ref (ad 5)), (1, .int k), (2, .int d)]) hx hb dX8_sumsOn_1 rfl hl (by decide) rfl (fun ls hl => ?_)
  refine lv_iconst (v := 0) hx hb dX8_sumsOn_2 (by decide) ?_
  refine lv_istore (lv' := [(4, .int 0), (3, .int 0), (0, .ref (ad 5)), (1, .int k), (2, .int d)]) hx hb dX8_sumsOn_3 hl (by decide) rfl (fun ls hl => ?_)
  refine st_loop 5 (fun _ => []) (fun (z : Int32 × Int32) (ls : Array Slot) (H : Heap) (locs : List Loc) => match z with | (q5_3, q5_4) => (0 ≤ q5_4.toInt) ∧ (q5_4.toInt ≤ gn.toInt) ∧ (q5_3 = suV gk gs ge k d q5_4.toNatClampNeg) ∧ lv_has ls 5 [(0, .ref (ad 5)), (1, .int k), (2, .int d), (3, .int q5_3), (4, .int q5_4)] ∧ va_P D vwCl [(oC8 ad gn), (aI cI (ad 42) 40 gk), (aI cI (ad 43) 40 gs), (aI cI (ad 44) 40 gd), (aI cI (ad 45) 40 ge)] H ∧ va_D A [(oC8 ad gn), (aI cI (ad 42) 40 gk), (aI cI (ad 43) 40 gs), (aI cI (ad 44) 40 gd), (aI cI (ad 45) 40 ge)] ∧ va_S A s.heap H locs) (fun (z : Int32 × Int32) => match z with | (q5_3, q5_4) => gn.toInt - q5_4.toInt) ?_ ?_ ((0 : Int32), (0 : Int32)) ⟨(by omega), (by omega), (by rfl), lv_sub hl [2, 3, 4, 1, 0] rfl, hP, hD, hS⟩
  · rintro ⟨q5_3, q5_4⟩ ls H locs ⟨g1, g2, g3, hl, hP, hD, hS⟩
    show (0 : Int) ≤ gn.toInt - q5_4.toInt
    omega
  · rintro n6 ih4 ⟨q5_3, q5_4⟩ ls H locs ⟨g1, g2, g3, hl, hP, hD, hS⟩ hm5
    have hm5 : gn.toInt - q5_4.toInt < (n6 : Int) + 1 := hm5
    replace hl : lv_has ls 5 [(0, .ref (ad 5)), (1, .int k), (2, .int d), (3, .int q5_3), (4, .int q5_4)] := hl
    replace hP : va_P D vwCl [(oC8 ad gn), (aI cI (ad 42) 40 gk), (aI cI (ad 43) 40 gs), (aI cI (ad 44) 40 gd), (aI cI (ad 45) 40 ge)] H := hP
    replace hD : va_D A [(oC8 ad gn), (aI cI (ad 42) 40 gk), (aI cI (ad 43) 40 gs), (aI cI (ad 44) 40 gd), (aI cI (ad 45) 40 ge)] := hD
    show W _ _ _ _ _ _ _ _ _ _ _ _ _ _ _ (F0 m 5 ls [])
    refine lv_iload hx hb dX8_sumsOn_5 (lv_at hl 4 rfl) ?_
    refine lv_aload_n hx hb dX8_sumsOn_7 rfl (lv_at hl 0 rfl) ?_
    refine va_get (D := D) (ci := 8) (v := .int gn) (C := RX8) (T := TX8) (N := 6) hx hb hts inX8_sumsOn_X8 hown hK hP 0 rfl rfl 4 (by decide) (hts (Cond.fieldLink RX8 27 "PortRooms$Pledges" "count" "I") (wm_t (wm_l (wm_i 0 rfl)))) (fun _ h9 => h9) rfl dX8_sumsOn_8 ?_
    refine lv_icmp_ge (tgt := 41) hx hb dX8_sumsOn_11 (by decide) (fun c7 => ?_) (fun c7 => ?_)
    · skip
      have f8 := i_le c7
      refine lv_iload_n hx hb dX8_sumsOn_41 rfl (lv_at hl 3 rfl) ?_
      have ce8 := i_cl (x := q5_4) (by omega)
      have ce9 := i_cl (x := gn) (by omega)
      have ee9 : q5_4.toNatClampNeg = gn.toNatClampNeg := by omega
      have hz9 := g3
      rw [ee9] at hz9
      have hP9 := hP
      have hD9 := hD
      exact W.iret (v := q5_3) hx hb hr (fun t ht hW => ⟨⟨q5_3, (), rfl, hz9, by rw [ht]; exact hP9, va_K.moved hW.alike hK, hD9⟩, hS.F ht⟩) hS.2.2 dX8_sumsOn_42
    · skip
      have f9 := i_nle c7
      refine lv_aload_n hx hb dX8_sumsOn_14 rfl (lv_at hl 0 rfl) ?_
      refine lv_iload hx hb dX8_sumsOn_15 (lv_at hl 4 rfl) ?_
      refine lv_iload_n hx hb dX8_sumsOn_17 rfl (lv_at hl 1 rfl) ?_
      refine lv_iload_n hx hb dX8_sumsOn_18 rfl (lv_at hl 2 rfl) ?_
      refine st_i1 (va_runV (C := RX8) (As := [.int q5_4, .int k, .int d]) (rest := []) ⟨hx, hb, hml, hown, hts⟩ (ct_X8_isKnown l D cI cY cJ cQ _ ad gn gk ge q5_4 k d (by omega) (by omega)) (cwV 3 hts gX8_sumsOn_X8_isKnown rfl rfl rfl ⟨rfl, cdX8_isKnown⟩ ⟨Nat.le_of_ble_eq_true rfl, Nat.le_of_ble_eq_true rfl⟩) (cPreV (hP.sub [0, 1, 4] rfl) hK (hD.sub [0, 1, 4] (by decide +kernel) rfl) hN (ci := 8) (q0 := 0) rfl rfl) rfl rfl hl.1 rfl (lv_room (Nat.le_of_ble_eq_true rfl)) dX8_sumsOn_19 ⟨Nat.le_of_ble_eq_true rfl, Nat.le_of_ble_eq_true rfl⟩) hP hD hS hA [0, 1, 4] rfl (fun _ => rfl) (fun r12 u10 H locs hw11 => ?_)
      clear hP hS
      intro hP hS
      replace hw11 : r12 = if (gk q5_4.toNatClampNeg).toInt = k.toInt ∧ (ge q5_4.toNatClampNeg).toInt ≤ d.toInt then 1 else 0 := hw11
      refine lv_if_eq (tgt := 35) hx hb dX8_sumsOn_22 (by decide) (fun c13 => ?_) (fun c13 => ?_)
      · skip
        have f14 := bo_f hw11 c13
        obtain ⟨v15, ev15⟩ : ∃ y : Int32, y = q5_4 + 1 := ⟨_, rfl⟩
        try have tv15 : v15.toInt = q5_4.toInt + 1 := by rw [ev15]; exact (i_add (x := q5_4) (y := (1 : Int32)) (by rw [k1]; omega) (by rw [k1]; omega)).trans (by rw [k1])
        refine lv_iinc (v := v15) (lv' := [(4, .int v15), (0, .ref (ad 5)), (1, .int k), (2, .int d), (3, .int q5_3)]) hx hb dX8_sumsOn_35 hl (k := 4) rfl (by rw [ev15]; rfl) (by decide) rfl (fun ls hl => ?_)
        refine lv_goto (tgt := 5) hx hb dX8_sumsOn_38 (by decide) ?_
        have clk8 := i_cl (x := q5_4) (by omega)
        have clk9 := i_cl (x := v15) (by omega)
        have ek9 : v15.toNatClampNeg = q5_4.toNatClampNeg + 1 := by omega
        exact ih4 (q5_3, v15) ls H locs ⟨(by omega), (by omega), (by rw [ek9, suV_s, ← g3, if_neg (by omega)]), lv_sub hl [1, 2, 3, 4, 0] rfl, hP.sub [0, 1, 2, 3, 4] rfl, hD.sub [0, 1, 2, 3, 4] (by decide +kernel) rfl, hS⟩ (by show gn.toInt - v15.toInt < _; omega)
      · skip
        have f16 := bo_t hw11 c13
        refine lv_iload_n hx hb dX8_sumsOn_25 rfl (lv_at hl 3 rfl) ?_
        refine lv_aload_n hx hb dX8_sumsOn_26 rfl (lv_at hl 0 rfl) ?_
        refine va_get (D := D) (ci := 8) (v := .ref (ad 43)) (C := RX8) (T := TX8) (N := 6) hx hb hts inX8_sumsOn_X8 hown hK hP 0 rfl rfl 1 (by decide) (hts (Cond.fieldLink RX8 15 "PortRooms$Pledges" "sum" "[I") (wm_t (wm_l (wm_i 1 rfl)))) (fun _ h9 => h9) rfl dX8_sumsOn_27 ?_
        refine lv_iload hx hb dX8_sumsOn_30 (lv_at hl 4 rfl) ?_
        refine va_iald hx hb hK hP 2 0 rfl rfl (i_in (by omega) (by omega)) dX8_sumsOn_32 ?_
        refine lv_topi (fun v17 ev17 => ?_)
        refine lv_iadd hx hb dX8_sumsOn_33 ?_
        refine lv_topi (fun v18 ev18 => ?_)
        refine lv_istore_n (lv' := [(3, .int v18), (0, .ref (ad 5)), (1, .int k), (2, .int d), (4, .int q5_4)]) hx hb dX8_sumsOn_34 rfl hl (by decide) rfl (fun ls hl => ?_)
        obtain ⟨v19, ev19⟩ : ∃ y : Int32, y = q5_4 + 1 := ⟨_, rfl⟩
        try have tv19 : v19.toInt = q5_4.toInt + 1 := by rw [ev19]; exact (i_add (x := q5_4) (y := (1 : Int32)) (by rw [k1]; omega) (by rw [k1]; omega)).trans (by rw [k1])
        refine lv_iinc (v := v19) (lv' := [(4, .int v19), (3, .int v18), (0, .ref (ad 5)), (1, .int k), (2, .int d)]) hx hb dX8_sumsOn_35 hl (k := 4) rfl (by rw [ev19]; rfl) (by decide) rfl (fun ls hl => ?_)
        refine lv_goto (tgt := 5) hx hb dX8_sumsOn_38 (by decide) ?_
        have clk8 := i_cl (x := q5_4) (by omega)
        have clk9 := i_cl (x := v19) (by omega)
        have ek9 : v19.toNatClampNeg = q5_4.toNatClampNeg + 1 := by omega
        exact ih4 (v18, v19) ls H locs ⟨(by omega), (by omega), (by rw [ek9, suV_s, ← g3, if_pos (by omega), ev18, ev17]), lv_sub hl [2, 3, 4, 1, 0] rfl, hP.sub [0, 1, 2, 3, 4] rfl, hD.sub [0, 1, 2, 3, 4] (by decide +kernel) rfl, hS⟩ (by show gn.toInt - v19.toInt < _; omega)

set_option maxHeartbeats 4000000 in
set_option maxRecDepth 100000 in
theorem ct_X8_isAhead (l : Launch) (D : va_G) (cI cY cJ cQ : ClassId) (sz : Nat) (ad : Nat → Nat) (gn : Int32) (gk gs gd ge : Nat → Int32) (x : Int32) (y : Int32) (z : Int32)  (h1 : 0 ≤ x.toInt) (h2 : x.toInt < 40) (h3 : 0 ≤ y.toInt) (h4 : y.toInt < 40)  : Met l yX8_isAhead wsX8_isAhead ({ frames := 0, cells := 0, slots := 0, locals := 0 }) (cPre D (ty4 cI cY cJ cQ) [(oC8 ad gn), (aI cI (ad 42) 40 gk), (aI cI (ad 43) 40 gs), (aI cI (ad 44) 40 gd), (aI cI (ad 45) 40 ge)] sz [.ref (ad 5), .int x, .int y, .int z]) (va_Qi (fun (r : Int32) (u : Unit) => r = 0 ∨ r = 1) (cB D (ty4 cI cY cJ cQ) (fun (u : Unit) => [(oC8 ad gn), (aI cI (ad 42) 40 gk), (aI cI (ad 43) 40 gs), (aI cI (ad 44) 40 gd), (aI cI (ad 45) 40 ge)]) (va_A [(oC8 ad gn), (aI cI (ad 42) 40 gk), (aI cI (ad 43) 40 gs), (aI cI (ad 44) 40 gd), (aI cI (ad 45) 40 ge)] sz)) (va_A [(oC8 ad gn), (aI cI (ad 42) 40 gk), (aI cI (ad 43) 40 gs), (aI cI (ad 44) 40 gd), (aI cI (ad 45) 40 ge)] sz)) 0 0 (va_A [(oC8 ad gn), (aI cI (ad 42) 40 gk), (aI cI (ad 43) 40 gs), (aI cI (ad 44) 40 gd), (aI cI (ad 45) 40 ge)] sz) := by
  refine Met.ofW (cc := cX8_isAhead) (maxL := 4) (ret := (some .boolean)) (by decide) rfl ?_
  intro p e s m args below meth c s₁ B hml hv
  obtain ⟨rfl, hsz, hP, hK, hD0, hN⟩ := hv
  have hx := B.exec
  have hb := B.bytes
  have hr := B.returns
  have hts := atoms_spec (ws := wsX8_isAhead) B.pre
  have hown : s.vm.findClass RX8 = some m.cls := findClass_of_methodNamed B.named
  have hlocks := B.notSynchronized
  subst hsz
  have hD := hD0.self (sz := s.heap.size)
  generalize hAe : va_A [(oC8 ad gn), (aI cI (ad 42) 40 gk), (aI cI (ad 43) 40 gs), (aI cI (ad 44) 40 gd), (aI cI (ad 45) 40 ge)] s.heap.size = A at hD ⊢
  have hA : ∀ q : Nat, s.heap.size ≤ q → A q := fun q h => by rw [← hAe]; exact Or.inr h
  have hS : va_S A s.heap s.heap [] := va_S.rf
  have hP : va_P D vwCl [(oC8 ad gn), (aI cI (ad 42) 40 gk), (aI cI (ad 43) 40 gs), (aI cI (ad 44) 40 gd), (aI cI (ad 45) 40 ge)] s.heap := hP
  have hl := lv_entry ([.ref (ad 5), .int x, .int y, .int z]) (n := 4) (Nat.le_of_ble_eq_true rfl)
  rw [lg_entry_eq]
  generalize (lg_sl ([.ref (ad 5), .int x, .int y, .int z]) ++ List.replicate (4 - (lg_sl ([.ref (ad 5), .int x, .int y, .int z])).length) Slot.unset).toArray = ls at hl ⊢
  have hl : lv_has ls 4 [(0, .ref (ad 5)), (1, .int x), (2, .int y), (3, .int z)] := hl
  refine lv_iload_n hx hb dX8_isAhead_0 rfl (lv_at hl 3 rfl) ?_
  rcases (show (z.toInt < 0 ∨ 2 < z.toInt) ∨ z.toInt = 0 ∨ z.toInt = 1 ∨ z.toInt = 2 by omega) with hsw1 | hsw1 | hsw1 | hsw1
  · skip
    refine lv_tableOut (tgt := 91) hx hb dX8_isAhead_1 hsw1 (by decide) ?_
    refine lv_aload_n hx hb dX8_isAhead_91 rfl (lv_at hl 0 rfl) ?_
    refine va_get (D := D) (ci := 8) (v := .ref (ad 45)) (C := RX8) (T := TX8) (N := 6) hx hb hts inX8_isAhead_X8 hown hK hP 0 rfl rfl 3 (by decide) (hts (Cond.fieldLink RX8 21 "PortRooms$Pledges" "filed" "[I") (wm_t (wm_l (wm_i 0 rfl)))) (fun _ h9 => h9) rfl dX8_isAhead_92 ?_
    refine lv_iload_n hx hb dX8_isAhead_95 rfl (lv_at hl 1 rfl) ?_
    refine va_iald hx hb hK hP 4 0 rfl rfl (i_in (by omega) (by omega)) dX8_isAhead_96 ?_
    refine lv_topi (fun v2 ev2 => ?_)
    refine lv_aload_n hx hb dX8_isAhead_97 rfl (lv_at hl 0 rfl) ?_
    refine va_get (D := D) (ci := 8) (v := .ref (ad 45)) (C := RX8) (T := TX8) (N := 6) hx hb hts inX8_isAhead_X8 hown hK hP 0 rfl rfl 3 (by decide) (hts (Cond.fieldLink RX8 21 "PortRooms$Pledges" "filed" "[I") (wm_t (wm_l (wm_i 0 rfl)))) (fun _ h9 => h9) rfl dX8_isAhead_98 ?_
    refine lv_iload_n hx hb dX8_isAhead_101 rfl (lv_at hl 2 rfl) ?_
    refine va_iald hx hb hK hP 4 0 rfl rfl (i_in (by omega) (by omega)) dX8_isAhead_102 ?_
    refine lv_topi (fun v3 ev3 => ?_)
    refine lv_icmp_le (tgt := 110) hx hb dX8_isAhead_103 (by decide) (fun c4 => ?_) (fun c4 => ?_)
    · skip
      have f5 := i_le c4
      refine lv_iconst (v := 0) hx hb dX8_isAhead_110 (by decide) ?_
      have hP9 := hP
      have hD9 := hD
      exact W.zret (v := 0) hx hb hr rfl (fun t ht hW => ⟨⟨0, (), rfl, (by first | exact Or.inl rfl | exact Or.inr rfl), by rw [ht]; exact hP9, va_K.moved hW.alike hK, hD9⟩, hS.F ht⟩) hS.2.2 dX8_isAhead_111
    · skip
      have f6 := i_nle c4
      refine lv_iconst (v := 1) hx hb dX8_isAhead_106 (by decide) ?_
      refine lv_goto (tgt := 111) hx hb dX8_isAhead_107 (by decide) ?_
      have hP9 := hP
      have hD9 := hD
      exact W.zret (v := 1) hx hb hr rfl (fun t ht hW => ⟨⟨1, (), rfl, (by first | exact Or.inl rfl | exact Or.inr rfl), by rw [ht]; exact hP9, va_K.moved hW.alike hK, hD9⟩, hS.F ht⟩) hS.2.2 dX8_isAhead_111
  · skip
    refine lv_tableIn (tgt := 28) (off := 27) hx hb dX8_isAhead_1 (by omega) (by omega) (by rw [hsw1]; rfl) (by decide) ?_
    refine lv_aload_n hx hb dX8_isAhead_28 rfl (lv_at hl 0 rfl) ?_
    refine va_get (D := D) (ci := 8) (v := .ref (ad 45)) (C := RX8) (T := TX8) (N := 6) hx hb hts inX8_isAhead_X8 hown hK hP 0 rfl rfl 3 (by decide) (hts (Cond.fieldLink RX8 21 "PortRooms$Pledges" "filed" "[I") (wm_t (wm_l (wm_i 0 rfl)))) (fun _ h9 => h9) rfl dX8_isAhead_29 ?_
    refine lv_iload_n hx hb dX8_isAhead_32 rfl (lv_at hl 1 rfl) ?_
    refine va_iald hx hb hK hP 4 0 rfl rfl (i_in (by omega) (by omega)) dX8_isAhead_33 ?_
    refine lv_topi (fun v7 ev7 => ?_)
    refine lv_aload_n hx hb dX8_isAhead_34 rfl (lv_at hl 0 rfl) ?_
    refine va_get (D := D) (ci := 8) (v := .ref (ad 45)) (C := RX8) (T := TX8) (N := 6) hx hb hts inX8_isAhead_X8 hown hK hP 0 rfl rfl 3 (by decide) (hts (Cond.fieldLink RX8 21 "PortRooms$Pledges" "filed" "[I") (wm_t (wm_l (wm_i 0 rfl)))) (fun _ h9 => h9) rfl dX8_isAhead_35 ?_
    refine lv_iload_n hx hb dX8_isAhead_38 rfl (lv_at hl 2 rfl) ?_
    refine va_iald hx hb hK hP 4 0 rfl rfl (i_in (by omega) (by omega)) dX8_isAhead_39 ?_
    refine lv_topi (fun v8 ev8 => ?_)
    refine lv_icmp_ge (tgt := 47) hx hb dX8_isAhead_40 (by decide) (fun c9 => ?_) (fun c9 => ?_)
    · skip
      have f10 := i_le c9
      refine lv_iconst (v := 0) hx hb dX8_isAhead_47 (by decide) ?_
      have hP9 := hP
      have hD9 := hD
      exact W.zret (v := 0) hx hb hr rfl (fun t ht hW => ⟨⟨0, (), rfl, (by first | exact Or.inl rfl | exact Or.inr rfl), by rw [ht]; exact hP9, va_K.moved hW.alike hK, hD9⟩, hS.F ht⟩) hS.2.2 dX8_isAhead_48
    · skip
      have f11 := i_nle c9
      refine lv_iconst (v := 1) hx hb dX8_isAhead_43 (by decide) ?_
      refine lv_goto (tgt := 48) hx hb dX8_isAhead_44 (by decide) ?_
      have hP9 := hP
      have hD9 := hD
      exact W.zret (v := 1) hx hb hr rfl (fun t ht hW => ⟨⟨1, (), rfl, (by first | exact Or.inl rfl | exact Or.inr rfl), by rw [ht]; exact hP9, va_K.moved hW.alike hK, hD9⟩, hS.F ht⟩) hS.2.2 dX8_isAhead_48
  · skip
    refine lv_tableIn (tgt := 49) (off := 48) hx hb dX8_isAhead_1 (by omega) (by omega) (by rw [hsw1]; rfl) (by decide) ?_
    refine lv_aload_n hx hb dX8_isAhead_49 rfl (lv_at hl 0 rfl) ?_
    refine va_get (D := D) (ci := 8) (v := .ref (ad 44)) (C := RX8) (T := TX8) (N := 6) hx hb hts inX8_isAhead_X8 hown hK hP 0 rfl rfl 2 (by decide) (hts (Cond.fieldLink RX8 18 "PortRooms$Pledges" "said" "[I") (wm_t (wm_l (wm_i 1 rfl)))) (fun _ h9 => h9) rfl dX8_isAhead_50 ?_
    refine lv_iload_n hx hb dX8_isAhead_53 rfl (lv_at hl 1 rfl) ?_
    refine va_iald hx hb hK hP 3 0 rfl rfl (i_in (by omega) (by omega)) dX8_isAhead_54 ?_
    refine lv_topi (fun v12 ev12 => ?_)
    refine lv_aload_n hx hb dX8_isAhead_55 rfl (lv_at hl 0 rfl) ?_
    refine va_get (D := D) (ci := 8) (v := .ref (ad 44)) (C := RX8) (T := TX8) (N := 6) hx hb hts inX8_isAhead_X8 hown hK hP 0 rfl rfl 2 (by decide) (hts (Cond.fieldLink RX8 18 "PortRooms$Pledges" "said" "[I") (wm_t (wm_l (wm_i 1 rfl)))) (fun _ h9 => h9) rfl dX8_isAhead_56 ?_
    refine lv_iload_n hx hb dX8_isAhead_59 rfl (lv_at hl 2 rfl) ?_
    refine va_iald hx hb hK hP 3 0 rfl rfl (i_in (by omega) (by omega)) dX8_isAhead_60 ?_
    refine lv_topi (fun v13 ev13 => ?_)
    refine lv_icmp_ge (tgt := 68) hx hb dX8_isAhead_61 (by decide) (fun c14 => ?_) (fun c14 => ?_)
    · skip
      have f15 := i_le c14
      refine lv_iconst (v := 0) hx hb dX8_isAhead_68 (by decide) ?_
      have hP9 := hP
      have hD9 := hD
      exact W.zret (v := 0) hx hb hr rfl (fun t ht hW => ⟨⟨0, (), rfl, (by first | exact Or.inl rfl | exact Or.inr rfl), by rw [ht]; exact hP9, va_K.moved hW.alike hK, hD9⟩, hS.F ht⟩) hS.2.2 dX8_isAhead_69
    · skip
      have f16 := i_nle c14
      refine lv_iconst (v := 1) hx hb dX8_isAhead_64 (by decide) ?_
      refine lv_goto (tgt := 69) hx hb dX8_isAhead_65 (by decide) ?_
      have hP9 := hP
      have hD9 := hD
      exact W.zret (v := 1) hx hb hr rfl (fun t ht hW => ⟨⟨1, (), rfl, (by first | exact Or.inl rfl | exact Or.inr rfl), by rw [ht]; exact hP9, va_K.moved hW.alike hK, hD9⟩, hS.F ht⟩) hS.2.2 dX8_isAhead_69
  · skip
    refine lv_tableIn (tgt := 70) (off := 69) hx hb dX8_isAhead_1 (by omega) (by omega) (by rw [hsw1]; rfl) (by decide) ?_
    refine lv_aload_n hx hb dX8_isAhead_70 rfl (lv_at hl 0 rfl) ?_
    refine va_get (D := D) (ci := 8) (v := .ref (ad 43)) (C := RX8) (T := TX8) (N := 6) hx hb hts inX8_isAhead_X8 hown hK hP 0 rfl rfl 1 (by decide) (hts (Cond.fieldLink RX8 15 "PortRooms$Pledges" "sum" "[I") (wm_t (wm_l (wm_i 2 rfl)))) (fun _ h9 => h9) rfl dX8_isAhead_71 ?_
    refine lv_iload_n hx hb dX8_isAhead_74 rfl (lv_at hl 1 rfl) ?_
    refine va_iald hx hb hK hP 2 0 rfl rfl (i_in (by omega) (by omega)) dX8_isAhead_75 ?_
    refine lv_topi (fun v17 ev17 => ?_)
    refine lv_aload_n hx hb dX8_isAhead_76 rfl (lv_at hl 0 rfl) ?_
    refine va_get (D := D) (ci := 8) (v := .ref (ad 43)) (C := RX8) (T := TX8) (N := 6) hx hb hts inX8_isAhead_X8 hown hK hP 0 rfl rfl 1 (by decide) (hts (Cond.fieldLink RX8 15 "PortRooms$Pledges" "sum" "[I") (wm_t (wm_l (wm_i 2 rfl)))) (fun _ h9 => h9) rfl dX8_isAhead_77 ?_
    refine lv_iload_n hx hb dX8_isAhead_80 rfl (lv_at hl 2 rfl) ?_
    refine va_iald hx hb hK hP 2 0 rfl rfl (i_in (by omega) (by omega)) dX8_isAhead_81 ?_
    refine lv_topi (fun v18 ev18 => ?_)
    refine lv_icmp_le (tgt := 89) hx hb dX8_isAhead_82 (by decide) (fun c19 => ?_) (fun c19 => ?_)
    · skip
      have f20 := i_le c19
      refine lv_iconst (v := 0) hx hb dX8_isAhead_89 (by decide) ?_
      have hP9 := hP
      have hD9 := hD
      exact W.zret (v := 0) hx hb hr rfl (fun t ht hW => ⟨⟨0, (), rfl, (by first | exact Or.inl rfl | exact Or.inr rfl), by rw [ht]; exact hP9, va_K.moved hW.alike hK, hD9⟩, hS.F ht⟩) hS.2.2 dX8_isAhead_90
    · skip
      have f21 := i_nle c19
      refine lv_iconst (v := 1) hx hb dX8_isAhead_85 (by decide) ?_
      refine lv_goto (tgt := 90) hx hb dX8_isAhead_86 (by decide) ?_
      have hP9 := hP
      have hD9 := hD
      exact W.zret (v := 1) hx hb hr rfl (fun t ht hW => ⟨⟨1, (), rfl, (by first | exact Or.inl rfl | exact Or.inr rfl), by rw [ht]; exact hP9, va_K.moved hW.alike hK, hD9⟩, hS.F ht⟩) hS.2.2 dX8_isAhead_90

set_option maxHeartbeats 4000000 in
set_option maxRecDepth 100000 in
theorem ct_X8_putBehind (l : Launch) (D : va_G) (cI cY cJ cQ : ClassId) (sz : Nat) (ad : Nat → Nat) (gn : Int32) (gk gs gd ge gr : Nat → Int32) (n : Int32) (x : Int32) (zl : Int32)  (h1 : gn.toInt ≤ 40) (h2 : 0 ≤ n.toInt) (h3 : n.toInt < 40) (h4 : 0 ≤ x.toInt) (h5 : x.toInt < gn.toInt) (h6 : n.toInt ≤ x.toInt) (h7 : okR n gn gr)  : Met l yX8_putBehind wsX8_putBehind ({ frames := 1, cells := 0, slots := 0, locals := 23 }) (cPre D (ty4 cI cY cJ cQ) [(oC8 ad gn), (aI cI (ad 42) 40 gk), (aI cI (ad 43) 40 gs), (aI cI (ad 44) 40 gd), (aI cI (ad 45) 40 ge), (aI cI (ad 46) 40 gr)] sz [.ref (ad 5), .int n, .int x, .int zl]) (va_Qv (fun (u : (Nat → Int32)) => ∀ b : Int32, b.toInt = n.toInt + 1 → okR b gn u) (cB D (ty4 cI cY cJ cQ) (fun (u : (Nat → Int32)) => [(oC8 ad gn), (aI cI (ad 42) 40 gk), (aI cI (ad 43) 40 gs), (aI cI (ad 44) 40 gd), (aI cI (ad 45) 40 ge), (aI cI (ad 46) 40 u)]) (va_A [(oC8 ad gn), (aI cI (ad 42) 40 gk), (aI cI (ad 43) 40 gs), (aI cI (ad 44) 40 gd), (aI cI (ad 45) 40 ge), (aI cI (ad 46) 40 gr)] sz)) (va_A [(oC8 ad gn), (aI cI (ad 42) 40 gk), (aI cI (ad 43) 40 gs), (aI cI (ad 44) 40 gd), (aI cI (ad 45) 40 ge), (aI cI (ad 46) 40 gr)] sz)) 0 0 (va_A [(oC8 ad gn), (aI cI (ad 42) 40 gk), (aI cI (ad 43) 40 gs), (aI cI (ad 44) 40 gd), (aI cI (ad 45) 40 ge), (aI cI (ad 46) 40 gr)] sz) := by
  refine Met.ofW (cc := cX8_putBehind) (maxL := 5) (ret := none) (by decide) rfl ?_
  intro p e s m args below meth c s₁ B hml hv
  obtain ⟨rfl, hsz, hP, hK, hD0, hN⟩ := hv
  have hx := B.exec
  have hb := B.bytes
  have hr := B.returns
  have hts := atoms_spec (ws := wsX8_putBehind) B.pre
  have hown : s.vm.findClass RX8 = some m.cls := findClass_of_methodNamed B.named
  have hlocks := B.notSynchronized
  subst hsz
  have hD := hD0.self (sz := s.heap.size)
  generalize hAe : va_A [(oC8 ad gn), (aI cI (ad 42) 40 gk), (aI cI (ad 43) 40 gs), (aI cI (ad 44) 40 gd), (aI cI (ad 45) 40 ge), (aI cI (ad 46) 40 gr)] s.heap.size = A at hD ⊢
  have hA : ∀ q : Nat, s.heap.size ≤ q → A q := fun q h => by rw [← hAe]; exact Or.inr h
  have hS : va_S A s.heap s.heap [] := va_S.rf
  have hP : va_P D vwCl [(oC8 ad gn), (aI cI (ad 42) 40 gk), (aI cI (ad 43) 40 gs), (aI cI (ad 44) 40 gd), (aI cI (ad 45) 40 ge), (aI cI (ad 46) 40 gr)] s.heap := hP
  have hl := lv_entry ([.ref (ad 5), .int n, .int x, .int zl]) (n := 5) (Nat.le_of_ble_eq_true rfl)
  rw [lg_entry_eq]
  generalize (lg_sl ([.ref (ad 5), .int n, .int x, .int zl]) ++ List.replicate (5 - (lg_sl ([.ref (ad 5), .int n, .int x, .int zl])).length) Slot.unset).toArray = ls at hl ⊢
  have hl : lv_has ls 5 [(0, .ref (ad 5)), (1, .int n), (2, .int x), (3, .int zl)] := hl
  have km1 : (-1 : Int32).toInt = -1 := by decide
  have k0 : (0 : Int32).toInt = 0 := by decide
  have k1 : (1 : Int32).toInt = 1 := by decide
  refine lv_iload_n hx hb dX8_putBehind_0 rfl (lv_at hl 1 rfl) ?_
  refine lv_istore (lv' := [(4, .int n), (0, .ref (ad 5)), (1, .int n), (2, .int x), (3, .int zl)]) hx hb dX8_putBehind_1 hl (by decide) rfl (fun ls hl => ?_)
  refine st_loop 3 (fun _ => []) (fun (z : Int32 × (Nat → Int32)) (ls : Array Slot) (H : Heap) (locs : List Loc) => match z with | (q3_4, oq) => (0 ≤ q3_4.toInt) ∧ (q3_4.toInt ≤ n.toInt) ∧ (okQ n q3_4 gn oq) ∧ lv_has ls 5 [(0, .ref (ad 5)), (1, .int n), (2, .int x), (3, .int zl), (4, .int q3_4)] ∧ va_P D vwCl [(oC8 ad gn), (aI cI (ad 42) 40 gk), (aI cI (ad 43) 40 gs), (aI cI (ad 44) 40 gd), (aI cI (ad 45) 40 ge), (aI cI (ad 46) 40 oq)] H ∧ va_D A [(oC8 ad gn), (aI cI (ad 42) 40 gk), (aI cI (ad 43) 40 gs), (aI cI (ad 44) 40 gd), (aI cI (ad 45) 40 ge), (aI cI (ad 46) 40 oq)] ∧ va_S A s.heap H locs) (fun (z : Int32 × (Nat → Int32)) => match z with | (q3_4, oq) => q3_4.toInt) ?_ ?_ (n, gr) ⟨(by omega), (by omega), (by exact okQ_0 h7), lv_sub hl [1, 2, 3, 4, 0] rfl, hP, hD, hS⟩
  · rintro ⟨q3_4, oq⟩ ls H locs ⟨g1, g2, g3, hl, hP, hD, hS⟩
    show (0 : Int) ≤ q3_4.toInt
    omega
  · rintro n6 ih4 ⟨q3_4, oq⟩ ls H locs ⟨g1, g2, g3, hl, hP, hD, hS⟩ hm5
    have hm5 : q3_4.toInt < (n6 : Int) + 1 := hm5
    replace hl : lv_has ls 5 [(0, .ref (ad 5)), (1, .int n), (2, .int x), (3, .int zl), (4, .int q3_4)] := hl
    replace hP : va_P D vwCl [(oC8 ad gn), (aI cI (ad 42) 40 gk), (aI cI (ad 43) 40 gs), (aI cI (ad 44) 40 gd), (aI cI (ad 45) 40 ge), (aI cI (ad 46) 40 oq)] H := hP
    replace hD : va_D A [(oC8 ad gn), (aI cI (ad 42) 40 gk), (aI cI (ad 43) 40 gs), (aI cI (ad 44) 40 gd), (aI cI (ad 45) 40 ge), (aI cI (ad 46) 40 oq)] := hD
    show W _ _ _ _ _ _ _ _ _ _ _ _ _ _ _ (F0 m 3 ls [])
    refine lv_iload hx hb dX8_putBehind_3 (lv_at hl 4 rfl) ?_
    refine lv_if_le (tgt := 48) hx hb dX8_putBehind_5 (by decide) (fun c7 => ?_) (fun c7 => ?_)
    · skip
      have f8 := i_le c7
      refine lv_aload_n hx hb dX8_putBehind_48 rfl (lv_at hl 0 rfl) ?_
      refine va_get (D := D) (ci := 8) (v := .ref (ad 46)) (C := RX8) (T := TX8) (N := 6) hx hb hts inX8_putBehind_X8 hown hK hP 0 rfl rfl 5 (by decide) (hts (Cond.fieldLink RX8 24 "PortRooms$Pledges" "order" "[I") (wm_t (wm_l (wm_i 0 rfl)))) (fun _ h9 => h9) rfl dX8_putBehind_49 ?_
      refine lv_iload hx hb dX8_putBehind_52 (lv_at hl 4 rfl) ?_
      refine lv_iload_n hx hb dX8_putBehind_54 rfl (lv_at hl 2 rfl) ?_
      refine va_iast hx hb hK hP hD hS 5 0 rfl rfl (i_in (by omega) (by omega)) dX8_putBehind_55 (fun H locs => ?_)
      clear hP hD hS
      intro hP hD hS
      replace hP : va_P D vwCl [(oC8 ad gn), (aI cI (ad 42) 40 gk), (aI cI (ad 43) 40 gs), (aI cI (ad 44) 40 gd), (aI cI (ad 45) 40 ge), (aI cI (ad 46) 40 (upd oq q3_4.toNatClampNeg x))] H := hP
      replace hD : va_D A [(oC8 ad gn), (aI cI (ad 42) 40 gk), (aI cI (ad 43) 40 gs), (aI cI (ad 44) 40 gd), (aI cI (ad 45) 40 ge), (aI cI (ad 46) 40 (upd oq q3_4.toNatClampNeg x))] := hD
      have hP9 := hP
      have hD9 := hD
      exact W.vret hx hb hr (fun t ht hW => ⟨⟨upd oq q3_4.toNatClampNeg x, rfl, fun b hb9 => okQ_end g3 hb9 (by omega) (by omega) (by omega), by rw [ht]; exact hP9, va_K.moved hW.alike hK, hD9⟩, hS.F ht⟩) hS.2.2 dX8_putBehind_56
    · skip
      have f9 := i_nle c7
      refine lv_aload_n hx hb dX8_putBehind_8 rfl (lv_at hl 0 rfl) ?_
      refine lv_iload_n hx hb dX8_putBehind_9 rfl (lv_at hl 2 rfl) ?_
      refine lv_aload_n hx hb dX8_putBehind_10 rfl (lv_at hl 0 rfl) ?_
      refine va_get (D := D) (ci := 8) (v := .ref (ad 46)) (C := RX8) (T := TX8) (N := 6) hx hb hts inX8_putBehind_X8 hown hK hP 0 rfl rfl 5 (by decide) (hts (Cond.fieldLink RX8 24 "PortRooms$Pledges" "order" "[I") (wm_t (wm_l (wm_i 0 rfl)))) (fun _ h9 => h9) rfl dX8_putBehind_11 ?_
      refine lv_iload hx hb dX8_putBehind_14 (lv_at hl 4 rfl) ?_
      refine lv_iconst (v := 1) hx hb dX8_putBehind_16 (by decide) ?_
      refine lv_isub hx hb dX8_putBehind_17 ?_
      refine lv_topi (fun v10 ev10 => ?_)
      try have tv10 : v10.toInt = q3_4.toInt - 1 := by rw [ev10]; exact (i_sub (x := q3_4) (y := (1 : Int32)) (by rw [k1]; omega) (by rw [k1]; omega)).trans (by rw [k1])
      refine va_iald hx hb hK hP 5 0 rfl rfl (i_in (by omega) (by omega)) dX8_putBehind_18 ?_
      refine lv_topi (fun v11 ev11 => ?_)
      have qv11 := okQ_at g3 ev11 (by omega) (by omega) (by omega)
      refine lv_iload_n hx hb dX8_putBehind_19 rfl (lv_at hl 3 rfl) ?_
      refine st_i1 (va_runV (C := RX8) (As := [.int x, .int v11, .int zl]) (rest := []) ⟨hx, hb, hml, hown, hts⟩ (ct_X8_isAhead l D cI cY cJ cQ _ ad gn gk gs gd ge x v11 zl h4 (by omega) (by omega) (by omega)) (cwV 3 hts gX8_putBehind_X8_isAhead rfl rfl rfl ⟨rfl, cdX8_isAhead⟩ ⟨Nat.le_of_ble_eq_true rfl, Nat.le_of_ble_eq_true rfl⟩) (cPreV (hP.sub [0, 1, 2, 3, 4] rfl) hK (hD.sub [0, 1, 2, 3, 4] (by decide +kernel) rfl) hN (ci := 8) (q0 := 0) rfl rfl) rfl rfl hl.1 rfl (lv_room (Nat.le_of_ble_eq_true rfl)) dX8_putBehind_20 ⟨Nat.le_of_ble_eq_true rfl, Nat.le_of_ble_eq_true rfl⟩) hP hD hS hA [0, 1, 2, 3, 4] rfl (fun _ => rfl) (fun r14 u12 H locs hw13 => ?_)
      clear hP hS
      intro hP hS
      replace hw13 : r14 = 0 ∨ r14 = 1 := hw13
      refine lv_if_eq (tgt := 48) hx hb dX8_putBehind_23 (by decide) (fun c15 => ?_) (fun c15 => ?_)
      · skip
        have f16 := i_eq c15
        refine lv_aload_n hx hb dX8_putBehind_48 rfl (lv_at hl 0 rfl) ?_
        refine va_get (D := D) (ci := 8) (v := .ref (ad 46)) (C := RX8) (T := TX8) (N := 6) hx hb hts inX8_putBehind_X8 hown hK hP 0 rfl rfl 5 (by decide) (hts (Cond.fieldLink RX8 24 "PortRooms$Pledges" "order" "[I") (wm_t (wm_l (wm_i 0 rfl)))) (fun _ h9 => h9) rfl dX8_putBehind_49 ?_
        refine lv_iload hx hb dX8_putBehind_52 (lv_at hl 4 rfl) ?_
        refine lv_iload_n hx hb dX8_putBehind_54 rfl (lv_at hl 2 rfl) ?_
        refine va_iast hx hb hK hP hD hS 5 0 rfl rfl (i_in (by omega) (by omega)) dX8_putBehind_55 (fun H locs => ?_)
        clear hP hD hS
        intro hP hD hS
        replace hP : va_P D vwCl [(oC8 ad gn), (aI cI (ad 42) 40 gk), (aI cI (ad 43) 40 gs), (aI cI (ad 44) 40 gd), (aI cI (ad 45) 40 ge), (aI cI (ad 46) 40 (upd oq q3_4.toNatClampNeg x))] H := hP
        replace hD : va_D A [(oC8 ad gn), (aI cI (ad 42) 40 gk), (aI cI (ad 43) 40 gs), (aI cI (ad 44) 40 gd), (aI cI (ad 45) 40 ge), (aI cI (ad 46) 40 (upd oq q3_4.toNatClampNeg x))] := hD
        have hP9 := hP
        have hD9 := hD
        exact W.vret hx hb hr (fun t ht hW => ⟨⟨upd oq q3_4.toNatClampNeg x, rfl, fun b hb9 => okQ_end g3 hb9 (by omega) (by omega) (by omega), by rw [ht]; exact hP9, va_K.moved hW.alike hK, hD9⟩, hS.F ht⟩) hS.2.2 dX8_putBehind_56
      · skip
        have f17 := i_ne c15
        refine lv_aload_n hx hb dX8_putBehind_26 rfl (lv_at hl 0 rfl) ?_
        refine va_get (D := D) (ci := 8) (v := .ref (ad 46)) (C := RX8) (T := TX8) (N := 6) hx hb hts inX8_putBehind_X8 hown hK hP 0 rfl rfl 5 (by decide) (hts (Cond.fieldLink RX8 24 "PortRooms$Pledges" "order" "[I") (wm_t (wm_l (wm_i 0 rfl)))) (fun _ h9 => h9) rfl dX8_putBehind_27 ?_
        refine lv_iload hx hb dX8_putBehind_30 (lv_at hl 4 rfl) ?_
        refine lv_aload_n hx hb dX8_putBehind_32 rfl (lv_at hl 0 rfl) ?_
        refine va_get (D := D) (ci := 8) (v := .ref (ad 46)) (C := RX8) (T := TX8) (N := 6) hx hb hts inX8_putBehind_X8 hown hK hP 0 rfl rfl 5 (by decide) (hts (Cond.fieldLink RX8 24 "PortRooms$Pledges" "order" "[I") (wm_t (wm_l (wm_i 0 rfl)))) (fun _ h9 => h9) rfl dX8_putBehind_33 ?_
        refine lv_iload hx hb dX8_putBehind_36 (lv_at hl 4 rfl) ?_
        refine lv_iconst (v := 1) hx hb dX8_putBehind_38 (by decide) ?_
        refine lv_isub hx hb dX8_putBehind_39 ?_
        refine lv_topi (fun v18 ev18 => ?_)
        try have tv18 : v18.toInt = q3_4.toInt - 1 := by rw [ev18]; exact (i_sub (x := q3_4) (y := (1 : Int32)) (by rw [k1]; omega) (by rw [k1]; omega)).trans (by rw [k1])
        refine va_iald hx hb hK hP 5 0 rfl rfl (i_in (by omega) (by omega)) dX8_putBehind_40 ?_
        refine lv_topi (fun v19 ev19 => ?_)
        have qv19 := okQ_at g3 ev19 (by omega) (by omega) (by omega)
        refine va_iast hx hb hK hP hD hS 5 0 rfl rfl (i_in (by omega) (by omega)) dX8_putBehind_41 (fun H locs => ?_)
        clear hP hD hS
        intro hP hD hS
        replace hP : va_P D vwCl [(oC8 ad gn), (aI cI (ad 42) 40 gk), (aI cI (ad 43) 40 gs), (aI cI (ad 44) 40 gd), (aI cI (ad 45) 40 ge), (aI cI (ad 46) 40 (upd oq q3_4.toNatClampNeg v19))] H := hP
        replace hD : va_D A [(oC8 ad gn), (aI cI (ad 42) 40 gk), (aI cI (ad 43) 40 gs), (aI cI (ad 44) 40 gd), (aI cI (ad 45) 40 ge), (aI cI (ad 46) 40 (upd oq q3_4.toNatClampNeg v19))] := hD
        obtain ⟨v20, ev20⟩ : ∃ y : Int32, y = q3_4 + (-1) := ⟨_, rfl⟩
        try have tv20 : v20.toInt = q3_4.toInt + (-1) := by rw [ev20]; exact (i_add (x := q3_4) (y := ((-1) : Int32)) (by rw [km1]; omega) (by rw [km1]; omega)).trans (by rw [km1])
        refine lv_iinc (v := v20) (lv' := [(4, .int v20), (0, .ref (ad 5)), (1, .int n), (2, .int x), (3, .int zl)]) hx hb dX8_putBehind_42 hl (k := 4) rfl (by rw [ev20]; rfl) (by decide) rfl (fun ls hl => ?_)
        refine lv_goto (tgt := 3) hx hb dX8_putBehind_45 (by decide) ?_
        exact ih4 (v20, upd oq q3_4.toNatClampNeg v19) ls H locs ⟨(by omega), (by omega), (by exact okQ_step g3 (by assumption) (by omega) (by omega) (by omega) (by omega)), lv_sub hl [1, 2, 3, 4, 0] rfl, hP.sub [0, 1, 2, 3, 4, 5] rfl, hD.sub [0, 1, 2, 3, 4, 5] (by decide +kernel) rfl, hS⟩ (by show v20.toInt < _; omega)

theorem pbx {n gn b : Int32} {f : Nat → Int32} (h : ∀ b : Int32, b.toInt = n.toInt + 1 → okR b gn f) (hb : b.toInt = n.toInt + 1) : okR b gn f := h b hb

set_option maxHeartbeats 4000000 in
set_option maxRecDepth 100000 in
theorem ct_X8_putInOrder (l : Launch) (D : va_G) (cI cY cJ cQ : ClassId) (sz : Nat) (ad : Nat → Nat) (gn : Int32) (gk gs gd ge gr : Nat → Int32) (k : Int32) (d : Int32) (zl : Int32)  (h1 : 0 ≤ gn.toInt) (h2 : gn.toInt ≤ 40)  : Met l yX8_putInOrder wsX8_putInOrder ({ frames := 2, cells := 0, slots := 0, locals := 47 }) (cPre D (ty4 cI cY cJ cQ) [(oC8 ad gn), (aI cI (ad 42) 40 gk), (aI cI (ad 43) 40 gs), (aI cI (ad 44) 40 gd), (aI cI (ad 45) 40 ge), (aI cI (ad 46) 40 gr)] sz [.ref (ad 5), .int k, .int d, .int zl]) (va_Qi (fun (r : Int32) (u : (Nat → Int32)) => 0 ≤ r.toInt ∧ r.toInt ≤ gn.toInt ∧ okR r gn u) (cB D (ty4 cI cY cJ cQ) (fun (u : (Nat → Int32)) => [(oC8 ad gn), (aI cI (ad 42) 40 gk), (aI cI (ad 43) 40 gs), (aI cI (ad 44) 40 gd), (aI cI (ad 45) 40 ge), (aI cI (ad 46) 40 u)]) (va_A [(oC8 ad gn), (aI cI (ad 42) 40 gk), (aI cI (ad 43) 40 gs), (aI cI (ad 44) 40 gd), (aI cI (ad 45) 40 ge), (aI cI (ad 46) 40 gr)] sz)) (va_A [(oC8 ad gn), (aI cI (ad 42) 40 gk), (aI cI (ad 43) 40 gs), (aI cI (ad 44) 40 gd), (aI cI (ad 45) 40 ge), (aI cI (ad 46) 40 gr)] sz)) 0 0 (va_A [(oC8 ad gn), (aI cI (ad 42) 40 gk), (aI cI (ad 43) 40 gs), (aI cI (ad 44) 40 gd), (aI cI (ad 45) 40 ge), (aI cI (ad 46) 40 gr)] sz) := by
  refine Met.ofW (cc := cX8_putInOrder) (maxL := 6) (ret := (some .int)) (by decide) rfl ?_
  intro p e s m args below meth c s₁ B hml hv
  obtain ⟨rfl, hsz, hP, hK, hD0, hN⟩ := hv
  have hx := B.exec
  have hb := B.bytes
  have hr := B.returns
  have hts := atoms_spec (ws := wsX8_putInOrder) B.pre
  have hown : s.vm.findClass RX8 = some m.cls := findClass_of_methodNamed B.named
  have hlocks := B.notSynchronized
  subst hsz
  have hD := hD0.self (sz := s.heap.size)
  generalize hAe : va_A [(oC8 ad gn), (aI cI (ad 42) 40 gk), (aI cI (ad 43) 40 gs), (aI cI (ad 44) 40 gd), (aI cI (ad 45) 40 ge), (aI cI (ad 46) 40 gr)] s.heap.size = A at hD ⊢
  have hA : ∀ q : Nat, s.heap.size ≤ q → A q := fun q h => by rw [← hAe]; exact Or.inr h
  have hS : va_S A s.heap s.heap [] := va_S.rf
  have hP : va_P D vwCl [(oC8 ad gn), (aI cI (ad 42) 40 gk), (aI cI (ad 43) 40 gs), (aI cI (ad 44) 40 gd), (aI cI (ad 45) 40 ge), (aI cI (ad 46) 40 gr)] s.heap := hP
  have hl := lv_entry ([.ref (ad 5), .int k, .int d, .int zl]) (n := 6) (Nat.le_of_ble_eq_true rfl)
  rw [lg_entry_eq]
  generalize (lg_sl ([.ref (ad 5), .int k, .int d, .int zl]) ++ List.replicate (6 - (lg_sl ([.ref (ad 5), .int k, .int d, .int zl])).length) Slot.unset).toArray = ls at hl ⊢
  have hl : lv_has ls 6 [(0, .ref (ad 5)), (1, .int k), (2, .int d), (3, .int zl)] := hl
  have k0 : (0 : Int32).toInt = 0 := by decide
  have k1 : (1 : Int32).toInt = 1 := by decide
  refine lv_iconst (v := 0) hx hb dX8_putInOrder_0 (by decide) ?_
  refine lv_istore (lv' := [(4, .int 0), (0, .ref (ad 5)), (1, .int k), (2, .int d), (3, .int zl)]) hx hb dX8_putInOrder_1 hl (by decide) rfl (fun ls hl => ?_)
  refine lv_iconst (v := 0) hx hb dX8_putInOrder_3 (by decide) ?_
  refine lv_istore (lv' := [(5, .int 0), (4, .int 0), (0, .ref (ad 5)), (1, .int k), (2, .int d), (3, .int zl)]) hx hb dX8_putInOrder_4 hl (by decide) rfl (fun ls hl => ?_)
  refine st_loop 6 (fun _ => []) (fun (z : Int32 × Int32 × (Nat → Int32)) (ls : Array Slot) (H : Heap) (locs : List Loc) => match z with | (q6_4, q6_5, oq) => (0 ≤ q6_5.toInt) ∧ (q6_5.toInt ≤ gn.toInt) ∧ (0 ≤ q6_4.toInt) ∧ (q6_4.toInt ≤ q6_5.toInt) ∧ (okR q6_4 gn oq) ∧ lv_has ls 6 [(0, .ref (ad 5)), (1, .int k), (2, .int d), (3, .int zl), (4, .int q6_4), (5, .int q6_5)] ∧ va_P D vwCl [(oC8 ad gn), (aI cI (ad 42) 40 gk), (aI cI (ad 43) 40 gs), (aI cI (ad 44) 40 gd), (aI cI (ad 45) 40 ge), (aI cI (ad 46) 40 oq)] H ∧ va_D A [(oC8 ad gn), (aI cI (ad 42) 40 gk), (aI cI (ad 43) 40 gs), (aI cI (ad 44) 40 gd), (aI cI (ad 45) 40 ge), (aI cI (ad 46) 40 oq)] ∧ va_S A s.heap H locs) (fun (z : Int32 × Int32 × (Nat → Int32)) => match z with | (q6_4, q6_5, oq) => gn.toInt - q6_5.toInt) ?_ ?_ ((0 : Int32), (0 : Int32), gr) ⟨(by omega), (by omega), (by omega), (by omega), (by intro j hj; exfalso; omega), lv_sub hl [2, 3, 4, 5, 1, 0] rfl, hP, hD, hS⟩
  · rintro ⟨q6_4, q6_5, oq⟩ ls H locs ⟨g1, g2, g3, g4, g5, hl, hP, hD, hS⟩
    show (0 : Int) ≤ gn.toInt - q6_5.toInt
    omega
  · rintro n8 ih6 ⟨q6_4, q6_5, oq⟩ ls H locs ⟨g1, g2, g3, g4, g5, hl, hP, hD, hS⟩ hm7
    have hm7 : gn.toInt - q6_5.toInt < (n8 : Int) + 1 := hm7
    replace hl : lv_has ls 6 [(0, .ref (ad 5)), (1, .int k), (2, .int d), (3, .int zl), (4, .int q6_4), (5, .int q6_5)] := hl
    replace hP : va_P D vwCl [(oC8 ad gn), (aI cI (ad 42) 40 gk), (aI cI (ad 43) 40 gs), (aI cI (ad 44) 40 gd), (aI cI (ad 45) 40 ge), (aI cI (ad 46) 40 oq)] H := hP
    replace hD : va_D A [(oC8 ad gn), (aI cI (ad 42) 40 gk), (aI cI (ad 43) 40 gs), (aI cI (ad 44) 40 gd), (aI cI (ad 45) 40 ge), (aI cI (ad 46) 40 oq)] := hD
    show W _ _ _ _ _ _ _ _ _ _ _ _ _ _ _ (F0 m 6 ls [])
    refine lv_iload hx hb dX8_putInOrder_6 (lv_at hl 5 rfl) ?_
    refine lv_aload_n hx hb dX8_putInOrder_8 rfl (lv_at hl 0 rfl) ?_
    refine va_get (D := D) (ci := 8) (v := .int gn) (C := RX8) (T := TX8) (N := 6) hx hb hts inX8_putInOrder_X8 hown hK hP 0 rfl rfl 4 (by decide) (hts (Cond.fieldLink RX8 27 "PortRooms$Pledges" "count" "I") (wm_t (wm_l (wm_i 0 rfl)))) (fun _ h9 => h9) rfl dX8_putInOrder_9 ?_
    refine lv_icmp_ge (tgt := 44) hx hb dX8_putInOrder_12 (by decide) (fun c9 => ?_) (fun c9 => ?_)
    · skip
      have f10 := i_le c9
      refine lv_iload hx hb dX8_putInOrder_44 (lv_at hl 4 rfl) ?_
      have hP9 := hP
      have hD9 := hD
      exact W.iret (v := q6_4) hx hb hr (fun t ht hW => ⟨⟨q6_4, oq, rfl, ⟨by omega, by omega, g5⟩, by rw [ht]; exact hP9, va_K.moved hW.alike hK, hD9⟩, hS.F ht⟩) hS.2.2 dX8_putInOrder_46
    · skip
      have f11 := i_nle c9
      refine lv_aload_n hx hb dX8_putInOrder_15 rfl (lv_at hl 0 rfl) ?_
      refine lv_iload hx hb dX8_putInOrder_16 (lv_at hl 5 rfl) ?_
      refine lv_iload_n hx hb dX8_putInOrder_18 rfl (lv_at hl 1 rfl) ?_
      refine lv_iload_n hx hb dX8_putInOrder_19 rfl (lv_at hl 2 rfl) ?_
      refine st_i1 (va_runV (C := RX8) (As := [.int q6_5, .int k, .int d]) (rest := []) ⟨hx, hb, hml, hown, hts⟩ (ct_X8_isKnown l D cI cY cJ cQ _ ad gn gk ge q6_5 k d (by omega) (by omega)) (cwV 3 hts gX8_putInOrder_X8_isKnown rfl rfl rfl ⟨rfl, cdX8_isKnown⟩ ⟨Nat.le_of_ble_eq_true rfl, Nat.le_of_ble_eq_true rfl⟩) (cPreV (hP.sub [0, 1, 4] rfl) hK (hD.sub [0, 1, 4] (by decide +kernel) rfl) hN (ci := 8) (q0 := 0) rfl rfl) rfl rfl hl.1 rfl (lv_room (Nat.le_of_ble_eq_true rfl)) dX8_putInOrder_20 ⟨Nat.le_of_ble_eq_true rfl, Nat.le_of_ble_eq_true rfl⟩) hP hD hS hA [0, 1, 4] rfl (fun _ => rfl) (fun r14 u12 H locs hw13 => ?_)
      clear hP hS
      intro hP hS
      replace hw13 : r14 = if (gk q6_5.toNatClampNeg).toInt = k.toInt ∧ (ge q6_5.toNatClampNeg).toInt ≤ d.toInt then 1 else 0 := hw13
      refine lv_if_eq (tgt := 38) hx hb dX8_putInOrder_23 (by decide) (fun c15 => ?_) (fun c15 => ?_)
      · skip
        have f16 := bo_f hw13 c15
        obtain ⟨v17, ev17⟩ : ∃ y : Int32, y = q6_5 + 1 := ⟨_, rfl⟩
        try have tv17 : v17.toInt = q6_5.toInt + 1 := by rw [ev17]; exact (i_add (x := q6_5) (y := (1 : Int32)) (by rw [k1]; omega) (by rw [k1]; omega)).trans (by rw [k1])
        refine lv_iinc (v := v17) (lv' := [(5, .int v17), (0, .ref (ad 5)), (1, .int k), (2, .int d), (3, .int zl), (4, .int q6_4)]) hx hb dX8_putInOrder_38 hl (k := 5) rfl (by rw [ev17]; rfl) (by decide) rfl (fun ls hl => ?_)
        refine lv_goto (tgt := 6) hx hb dX8_putInOrder_41 (by decide) ?_
        exact ih6 (q6_4, v17, oq) ls H locs ⟨(by omega), (by omega), (by omega), (by omega), (by first | exact g5 | (apply pbx; assumption; omega)), lv_sub hl [1, 2, 3, 4, 5, 0] rfl, hP.sub [0, 1, 2, 3, 4, 5] rfl, hD.sub [0, 1, 2, 3, 4, 5] (by decide +kernel) rfl, hS⟩ (by show gn.toInt - v17.toInt < _; omega)
      · skip
        have f18 := bo_t hw13 c15
        refine lv_aload_n hx hb dX8_putInOrder_26 rfl (lv_at hl 0 rfl) ?_
        refine lv_iload hx hb dX8_putInOrder_27 (lv_at hl 4 rfl) ?_
        refine lv_iload hx hb dX8_putInOrder_29 (lv_at hl 5 rfl) ?_
        refine lv_iload_n hx hb dX8_putInOrder_31 rfl (lv_at hl 3 rfl) ?_
        refine st_v (wr := []) (va_runV (C := RX8) (As := [.int q6_4, .int q6_5, .int zl]) (rest := []) ⟨hx, hb, hml, hown, hts⟩ (ct_X8_putBehind l D cI cY cJ cQ _ ad gn gk gs gd ge oq q6_4 q6_5 zl h2 (by omega) (by omega) (by omega) (by omega) (by omega) (by assumption)) (cwV 3 hts gX8_putInOrder_X8_putBehind rfl rfl rfl ⟨rfl, cdX8_putBehind⟩ ⟨Nat.le_of_ble_eq_true rfl, Nat.le_of_ble_eq_true rfl⟩) (cPreV (hP.sub [0, 1, 2, 3, 4, 5] rfl) hK (hD.sub [0, 1, 2, 3, 4, 5] (by decide +kernel) rfl) hN (ci := 8) (q0 := 0) rfl rfl) rfl rfl hl.1 rfl (lv_room (Nat.le_of_ble_eq_true rfl)) dX8_putInOrder_32 ⟨Nat.le_of_ble_eq_true rfl, Nat.le_of_ble_eq_true rfl⟩) hP hD hS hA [0, 1, 2, 3, 4, 5] [] rfl rfl (by decide +kernel) (by decide +kernel) (fun u19 H locs hw20 => ?_)
        clear hP hD hS
        intro hP hD hS
        replace hw20 : ∀ b : Int32, b.toInt = q6_4.toInt + 1 → okR b gn u19 := hw20
        replace hP : va_P D vwCl [(oC8 ad gn), (aI cI (ad 42) 40 gk), (aI cI (ad 43) 40 gs), (aI cI (ad 44) 40 gd), (aI cI (ad 45) 40 ge), (aI cI (ad 46) 40 u19)] H := hP
        replace hD : va_D A [(oC8 ad gn), (aI cI (ad 42) 40 gk), (aI cI (ad 43) 40 gs), (aI cI (ad 44) 40 gd), (aI cI (ad 45) 40 ge), (aI cI (ad 46) 40 u19)] := hD
        obtain ⟨v22, ev22⟩ : ∃ y : Int32, y = q6_4 + 1 := ⟨_, rfl⟩
        try have tv22 : v22.toInt = q6_4.toInt + 1 := by rw [ev22]; exact (i_add (x := q6_4) (y := (1 : Int32)) (by rw [k1]; omega) (by rw [k1]; omega)).trans (by rw [k1])
        refine lv_iinc (v := v22) (lv' := [(4, .int v22), (0, .ref (ad 5)), (1, .int k), (2, .int d), (3, .int zl), (5, .int q6_5)]) hx hb dX8_putInOrder_35 hl (k := 4) rfl (by rw [ev22]; rfl) (by decide) rfl (fun ls hl => ?_)
        obtain ⟨v23, ev23⟩ : ∃ y : Int32, y = q6_5 + 1 := ⟨_, rfl⟩
        try have tv23 : v23.toInt = q6_5.toInt + 1 := by rw [ev23]; exact (i_add (x := q6_5) (y := (1 : Int32)) (by rw [k1]; omega) (by rw [k1]; omega)).trans (by rw [k1])
        refine lv_iinc (v := v23) (lv' := [(5, .int v23), (4, .int v22), (0, .ref (ad 5)), (1, .int k), (2, .int d), (3, .int zl)]) hx hb dX8_putInOrder_38 hl (k := 5) rfl (by rw [ev23]; rfl) (by decide) rfl (fun ls hl => ?_)
        refine lv_goto (tgt := 6) hx hb dX8_putInOrder_41 (by decide) ?_
        exact ih6 (v22, v23, u19) ls H locs ⟨(by omega), (by omega), (by omega), (by omega), (by first | exact g5 | (apply pbx; assumption; omega)), lv_sub hl [2, 3, 4, 5, 1, 0] rfl, hP.sub [0, 1, 2, 3, 4, 5] rfl, hD.sub [0, 1, 2, 3, 4, 5] (by decide +kernel) rfl, hS⟩ (by show gn.toInt - v23.toInt < _; omega)


theorem i_nn {x : Int32} (h : 0 ≤ x.toInt) : ¬ x < 0 := fun h1 => by have := i_lt h1; have h0 : (0 : Int32).toInt = 0 := rfl; omega

set_option maxHeartbeats 4000000 in
set_option maxRecDepth 100000 in
theorem ct_X8_paidTo (l : Launch) (D : va_G) (cI cY cJ cQ : ClassId) (sz : Nat) (ad : Nat → Nat) (gn : Int32) (gk gs gd ge gr : Nat → Int32) (i : Int32) (w : Int32) (nk : Int32)  (h1 : 0 ≤ i.toInt) (h2 : i.toInt < nk.toInt) (h3 : gn.toInt ≤ 40) (h4 : nk.toInt ≤ 40) (h5 : okR nk gn gr)  : Met l yX8_paidTo wsX8_paidTo ({ frames := 1, cells := 0, slots := 0, locals := 23 }) (cPre D (ty4 cI cY cJ cQ) [(oC8 ad gn), (aI cI (ad 42) 40 gk), (aI cI (ad 43) 40 gs), (aI cI (ad 44) 40 gd), (aI cI (ad 45) 40 ge), (aI cI (ad 46) 40 gr)] sz [.ref (ad 5), .int i, .int w]) (va_Qi (fun (r : Int32) (u : Unit) => True) (cB D (ty4 cI cY cJ cQ) (fun (u : Unit) => [(oC8 ad gn), (aI cI (ad 42) 40 gk), (aI cI (ad 43) 40 gs), (aI cI (ad 44) 40 gd), (aI cI (ad 45) 40 ge), (aI cI (ad 46) 40 gr)]) (va_A [(oC8 ad gn), (aI cI (ad 42) 40 gk), (aI cI (ad 43) 40 gs), (aI cI (ad 44) 40 gd), (aI cI (ad 45) 40 ge), (aI cI (ad 46) 40 gr)] sz)) (va_A [(oC8 ad gn), (aI cI (ad 42) 40 gk), (aI cI (ad 43) 40 gs), (aI cI (ad 44) 40 gd), (aI cI (ad 45) 40 ge), (aI cI (ad 46) 40 gr)] sz)) 0 0 (va_A [(oC8 ad gn), (aI cI (ad 42) 40 gk), (aI cI (ad 43) 40 gs), (aI cI (ad 44) 40 gd), (aI cI (ad 45) 40 ge), (aI cI (ad 46) 40 gr)] sz) := by
  refine Met.ofW (cc := cX8_paidTo) (maxL := 5) (ret := (some .int)) (by decide) rfl ?_
  intro p e s m args below meth c s₁ B hml hv
  obtain ⟨rfl, hsz, hP, hK, hD0, hN⟩ := hv
  have hx := B.exec
  have hb := B.bytes
  have hr := B.returns
  have hts := atoms_spec (ws := wsX8_paidTo) B.pre
  have hown : s.vm.findClass RX8 = some m.cls := findClass_of_methodNamed B.named
  have hlocks := B.notSynchronized
  subst hsz
  have hD := hD0.self (sz := s.heap.size)
  generalize hAe : va_A [(oC8 ad gn), (aI cI (ad 42) 40 gk), (aI cI (ad 43) 40 gs), (aI cI (ad 44) 40 gd), (aI cI (ad 45) 40 ge), (aI cI (ad 46) 40 gr)] s.heap.size = A at hD ⊢
  have hA : ∀ q : Nat, s.heap.size ≤ q → A q := fun q h => by rw [← hAe]; exact Or.inr h
  have hS : va_S A s.heap s.heap [] := va_S.rf
  have hP : va_P D vwCl [(oC8 ad gn), (aI cI (ad 42) 40 gk), (aI cI (ad 43) 40 gs), (aI cI (ad 44) 40 gd), (aI cI (ad 45) 40 ge), (aI cI (ad 46) 40 gr)] s.heap := hP
  have hl := lv_entry ([.ref (ad 5), .int i, .int w]) (n := 5) (Nat.le_of_ble_eq_true rfl)
  rw [lg_entry_eq]
  generalize (lg_sl ([.ref (ad 5), .int i, .int w]) ++ List.replicate (5 - (lg_sl ([.ref (ad 5), .int i, .int w])).length) Slot.unset).toArray = ls at hl ⊢
  have hl : lv_has ls 5 [(0, .ref (ad 5)), (1, .int i), (2, .int w)] := hl
  have k0 : (0 : Int32).toInt = 0 := by decide
  have k1 : (1 : Int32).toInt = 1 := by decide
  refine lv_iload_n hx hb dX8_paidTo_0 rfl (lv_at hl 2 rfl) ?_
  refine lv_istore_n (lv' := [(3, .int w), (0, .ref (ad 5)), (1, .int i), (2, .int w)]) hx hb dX8_paidTo_1 rfl hl (by decide) rfl (fun ls hl => ?_)
  refine lv_iconst (v := 0) hx hb dX8_paidTo_2 (by decide) ?_
  refine lv_istore (lv' := [(4, .int 0), (3, .int w), (0, .ref (ad 5)), (1, .int i), (2, .int w)]) hx hb dX8_paidTo_3 hl (by decide) rfl (fun ls hl => ?_)
  refine st_loop 5 (fun _ => []) (fun (z : Int32 × Int32) (ls : Array Slot) (H : Heap) (locs : List Loc) => match z with | (q5_3, q5_4) => (0 ≤ q5_4.toInt) ∧ (q5_4.toInt ≤ i.toInt) ∧ lv_has ls 5 [(0, .ref (ad 5)), (1, .int i), (2, .int w), (3, .int q5_3), (4, .int q5_4)] ∧ va_P D vwCl [(oC8 ad gn), (aI cI (ad 42) 40 gk), (aI cI (ad 43) 40 gs), (aI cI (ad 44) 40 gd), (aI cI (ad 45) 40 ge), (aI cI (ad 46) 40 gr)] H ∧ va_D A [(oC8 ad gn), (aI cI (ad 42) 40 gk), (aI cI (ad 43) 40 gs), (aI cI (ad 44) 40 gd), (aI cI (ad 45) 40 ge), (aI cI (ad 46) 40 gr)] ∧ va_S A s.heap H locs) (fun (z : Int32 × Int32) => match z with | (q5_3, q5_4) => i.toInt - q5_4.toInt) ?_ ?_ (w, (0 : Int32)) ⟨(by omega), (by omega), lv_sub hl [2, 3, 4, 1, 0] rfl, hP, hD, hS⟩
  · rintro ⟨q5_3, q5_4⟩ ls H locs ⟨g1, g2, hl, hP, hD, hS⟩
    show (0 : Int) ≤ i.toInt - q5_4.toInt
    omega
  · rintro n5 ih3 ⟨q5_3, q5_4⟩ ls H locs ⟨g1, g2, hl, hP, hD, hS⟩ hm4
    have hm4 : i.toInt - q5_4.toInt < (n5 : Int) + 1 := hm4
    replace hl : lv_has ls 5 [(0, .ref (ad 5)), (1, .int i), (2, .int w), (3, .int q5_3), (4, .int q5_4)] := hl
    replace hP : va_P D vwCl [(oC8 ad gn), (aI cI (ad 42) 40 gk), (aI cI (ad 43) 40 gs), (aI cI (ad 44) 40 gd), (aI cI (ad 45) 40 ge), (aI cI (ad 46) 40 gr)] H := hP
    replace hD : va_D A [(oC8 ad gn), (aI cI (ad 42) 40 gk), (aI cI (ad 43) 40 gs), (aI cI (ad 44) 40 gd), (aI cI (ad 45) 40 ge), (aI cI (ad 46) 40 gr)] := hD
    show W _ _ _ _ _ _ _ _ _ _ _ _ _ _ _ (F0 m 5 ls [])
    refine lv_iload hx hb dX8_paidTo_5 (lv_at hl 4 rfl) ?_
    refine lv_iload_n hx hb dX8_paidTo_7 rfl (lv_at hl 1 rfl) ?_
    refine lv_icmp_ge (tgt := 36) hx hb dX8_paidTo_8 (by decide) (fun c6 => ?_) (fun c6 => ?_)
    · skip
      have f7 := i_le c6
      refine lv_iload_n hx hb dX8_paidTo_36 rfl (lv_at hl 3 rfl) ?_
      refine lv_aload_n hx hb dX8_paidTo_37 rfl (lv_at hl 0 rfl) ?_
      refine va_get (D := D) (ci := 8) (v := .ref (ad 43)) (C := RX8) (T := TX8) (N := 6) hx hb hts inX8_paidTo_X8 hown hK hP 0 rfl rfl 1 (by decide) (hts (Cond.fieldLink RX8 15 "PortRooms$Pledges" "sum" "[I") (wm_t (wm_l (wm_i 0 rfl)))) (fun _ h9 => h9) rfl dX8_paidTo_38 ?_
      refine lv_aload_n hx hb dX8_paidTo_41 rfl (lv_at hl 0 rfl) ?_
      refine va_get (D := D) (ci := 8) (v := .ref (ad 46)) (C := RX8) (T := TX8) (N := 6) hx hb hts inX8_paidTo_X8 hown hK hP 0 rfl rfl 5 (by decide) (hts (Cond.fieldLink RX8 24 "PortRooms$Pledges" "order" "[I") (wm_t (wm_l (wm_i 1 rfl)))) (fun _ h9 => h9) rfl dX8_paidTo_42 ?_
      refine lv_iload_n hx hb dX8_paidTo_45 rfl (lv_at hl 1 rfl) ?_
      refine va_iald hx hb hK hP 5 0 rfl rfl (i_in (by omega) (by omega)) dX8_paidTo_46 ?_
      refine lv_topi (fun v8 ev8 => ?_)
      have qv8 := okR_at h5 ev8 (by omega) (by omega)
      refine va_iald hx hb hK hP 2 0 rfl rfl (i_in (by omega) (by omega)) dX8_paidTo_47 ?_
      refine lv_topi (fun v9 ev9 => ?_)
      refine va_mmin hx hb (hml.trans hl.1.symm) hown (hts (Cond.methodLink RX8 42 Lib.Math.min.name) (wm_t (wm_l (wm_i 2 rfl)))) (hts (Cond.static Lib.Math.min.name) (wm_t (wm_l (wm_i 3 rfl)))) (hts (Cond.initialized "java/lang/Math") (wm_t (wm_l (wm_i 4 rfl)))) (hts (Cond.code Lib.Math.min.name Lib.Math.min.code 2 (some .int)) (wm_t (wm_l (wm_i 5 rfl)))) (Nat.le_of_ble_eq_true rfl) (Nat.le_of_ble_eq_true rfl) (Nat.le_of_ble_eq_true rfl) (Nat.le_of_ble_eq_true rfl) dX8_paidTo_48 ?_
      refine lv_topi (fun v10 ev10 => ?_)
      have hP9 := hP
      have hD9 := hD
      exact W.iret (v := v10) hx hb hr (fun t ht hW => ⟨⟨v10, (), rfl, trivial, by rw [ht]; exact hP9, va_K.moved hW.alike hK, hD9⟩, hS.F ht⟩) hS.2.2 dX8_paidTo_51
    · skip
      have f11 := i_nle c6
      refine lv_iload_n hx hb dX8_paidTo_11 rfl (lv_at hl 3 rfl) ?_
      refine lv_iload_n hx hb dX8_paidTo_12 rfl (lv_at hl 3 rfl) ?_
      refine lv_aload_n hx hb dX8_paidTo_13 rfl (lv_at hl 0 rfl) ?_
      refine va_get (D := D) (ci := 8) (v := .ref (ad 43)) (C := RX8) (T := TX8) (N := 6) hx hb hts inX8_paidTo_X8 hown hK hP 0 rfl rfl 1 (by decide) (hts (Cond.fieldLink RX8 15 "PortRooms$Pledges" "sum" "[I") (wm_t (wm_l (wm_i 0 rfl)))) (fun _ h9 => h9) rfl dX8_paidTo_14 ?_
      refine lv_aload_n hx hb dX8_paidTo_17 rfl (lv_at hl 0 rfl) ?_
      refine va_get (D := D) (ci := 8) (v := .ref (ad 46)) (C := RX8) (T := TX8) (N := 6) hx hb hts inX8_paidTo_X8 hown hK hP 0 rfl rfl 5 (by decide) (hts (Cond.fieldLink RX8 24 "PortRooms$Pledges" "order" "[I") (wm_t (wm_l (wm_i 1 rfl)))) (fun _ h9 => h9) rfl dX8_paidTo_18 ?_
      refine lv_iload hx hb dX8_paidTo_21 (lv_at hl 4 rfl) ?_
      refine va_iald hx hb hK hP 5 0 rfl rfl (i_in (by omega) (by omega)) dX8_paidTo_23 ?_
      refine lv_topi (fun v12 ev12 => ?_)
      have qv12 := okR_at h5 ev12 (by omega) (by omega)
      refine va_iald hx hb hK hP 2 0 rfl rfl (i_in (by omega) (by omega)) dX8_paidTo_24 ?_
      refine lv_topi (fun v13 ev13 => ?_)
      refine va_mmin hx hb (hml.trans hl.1.symm) hown (hts (Cond.methodLink RX8 42 Lib.Math.min.name) (wm_t (wm_l (wm_i 2 rfl)))) (hts (Cond.static Lib.Math.min.name) (wm_t (wm_l (wm_i 3 rfl)))) (hts (Cond.initialized "java/lang/Math") (wm_t (wm_l (wm_i 4 rfl)))) (hts (Cond.code Lib.Math.min.name Lib.Math.min.code 2 (some .int)) (wm_t (wm_l (wm_i 5 rfl)))) (Nat.le_of_ble_eq_true rfl) (Nat.le_of_ble_eq_true rfl) (Nat.le_of_ble_eq_true rfl) (Nat.le_of_ble_eq_true rfl) dX8_paidTo_25 ?_
      refine lv_topi (fun v14 ev14 => ?_)
      refine lv_isub hx hb dX8_paidTo_28 ?_
      refine lv_topi (fun v15 ev15 => ?_)
      refine lv_istore_n (lv' := [(3, .int v15), (0, .ref (ad 5)), (1, .int i), (2, .int w), (4, .int q5_4)]) hx hb dX8_paidTo_29 rfl hl (by decide) rfl (fun ls hl => ?_)
      obtain ⟨v16, ev16⟩ : ∃ y : Int32, y = q5_4 + 1 := ⟨_, rfl⟩
      try have tv16 : v16.toInt = q5_4.toInt + 1 := by rw [ev16]; exact (i_add (x := q5_4) (y := (1 : Int32)) (by rw [k1]; omega) (by rw [k1]; omega)).trans (by rw [k1])
      refine lv_iinc (v := v16) (lv' := [(4, .int v16), (3, .int v15), (0, .ref (ad 5)), (1, .int i), (2, .int w)]) hx hb dX8_paidTo_30 hl (k := 4) rfl (by rw [ev16]; rfl) (by decide) rfl (fun ls hl => ?_)
      refine lv_goto (tgt := 5) hx hb dX8_paidTo_33 (by decide) ?_
      exact ih3 (v15, v16) ls H locs ⟨(by omega), (by omega), lv_sub hl [2, 3, 4, 1, 0] rfl, hP.sub [0, 1, 2, 3, 4, 5] rfl, hD.sub [0, 1, 2, 3, 4, 5] (by decide +kernel) rfl, hS⟩ (by show i.toInt - v16.toInt < _; omega)

set_option maxHeartbeats 4000000 in
set_option maxRecDepth 100000 in
theorem ct_X10_rank (l : Launch) (D : va_G) (cI cY cJ cQ : ClassId) (sz : Nat) (ad : Nat → Nat) (tn td lf cn gn : Int32) (wo gk gs gd ge gr : Nat → Int32) (k : Int32) (d : Int32) (zl : Int32) (i : Int32) (w : Int32)  (h1 : 0 ≤ cn.toInt) (h2 : cn.toInt ≤ 12) (h3 : 0 ≤ gn.toInt) (h4 : gn.toInt ≤ 40)  : Met l yX10_rank wsX10_rank ({ frames := 3, cells := 0, slots := 0, locals := 72 }) (cPre D (ty4 cI cY cJ cQ) [(oC10 ad tn td lf), (oC1 ad cn), (aI cI (ad 32) 12 wo), (oC8 ad gn), (aI cI (ad 42) 40 gk), (aI cI (ad 43) 40 gs), (aI cI (ad 44) 40 gd), (aI cI (ad 45) 40 ge), (aI cI (ad 46) 40 gr)] sz [.ref (ad 0), .int k, .int d, .int zl, .int i, .int w]) (va_Qi (fun (r : Int32) (u : (Nat → Int32)) => True) (cB D (ty4 cI cY cJ cQ) (fun (u : (Nat → Int32)) => [(oC10 ad tn td lf), (oC1 ad cn), (aI cI (ad 32) 12 wo), (oC8 ad gn), (aI cI (ad 42) 40 gk), (aI cI (ad 43) 40 gs), (aI cI (ad 44) 40 gd), (aI cI (ad 45) 40 ge), (aI cI (ad 46) 40 u)]) (va_A [(oC10 ad tn td lf), (oC1 ad cn), (aI cI (ad 32) 12 wo), (oC8 ad gn), (aI cI (ad 42) 40 gk), (aI cI (ad 43) 40 gs), (aI cI (ad 44) 40 gd), (aI cI (ad 45) 40 ge), (aI cI (ad 46) 40 gr)] sz)) (va_A [(oC10 ad tn td lf), (oC1 ad cn), (aI cI (ad 32) 12 wo), (oC8 ad gn), (aI cI (ad 42) 40 gk), (aI cI (ad 43) 40 gs), (aI cI (ad 44) 40 gd), (aI cI (ad 45) 40 ge), (aI cI (ad 46) 40 gr)] sz)) 0 0 (va_A [(oC10 ad tn td lf), (oC1 ad cn), (aI cI (ad 32) 12 wo), (oC8 ad gn), (aI cI (ad 42) 40 gk), (aI cI (ad 43) 40 gs), (aI cI (ad 44) 40 gd), (aI cI (ad 45) 40 ge), (aI cI (ad 46) 40 gr)] sz) := by
  refine Met.ofW (cc := cX10_rank) (maxL := 7) (ret := (some .int)) (by decide) rfl ?_
  intro p e s m args below meth c s₁ B hml hv
  obtain ⟨rfl, hsz, hP, hK, hD0, hN⟩ := hv
  have hx := B.exec
  have hb := B.bytes
  have hr := B.returns
  have hts := atoms_spec (ws := wsX10_rank) B.pre
  have hown : s.vm.findClass RX10 = some m.cls := findClass_of_methodNamed B.named
  have hlocks := B.notSynchronized
  subst hsz
  have hD := hD0.self (sz := s.heap.size)
  generalize hAe : va_A [(oC10 ad tn td lf), (oC1 ad cn), (aI cI (ad 32) 12 wo), (oC8 ad gn), (aI cI (ad 42) 40 gk), (aI cI (ad 43) 40 gs), (aI cI (ad 44) 40 gd), (aI cI (ad 45) 40 ge), (aI cI (ad 46) 40 gr)] s.heap.size = A at hD ⊢
  have hA : ∀ q : Nat, s.heap.size ≤ q → A q := fun q h => by rw [← hAe]; exact Or.inr h
  have hS : va_S A s.heap s.heap [] := va_S.rf
  have hP : va_P D vwCl [(oC10 ad tn td lf), (oC1 ad cn), (aI cI (ad 32) 12 wo), (oC8 ad gn), (aI cI (ad 42) 40 gk), (aI cI (ad 43) 40 gs), (aI cI (ad 44) 40 gd), (aI cI (ad 45) 40 ge), (aI cI (ad 46) 40 gr)] s.heap := hP
  have hl := lv_entry ([.ref (ad 0), .int k, .int d, .int zl, .int i, .int w]) (n := 7) (Nat.le_of_ble_eq_true rfl)
  rw [lg_entry_eq]
  generalize (lg_sl ([.ref (ad 0), .int k, .int d, .int zl, .int i, .int w]) ++ List.replicate (7 - (lg_sl ([.ref (ad 0), .int k, .int d, .int zl, .int i, .int w])).length) Slot.unset).toArray = ls at hl ⊢
  have hl : lv_has ls 7 [(0, .ref (ad 0)), (1, .int k), (2, .int d), (3, .int zl), (4, .int i), (5, .int w)] := hl
  have k0 : (0 : Int32).toInt = 0 := by decide
  have k2 : (2 : Int32).toInt = 2 := by decide
  have k4 : (4 : Int32).toInt = 4 := by decide
  refine lv_aload_n hx hb dX10_rank_0 rfl (lv_at hl 0 rfl) ?_
  refine lv_iload_n hx hb dX10_rank_1 rfl (lv_at hl 1 rfl) ?_
  refine st_i1 (va_runV (C := RX10) (As := [.int k]) (rest := []) ⟨hx, hb, hml, hown, hts⟩ (ct_X10_isCrate l D cI cY cJ cQ _ ad tn td lf cn k) (cwV 1 hts gX10_rank_X10_isCrate rfl rfl rfl ⟨rfl, cdX10_isCrate⟩ ⟨Nat.le_of_ble_eq_true rfl, Nat.le_of_ble_eq_true rfl⟩) (cPreV (hP.sub [0, 1] rfl) hK (hD.sub [0, 1] (by decide +kernel) rfl) hN (ci := 10) (q0 := 0) rfl rfl) rfl rfl hl.1 rfl (lv_room (Nat.le_of_ble_eq_true rfl)) dX10_rank_2 ⟨Nat.le_of_ble_eq_true rfl, Nat.le_of_ble_eq_true rfl⟩) hP hD hS hA [0, 1] rfl (fun _ => rfl) (fun r3 u1 H locs hw2 => ?_)
  clear hP hS
  intro hP hS
  replace hw2 : r3 = if 0 ≤ k.toInt ∧ k.toInt < cn.toInt then 1 else 0 := hw2
  refine lv_if_eq (tgt := 37) hx hb dX10_rank_5 (by decide) (fun c4 => ?_) (fun c4 => ?_)
  · skip
    have f5 := bo_f hw2 c4
    refine lv_ldc hx hb hown (hts (Cond.constant RX10 89 (-1000001)) (wm_t (wm_l (wm_i 0 rfl)))) dX10_rank_37 ?_
    have hP9 := hP
    have hD9 := hD
    exact W.iret (v := (-1000001)) hx hb hr (fun t ht hW => ⟨⟨(-1000001), gr, rfl, trivial, by rw [ht]; exact hP9, va_K.moved hW.alike hK, hD9⟩, hS.F ht⟩) hS.2.2 dX10_rank_39
  · skip
    have f6 := bo_t hw2 c4
    refine lv_iload_n hx hb dX10_rank_8 rfl (lv_at hl 2 rfl) ?_
    refine st_i1 (va_runS (As := [.int d]) (rest := []) ⟨hx, hb, hml, hown, hts⟩ (ct_X10_isDay l D cI cY cJ cQ _ d) (va_cwS 1 hts gX10_rank_X10_isDay rfl rfl rfl cdX10_isDay ⟨Nat.le_of_ble_eq_true rfl, Nat.le_of_ble_eq_true rfl⟩) (cPreS (hP.sub [] rfl) hK (hD.sub [] (by decide +kernel) rfl) hN) rfl rfl hl.1 rfl (lv_room (Nat.le_of_ble_eq_true rfl)) dX10_rank_9 ⟨Nat.le_of_ble_eq_true rfl, Nat.le_of_ble_eq_true rfl⟩) hP hD hS hA [] rfl (fun _ => rfl) (fun r9 u7 H locs hw8 => ?_)
    clear hP hS
    intro hP hS
    replace hw8 : r9 = if 0 ≤ d.toInt ∧ d.toInt < 10000 then 1 else 0 := hw8
    refine lv_if_eq (tgt := 37) hx hb dX10_rank_12 (by decide) (fun c10 => ?_) (fun c10 => ?_)
    · skip
      have f11 := bo_f hw8 c10
      refine lv_ldc hx hb hown (hts (Cond.constant RX10 89 (-1000001)) (wm_t (wm_l (wm_i 0 rfl)))) dX10_rank_37 ?_
      have hP9 := hP
      have hD9 := hD
      exact W.iret (v := (-1000001)) hx hb hr (fun t ht hW => ⟨⟨(-1000001), gr, rfl, trivial, by rw [ht]; exact hP9, va_K.moved hW.alike hK, hD9⟩, hS.F ht⟩) hS.2.2 dX10_rank_39
    · skip
      have f12 := bo_t hw8 c10
      refine lv_iload_n hx hb dX10_rank_15 rfl (lv_at hl 3 rfl) ?_
      refine lv_iconst (v := 4) hx hb dX10_rank_16 (by decide) ?_
      refine st_i1 (va_runS (As := [.int zl, .int 4]) (rest := []) ⟨hx, hb, hml, hown, hts⟩ (ct_X10_isBelow l D cI cY cJ cQ _ zl (4 : Int32)) (va_cwS 2 hts gX10_rank_X10_isBelow rfl rfl rfl cdX10_isBelow ⟨Nat.le_of_ble_eq_true rfl, Nat.le_of_ble_eq_true rfl⟩) (cPreS (hP.sub [] rfl) hK (hD.sub [] (by decide +kernel) rfl) hN) rfl rfl hl.1 rfl (lv_room (Nat.le_of_ble_eq_true rfl)) dX10_rank_17 ⟨Nat.le_of_ble_eq_true rfl, Nat.le_of_ble_eq_true rfl⟩) hP hD hS hA [] rfl (fun _ => rfl) (fun r15 u13 H locs hw14 => ?_)
      clear hP hS
      intro hP hS
      replace hw14 : r15 = if 0 ≤ zl.toInt ∧ zl.toInt < (4 : Int32).toInt then 1 else 0 := hw14
      refine lv_if_eq (tgt := 37) hx hb dX10_rank_20 (by decide) (fun c16 => ?_) (fun c16 => ?_)
      · skip
        have f17 := bo_f hw14 c16
        refine lv_ldc hx hb hown (hts (Cond.constant RX10 89 (-1000001)) (wm_t (wm_l (wm_i 0 rfl)))) dX10_rank_37 ?_
        have hP9 := hP
        have hD9 := hD
        exact W.iret (v := (-1000001)) hx hb hr (fun t ht hW => ⟨⟨(-1000001), gr, rfl, trivial, by rw [ht]; exact hP9, va_K.moved hW.alike hK, hD9⟩, hS.F ht⟩) hS.2.2 dX10_rank_39
      · skip
        have f18 := bo_t hw14 c16
        refine lv_iload hx hb dX10_rank_23 (lv_at hl 4 rfl) ?_
        refine lv_if_lt (tgt := 37) hx hb dX10_rank_25 (by decide) (fun c19 => ?_) (fun c19 => ?_)
        · skip
          have f20 := i_lt c19
          refine lv_ldc hx hb hown (hts (Cond.constant RX10 89 (-1000001)) (wm_t (wm_l (wm_i 0 rfl)))) dX10_rank_37 ?_
          have hP9 := hP
          have hD9 := hD
          exact W.iret (v := (-1000001)) hx hb hr (fun t ht hW => ⟨⟨(-1000001), gr, rfl, trivial, by rw [ht]; exact hP9, va_K.moved hW.alike hK, hD9⟩, hS.F ht⟩) hS.2.2 dX10_rank_39
        · skip
          have f21 := i_nlt c19
          refine lv_iload hx hb dX10_rank_28 (lv_at hl 5 rfl) ?_
          refine lv_iconst (v := 2) hx hb dX10_rank_30 (by decide) ?_
          refine st_i1 (va_runS (As := [.int w, .int 2]) (rest := []) ⟨hx, hb, hml, hown, hts⟩ (ct_X10_isBelow l D cI cY cJ cQ _ w (2 : Int32)) (va_cwS 2 hts gX10_rank_X10_isBelow rfl rfl rfl cdX10_isBelow ⟨Nat.le_of_ble_eq_true rfl, Nat.le_of_ble_eq_true rfl⟩) (cPreS (hP.sub [] rfl) hK (hD.sub [] (by decide +kernel) rfl) hN) rfl rfl hl.1 rfl (lv_room (Nat.le_of_ble_eq_true rfl)) dX10_rank_31 ⟨Nat.le_of_ble_eq_true rfl, Nat.le_of_ble_eq_true rfl⟩) hP hD hS hA [] rfl (fun _ => rfl) (fun r24 u22 H locs hw23 => ?_)
          clear hP hS
          intro hP hS
          replace hw23 : r24 = if 0 ≤ w.toInt ∧ w.toInt < (2 : Int32).toInt then 1 else 0 := hw23
          refine lv_if_ne (tgt := 40) hx hb dX10_rank_34 (by decide) (fun c25 => ?_) (fun c25 => ?_)
          · skip
            have f26 := bo_t hw23 c25
            refine lv_aload_n hx hb dX10_rank_40 rfl (lv_at hl 0 rfl) ?_
            refine va_get (D := D) (ci := 10) (v := .ref (ad 5)) (C := RX10) (T := TX10) (N := 14) hx hb hts inX10_rank_X10 hown hK hP 0 rfl rfl 4 (by decide) (hts (Cond.fieldLink RX10 40 "PortRooms" "pledges" "LPortRooms$Pledges;") (wm_t (wm_l (wm_i 1 rfl)))) (fun _ h9 => h9) rfl dX10_rank_41 ?_
            refine lv_iload_n hx hb dX10_rank_44 rfl (lv_at hl 1 rfl) ?_
            refine lv_iload_n hx hb dX10_rank_45 rfl (lv_at hl 2 rfl) ?_
            refine lv_iload_n hx hb dX10_rank_46 rfl (lv_at hl 3 rfl) ?_
            refine st_i (wr := [(oC10 ad tn td lf), (oC1 ad cn), (aI cI (ad 32) 12 wo)]) (va_runV (C := RX8) (As := [.int k, .int d, .int zl]) (rest := []) ⟨hx, hb, hml, hown, hts⟩ (ct_X8_putInOrder l D cI cY cJ cQ _ ad gn gk gs gd ge gr k d zl (by omega) (by omega)) (cwV 3 hts gX10_rank_X8_putInOrder rfl rfl rfl ⟨rfl, cdX8_putInOrder⟩ ⟨Nat.le_of_ble_eq_true rfl, Nat.le_of_ble_eq_true rfl⟩) (cPreV (hP.sub [3, 4, 5, 6, 7, 8] rfl) hK (hD.sub [3, 4, 5, 6, 7, 8] (by decide +kernel) rfl) hN (ci := 8) (q0 := 0) rfl rfl) rfl rfl hl.1 rfl (lv_room (Nat.le_of_ble_eq_true rfl)) dX10_rank_47 ⟨Nat.le_of_ble_eq_true rfl, Nat.le_of_ble_eq_true rfl⟩) hP hD hS hA [3, 4, 5, 6, 7, 8] [0, 1, 2] rfl rfl (by decide +kernel) (by decide +kernel) (fun r29 u27 H locs hw28 => ?_)
            clear hP hD hS
            intro hP hD hS
            replace hw28 : 0 ≤ r29.toInt ∧ r29.toInt ≤ gn.toInt ∧ okR r29 gn u27 := hw28
            replace hP : va_P D vwCl [(oC10 ad tn td lf), (oC1 ad cn), (aI cI (ad 32) 12 wo), (oC8 ad gn), (aI cI (ad 42) 40 gk), (aI cI (ad 43) 40 gs), (aI cI (ad 44) 40 gd), (aI cI (ad 45) 40 ge), (aI cI (ad 46) 40 u27)] H := hP
            replace hD : va_D A [(oC10 ad tn td lf), (oC1 ad cn), (aI cI (ad 32) 12 wo), (oC8 ad gn), (aI cI (ad 42) 40 gk), (aI cI (ad 43) 40 gs), (aI cI (ad 44) 40 gd), (aI cI (ad 45) 40 ge), (aI cI (ad 46) 40 u27)] := hD
            obtain ⟨hw28a, hw28b, hw28c⟩ := hw28
            refine lv_istore (lv' := [(6, .int r29), (0, .ref (ad 0)), (1, .int k), (2, .int d), (3, .int zl), (4, .int i), (5, .int w)]) hx hb dX10_rank_50 hl (by decide) rfl (fun ls hl => ?_)
            refine lv_iload hx hb dX10_rank_52 (lv_at hl 5 rfl) ?_
            refine lv_iload hx hb dX10_rank_54 (lv_at hl 0 rfl) ?_
            refine lv_icmp_lt (tgt := 62) hx hb dX10_rank_56 (by decide) (fun c30 => ?_) (fun c30 => ?_)
            · skip
              have f31 := i_lt c30
              refine lv_iload hx hb dX10_rank_62 (lv_at hl 6 rfl) ?_
              refine lv_if_ne (tgt := 80) hx hb dX10_rank_64 (by decide) (fun c32 => ?_) (fun c32 => ?_)
              · skip
                have f33 := i_ne c32
                refine lv_aload_n hx hb dX10_rank_80 rfl (lv_at hl 1 rfl) ?_
                refine va_get (D := D) (ci := 10) (v := .ref (ad 5)) (C := RX10) (T := TX10) (N := 14) hx hb hts inX10_rank_X10 hown hK hP 0 rfl rfl 4 (by decide) (hts (Cond.fieldLink RX10 40 "PortRooms" "pledges" "LPortRooms$Pledges;") (wm_t (wm_l (wm_i 1 rfl)))) (fun _ h9 => h9) rfl dX10_rank_81 ?_
                refine lv_iload hx hb dX10_rank_84 (lv_at hl 5 rfl) ?_
                refine lv_aload_n hx hb dX10_rank_86 rfl (lv_at hl 1 rfl) ?_
                refine va_get (D := D) (ci := 10) (v := .ref (ad 3)) (C := RX10) (T := TX10) (N := 14) hx hb hts inX10_rank_X10 hown hK hP 0 rfl rfl 2 (by decide) (hts (Cond.fieldLink RX10 26 "PortRooms" "crates" "LPortRooms$Crates;") (wm_t (wm_l (wm_i 4 rfl)))) (fun _ h9 => h9) rfl dX10_rank_87 ?_
                refine va_get (D := D) (ci := 1) (v := .ref (ad 32)) (C := RX1) (T := TX1) (N := 6) hx hb hts inX10_rank_X1 hown hK hP 1 rfl rfl 1 (by decide) (hts (Cond.fieldLink RX10 207 "PortRooms$Crates" "worth" "[I") (wm_t (wm_l (wm_i 5 rfl)))) (fun _ h9 => h9) rfl dX10_rank_90 ?_
                refine lv_iload_n hx hb dX10_rank_93 rfl (lv_at hl 2 rfl) ?_
                refine va_iald hx hb hK hP 2 0 rfl rfl (i_in (by omega) (by omega)) dX10_rank_94 ?_
                refine lv_topi (fun v34 ev34 => ?_)
                refine st_i1 (va_runV (C := RX8) (As := [.int i, .int v34]) (rest := []) ⟨hx, hb, hml, hown, hts⟩ (ct_X8_paidTo l D cI cY cJ cQ _ ad gn gk gs gd ge u27 i v34 r29 (by omega) (by omega) (by omega) (by omega) (by assumption)) (cwV 2 hts gX10_rank_X8_paidTo rfl rfl rfl ⟨rfl, cdX8_paidTo⟩ ⟨Nat.le_of_ble_eq_true rfl, Nat.le_of_ble_eq_true rfl⟩) (cPreV (hP.sub [3, 4, 5, 6, 7, 8] rfl) hK (hD.sub [3, 4, 5, 6, 7, 8] (by decide +kernel) rfl) hN (ci := 8) (q0 := 0) rfl rfl) rfl rfl hl.1 rfl (lv_room (Nat.le_of_ble_eq_true rfl)) dX10_rank_95 ⟨Nat.le_of_ble_eq_true rfl, Nat.le_of_ble_eq_true rfl⟩) hP hD hS hA [3, 4, 5, 6, 7, 8] rfl (fun _ => rfl) (fun r37 u35 H locs hw36 => ?_)
                clear hP hS
                intro hP hS
                replace hw36 : True := hw36
                have hP9 := hP
                have hD9 := hD
                exact W.iret (v := r37) hx hb hr (fun t ht hW => ⟨⟨r37, u27, rfl, trivial, by rw [ht]; exact hP9, va_K.moved hW.alike hK, hD9⟩, hS.F ht⟩) hS.2.2 dX10_rank_98
              · skip
                have f38 := i_eq c32
                refine lv_aload_n hx hb dX10_rank_67 rfl (lv_at hl 1 rfl) ?_
                refine va_get (D := D) (ci := 10) (v := .ref (ad 5)) (C := RX10) (T := TX10) (N := 14) hx hb hts inX10_rank_X10 hown hK hP 0 rfl rfl 4 (by decide) (hts (Cond.fieldLink RX10 40 "PortRooms" "pledges" "LPortRooms$Pledges;") (wm_t (wm_l (wm_i 1 rfl)))) (fun _ h9 => h9) rfl dX10_rank_68 ?_
                refine va_get (D := D) (ci := 8) (v := .ref (ad 46)) (C := RX8) (T := TX8) (N := 6) hx hb hts inX10_rank_X8 hown hK hP 3 rfl rfl 5 (by decide) (hts (Cond.fieldLink RX10 204 "PortRooms$Pledges" "order" "[I") (wm_t (wm_l (wm_i 3 rfl)))) (fun _ h9 => h9) rfl dX10_rank_71 ?_
                refine lv_iload hx hb dX10_rank_74 (lv_at hl 5 rfl) ?_
                refine va_iald hx hb hK hP 8 0 rfl rfl (i_in (by omega) (by omega)) dX10_rank_76 ?_
                refine lv_topi (fun v39 ev39 => ?_)
                refine lv_goto (tgt := 98) hx hb dX10_rank_77 (by decide) ?_
                have hP9 := hP
                have hD9 := hD
                exact W.iret (v := v39) hx hb hr (fun t ht hW => ⟨⟨v39, u27, rfl, trivial, by rw [ht]; exact hP9, va_K.moved hW.alike hK, hD9⟩, hS.F ht⟩) hS.2.2 dX10_rank_98
            · skip
              have f40 := i_nlt c30
              refine lv_ldc hx hb hown (hts (Cond.constant RX10 169 (-1000000)) (wm_t (wm_l (wm_i 2 rfl)))) dX10_rank_59 ?_
              have hP9 := hP
              have hD9 := hD
              exact W.iret (v := (-1000000)) hx hb hr (fun t ht hW => ⟨⟨(-1000000), u27, rfl, trivial, by rw [ht]; exact hP9, va_K.moved hW.alike hK, hD9⟩, hS.F ht⟩) hS.2.2 dX10_rank_61
          · skip
            have f41 := bo_f hw23 c25
            refine lv_ldc hx hb hown (hts (Cond.constant RX10 89 (-1000001)) (wm_t (wm_l (wm_i 0 rfl)))) dX10_rank_37 ?_
            have hP9 := hP
            have hD9 := hD
            exact W.iret (v := (-1000001)) hx hb hr (fun t ht hW => ⟨⟨(-1000001), gr, rfl, trivial, by rw [ht]; exact hP9, va_K.moved hW.alike hK, hD9⟩, hS.F ht⟩) hS.2.2 dX10_rank_39
