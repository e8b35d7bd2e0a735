section
theorem cdX6_worstOf : yX6_worstOf.cls ≠ "java/lang/invoke/MethodHandle" ∧ yX6_worstOf.cls ≠ "java/lang/invoke/VarHandle" ∧ (parseMethodDescriptor yX6_worstOf.desc).map (fun d => d.parameters.length) = some 1 := by decide +kernel
theorem cdX6_firstOf : yX6_firstOf.cls ≠ "java/lang/invoke/MethodHandle" ∧ yX6_firstOf.cls ≠ "java/lang/invoke/VarHandle" ∧ (parseMethodDescriptor yX6_firstOf.desc).map (fun d => d.parameters.length) = some 1 := by decide +kernel
theorem cdX6_compared : yX6_compared.cls ≠ "java/lang/invoke/MethodHandle" ∧ yX6_compared.cls ≠ "java/lang/invoke/VarHandle" ∧ (parseMethodDescriptor yX6_compared.desc).map (fun d => d.parameters.length) = some 2 := by decide +kernel
theorem inX4_peopleOn_X4 : ∀ w ∈ u_ws RX4 TX4 4, w ∈ wsX4_peopleOn := fun _ h => (List.mem_cons_of_mem _ (List.mem_append_right _ h))
theorem Gd_X6_firstOf : gdA wsX6_firstOf := gd_cons (by decide +kernel) (gd_app (gd_all (ws := wsX6_firstOf_o1) (by decide +kernel)) Gd_X60)
theorem inX6_firstOf_X6 : ∀ w ∈ u_ws RX6 TX6 5, w ∈ wsX6_firstOf := fun _ h => (List.mem_cons_of_mem _ (List.mem_append_right _ h))
theorem Gd_X6_compared : gdA wsX6_compared := gd_cons (by decide +kernel) (gd_app (gd_all (ws := wsX6_compared_o1) (by decide +kernel)) (gd_app Gd_X60 Gd_J6_bitCount_0f7a4))
theorem inX6_compared_X6 : ∀ w ∈ u_ws RX6 TX6 5, w ∈ wsX6_compared := fun _ h => (List.mem_cons_of_mem _ (List.mem_append_right _ (List.mem_append_left _ h)))
theorem Gd_X6_worstOf : gdA wsX6_worstOf := gd_cons (by decide +kernel) (gd_app (gd_all (ws := wsX6_worstOf_o1) (by decide +kernel)) (gd_app (gd_app Gd_X60 Gd_X6_firstOf) Gd_X6_compared))
theorem inX6_worstOf_X6 : ∀ w ∈ u_ws RX6 TX6 5, w ∈ wsX6_worstOf := fun _ h => (List.mem_cons_of_mem _ (List.mem_append_right _ (List.mem_append_left _ (List.mem_append_left _ h))))
theorem inX10_verdict_X10 : ∀ w ∈ u_ws RX10 TX10 14, w ∈ wsX10_verdict := fun _ h => (List.mem_cons_of_mem _ (List.mem_append_right _ (List.mem_append_left _ (List.mem_append_left _ (List.mem_append_left _ h)))))
theorem dX4_peopleOn_all0 : decode cX4_peopleOn 0 = .ok (.iconst 0, 1) ∧ decode cX4_peopleOn 1 = .ok (.istore_n 2, 1) ∧ decode cX4_peopleOn 2 = .ok (.iconst 0, 1) ∧ decode cX4_peopleOn 3 = .ok (.istore_n 3, 1) ∧ decode cX4_peopleOn 4 = .ok (.iload_n 3, 1) ∧ decode cX4_peopleOn 5 = .ok (.aload_n 0, 1) ∧ decode cX4_peopleOn 6 = .ok (.getfield 21, 3) ∧ decode cX4_peopleOn 9 = .ok (.if_icmp .ge 40, 3) ∧ decode cX4_peopleOn 12 = .ok (.aload_n 0, 1) ∧ decode cX4_peopleOn 13 = .ok (.getfield 15, 3) ∧ decode cX4_peopleOn 16 = .ok (.iload_n 3, 1) ∧ decode cX4_peopleOn 17 = .ok (.iaload, 1) := by decide +kernel
theorem dX4_peopleOn_0 : decode cX4_peopleOn 0 = .ok (.iconst 0, 1) := dX4_peopleOn_all0.1
theorem dX4_peopleOn_1 : decode cX4_peopleOn 1 = .ok (.istore_n 2, 1) := dX4_peopleOn_all0.2.1
theorem dX4_peopleOn_2 : decode cX4_peopleOn 2 = .ok (.iconst 0, 1) := dX4_peopleOn_all0.2.2.1
theorem dX4_peopleOn_3 : decode cX4_peopleOn 3 = .ok (.istore_n 3, 1) := dX4_peopleOn_all0.2.2.2.1
theorem dX4_peopleOn_4 : decode cX4_peopleOn 4 = .ok (.iload_n 3, 1) := dX4_peopleOn_all0.2.2.2.2.1
theorem dX4_peopleOn_5 : decode cX4_peopleOn 5 = .ok (.aload_n 0, 1) := dX4_peopleOn_all0.2.2.2.2.2.1
theorem dX4_peopleOn_6 : decode cX4_peopleOn 6 = .ok (.getfield 21, 3) := dX4_peopleOn_all0.2.2.2.2.2.2.1
theorem dX4_peopleOn_9 : decode cX4_peopleOn 9 = .ok (.if_icmp .ge 40, 3) := dX4_peopleOn_all0.2.2.2.2.2.2.2.1
theorem dX4_peopleOn_12 : decode cX4_peopleOn 12 = .ok (.aload_n 0, 1) := dX4_peopleOn_all0.2.2.2.2.2.2.2.2.1
theorem dX4_peopleOn_13 : decode cX4_peopleOn 13 = .ok (.getfield 15, 3) := dX4_peopleOn_all0.2.2.2.2.2.2.2.2.2.1
theorem dX4_peopleOn_16 : decode cX4_peopleOn 16 = .ok (.iload_n 3, 1) := dX4_peopleOn_all0.2.2.2.2.2.2.2.2.2.2.1
theorem dX4_peopleOn_17 : decode cX4_peopleOn 17 = .ok (.iaload, 1) := dX4_peopleOn_all0.2.2.2.2.2.2.2.2.2.2.2
theorem dX4_peopleOn_all1 : decode cX4_peopleOn 18 = .ok (.iload_n 1, 1) ∧ decode cX4_peopleOn 19 = .ok (.if_icmp .gt 24, 3) ∧ decode cX4_peopleOn 22 = .ok (.iload_n 1, 1) ∧ decode cX4_peopleOn 23 = .ok (.aload_n 0, 1) ∧ decode cX4_peopleOn 24 = .ok (.getfield 18, 3) ∧ decode cX4_peopleOn 27 = .ok (.iload_n 3, 1) ∧ decode cX4_peopleOn 28 = .ok (.iaload, 1) ∧ decode cX4_peopleOn 29 = .ok (.if_icmp .gt 14, 3) ∧ decode cX4_peopleOn 32 = .ok (.iload_n 2, 1) ∧ decode cX4_peopleOn 33 = .ok (.iconst 1, 1) ∧ decode cX4_peopleOn 34 = .ok (.aload_n 0, 1) ∧ decode cX4_peopleOn 35 = .ok (.getfield 9, 3) := by decide +kernel
theorem dX4_peopleOn_18 : decode cX4_peopleOn 18 = .ok (.iload_n 1, 1) := dX4_peopleOn_all1.1
theorem dX4_peopleOn_19 : decode cX4_peopleOn 19 = .ok (.if_icmp .gt 24, 3) := dX4_peopleOn_all1.2.1
theorem dX4_peopleOn_22 : decode cX4_peopleOn 22 = .ok (.iload_n 1, 1) := dX4_peopleOn_all1.2.2.1
theorem dX4_peopleOn_23 : decode cX4_peopleOn 23 = .ok (.aload_n 0, 1) := dX4_peopleOn_all1.2.2.2.1
theorem dX4_peopleOn_24 : decode cX4_peopleOn 24 = .ok (.getfield 18, 3) := dX4_peopleOn_all1.2.2.2.2.1
theorem dX4_peopleOn_27 : decode cX4_peopleOn 27 = .ok (.iload_n 3, 1) := dX4_peopleOn_all1.2.2.2.2.2.1
theorem dX4_peopleOn_28 : decode cX4_peopleOn 28 = .ok (.iaload, 1) := dX4_peopleOn_all1.2.2.2.2.2.2.1
theorem dX4_peopleOn_29 : decode cX4_peopleOn 29 = .ok (.if_icmp .gt 14, 3) := dX4_peopleOn_all1.2.2.2.2.2.2.2.1
theorem dX4_peopleOn_32 : decode cX4_peopleOn 32 = .ok (.iload_n 2, 1) := dX4_peopleOn_all1.2.2.2.2.2.2.2.2.1
theorem dX4_peopleOn_33 : decode cX4_peopleOn 33 = .ok (.iconst 1, 1) := dX4_peopleOn_all1.2.2.2.2.2.2.2.2.2.1
theorem dX4_peopleOn_34 : decode cX4_peopleOn 34 = .ok (.aload_n 0, 1) := dX4_peopleOn_all1.2.2.2.2.2.2.2.2.2.2.1
theorem dX4_peopleOn_35 : decode cX4_peopleOn 35 = .ok (.getfield 9, 3) := dX4_peopleOn_all1.2.2.2.2.2.2.2.2.2.2.2
theorem dX4_peopleOn_all2 : decode cX4_peopleOn 38 = .ok (.iload_n 3, 1) ∧ decode cX4_peopleOn 39 = .ok (.iaload, 1) ∧ decode cX4_peopleOn 40 = .ok (.ishl, 1) ∧ decode cX4_peopleOn 41 = .ok (.ior, 1) ∧ decode cX4_peopleOn 42 = .ok (.istore_n 2, 1) ∧ decode cX4_peopleOn 43 = .ok (.iinc 3 1, 3) ∧ decode cX4_peopleOn 46 = .ok (.goto (-42), 3) ∧ decode cX4_peopleOn 49 = .ok (.iload_n 2, 1) ∧ decode cX4_peopleOn 50 = .ok (.ireturn, 1) := by decide +kernel
theorem dX4_peopleOn_38 : decode cX4_peopleOn 38 = .ok (.iload_n 3, 1) := dX4_peopleOn_all2.1
theorem dX4_peopleOn_39 : decode cX4_peopleOn 39 = .ok (.iaload, 1) := dX4_peopleOn_all2.2.1
theorem dX4_peopleOn_40 : decode cX4_peopleOn 40 = .ok (.ishl, 1) := dX4_peopleOn_all2.2.2.1
theorem dX4_peopleOn_41 : decode cX4_peopleOn 41 = .ok (.ior, 1) := dX4_peopleOn_all2.2.2.2.1
theorem dX4_peopleOn_42 : decode cX4_peopleOn 42 = .ok (.istore_n 2, 1) := dX4_peopleOn_all2.2.2.2.2.1
theorem dX4_peopleOn_43 : decode cX4_peopleOn 43 = .ok (.iinc 3 1, 3) := dX4_peopleOn_all2.2.2.2.2.2.1
theorem dX4_peopleOn_46 : decode cX4_peopleOn 46 = .ok (.goto (-42), 3) := dX4_peopleOn_all2.2.2.2.2.2.2.1
theorem dX4_peopleOn_49 : decode cX4_peopleOn 49 = .ok (.iload_n 2, 1) := dX4_peopleOn_all2.2.2.2.2.2.2.2.1
theorem dX4_peopleOn_50 : decode cX4_peopleOn 50 = .ok (.ireturn, 1) := dX4_peopleOn_all2.2.2.2.2.2.2.2.2
theorem ggX6_worstOf_X6_firstOf : GoodIn wsX6_worstOf wsX6_firstOf := goodIn_s (fun _ h => wm_t (wm_r (wm_l (wm_r h)))) Gd_X6_firstOf
theorem gX6_worstOf_X6_firstOf : GoodIn wsX6_worstOf (wsV RX6 28 RX6 yX6_firstOf wsX6_firstOf) := goodIn_V (own := RX6) (idx := 28) (C := RX6) (y := yX6_firstOf) (wm_t (wm_l (wm_i 5 rfl))) (wm_t (wm_l (wm_i 6 rfl))) (wm_t (wm_l (wm_i 7 rfl))) (wm_t (wm_l (wm_i 8 rfl))) ggX6_worstOf_X6_firstOf
theorem ggX6_worstOf_X6_compared : GoodIn wsX6_worstOf wsX6_compared := goodIn_s (fun _ h => wm_t (wm_r (wm_r h))) Gd_X6_compared
theorem gX6_worstOf_X6_compared : GoodIn wsX6_worstOf (wsV RX6 32 RX6 yX6_compared wsX6_compared) := goodIn_V (own := RX6) (idx := 32) (C := RX6) (y := yX6_compared) (wm_t (wm_l (wm_i 10 rfl))) (wm_t (wm_l (wm_i 11 rfl))) (wm_t (wm_l (wm_i 12 rfl))) (wm_t (wm_l (wm_i 8 rfl))) ggX6_worstOf_X6_compared
theorem dX6_worstOf_all0 : decode cX6_worstOf 0 = .ok (.aload_n 0, 1) ∧ decode cX6_worstOf 1 = .ok (.iload_n 1, 1) ∧ decode cX6_worstOf 2 = .ok (.invokevirtual 28, 3) ∧ decode cX6_worstOf 5 = .ok (.istore_n 2, 1) ∧ decode cX6_worstOf 6 = .ok (.iload_n 2, 1) ∧ decode cX6_worstOf 7 = .ok (.ifCond .ge 5, 3) ∧ decode cX6_worstOf 10 = .ok (.iconst 0, 1) ∧ decode cX6_worstOf 11 = .ok (.ireturn, 1) ∧ decode cX6_worstOf 12 = .ok (.iconst 0, 1) ∧ decode cX6_worstOf 13 = .ok (.istore_n 3, 1) ∧ decode cX6_worstOf 14 = .ok (.iconst 0, 1) ∧ decode cX6_worstOf 15 = .ok (.istore 4, 2) := by decide +kernel
theorem dX6_worstOf_0 : decode cX6_worstOf 0 = .ok (.aload_n 0, 1) := dX6_worstOf_all0.1
theorem dX6_worstOf_1 : decode cX6_worstOf 1 = .ok (.iload_n 1, 1) := dX6_worstOf_all0.2.1
theorem dX6_worstOf_2 : decode cX6_worstOf 2 = .ok (.invokevirtual 28, 3) := dX6_worstOf_all0.2.2.1
theorem dX6_worstOf_5 : decode cX6_worstOf 5 = .ok (.istore_n 2, 1) := dX6_worstOf_all0.2.2.2.1
theorem dX6_worstOf_6 : decode cX6_worstOf 6 = .ok (.iload_n 2, 1) := dX6_worstOf_all0.2.2.2.2.1
theorem dX6_worstOf_7 : decode cX6_worstOf 7 = .ok (.ifCond .ge 5, 3) := dX6_worstOf_all0.2.2.2.2.2.1
theorem dX6_worstOf_10 : decode cX6_worstOf 10 = .ok (.iconst 0, 1) := dX6_worstOf_all0.2.2.2.2.2.2.1
theorem dX6_worstOf_11 : decode cX6_worstOf 11 = .ok (.ireturn, 1) := dX6_worstOf_all0.2.2.2.2.2.2.2.1
theorem dX6_worstOf_12 : decode cX6_worstOf 12 = .ok (.iconst 0, 1) := dX6_worstOf_all0.2.2.2.2.2.2.2.2.1
theorem dX6_worstOf_13 : decode cX6_worstOf 13 = .ok (.istore_n 3, 1) := dX6_worstOf_all0.2.2.2.2.2.2.2.2.2.1
theorem dX6_worstOf_14 : decode cX6_worstOf 14 = .ok (.iconst 0, 1) := dX6_worstOf_all0.2.2.2.2.2.2.2.2.2.2.1
theorem dX6_worstOf_15 : decode cX6_worstOf 15 = .ok (.istore 4, 2) := dX6_worstOf_all0.2.2.2.2.2.2.2.2.2.2.2
theorem dX6_worstOf_all1 : decode cX6_worstOf 17 = .ok (.iload 4, 2) ∧ decode cX6_worstOf 19 = .ok (.aload_n 0, 1) ∧ decode cX6_worstOf 20 = .ok (.getfield 24, 3) ∧ decode cX6_worstOf 23 = .ok (.if_icmp .ge 32, 3) ∧ decode cX6_worstOf 26 = .ok (.aload_n 0, 1) ∧ decode cX6_worstOf 27 = .ok (.getfield 9, 3) ∧ decode cX6_worstOf 30 = .ok (.iload 4, 2) ∧ decode cX6_worstOf 32 = .ok (.iaload, 1) ∧ decode cX6_worstOf 33 = .ok (.iload_n 1, 1) ∧ decode cX6_worstOf 34 = .ok (.if_icmp .ne 15, 3) ∧ decode cX6_worstOf 37 = .ok (.iload_n 3, 1) ∧ decode cX6_worstOf 38 = .ok (.aload_n 0, 1) := by decide +kernel
theorem dX6_worstOf_17 : decode cX6_worstOf 17 = .ok (.iload 4, 2) := dX6_worstOf_all1.1
theorem dX6_worstOf_19 : decode cX6_worstOf 19 = .ok (.aload_n 0, 1) := dX6_worstOf_all1.2.1
theorem dX6_worstOf_20 : decode cX6_worstOf 20 = .ok (.getfield 24, 3) := dX6_worstOf_all1.2.2.1
theorem dX6_worstOf_23 : decode cX6_worstOf 23 = .ok (.if_icmp .ge 32, 3) := dX6_worstOf_all1.2.2.2.1
theorem dX6_worstOf_26 : decode cX6_worstOf 26 = .ok (.aload_n 0, 1) := dX6_worstOf_all1.2.2.2.2.1
theorem dX6_worstOf_27 : decode cX6_worstOf 27 = .ok (.getfield 9, 3) := dX6_worstOf_all1.2.2.2.2.2.1
theorem dX6_worstOf_30 : decode cX6_worstOf 30 = .ok (.iload 4, 2) := dX6_worstOf_all1.2.2.2.2.2.2.1
theorem dX6_worstOf_32 : decode cX6_worstOf 32 = .ok (.iaload, 1) := dX6_worstOf_all1.2.2.2.2.2.2.2.1
theorem dX6_worstOf_33 : decode cX6_worstOf 33 = .ok (.iload_n 1, 1) := dX6_worstOf_all1.2.2.2.2.2.2.2.2.1
theorem dX6_worstOf_34 : decode cX6_worstOf 34 = .ok (.if_icmp .ne 15, 3) := dX6_worstOf_all1.2.2.2.2.2.2.2.2.2.1
theorem dX6_worstOf_37 : decode cX6_worstOf 37 = .ok (.iload_n 3, 1) := dX6_worstOf_all1.2.2.2.2.2.2.2.2.2.2.1
theorem dX6_worstOf_38 : decode cX6_worstOf 38 = .ok (.aload_n 0, 1) := dX6_worstOf_all1.2.2.2.2.2.2.2.2.2.2.2
theorem dX6_worstOf_all2 : decode cX6_worstOf 39 = .ok (.iload_n 2, 1) ∧ decode cX6_worstOf 40 = .ok (.iload 4, 2) ∧ decode cX6_worstOf 42 = .ok (.invokevirtual 32, 3) ∧ decode cX6_worstOf 45 = .ok (.invokestatic 36, 3) ∧ decode cX6_worstOf 48 = .ok (.istore_n 3, 1) ∧ decode cX6_worstOf 49 = .ok (.iinc 4 1, 3) ∧ decode cX6_worstOf 52 = .ok (.goto (-35), 3) ∧ decode cX6_worstOf 55 = .ok (.iload_n 3, 1) ∧ decode cX6_worstOf 56 = .ok (.ireturn, 1) := by decide +kernel
theorem dX6_worstOf_39 : decode cX6_worstOf 39 = .ok (.iload_n 2, 1) := dX6_worstOf_all2.1
theorem dX6_worstOf_40 : decode cX6_worstOf 40 = .ok (.iload 4, 2) := dX6_worstOf_all2.2.1
theorem dX6_worstOf_42 : decode cX6_worstOf 42 = .ok (.invokevirtual 32, 3) := dX6_worstOf_all2.2.2.1
theorem dX6_worstOf_45 : decode cX6_worstOf 45 = .ok (.invokestatic 36, 3) := dX6_worstOf_all2.2.2.2.1
theorem dX6_worstOf_48 : decode cX6_worstOf 48 = .ok (.istore_n 3, 1) := dX6_worstOf_all2.2.2.2.2.1
theorem dX6_worstOf_49 : decode cX6_worstOf 49 = .ok (.iinc 4 1, 3) := dX6_worstOf_all2.2.2.2.2.2.1
theorem dX6_worstOf_52 : decode cX6_worstOf 52 = .ok (.goto (-35), 3) := dX6_worstOf_all2.2.2.2.2.2.2.1
theorem dX6_worstOf_55 : decode cX6_worstOf 55 = .ok (.iload_n 3, 1) := dX6_worstOf_all2.2.2.2.2.2.2.2.1
theorem dX6_worstOf_56 : decode cX6_worstOf 56 = .ok (.ireturn, 1) := dX6_worstOf_all2.2.2.2.2.2.2.2.2
theorem dX6_firstOf_all0 : decode cX6_firstOf 0 = .ok (.iconst (-1), 1) ∧ decode cX6_firstOf 1 = .ok (.istore_n 2, 1) ∧ decode cX6_firstOf 2 = .ok (.iconst 0, 1) ∧ decode cX6_firstOf 3 = .ok (.istore_n 3, 1) ∧ decode cX6_firstOf 4 = .ok (.iload_n 3, 1) ∧ decode cX6_firstOf 5 = .ok (.aload_n 0, 1) ∧ decode cX6_firstOf 6 = .ok (.getfield 24, 3) ∧ decode cX6_firstOf 9 = .ok (.if_icmp .ge 40, 3) ∧ decode cX6_firstOf 12 = .ok (.aload_n 0, 1) ∧ decode cX6_firstOf 13 = .ok (.getfield 9, 3) ∧ decode cX6_firstOf 16 = .ok (.iload_n 3, 1) ∧ decode cX6_firstOf 17 = .ok (.iaload, 1) := by decide +kernel
theorem dX6_firstOf_0 : decode cX6_firstOf 0 = .ok (.iconst (-1), 1) := dX6_firstOf_all0.1
theorem dX6_firstOf_1 : decode cX6_firstOf 1 = .ok (.istore_n 2, 1) := dX6_firstOf_all0.2.1
theorem dX6_firstOf_2 : decode cX6_firstOf 2 = .ok (.iconst 0, 1) := dX6_firstOf_all0.2.2.1
theorem dX6_firstOf_3 : decode cX6_firstOf 3 = .ok (.istore_n 3, 1) := dX6_firstOf_all0.2.2.2.1
theorem dX6_firstOf_4 : decode cX6_firstOf 4 = .ok (.iload_n 3, 1) := dX6_firstOf_all0.2.2.2.2.1
theorem dX6_firstOf_5 : decode cX6_firstOf 5 = .ok (.aload_n 0, 1) := dX6_firstOf_all0.2.2.2.2.2.1
theorem dX6_firstOf_6 : decode cX6_firstOf 6 = .ok (.getfield 24, 3) := dX6_firstOf_all0.2.2.2.2.2.2.1
theorem dX6_firstOf_9 : decode cX6_firstOf 9 = .ok (.if_icmp .ge 40, 3) := dX6_firstOf_all0.2.2.2.2.2.2.2.1
theorem dX6_firstOf_12 : decode cX6_firstOf 12 = .ok (.aload_n 0, 1) := dX6_firstOf_all0.2.2.2.2.2.2.2.2.1
theorem dX6_firstOf_13 : decode cX6_firstOf 13 = .ok (.getfield 9, 3) := dX6_firstOf_all0.2.2.2.2.2.2.2.2.2.1
theorem dX6_firstOf_16 : decode cX6_firstOf 16 = .ok (.iload_n 3, 1) := dX6_firstOf_all0.2.2.2.2.2.2.2.2.2.2.1
theorem dX6_firstOf_17 : decode cX6_firstOf 17 = .ok (.iaload, 1) := dX6_firstOf_all0.2.2.2.2.2.2.2.2.2.2.2
theorem dX6_firstOf_all1 : decode cX6_firstOf 18 = .ok (.iload_n 1, 1) ∧ decode cX6_firstOf 19 = .ok (.if_icmp .ne 24, 3) ∧ decode cX6_firstOf 22 = .ok (.iload_n 2, 1) ∧ decode cX6_firstOf 23 = .ok (.ifCond .lt 18, 3) ∧ decode cX6_firstOf 26 = .ok (.aload_n 0, 1) ∧ decode cX6_firstOf 27 = .ok (.getfield 15, 3) ∧ decode cX6_firstOf 30 = .ok (.iload_n 3, 1) ∧ decode cX6_firstOf 31 = .ok (.iaload, 1) ∧ decode cX6_firstOf 32 = .ok (.aload_n 0, 1) ∧ decode cX6_firstOf 33 = .ok (.getfield 15, 3) ∧ decode cX6_firstOf 36 = .ok (.iload_n 2, 1) ∧ decode cX6_firstOf 37 = .ok (.iaload, 1) := by decide +kernel
theorem dX6_firstOf_18 : decode cX6_firstOf 18 = .ok (.iload_n 1, 1) := dX6_firstOf_all1.1
theorem dX6_firstOf_19 : decode cX6_firstOf 19 = .ok (.if_icmp .ne 24, 3) := dX6_firstOf_all1.2.1
theorem dX6_firstOf_22 : decode cX6_firstOf 22 = .ok (.iload_n 2, 1) := dX6_firstOf_all1.2.2.1
theorem dX6_firstOf_23 : decode cX6_firstOf 23 = .ok (.ifCond .lt 18, 3) := dX6_firstOf_all1.2.2.2.1
theorem dX6_firstOf_26 : decode cX6_firstOf 26 = .ok (.aload_n 0, 1) := dX6_firstOf_all1.2.2.2.2.1
theorem dX6_firstOf_27 : decode cX6_firstOf 27 = .ok (.getfield 15, 3) := dX6_firstOf_all1.2.2.2.2.2.1
theorem dX6_firstOf_30 : decode cX6_firstOf 30 = .ok (.iload_n 3, 1) := dX6_firstOf_all1.2.2.2.2.2.2.1
theorem dX6_firstOf_31 : decode cX6_firstOf 31 = .ok (.iaload, 1) := dX6_firstOf_all1.2.2.2.2.2.2.2.1
theorem dX6_firstOf_32 : decode cX6_firstOf 32 = .ok (.aload_n 0, 1) := dX6_firstOf_all1.2.2.2.2.2.2.2.2.1
theorem dX6_firstOf_33 : decode cX6_firstOf 33 = .ok (.getfield 15, 3) := dX6_firstOf_all1.2.2.2.2.2.2.2.2.2.1
theorem dX6_firstOf_36 : decode cX6_firstOf 36 = .ok (.iload_n 2, 1) := dX6_firstOf_all1.2.2.2.2.2.2.2.2.2.2.1
theorem dX6_firstOf_37 : decode cX6_firstOf 37 = .ok (.iaload, 1) := dX6_firstOf_all1.2.2.2.2.2.2.2.2.2.2.2
theorem dX6_firstOf_all2 : decode cX6_firstOf 38 = .ok (.if_icmp .ge 5, 3) ∧ decode cX6_firstOf 41 = .ok (.iload_n 3, 1) ∧ decode cX6_firstOf 42 = .ok (.istore_n 2, 1) ∧ decode cX6_firstOf 43 = .ok (.iinc 3 1, 3) ∧ decode cX6_firstOf 46 = .ok (.goto (-42), 3) ∧ decode cX6_firstOf 49 = .ok (.iload_n 2, 1) ∧ decode cX6_firstOf 50 = .ok (.ireturn, 1) := by decide +kernel
theorem dX6_firstOf_38 : decode cX6_firstOf 38 = .ok (.if_icmp .ge 5, 3) := dX6_firstOf_all2.1
theorem dX6_firstOf_41 : decode cX6_firstOf 41 = .ok (.iload_n 3, 1) := dX6_firstOf_all2.2.1
theorem dX6_firstOf_42 : decode cX6_firstOf 42 = .ok (.istore_n 2, 1) := dX6_firstOf_all2.2.2.1
theorem dX6_firstOf_43 : decode cX6_firstOf 43 = .ok (.iinc 3 1, 3) := dX6_firstOf_all2.2.2.2.1
theorem dX6_firstOf_46 : decode cX6_firstOf 46 = .ok (.goto (-42), 3) := dX6_firstOf_all2.2.2.2.2.1
theorem dX6_firstOf_49 : decode cX6_firstOf 49 = .ok (.iload_n 2, 1) := dX6_firstOf_all2.2.2.2.2.2.1
theorem dX6_firstOf_50 : decode cX6_firstOf 50 = .ok (.ireturn, 1) := dX6_firstOf_all2.2.2.2.2.2.2
theorem ggX6_compared_J6_bitCount_0f7a4 : GoodIn wsX6_compared wsJ6_bitCount_0f7a4 := goodIn_s (fun _ h => wm_t (wm_r (wm_r h))) Gd_J6_bitCount_0f7a4
theorem gX6_compared_J6_bitCount_0f7a4 : GoodIn wsX6_compared (va_wsS RX6 44 yJ6_bitCount_0f7a4 wsJ6_bitCount_0f7a4) := goodIn_S (own := RX6) (idx := 44) (y := yJ6_bitCount_0f7a4) (wm_t (wm_l (wm_i 6 rfl))) (wm_t (wm_l (wm_i 7 rfl))) (wm_t (wm_l (wm_i 8 rfl))) ggX6_compared_J6_bitCount_0f7a4
theorem dX6_compared_all0 : decode cX6_compared 0 = .ok (.aload_n 0, 1) ∧ decode cX6_compared 1 = .ok (.getfield 18, 3) ∧ decode cX6_compared 4 = .ok (.iload_n 2, 1) ∧ decode cX6_compared 5 = .ok (.iaload, 1) ∧ decode cX6_compared 6 = .ok (.aload_n 0, 1) ∧ decode cX6_compared 7 = .ok (.getfield 18, 3) ∧ decode cX6_compared 10 = .ok (.iload_n 1, 1) ∧ decode cX6_compared 11 = .ok (.iaload, 1) ∧ decode cX6_compared 12 = .ok (.isub, 1) ∧ decode cX6_compared 13 = .ok (.invokestatic 41, 3) ∧ decode cX6_compared 16 = .ok (.istore_n 3, 1) ∧ decode cX6_compared 17 = .ok (.aload_n 0, 1) := by decide +kernel
theorem dX6_compared_0 : decode cX6_compared 0 = .ok (.aload_n 0, 1) := dX6_compared_all0.1
theorem dX6_compared_1 : decode cX6_compared 1 = .ok (.getfield 18, 3) := dX6_compared_all0.2.1
theorem dX6_compared_4 : decode cX6_compared 4 = .ok (.iload_n 2, 1) := dX6_compared_all0.2.2.1
theorem dX6_compared_5 : decode cX6_compared 5 = .ok (.iaload, 1) := dX6_compared_all0.2.2.2.1
theorem dX6_compared_6 : decode cX6_compared 6 = .ok (.aload_n 0, 1) := dX6_compared_all0.2.2.2.2.1
theorem dX6_compared_7 : decode cX6_compared 7 = .ok (.getfield 18, 3) := dX6_compared_all0.2.2.2.2.2.1
theorem dX6_compared_10 : decode cX6_compared 10 = .ok (.iload_n 1, 1) := dX6_compared_all0.2.2.2.2.2.2.1
theorem dX6_compared_11 : decode cX6_compared 11 = .ok (.iaload, 1) := dX6_compared_all0.2.2.2.2.2.2.2.1
theorem dX6_compared_12 : decode cX6_compared 12 = .ok (.isub, 1) := dX6_compared_all0.2.2.2.2.2.2.2.2.1
theorem dX6_compared_13 : decode cX6_compared 13 = .ok (.invokestatic 41, 3) := dX6_compared_all0.2.2.2.2.2.2.2.2.2.1
theorem dX6_compared_16 : decode cX6_compared 16 = .ok (.istore_n 3, 1) := dX6_compared_all0.2.2.2.2.2.2.2.2.2.2.1
theorem dX6_compared_17 : decode cX6_compared 17 = .ok (.aload_n 0, 1) := dX6_compared_all0.2.2.2.2.2.2.2.2.2.2.2
theorem dX6_compared_all1 : decode cX6_compared 18 = .ok (.getfield 21, 3) ∧ decode cX6_compared 21 = .ok (.iload_n 1, 1) ∧ decode cX6_compared 22 = .ok (.iaload, 1) ∧ decode cX6_compared 23 = .ok (.aload_n 0, 1) ∧ decode cX6_compared 24 = .ok (.getfield 21, 3) ∧ decode cX6_compared 27 = .ok (.iload_n 2, 1) ∧ decode cX6_compared 28 = .ok (.iaload, 1) ∧ decode cX6_compared 29 = .ok (.iconst (-1), 1) ∧ decode cX6_compared 30 = .ok (.ixor, 1) ∧ decode cX6_compared 31 = .ok (.iand, 1) ∧ decode cX6_compared 32 = .ok (.invokestatic 44, 3) ∧ decode cX6_compared 35 = .ok (.istore 4, 2) := by decide +kernel
theorem dX6_compared_18 : decode cX6_compared 18 = .ok (.getfield 21, 3) := dX6_compared_all1.1
theorem dX6_compared_21 : decode cX6_compared 21 = .ok (.iload_n 1, 1) := dX6_compared_all1.2.1
theorem dX6_compared_22 : decode cX6_compared 22 = .ok (.iaload, 1) := dX6_compared_all1.2.2.1
theorem dX6_compared_23 : decode cX6_compared 23 = .ok (.aload_n 0, 1) := dX6_compared_all1.2.2.2.1
theorem dX6_compared_24 : decode cX6_compared 24 = .ok (.getfield 21, 3) := dX6_compared_all1.2.2.2.2.1
theorem dX6_compared_27 : decode cX6_compared 27 = .ok (.iload_n 2, 1) := dX6_compared_all1.2.2.2.2.2.1
theorem dX6_compared_28 : decode cX6_compared 28 = .ok (.iaload, 1) := dX6_compared_all1.2.2.2.2.2.2.1
theorem dX6_compared_29 : decode cX6_compared 29 = .ok (.iconst (-1), 1) := dX6_compared_all1.2.2.2.2.2.2.2.1
theorem dX6_compared_30 : decode cX6_compared 30 = .ok (.ixor, 1) := dX6_compared_all1.2.2.2.2.2.2.2.2.1
theorem dX6_compared_31 : decode cX6_compared 31 = .ok (.iand, 1) := dX6_compared_all1.2.2.2.2.2.2.2.2.2.1
theorem dX6_compared_32 : decode cX6_compared 32 = .ok (.invokestatic 44, 3) := dX6_compared_all1.2.2.2.2.2.2.2.2.2.2.1
theorem dX6_compared_35 : decode cX6_compared 35 = .ok (.istore 4, 2) := dX6_compared_all1.2.2.2.2.2.2.2.2.2.2.2
theorem dX6_compared_all2 : decode cX6_compared 37 = .ok (.iload_n 3, 1) ∧ decode cX6_compared 38 = .ok (.bipush 100, 2) ∧ decode cX6_compared 40 = .ok (.if_icmp .gt 9, 3) ∧ decode cX6_compared 43 = .ok (.iload 4, 2) ∧ decode cX6_compared 45 = .ok (.iconst 2, 1) ∧ decode cX6_compared 46 = .ok (.if_icmp .lt 5, 3) ∧ decode cX6_compared 49 = .ok (.iconst 2, 1) ∧ decode cX6_compared 50 = .ok (.ireturn, 1) ∧ decode cX6_compared 51 = .ok (.iload_n 3, 1) ∧ decode cX6_compared 52 = .ok (.bipush 10, 2) ∧ decode cX6_compared 54 = .ok (.if_icmp .gt 12, 3) ∧ decode cX6_compared 57 = .ok (.iload 4, 2) := by decide +kernel
theorem dX6_compared_37 : decode cX6_compared 37 = .ok (.iload_n 3, 1) := dX6_compared_all2.1
theorem dX6_compared_38 : decode cX6_compared 38 = .ok (.bipush 100, 2) := dX6_compared_all2.2.1
theorem dX6_compared_40 : decode cX6_compared 40 = .ok (.if_icmp .gt 9, 3) := dX6_compared_all2.2.2.1
theorem dX6_compared_43 : decode cX6_compared 43 = .ok (.iload 4, 2) := dX6_compared_all2.2.2.2.1
theorem dX6_compared_45 : decode cX6_compared 45 = .ok (.iconst 2, 1) := dX6_compared_all2.2.2.2.2.1
theorem dX6_compared_46 : decode cX6_compared 46 = .ok (.if_icmp .lt 5, 3) := dX6_compared_all2.2.2.2.2.2.1
theorem dX6_compared_49 : decode cX6_compared 49 = .ok (.iconst 2, 1) := dX6_compared_all2.2.2.2.2.2.2.1
theorem dX6_compared_50 : decode cX6_compared 50 = .ok (.ireturn, 1) := dX6_compared_all2.2.2.2.2.2.2.2.1
theorem dX6_compared_51 : decode cX6_compared 51 = .ok (.iload_n 3, 1) := dX6_compared_all2.2.2.2.2.2.2.2.2.1
theorem dX6_compared_52 : decode cX6_compared 52 = .ok (.bipush 10, 2) := dX6_compared_all2.2.2.2.2.2.2.2.2.2.1
theorem dX6_compared_54 : decode cX6_compared 54 = .ok (.if_icmp .gt 12, 3) := dX6_compared_all2.2.2.2.2.2.2.2.2.2.2.1
theorem dX6_compared_57 : decode cX6_compared 57 = .ok (.iload 4, 2) := dX6_compared_all2.2.2.2.2.2.2.2.2.2.2.2
theorem dX6_compared_all3 : decode cX6_compared 59 = .ok (.ifCond .ne 7, 3) ∧ decode cX6_compared 62 = .ok (.iconst 0, 1) ∧ decode cX6_compared 63 = .ok (.goto 4, 3) ∧ decode cX6_compared 66 = .ok (.iconst 1, 1) ∧ decode cX6_compared 67 = .ok (.ireturn, 1) := by decide +kernel
theorem dX6_compared_59 : decode cX6_compared 59 = .ok (.ifCond .ne 7, 3) := dX6_compared_all3.1
theorem dX6_compared_62 : decode cX6_compared 62 = .ok (.iconst 0, 1) := dX6_compared_all3.2.1
theorem dX6_compared_63 : decode cX6_compared 63 = .ok (.goto 4, 3) := dX6_compared_all3.2.2.1
theorem dX6_compared_66 : decode cX6_compared 66 = .ok (.iconst 1, 1) := dX6_compared_all3.2.2.2.1
theorem dX6_compared_67 : decode cX6_compared 67 = .ok (.ireturn, 1) := dX6_compared_all3.2.2.2.2
theorem ggX10_verdict_X10_isCrate : GoodIn wsX10_verdict wsX10_isCrate := goodIn_s (fun _ h => wm_t (wm_r (wm_r (wm_l h)))) Gd_X10_isCrate
theorem gX10_verdict_X10_isCrate : GoodIn wsX10_verdict (wsV RX10 180 RX10 yX10_isCrate wsX10_isCrate) := goodIn_V (own := RX10) (idx := 180) (C := RX10) (y := yX10_isCrate) (wm_t (wm_l (wm_i 2 rfl))) (wm_t (wm_l (wm_i 3 rfl))) (wm_t (wm_l (wm_i 4 rfl))) (wm_t (wm_l (wm_i 5 rfl))) ggX10_verdict_X10_isCrate
theorem ggX10_verdict_X6_worstOf : GoodIn wsX10_verdict wsX6_worstOf := goodIn_s (fun _ h => wm_t (wm_r (wm_r (wm_r h)))) Gd_X6_worstOf
theorem gX10_verdict_X6_worstOf : GoodIn wsX10_verdict (wsV RX10 289 RX6 yX6_worstOf wsX6_worstOf) := goodIn_V (own := RX10) (idx := 289) (C := RX6) (y := yX6_worstOf) (wm_t (wm_l (wm_i 6 rfl))) (wm_t (wm_l (wm_i 7 rfl))) (wm_t (wm_l (wm_i 8 rfl))) (wm_t (wm_l (wm_i 9 rfl))) ggX10_verdict_X6_worstOf
theorem dX10_verdict_all0 : decode cX10_verdict 0 = .ok (.aload_n 0, 1) ∧ decode cX10_verdict 1 = .ok (.iload_n 1, 1) ∧ decode cX10_verdict 2 = .ok (.invokevirtual 180, 3) ∧ decode cX10_verdict 5 = .ok (.ifCond .ne 6, 3) ∧ decode cX10_verdict 8 = .ok (.ldc 89, 2) ∧ decode cX10_verdict 10 = .ok (.ireturn, 1) ∧ decode cX10_verdict 11 = .ok (.aload_n 0, 1) ∧ decode cX10_verdict 12 = .ok (.getfield 61, 3) ∧ decode cX10_verdict 15 = .ok (.iload_n 1, 1) ∧ decode cX10_verdict 16 = .ok (.invokevirtual 289, 3) ∧ decode cX10_verdict 19 = .ok (.ireturn, 1) := by decide +kernel
theorem dX10_verdict_0 : decode cX10_verdict 0 = .ok (.aload_n 0, 1) := dX10_verdict_all0.1
theorem dX10_verdict_1 : decode cX10_verdict 1 = .ok (.iload_n 1, 1) := dX10_verdict_all0.2.1
theorem dX10_verdict_2 : decode cX10_verdict 2 = .ok (.invokevirtual 180, 3) := dX10_verdict_all0.2.2.1
theorem dX10_verdict_5 : decode cX10_verdict 5 = .ok (.ifCond .ne 6, 3) := dX10_verdict_all0.2.2.2.1
theorem dX10_verdict_8 : decode cX10_verdict 8 = .ok (.ldc 89, 2) := dX10_verdict_all0.2.2.2.2.1
theorem dX10_verdict_10 : decode cX10_verdict 10 = .ok (.ireturn, 1) := dX10_verdict_all0.2.2.2.2.2.1
theorem dX10_verdict_11 : decode cX10_verdict 11 = .ok (.aload_n 0, 1) := dX10_verdict_all0.2.2.2.2.2.2.1
theorem dX10_verdict_12 : decode cX10_verdict 12 = .ok (.getfield 61, 3) := dX10_verdict_all0.2.2.2.2.2.2.2.1
theorem dX10_verdict_15 : decode cX10_verdict 15 = .ok (.iload_n 1, 1) := dX10_verdict_all0.2.2.2.2.2.2.2.2.1
theorem dX10_verdict_16 : decode cX10_verdict 16 = .ok (.invokevirtual 289, 3) := dX10_verdict_all0.2.2.2.2.2.2.2.2.2.1
theorem dX10_verdict_19 : decode cX10_verdict 19 = .ok (.ireturn, 1) := dX10_verdict_all0.2.2.2.2.2.2.2.2.2.2

def absV (x : Int32) : Int32 := if 0 ≤ x then x else 0 - x
def maxV (x y : Int32) : Int32 := if x < y then y else x
theorem absV_p {x : Int32} (h : 0 ≤ x.toInt) : x = absV x := by
  unfold absV
  rw [if_pos (Int32.le_iff_toInt_le.mpr (by have k0 : (0 : Int32).toInt = 0 := rfl; omega))]
theorem absV_n {x y : Int32} (h : x.toInt < 0) (e : y = -x) : y = absV x := by
  unfold absV
  rw [if_neg (fun h9 => by have h8 := Int32.le_iff_toInt_le.mp h9; have k0 : (0 : Int32).toInt = 0 := rfl; omega), e]
  first | exact (Int32.zero_sub x).symm | exact Int32.toBitVec_inj.mp (by rw [Int32.toBitVec_sub, Int32.toBitVec_neg]; exact (BitVec.zero_sub _).symm)
theorem maxV_t {x y : Int32} (h : x.toInt < y.toInt) : y = maxV x y := by
  unfold maxV
  rw [if_pos (Int32.lt_iff_toInt_lt.mpr h)]
theorem maxV_f {x y : Int32} (h : y.toInt ≤ x.toInt) : x = maxV x y := by
  unfold maxV
  rw [if_neg (fun h9 => by have h8 := Int32.lt_iff_toInt_lt.mp h9; omega)]
/-- the first opening of a crate -/
def fiV (uk uy : Nat → Int32) (k : Int32) : Nat → Int32
  | 0 => -1
  | n + 1 => if (uk n).toInt = k.toInt ∧ ((fiV uk uy k n).toInt < 0 ∨ (uy n).toInt < (uy (fiV uk uy k n).toNatClampNeg).toInt) then nI n else fiV uk uy k n
theorem fiV_s (uk uy : Nat → Int32) (k : Int32) (n : Nat) : fiV uk uy k (n + 1) = if (uk n).toInt = k.toInt ∧ ((fiV uk uy k n).toInt < 0 ∨ (uy n).toInt < (uy (fiV uk uy k n).toNatClampNeg).toInt) then nI n else fiV uk uy k n := rfl
def cmF (far mis : Int32) : Int32 := if 100 < far.toInt ∨ 2 ≤ mis.toInt then 2 else if far.toInt ≤ 10 ∧ mis.toInt = 0 then 0 else 1
def cmV (uw um : Nat → Int32) (x y : Nat) : Int32 := cmF (absV (uw y - uw x)) (bcf (um x &&& (um y ^^^ (-1))))
/-- the worst of a crate's openings against the one at f -/
def wrsV (uk uw um : Nat → Int32) (k : Int32) (f : Nat) : Nat → Int32
  | 0 => 0
  | n + 1 => if (uk n).toInt = k.toInt then maxV (wrsV uk uw um k f n) (cmV uw um f n) else wrsV uk uw um k f n
theorem wrsV_s (uk uw um : Nat → Int32) (k : Int32) (f n : Nat) : wrsV uk uw um k f (n + 1) = if (uk n).toInt = k.toInt then maxV (wrsV uk uw um k f n) (cmV uw um f n) else wrsV uk uw um k f n := rfl
def vdV (un : Int32) (uk uy uw um : Nat → Int32) (k : Int32) : Int32 := if (fiV uk uy k un.toNatClampNeg).toInt < 0 then 0 else wrsV uk uw um k (fiV uk uy k un.toNatClampNeg).toNatClampNeg un.toNatClampNeg
def sp_verdict (cn un : Int32) (uk uy uw um : Nat → Int32) (k : Int32) : Int32 := if 0 ≤ k.toInt ∧ k.toInt < cn.toInt then vdV un uk uy uw um k else -1000001

set_option maxHeartbeats 4000000 in
set_option maxRecDepth 100000 in
theorem ct_X6_firstOf (l : Launch) (D : va_G) (cI cY cJ cQ : ClassId) (sz : Nat) (ad : Nat → Nat) (un : Int32) (uk uy uw um : Nat → Int32) (k : Int32)  (h1 : 0 ≤ un.toInt) (h2 : un.toInt ≤ 60)  : Met l yX6_firstOf wsX6_firstOf ({ frames := 0, cells := 0, slots := 0, locals := 0 }) (cPre D (ty4 cI cY cJ cQ) [(oC6 ad un), (aI cI (ad 59) 60 uk), (aI cI (ad 60) 60 uy), (aI cI (ad 61) 60 uw), (aI cI (ad 62) 60 um)] sz [.ref (ad 9), .int k]) (va_Qi (fun (r : Int32) (u : Unit) => r = fiV uk uy k un.toNatClampNeg ∧ -1 ≤ r.toInt ∧ (r.toInt < un.toInt ∨ r.toInt < 0)) (cB D (ty4 cI cY cJ cQ) (fun (u : Unit) => [(oC6 ad un), (aI cI (ad 59) 60 uk), (aI cI (ad 60) 60 uy), (aI cI (ad 61) 60 uw), (aI cI (ad 62) 60 um)]) (va_A [(oC6 ad un), (aI cI (ad 59) 60 uk), (aI cI (ad 60) 60 uy), (aI cI (ad 61) 60 uw), (aI cI (ad 62) 60 um)] sz)) (va_A [(oC6 ad un), (aI cI (ad 59) 60 uk), (aI cI (ad 60) 60 uy), (aI cI (ad 61) 60 uw), (aI cI (ad 62) 60 um)] sz)) 0 0 (va_A [(oC6 ad un), (aI cI (ad 59) 60 uk), (aI cI (ad 60) 60 uy), (aI cI (ad 61) 60 uw), (aI cI (ad 62) 60 um)] sz) := by
  refine Met.ofW (cc := cX6_firstOf) (maxL := 4) (ret := (some .int)) (by decide) rfl ?_
  intro p e s m args below meth c s₁ B hml hv
  obtain ⟨rfl, hsz, hP, hK, hD0, hN⟩ := hv
  have hx := B.exec
  have hb := B.bytes
  have hr := B.returns
  have hts := atoms_spec (ws := wsX6_firstOf) B.pre
  have hown : s.vm.findClass RX6 = some m.cls := findClass_of_methodNamed B.named
  have hlocks := B.notSynchronized
  subst hsz
  have hD := hD0.self (sz := s.heap.size)
  generalize hAe : va_A [(oC6 ad un), (aI cI (ad 59) 60 uk), (aI cI (ad 60) 60 uy), (aI cI (ad 61) 60 uw), (aI cI (ad 62) 60 um)] s.heap.size = A at hD ⊢
  have hA : ∀ q : Nat, s.heap.size ≤ q → A q := fun q h => by rw [← hAe]; exact Or.inr h
  have hS : va_S A s.heap s.heap [] := va_S.rf
  have hP : va_P D vwCl [(oC6 ad un), (aI cI (ad 59) 60 uk), (aI cI (ad 60) 60 uy), (aI cI (ad 61) 60 uw), (aI cI (ad 62) 60 um)] s.heap := hP
  have hl := lv_entry ([.ref (ad 9), .int k]) (n := 4) (Nat.le_of_ble_eq_true rfl)
  rw [lg_entry_eq]
  generalize (lg_sl ([.ref (ad 9), .int k]) ++ List.replicate (4 - (lg_sl ([.ref (ad 9), .int k])).length) Slot.unset).toArray = ls at hl ⊢
  have hl : lv_has ls 4 [(0, .ref (ad 9)), (1, .int k)] := hl
  have km1 : (-1 : Int32).toInt = -1 := by decide
  have k0 : (0 : Int32).toInt = 0 := by decide
  have k1 : (1 : Int32).toInt = 1 := by decide
  refine lv_iconst (v := (-1)) hx hb dX6_firstOf_0 (by decide) ?_
  refine lv_istore_n (lv' := [(2, .int (-1)), (0, .ref (ad 9)), (1, .int k)]) hx hb dX6_firstOf_1 rfl hl (by decide) rfl (fun ls hl => ?_)
  refine lv_iconst (v := 0) hx hb dX6_firstOf_2 (by decide) ?_
  refine lv_istore_n (lv' := [(3, .int 0), (2, .int (-1)), (0, .ref (ad 9)), (1, .int k)]) hx hb dX6_firstOf_3 rfl hl (by decide) rfl (fun ls hl => ?_)
  refine st_loop 4 (fun _ => []) (fun (z : Int32 × Int32) (ls : Array Slot) (H : Heap) (locs : List Loc) => match z with | (q4_2, q4_3) => (0 ≤ q4_3.toInt) ∧ (q4_3.toInt ≤ un.toInt) ∧ (-1 ≤ q4_2.toInt) ∧ (q4_2.toInt < un.toInt ∨ q4_2.toInt < 0) ∧ (q4_2 = fiV uk uy k q4_3.toNatClampNeg) ∧ lv_has ls 4 [(0, .ref (ad 9)), (1, .int k), (2, .int q4_2), (3, .int q4_3)] ∧ va_P D vwCl [(oC6 ad un), (aI cI (ad 59) 60 uk), (aI cI (ad 60) 60 uy), (aI cI (ad 61) 60 uw), (aI cI (ad 62) 60 um)] H ∧ va_D A [(oC6 ad un), (aI cI (ad 59) 60 uk), (aI cI (ad 60) 60 uy), (aI cI (ad 61) 60 uw), (aI cI (ad 62) 60 um)] ∧ va_S A s.heap H locs) (fun (z : Int32 × Int32) => match z with | (q4_2, q4_3) => un.toInt - q4_3.toInt) ?_ ?_ (((-1) : Int32), (0 : Int32)) ⟨(by omega), (by omega), (by omega), (by omega), (by rfl), lv_sub hl [2, 3, 1, 0] rfl, hP, hD, hS⟩
  · rintro ⟨q4_2, q4_3⟩ ls H locs ⟨g1, g2, g3, g4, g5, hl, hP, hD, hS⟩
    show (0 : Int) ≤ un.toInt - q4_3.toInt
    omega
  · rintro n8 ih6 ⟨q4_2, q4_3⟩ ls H locs ⟨g1, g2, g3, g4, g5, hl, hP, hD, hS⟩ hm7
    have hm7 : un.toInt - q4_3.toInt < (n8 : Int) + 1 := hm7
    replace hl : lv_has ls 4 [(0, .ref (ad 9)), (1, .int k), (2, .int q4_2), (3, .int q4_3)] := hl
    replace hP : va_P D vwCl [(oC6 ad un), (aI cI (ad 59) 60 uk), (aI cI (ad 60) 60 uy), (aI cI (ad 61) 60 uw), (aI cI (ad 62) 60 um)] H := hP
    replace hD : va_D A [(oC6 ad un), (aI cI (ad 59) 60 uk), (aI cI (ad 60) 60 uy), (aI cI (ad 61) 60 uw), (aI cI (ad 62) 60 um)] := hD
    show W _ _ _ _ _ _ _ _ _ _ _ _ _ _ _ (F0 m 4 ls [])
    refine lv_iload_n hx hb dX6_firstOf_4 rfl (lv_at hl 3 rfl) ?_
    refine lv_aload_n hx hb dX6_firstOf_5 rfl (lv_at hl 0 rfl) ?_
    refine va_get (D := D) (ci := 6) (v := .int un) (C := RX6) (T := TX6) (N := 5) hx hb hts inX6_firstOf_X6 hown hK hP 0 rfl rfl 4 (by decide) (hts (Cond.fieldLink RX6 24 "PortRooms$Openings" "count" "I") (wm_t (wm_l (wm_i 0 rfl)))) (fun _ h9 => h9) rfl dX6_firstOf_6 ?_
    refine lv_icmp_ge (tgt := 49) hx hb dX6_firstOf_9 (by decide) (fun c9 => ?_) (fun c9 => ?_)
    · skip
      have f10 := i_le c9
      refine lv_iload_n hx hb dX6_firstOf_49 rfl (lv_at hl 2 rfl) ?_
      have ce8 := i_cl (x := q4_3) (by omega)
      have ce9 := i_cl (x := un) (by omega)
      have ee9 : q4_3.toNatClampNeg = un.toNatClampNeg := by omega
      have hz9 := g5
      rw [ee9] at hz9
      have hP9 := hP
      have hD9 := hD
      exact W.iret (v := q4_2) hx hb hr (fun t ht hW => ⟨⟨q4_2, (), rfl, ⟨hz9, by omega, by omega⟩, by rw [ht]; exact hP9, va_K.moved hW.alike hK, hD9⟩, hS.F ht⟩) hS.2.2 dX6_firstOf_50
    · skip
      have f11 := i_nle c9
      refine lv_aload_n hx hb dX6_firstOf_12 rfl (lv_at hl 0 rfl) ?_
      refine va_get (D := D) (ci := 6) (v := .ref (ad 59)) (C := RX6) (T := TX6) (N := 5) hx hb hts inX6_firstOf_X6 hown hK hP 0 rfl rfl 0 (by decide) (hts (Cond.fieldLink RX6 9 "PortRooms$Openings" "crate" "[I") (wm_t (wm_l (wm_i 1 rfl)))) (fun _ h9 => h9) rfl dX6_firstOf_13 ?_
      refine lv_iload_n hx hb dX6_firstOf_16 rfl (lv_at hl 3 rfl) ?_
      refine va_iald hx hb hK hP 1 0 rfl rfl (i_in (by omega) (by omega)) dX6_firstOf_17 ?_
      refine lv_topi (fun v12 ev12 => ?_)
      have tlv12 : v12.toInt = (uk q4_3.toNatClampNeg).toInt := by rw [ev12]
      refine lv_iload_n hx hb dX6_firstOf_18 rfl (lv_at hl 1 rfl) ?_
      refine lv_icmp_ne (tgt := 43) hx hb dX6_firstOf_19 (by decide) (fun c13 => ?_) (fun c13 => ?_)
      · skip
        have f14 := i_ne c13
        obtain ⟨v15, ev15⟩ : ∃ y : Int32, y = q4_3 + 1 := ⟨_, rfl⟩
        try have tv15 : v15.toInt = q4_3.toInt + 1 := by rw [ev15]; exact (i_add (x := q4_3) (y := (1 : Int32)) (by rw [k1]; omega) (by rw [k1]; omega)).trans (by rw [k1])
        refine lv_iinc (v := v15) (lv' := [(3, .int v15), (0, .ref (ad 9)), (1, .int k), (2, .int q4_2)]) hx hb dX6_firstOf_43 hl (k := 3) rfl (by rw [ev15]; rfl) (by decide) rfl (fun ls hl => ?_)
        refine lv_goto (tgt := 4) hx hb dX6_firstOf_46 (by decide) ?_
        have clk8 := i_cl (x := q4_3) (by omega)
        have clk9 := i_cl (x := v15) (by omega)
        have ek9 : v15.toNatClampNeg = q4_3.toNatClampNeg + 1 := by omega
        have nk9 : nI q4_3.toNatClampNeg = q4_3 := i_nI (by omega)
        exact ih6 (q4_2, v15) ls H locs ⟨(by omega), (by omega), (by omega), (by omega), (by rw [ek9, fiV_s, nk9, ← g5]; (repeat' split) <;> first | (exfalso; omega) | (exfalso; contradiction) | rfl | (subst_vars; rfl)), lv_sub hl [1, 2, 3, 0] rfl, hP.sub [0, 1, 2, 3, 4] rfl, hD.sub [0, 1, 2, 3, 4] (by decide +kernel) rfl, hS⟩ (by show un.toInt - v15.toInt < _; omega)
      · skip
        have f16 := i_eq c13
        refine lv_iload_n hx hb dX6_firstOf_22 rfl (lv_at hl 2 rfl) ?_
        refine lv_if_lt (tgt := 41) hx hb dX6_firstOf_23 (by decide) (fun c17 => ?_) (fun c17 => ?_)
        · skip
          have f18 := i_lt c17
          refine lv_iload_n hx hb dX6_firstOf_41 rfl (lv_at hl 3 rfl) ?_
          refine lv_istore_n (lv' := [(2, .int q4_3), (0, .ref (ad 9)), (1, .int k), (3, .int q4_3)]) hx hb dX6_firstOf_42 rfl hl (by decide) rfl (fun ls hl => ?_)
          obtain ⟨v19, ev19⟩ : ∃ y : Int32, y = q4_3 + 1 := ⟨_, rfl⟩
          try have tv19 : v19.toInt = q4_3.toInt + 1 := by rw [ev19]; exact (i_add (x := q4_3) (y := (1 : Int32)) (by rw [k1]; omega) (by rw [k1]; omega)).trans (by rw [k1])
          refine lv_iinc (v := v19) (lv' := [(3, .int v19), (2, .int q4_3), (0, .ref (ad 9)), (1, .int k)]) hx hb dX6_firstOf_43 hl (k := 3) rfl (by rw [ev19]; rfl) (by decide) rfl (fun ls hl => ?_)
          refine lv_goto (tgt := 4) hx hb dX6_firstOf_46 (by decide) ?_
          have clk8 := i_cl (x := q4_3) (by omega)
          have clk9 := i_cl (x := v19) (by omega)
          have ek9 : v19.toNatClampNeg = q4_3.toNatClampNeg + 1 := by omega
          have nk9 : nI q4_3.toNatClampNeg = q4_3 := i_nI (by omega)
          exact ih6 (q4_3, v19) ls H locs ⟨(by omega), (by omega), (by omega), (by omega), (by rw [ek9, fiV_s, nk9, ← g5]; (repeat' split) <;> first | (exfalso; omega) | (exfalso; contradiction) | rfl | (subst_vars; rfl)), lv_sub hl [2, 3, 1, 0] rfl, hP.sub [0, 1, 2, 3, 4] rfl, hD.sub [0, 1, 2, 3, 4] (by decide +kernel) rfl, hS⟩ (by show un.toInt - v19.toInt < _; omega)
        · skip
          have f20 := i_nlt c17
          refine lv_aload_n hx hb dX6_firstOf_26 rfl (lv_at hl 0 rfl) ?_
          refine va_get (D := D) (ci := 6) (v := .ref (ad 60)) (C := RX6) (T := TX6) (N := 5) hx hb hts inX6_firstOf_X6 hown hK hP 0 rfl rfl 1 (by decide) (hts (Cond.fieldLink RX6 15 "PortRooms$Openings" "day" "[I") (wm_t (wm_l (wm_i 2 rfl)))) (fun _ h9 => h9) rfl dX6_firstOf_27 ?_
          refine lv_iload_n hx hb dX6_firstOf_30 rfl (lv_at hl 3 rfl) ?_
          refine va_iald hx hb hK hP 2 0 rfl rfl (i_in (by omega) (by omega)) dX6_firstOf_31 ?_
          refine lv_topi (fun v21 ev21 => ?_)
          have tlv21 : v21.toInt = (uy q4_3.toNatClampNeg).toInt := by rw [ev21]
          refine lv_aload_n hx hb dX6_firstOf_32 rfl (lv_at hl 0 rfl) ?_
          refine va_get (D := D) (ci := 6) (v := .ref (ad 60)) (C := RX6) (T := TX6) (N := 5) hx hb hts inX6_firstOf_X6 hown hK hP 0 rfl rfl 1 (by decide) (hts (Cond.fieldLink RX6 15 "PortRooms$Openings" "day" "[I") (wm_t (wm_l (wm_i 2 rfl)))) (fun _ h9 => h9) rfl dX6_firstOf_33 ?_
          refine lv_iload_n hx hb dX6_firstOf_36 rfl (lv_at hl 2 rfl) ?_
          refine va_iald hx hb hK hP 2 0 rfl rfl (i_in (by omega) (by omega)) dX6_firstOf_37 ?_
          refine lv_topi (fun v22 ev22 => ?_)
          have tlv22 : v22.toInt = (uy q4_2.toNatClampNeg).toInt := by rw [ev22]
          refine lv_icmp_ge (tgt := 43) hx hb dX6_firstOf_38 (by decide) (fun c23 => ?_) (fun c23 => ?_)
          · skip
            have f24 := i_le c23
            obtain ⟨v25, ev25⟩ : ∃ y : Int32, y = q4_3 + 1 := ⟨_, rfl⟩
            try have tv25 : v25.toInt = q4_3.toInt + 1 := by rw [ev25]; exact (i_add (x := q4_3) (y := (1 : Int32)) (by rw [k1]; omega) (by rw [k1]; omega)).trans (by rw [k1])
            refine lv_iinc (v := v25) (lv' := [(3, .int v25), (0, .ref (ad 9)), (1, .int k), (2, .int q4_2)]) hx hb dX6_firstOf_43 hl (k := 3) rfl (by rw [ev25]; rfl) (by decide) rfl (fun ls hl => ?_)
            refine lv_goto (tgt := 4) hx hb dX6_firstOf_46 (by decide) ?_
            have clk8 := i_cl (x := q4_3) (by omega)
            have clk9 := i_cl (x := v25) (by omega)
            have ek9 : v25.toNatClampNeg = q4_3.toNatClampNeg + 1 := by omega
            have nk9 : nI q4_3.toNatClampNeg = q4_3 := i_nI (by omega)
            exact ih6 (q4_2, v25) ls H locs ⟨(by omega), (by omega), (by omega), (by omega), (by rw [ek9, fiV_s, nk9, ← g5]; (repeat' split) <;> first | (exfalso; omega) | (exfalso; contradiction) | rfl | (subst_vars; rfl)), lv_sub hl [1, 2, 3, 0] rfl, hP.sub [0, 1, 2, 3, 4] rfl, hD.sub [0, 1, 2, 3, 4] (by decide +kernel) rfl, hS⟩ (by show un.toInt - v25.toInt < _; omega)
          · skip
            have f26 := i_nle c23
            refine lv_iload_n hx hb dX6_firstOf_41 rfl (lv_at hl 3 rfl) ?_
            refine lv_istore_n (lv' := [(2, .int q4_3), (0, .ref (ad 9)), (1, .int k), (3, .int q4_3)]) hx hb dX6_firstOf_42 rfl hl (by decide) rfl (fun ls hl => ?_)
            obtain ⟨v27, ev27⟩ : ∃ y : Int32, y = q4_3 + 1 := ⟨_, rfl⟩
            try have tv27 : v27.toInt = q4_3.toInt + 1 := by rw [ev27]; exact (i_add (x := q4_3) (y := (1 : Int32)) (by rw [k1]; omega) (by rw [k1]; omega)).trans (by rw [k1])
            refine lv_iinc (v := v27) (lv' := [(3, .int v27), (2, .int q4_3), (0, .ref (ad 9)), (1, .int k)]) hx hb dX6_firstOf_43 hl (k := 3) rfl (by rw [ev27]; rfl) (by decide) rfl (fun ls hl => ?_)
            refine lv_goto (tgt := 4) hx hb dX6_firstOf_46 (by decide) ?_
            have clk8 := i_cl (x := q4_3) (by omega)
            have clk9 := i_cl (x := v27) (by omega)
            have ek9 : v27.toNatClampNeg = q4_3.toNatClampNeg + 1 := by omega
            have nk9 : nI q4_3.toNatClampNeg = q4_3 := i_nI (by omega)
            exact ih6 (q4_3, v27) ls H locs ⟨(by omega), (by omega), (by omega), (by omega), (by rw [ek9, fiV_s, nk9, ← g5]; (repeat' split) <;> first | (exfalso; omega) | (exfalso; contradiction) | rfl | (subst_vars; rfl)), lv_sub hl [2, 3, 1, 0] rfl, hP.sub [0, 1, 2, 3, 4] rfl, hD.sub [0, 1, 2, 3, 4] (by decide +kernel) rfl, hS⟩ (by show un.toInt - v27.toInt < _; omega)

set_option maxHeartbeats 4000000 in
set_option maxRecDepth 100000 in
theorem ct_X6_compared (l : Launch) (D : va_G) (cI cY cJ cQ : ClassId) (sz : Nat) (ad : Nat → Nat) (un : Int32) (uk uy uw um : Nat → Int32) (x : Int32) (y : Int32)  (h1 : 0 ≤ x.toInt) (h2 : x.toInt < 60) (h3 : 0 ≤ y.toInt) (h4 : y.toInt < 60)  : Met l yX6_compared wsX6_compared ({ frames := 1, cells := 0, slots := 0, locals := 23 }) (cPre D (ty4 cI cY cJ cQ) [(oC6 ad un), (aI cI (ad 59) 60 uk), (aI cI (ad 60) 60 uy), (aI cI (ad 61) 60 uw), (aI cI (ad 62) 60 um)] sz [.ref (ad 9), .int x, .int y]) (va_Qi (fun (r : Int32) (u : Unit) => r = cmV uw um x.toNatClampNeg y.toNatClampNeg) (cB D (ty4 cI cY cJ cQ) (fun (u : Unit) => [(oC6 ad un), (aI cI (ad 59) 60 uk), (aI cI (ad 60) 60 uy), (aI cI (ad 61) 60 uw), (aI cI (ad 62) 60 um)]) (va_A [(oC6 ad un), (aI cI (ad 59) 60 uk), (aI cI (ad 60) 60 uy), (aI cI (ad 61) 60 uw), (aI cI (ad 62) 60 um)] sz)) (va_A [(oC6 ad un), (aI cI (ad 59) 60 uk), (aI cI (ad 60) 60 uy), (aI cI (ad 61) 60 uw), (aI cI (ad 62) 60 um)] sz)) 0 0 (va_A [(oC6 ad un), (aI cI (ad 59) 60 uk), (aI cI (ad 60) 60 uy), (aI cI (ad 61) 60 uw), (aI cI (ad 62) 60 um)] sz) := by
  refine Met.ofW (cc := cX6_compared) (maxL := 5) (ret := (some .int)) (by decide) rfl ?_
  intro p e s m args below meth c s₁ B hml hv
  obtain ⟨rfl, hsz, hP, hK, hD0, hN⟩ := hv
  have hx := B.exec
  have hb := B.bytes
  have hr := B.returns
  have hts := atoms_spec (ws := wsX6_compared) B.pre
  have hown : s.vm.findClass RX6 = some m.cls := findClass_of_methodNamed B.named
  have hlocks := B.notSynchronized
  subst hsz
  have hD := hD0.self (sz := s.heap.size)
  generalize hAe : va_A [(oC6 ad un), (aI cI (ad 59) 60 uk), (aI cI (ad 60) 60 uy), (aI cI (ad 61) 60 uw), (aI cI (ad 62) 60 um)] s.heap.size = A at hD ⊢
  have hA : ∀ q : Nat, s.heap.size ≤ q → A q := fun q h => by rw [← hAe]; exact Or.inr h
  have hS : va_S A s.heap s.heap [] := va_S.rf
  have hP : va_P D vwCl [(oC6 ad un), (aI cI (ad 59) 60 uk), (aI cI (ad 60) 60 uy), (aI cI (ad 61) 60 uw), (aI cI (ad 62) 60 um)] s.heap := hP
  have hl := lv_entry ([.ref (ad 9), .int x, .int y]) (n := 5) (Nat.le_of_ble_eq_true rfl)
  rw [lg_entry_eq]
  generalize (lg_sl ([.ref (ad 9), .int x, .int y]) ++ List.replicate (5 - (lg_sl ([.ref (ad 9), .int x, .int y])).length) Slot.unset).toArray = ls at hl ⊢
  have hl : lv_has ls 5 [(0, .ref (ad 9)), (1, .int x), (2, .int y)] := hl
  have km1 : (-1 : Int32).toInt = -1 := by decide
  have k0 : (0 : Int32).toInt = 0 := by decide
  have k1 : (1 : Int32).toInt = 1 := by decide
  have k2 : (2 : Int32).toInt = 2 := by decide
  have k10 : (10 : Int32).toInt = 10 := by decide
  have k100 : (100 : Int32).toInt = 100 := by decide
  refine lv_aload_n hx hb dX6_compared_0 rfl (lv_at hl 0 rfl) ?_
  refine va_get (D := D) (ci := 6) (v := .ref (ad 61)) (C := RX6) (T := TX6) (N := 5) hx hb hts inX6_compared_X6 hown hK hP 0 rfl rfl 2 (by decide) (hts (Cond.fieldLink RX6 18 "PortRooms$Openings" "weight" "[I") (wm_t (wm_l (wm_i 0 rfl)))) (fun _ h9 => h9) rfl dX6_compared_1 ?_
  refine lv_iload_n hx hb dX6_compared_4 rfl (lv_at hl 2 rfl) ?_
  refine va_iald hx hb hK hP 3 0 rfl rfl (i_in (by omega) (by omega)) dX6_compared_5 ?_
  refine lv_topi (fun v1 ev1 => ?_)
  have tlv1 : v1.toInt = (uw y.toNatClampNeg).toInt := by rw [ev1]
  refine lv_aload_n hx hb dX6_compared_6 rfl (lv_at hl 0 rfl) ?_
  refine va_get (D := D) (ci := 6) (v := .ref (ad 61)) (C := RX6) (T := TX6) (N := 5) hx hb hts inX6_compared_X6 hown hK hP 0 rfl rfl 2 (by decide) (hts (Cond.fieldLink RX6 18 "PortRooms$Openings" "weight" "[I") (wm_t (wm_l (wm_i 0 rfl)))) (fun _ h9 => h9) rfl dX6_compared_7 ?_
  refine lv_iload_n hx hb dX6_compared_10 rfl (lv_at hl 1 rfl) ?_
  refine va_iald hx hb hK hP 3 0 rfl rfl (i_in (by omega) (by omega)) dX6_compared_11 ?_
  refine lv_topi (fun v2 ev2 => ?_)
  have tlv2 : v2.toInt = (uw x.toNatClampNeg).toInt := by rw [ev2]
  refine lv_isub hx hb dX6_compared_12 ?_
  refine lv_topi (fun v3 ev3 => ?_)
  refine va_mabs hx hb (hml.trans hl.1.symm) hown (hts (Cond.methodLink RX6 41 Lib.Math.abs.name) (wm_t (wm_l (wm_i 1 rfl)))) (hts (Cond.static Lib.Math.abs.name) (wm_t (wm_l (wm_i 2 rfl)))) (hts (Cond.initialized "java/lang/Math") (wm_t (wm_l (wm_i 3 rfl)))) (hts (Cond.code Lib.Math.abs.name Lib.Math.abs.code 1 (some .int)) (wm_t (wm_l (wm_i 4 rfl)))) (Nat.le_of_ble_eq_true rfl) (Nat.le_of_ble_eq_true rfl) (Nat.le_of_ble_eq_true rfl) (Nat.le_of_ble_eq_true rfl) dX6_compared_13 ?_
  refine lv_topi (fun v4 ev4 => ?_)
  replace ev4 : v4 = absV v3 := ev4
  refine lv_istore_n (lv' := [(3, .int v4), (0, .ref (ad 9)), (1, .int x), (2, .int y)]) hx hb dX6_compared_16 rfl hl (by decide) rfl (fun ls hl => ?_)
  refine lv_aload_n hx hb dX6_compared_17 rfl (lv_at hl 1 rfl) ?_
  refine va_get (D := D) (ci := 6) (v := .ref (ad 62)) (C := RX6) (T := TX6) (N := 5) hx hb hts inX6_compared_X6 hown hK hP 0 rfl rfl 3 (by decide) (hts (Cond.fieldLink RX6 21 "PortRooms$Openings" "marks" "[I") (wm_t (wm_l (wm_i 5 rfl)))) (fun _ h9 => h9) rfl dX6_compared_18 ?_
  refine lv_iload_n hx hb dX6_compared_21 rfl (lv_at hl 2 rfl) ?_
  refine va_iald hx hb hK hP 4 0 rfl rfl (i_in (by omega) (by omega)) dX6_compared_22 ?_
  refine lv_topi (fun v5 ev5 => ?_)
  have tlv5 : v5.toInt = (um x.toNatClampNeg).toInt := by rw [ev5]
  refine lv_aload_n hx hb dX6_compared_23 rfl (lv_at hl 1 rfl) ?_
  refine va_get (D := D) (ci := 6) (v := .ref (ad 62)) (C := RX6) (T := TX6) (N := 5) hx hb hts inX6_compared_X6 hown hK hP 0 rfl rfl 3 (by decide) (hts (Cond.fieldLink RX6 21 "PortRooms$Openings" "marks" "[I") (wm_t (wm_l (wm_i 5 rfl)))) (fun _ h9 => h9) rfl dX6_compared_24 ?_
  refine lv_iload_n hx hb dX6_compared_27 rfl (lv_at hl 3 rfl) ?_
  refine va_iald hx hb hK hP 4 0 rfl rfl (i_in (by omega) (by omega)) dX6_compared_28 ?_
  refine lv_topi (fun v6 ev6 => ?_)
  have tlv6 : v6.toInt = (um y.toNatClampNeg).toInt := by rw [ev6]
  refine lv_iconst (v := (-1)) hx hb dX6_compared_29 (by decide) ?_
  refine lv_ixor hx hb dX6_compared_30 ?_
  refine lv_topi (fun v7 ev7 => ?_)
  refine lv_iand hx hb dX6_compared_31 ?_
  refine lv_topi (fun v8 ev8 => ?_)
  refine st_i1 (va_runS (As := [.int v8]) (rest := []) ⟨hx, hb, hml, hown, hts⟩ (ct_bitCount l D cI cY cJ cQ _ v8) (va_cwS 1 hts gX6_compared_J6_bitCount_0f7a4 rfl rfl rfl cdJ6_bitCount_0f7a4 ⟨Nat.le_of_ble_eq_true rfl, Nat.le_of_ble_eq_true rfl⟩) (cPreS (hP.sub [] rfl) hK (hD.sub [] (by decide +kernel) rfl) hN) rfl rfl hl.1 rfl (lv_room (Nat.le_of_ble_eq_true rfl)) dX6_compared_32 ⟨Nat.le_of_ble_eq_true rfl, Nat.le_of_ble_eq_true rfl⟩) hP hD hS hA [] rfl (fun _ => rfl) (fun r11 u9 H locs hw10 => ?_)
  clear hP hS
  intro hP hS
  replace hw10 : r11 = bcf v8 := hw10
  subst hw10
  refine lv_istore (lv' := [(4, .int (bcf v8)), (3, .int v4), (0, .ref (ad 9)), (1, .int x), (2, .int y)]) hx hb dX6_compared_35 hl (by decide) rfl (fun ls hl => ?_)
  refine lv_iload_n hx hb dX6_compared_37 rfl (lv_at hl 1 rfl) ?_
  refine lv_bipush (v := 100) hx hb dX6_compared_38 (by decide) ?_
  refine lv_icmp_gt (tgt := 49) hx hb dX6_compared_40 (by decide) (fun c12 => ?_) (fun c12 => ?_)
  · skip
    have f13 := i_lt c12
    refine lv_iconst (v := 2) hx hb dX6_compared_49 (by decide) ?_
    have hP9 := hP
    have hD9 := hD
    exact W.iret (v := 2) hx hb hr (fun t ht hW => ⟨⟨2, (), rfl, (by unfold cmV cmF; subst_vars; (repeat' split) <;> first | rfl | (exfalso; omega)), by rw [ht]; exact hP9, va_K.moved hW.alike hK, hD9⟩, hS.F ht⟩) hS.2.2 dX6_compared_50
  · skip
    have f14 := i_nlt c12
    refine lv_iload hx hb dX6_compared_43 (lv_at hl 0 rfl) ?_
    refine lv_iconst (v := 2) hx hb dX6_compared_45 (by decide) ?_
    refine lv_icmp_lt (tgt := 51) hx hb dX6_compared_46 (by decide) (fun c15 => ?_) (fun c15 => ?_)
    · skip
      have f16 := i_lt c15
      refine lv_iload_n hx hb dX6_compared_51 rfl (lv_at hl 1 rfl) ?_
      refine lv_bipush (v := 10) hx hb dX6_compared_52 (by decide) ?_
      refine lv_icmp_gt (tgt := 66) hx hb dX6_compared_54 (by decide) (fun c17 => ?_) (fun c17 => ?_)
      · skip
        have f18 := i_lt c17
        refine lv_iconst (v := 1) hx hb dX6_compared_66 (by decide) ?_
        have hP9 := hP
        have hD9 := hD
        exact W.iret (v := 1) hx hb hr (fun t ht hW => ⟨⟨1, (), rfl, (by unfold cmV cmF; subst_vars; (repeat' split) <;> first | rfl | (exfalso; omega)), by rw [ht]; exact hP9, va_K.moved hW.alike hK, hD9⟩, hS.F ht⟩) hS.2.2 dX6_compared_67
      · skip
        have f19 := i_nlt c17
        refine lv_iload hx hb dX6_compared_57 (lv_at hl 0 rfl) ?_
        refine lv_if_ne (tgt := 66) hx hb dX6_compared_59 (by decide) (fun c20 => ?_) (fun c20 => ?_)
        · skip
          have f21 := i_ne c20
          refine lv_iconst (v := 1) hx hb dX6_compared_66 (by decide) ?_
          have hP9 := hP
          have hD9 := hD
          exact W.iret (v := 1) hx hb hr (fun t ht hW => ⟨⟨1, (), rfl, (by unfold cmV cmF; subst_vars; (repeat' split) <;> first | rfl | (exfalso; omega)), by rw [ht]; exact hP9, va_K.moved hW.alike hK, hD9⟩, hS.F ht⟩) hS.2.2 dX6_compared_67
        · skip
          have f22 := i_eq c20
          refine lv_iconst (v := 0) hx hb dX6_compared_62 (by decide) ?_
          refine lv_goto (tgt := 67) hx hb dX6_compared_63 (by decide) ?_
          have hP9 := hP
          have hD9 := hD
          exact W.iret (v := 0) hx hb hr (fun t ht hW => ⟨⟨0, (), rfl, (by unfold cmV cmF; subst_vars; (repeat' split) <;> first | rfl | (exfalso; omega)), by rw [ht]; exact hP9, va_K.moved hW.alike hK, hD9⟩, hS.F ht⟩) hS.2.2 dX6_compared_67
    · skip
      have f23 := i_nlt c15
      refine lv_iconst (v := 2) hx hb dX6_compared_49 (by decide) ?_
      have hP9 := hP
      have hD9 := hD
      exact W.iret (v := 2) hx hb hr (fun t ht hW => ⟨⟨2, (), rfl, (by unfold cmV cmF; subst_vars; (repeat' split) <;> first | rfl | (exfalso; omega)), by rw [ht]; exact hP9, va_K.moved hW.alike hK, hD9⟩, hS.F ht⟩) hS.2.2 dX6_compared_50

set_option maxHeartbeats 4000000 in
set_option maxRecDepth 100000 in
theorem ct_X6_worstOf (l : Launch) (D : va_G) (cI cY cJ cQ : ClassId) (sz : Nat) (ad : Nat → Nat) (un : Int32) (uk uy uw um : Nat → Int32) (k : Int32)  (h1 : 0 ≤ un.toInt) (h2 : un.toInt ≤ 60)  : Met l yX6_worstOf wsX6_worstOf ({ frames := 2, cells := 0, slots := 0, locals := 47 }) (cPre D (ty4 cI cY cJ cQ) [(oC6 ad un), (aI cI (ad 59) 60 uk), (aI cI (ad 60) 60 uy), (aI cI (ad 61) 60 uw), (aI cI (ad 62) 60 um)] sz [.ref (ad 9), .int k]) (va_Qi (fun (r : Int32) (u : Unit) => r = vdV un uk uy uw um k) (cB D (ty4 cI cY cJ cQ) (fun (u : Unit) => [(oC6 ad un), (aI cI (ad 59) 60 uk), (aI cI (ad 60) 60 uy), (aI cI (ad 61) 60 uw), (aI cI (ad 62) 60 um)]) (va_A [(oC6 ad un), (aI cI (ad 59) 60 uk), (aI cI (ad 60) 60 uy), (aI cI (ad 61) 60 uw), (aI cI (ad 62) 60 um)] sz)) (va_A [(oC6 ad un), (aI cI (ad 59) 60 uk), (aI cI (ad 60) 60 uy), (aI cI (ad 61) 60 uw), (aI cI (ad 62) 60 um)] sz)) 0 0 (va_A [(oC6 ad un), (aI cI (ad 59) 60 uk), (aI cI (ad 60) 60 uy), (aI cI (ad 61) 60 uw), (aI cI (ad 62) 60 um)] sz) := by
  refine Met.ofW (cc := cX6_worstOf) (maxL := 5) (ret := (some .int)) (by decide) rfl ?_
  intro p e s m args below meth c s₁ B hml hv
  obtain ⟨rfl, hsz, hP, hK, hD0, hN⟩ := hv
  have hx := B.exec
  have hb := B.bytes
  have hr := B.returns
  have hts := atoms_spec (ws := wsX6_worstOf) B.pre
  have hown : s.vm.findClass RX6 = some m.cls := findClass_of_methodNamed B.named
  have hlocks := B.notSynchronized
  subst hsz
  have hD := hD0.self (sz := s.heap.size)
  generalize hAe : va_A [(oC6 ad un), (aI cI (ad 59) 60 uk), (aI cI (ad 60) 60 uy), (aI cI (ad 61) 60 uw), (aI cI (ad 62) 60 um)] s.heap.size = A at hD ⊢
  have hA : ∀ q : Nat, s.heap.size ≤ q → A q := fun q h => by rw [← hAe]; exact Or.inr h
  have hS : va_S A s.heap s.heap [] := va_S.rf
  have hP : va_P D vwCl [(oC6 ad un), (aI cI (ad 59) 60 uk), (aI cI (ad 60) 60 uy), (aI cI (ad 61) 60 uw), (aI cI (ad 62) 60 um)] s.heap := hP
  have hl := lv_entry ([.ref (ad 9), .int k]) (n := 5) (Nat.le_of_ble_eq_true rfl)
  rw [lg_entry_eq]
  generalize (lg_sl ([.ref (ad 9), .int k]) ++ List.replicate (5 - (lg_sl ([.ref (ad 9), .int k])).length) Slot.unset).toArray = ls at hl ⊢
  have hl : lv_has ls 5 [(0, .ref (ad 9)), (1, .int k)] := hl
  have k0 : (0 : Int32).toInt = 0 := by decide
  have k1 : (1 : Int32).toInt = 1 := by decide
  refine lv_aload_n hx hb dX6_worstOf_0 rfl (lv_at hl 0 rfl) ?_
  refine lv_iload_n hx hb dX6_worstOf_1 rfl (lv_at hl 1 rfl) ?_
  refine st_i1 (va_runV (C := RX6) (As := [.int k]) (rest := []) ⟨hx, hb, hml, hown, hts⟩ (ct_X6_firstOf l D cI cY cJ cQ _ ad un uk uy uw um k h1 h2) (cwV 1 hts gX6_worstOf_X6_firstOf rfl rfl rfl ⟨rfl, cdX6_firstOf⟩ ⟨Nat.le_of_ble_eq_true rfl, Nat.le_of_ble_eq_true rfl⟩) (cPreV (hP.sub [0, 1, 2, 3, 4] rfl) hK (hD.sub [0, 1, 2, 3, 4] (by decide +kernel) rfl) hN (ci := 6) (q0 := 0) rfl rfl) rfl rfl hl.1 rfl (lv_room (Nat.le_of_ble_eq_true rfl)) dX6_worstOf_2 ⟨Nat.le_of_ble_eq_true rfl, Nat.le_of_ble_eq_true rfl⟩) hP hD hS hA [0, 1, 2, 3, 4] rfl (fun _ => rfl) (fun r3 u1 H locs hw2 => ?_)
  clear hP hS
  intro hP hS
  replace hw2 : r3 = fiV uk uy k un.toNatClampNeg ∧ -1 ≤ r3.toInt ∧ (r3.toInt < un.toInt ∨ r3.toInt < 0) := hw2
  obtain ⟨hw2, hw2a, hw2b⟩ := hw2
  refine lv_istore_n (lv' := [(2, .int r3), (0, .ref (ad 9)), (1, .int k)]) hx hb dX6_worstOf_5 rfl hl (by decide) rfl (fun ls hl => ?_)
  refine lv_iload_n hx hb dX6_worstOf_6 rfl (lv_at hl 0 rfl) ?_
  refine lv_if_ge (tgt := 12) hx hb dX6_worstOf_7 (by decide) (fun c4 => ?_) (fun c4 => ?_)
  · skip
    have f5 := i_le c4
    refine lv_iconst (v := 0) hx hb dX6_worstOf_12 (by decide) ?_
    refine lv_istore_n (lv' := [(3, .int 0), (2, .int r3), (0, .ref (ad 9)), (1, .int k)]) hx hb dX6_worstOf_13 rfl hl (by decide) rfl (fun ls hl => ?_)
    refine lv_iconst (v := 0) hx hb dX6_worstOf_14 (by decide) ?_
    refine lv_istore (lv' := [(4, .int 0), (3, .int 0), (2, .int r3), (0, .ref (ad 9)), (1, .int k)]) hx hb dX6_worstOf_15 hl (by decide) rfl (fun ls hl => ?_)
    refine st_loop 17 (fun _ => []) (fun (z : Int32 × Int32) (ls : Array Slot) (H : Heap) (locs : List Loc) => match z with | (q17_3, q17_4) => (0 ≤ q17_4.toInt) ∧ (q17_4.toInt ≤ un.toInt) ∧ (q17_3 = wrsV uk uw um k r3.toNatClampNeg q17_4.toNatClampNeg) ∧ lv_has ls 5 [(0, .ref (ad 9)), (1, .int k), (2, .int r3), (3, .int q17_3), (4, .int q17_4)] ∧ va_P D vwCl [(oC6 ad un), (aI cI (ad 59) 60 uk), (aI cI (ad 60) 60 uy), (aI cI (ad 61) 60 uw), (aI cI (ad 62) 60 um)] H ∧ va_D A [(oC6 ad un), (aI cI (ad 59) 60 uk), (aI cI (ad 60) 60 uy), (aI cI (ad 61) 60 uw), (aI cI (ad 62) 60 um)] ∧ va_S A s.heap H locs) (fun (z : Int32 × Int32) => match z with | (q17_3, q17_4) => un.toInt - q17_4.toInt) ?_ ?_ ((0 : Int32), (0 : Int32)) ⟨(by omega), (by omega), (by rfl), lv_sub hl [3, 4, 2, 1, 0] rfl, hP, hD, hS⟩
    · rintro ⟨q17_3, q17_4⟩ ls H locs ⟨g6, g7, g8, hl, hP, hD, hS⟩
      show (0 : Int) ≤ un.toInt - q17_4.toInt
      omega
    · rintro n11 ih9 ⟨q17_3, q17_4⟩ ls H locs ⟨g6, g7, g8, hl, hP, hD, hS⟩ hm10
      have hm10 : un.toInt - q17_4.toInt < (n11 : Int) + 1 := hm10
      replace hl : lv_has ls 5 [(0, .ref (ad 9)), (1, .int k), (2, .int r3), (3, .int q17_3), (4, .int q17_4)] := hl
      replace hP : va_P D vwCl [(oC6 ad un), (aI cI (ad 59) 60 uk), (aI cI (ad 60) 60 uy), (aI cI (ad 61) 60 uw), (aI cI (ad 62) 60 um)] H := hP
      replace hD : va_D A [(oC6 ad un), (aI cI (ad 59) 60 uk), (aI cI (ad 60) 60 uy), (aI cI (ad 61) 60 uw), (aI cI (ad 62) 60 um)] := hD
      show W _ _ _ _ _ _ _ _ _ _ _ _ _ _ _ (F0 m 17 ls [])
      refine lv_iload hx hb dX6_worstOf_17 (lv_at hl 4 rfl) ?_
      refine lv_aload_n hx hb dX6_worstOf_19 rfl (lv_at hl 0 rfl) ?_
      refine va_get (D := D) (ci := 6) (v := .int un) (C := RX6) (T := TX6) (N := 5) hx hb hts inX6_worstOf_X6 hown hK hP 0 rfl rfl 4 (by decide) (hts (Cond.fieldLink RX6 24 "PortRooms$Openings" "count" "I") (wm_t (wm_l (wm_i 0 rfl)))) (fun _ h9 => h9) rfl dX6_worstOf_20 ?_
      refine lv_icmp_ge (tgt := 55) hx hb dX6_worstOf_23 (by decide) (fun c12 => ?_) (fun c12 => ?_)
      · skip
        have f13 := i_le c12
        refine lv_iload_n hx hb dX6_worstOf_55 rfl (lv_at hl 3 rfl) ?_
        have ce8 := i_cl (x := q17_4) (by omega)
        have ce9 := i_cl (x := un) (by omega)
        have ee9 : q17_4.toNatClampNeg = un.toNatClampNeg := by omega
        have hz9 := g8
        rw [ee9] at hz9
        have hP9 := hP
        have hD9 := hD
        exact W.iret (v := q17_3) hx hb hr (fun t ht hW => ⟨⟨q17_3, (), rfl, (by unfold vdV; rw [← hw2, if_neg (by omega)]; exact hz9), by rw [ht]; exact hP9, va_K.moved hW.alike hK, hD9⟩, hS.F ht⟩) hS.2.2 dX6_worstOf_56
      · skip
        have f14 := i_nle c12
        refine lv_aload_n hx hb dX6_worstOf_26 rfl (lv_at hl 0 rfl) ?_
        refine va_get (D := D) (ci := 6) (v := .ref (ad 59)) (C := RX6) (T := TX6) (N := 5) hx hb hts inX6_worstOf_X6 hown hK hP 0 rfl rfl 0 (by decide) (hts (Cond.fieldLink RX6 9 "PortRooms$Openings" "crate" "[I") (wm_t (wm_l (wm_i 1 rfl)))) (fun _ h9 => h9) rfl dX6_worstOf_27 ?_
        refine lv_iload hx hb dX6_worstOf_30 (lv_at hl 4 rfl) ?_
        refine va_iald hx hb hK hP 1 0 rfl rfl (i_in (by omega) (by omega)) dX6_worstOf_32 ?_
        refine lv_topi (fun v15 ev15 => ?_)
        have tlv15 : v15.toInt = (uk q17_4.toNatClampNeg).toInt := by rw [ev15]
        refine lv_iload_n hx hb dX6_worstOf_33 rfl (lv_at hl 1 rfl) ?_
        refine lv_icmp_ne (tgt := 49) hx hb dX6_worstOf_34 (by decide) (fun c16 => ?_) (fun c16 => ?_)
        · skip
          have f17 := i_ne c16
          obtain ⟨v18, ev18⟩ : ∃ y : Int32, y = q17_4 + 1 := ⟨_, rfl⟩
          try have tv18 : v18.toInt = q17_4.toInt + 1 := by rw [ev18]; exact (i_add (x := q17_4) (y := (1 : Int32)) (by rw [k1]; omega) (by rw [k1]; omega)).trans (by rw [k1])
          refine lv_iinc (v := v18) (lv' := [(4, .int v18), (0, .ref (ad 9)), (1, .int k), (2, .int r3), (3, .int q17_3)]) hx hb dX6_worstOf_49 hl (k := 4) rfl (by rw [ev18]; rfl) (by decide) rfl (fun ls hl => ?_)
          refine lv_goto (tgt := 17) hx hb dX6_worstOf_52 (by decide) ?_
          have clk8 := i_cl (x := q17_4) (by omega)
          have clk9 := i_cl (x := v18) (by omega)
          have ek9 : v18.toNatClampNeg = q17_4.toNatClampNeg + 1 := by omega
          exact ih9 (q17_3, v18) ls H locs ⟨(by omega), (by omega), (by rw [ek9, wrsV_s, ← g8]; (repeat' split) <;> first | (exfalso; omega) | rfl | assumption), lv_sub hl [1, 2, 3, 4, 0] rfl, hP.sub [0, 1, 2, 3, 4] rfl, hD.sub [0, 1, 2, 3, 4] (by decide +kernel) rfl, hS⟩ (by show un.toInt - v18.toInt < _; omega)
        · skip
          have f19 := i_eq c16
          refine lv_iload_n hx hb dX6_worstOf_37 rfl (lv_at hl 3 rfl) ?_
          refine lv_aload_n hx hb dX6_worstOf_38 rfl (lv_at hl 0 rfl) ?_
          refine lv_iload_n hx hb dX6_worstOf_39 rfl (lv_at hl 2 rfl) ?_
          refine lv_iload hx hb dX6_worstOf_40 (lv_at hl 4 rfl) ?_
          refine st_i1 (va_runV (C := RX6) (As := [.int r3, .int q17_4]) (rest := [.int q17_3]) ⟨hx, hb, hml, hown, hts⟩ (ct_X6_compared l D cI cY cJ cQ _ ad un uk uy uw um r3 q17_4 (by omega) (by omega) (by omega) (by omega)) (cwV 2 hts gX6_worstOf_X6_compared rfl rfl rfl ⟨rfl, cdX6_compared⟩ ⟨Nat.le_of_ble_eq_true rfl, Nat.le_of_ble_eq_true rfl⟩) (cPreV (hP.sub [0, 1, 2, 3, 4] rfl) hK (hD.sub [0, 1, 2, 3, 4] (by decide +kernel) rfl) hN (ci := 6) (q0 := 0) rfl rfl) rfl rfl hl.1 rfl (lv_room (Nat.le_of_ble_eq_true rfl)) dX6_worstOf_42 ⟨Nat.le_of_ble_eq_true rfl, Nat.le_of_ble_eq_true rfl⟩) hP hD hS hA [0, 1, 2, 3, 4] rfl (fun _ => rfl) (fun r22 u20 H locs hw21 => ?_)
          clear hP hS
          intro hP hS
          replace hw21 : r22 = cmV uw um r3.toNatClampNeg q17_4.toNatClampNeg := hw21
          subst hw21
          refine va_mmax hx hb (hml.trans hl.1.symm) hown (hts (Cond.methodLink RX6 36 Lib.Math.max.name) (wm_t (wm_l (wm_i 2 rfl)))) (hts (Cond.static Lib.Math.max.name) (wm_t (wm_l (wm_i 3 rfl)))) (hts (Cond.initialized "java/lang/Math") (wm_t (wm_r (wm_r (wm_t (wm_l (wm_i 3 rfl))))))) (hts (Cond.code Lib.Math.max.name Lib.Math.max.code 2 (some .int)) (wm_t (wm_l (wm_i 4 rfl)))) (Nat.le_of_ble_eq_true rfl) (Nat.le_of_ble_eq_true rfl) (Nat.le_of_ble_eq_true rfl) (Nat.le_of_ble_eq_true rfl) dX6_worstOf_45 ?_
          refine lv_topi (fun v23 ev23 => ?_)
          replace ev23 : v23 = maxV q17_3 (cmV uw um r3.toNatClampNeg q17_4.toNatClampNeg) := ev23
          refine lv_istore_n (lv' := [(3, .int v23), (0, .ref (ad 9)), (1, .int k), (2, .int r3), (4, .int q17_4)]) hx hb dX6_worstOf_48 rfl hl (by decide) rfl (fun ls hl => ?_)
          obtain ⟨v24, ev24⟩ : ∃ y : Int32, y = q17_4 + 1 := ⟨_, rfl⟩
          try have tv24 : v24.toInt = q17_4.toInt + 1 := by rw [ev24]; exact (i_add (x := q17_4) (y := (1 : Int32)) (by rw [k1]; omega) (by rw [k1]; omega)).trans (by rw [k1])
          refine lv_iinc (v := v24) (lv' := [(4, .int v24), (3, .int v23), (0, .ref (ad 9)), (1, .int k), (2, .int r3)]) hx hb dX6_worstOf_49 hl (k := 4) rfl (by rw [ev24]; rfl) (by decide) rfl (fun ls hl => ?_)
          refine lv_goto (tgt := 17) hx hb dX6_worstOf_52 (by decide) ?_
          have clk8 := i_cl (x := q17_4) (by omega)
          have clk9 := i_cl (x := v24) (by omega)
          have ek9 : v24.toNatClampNeg = q17_4.toNatClampNeg + 1 := by omega
          exact ih9 (v23, v24) ls H locs ⟨(by omega), (by omega), (by rw [ek9, wrsV_s, ← g8]; (repeat' split) <;> first | (exfalso; omega) | rfl | assumption), lv_sub hl [2, 3, 4, 1, 0] rfl, hP.sub [0, 1, 2, 3, 4] rfl, hD.sub [0, 1, 2, 3, 4] (by decide +kernel) rfl, hS⟩ (by show un.toInt - v24.toInt < _; omega)
  · skip
    have f25 := i_nle c4
    refine lv_iconst (v := 0) hx hb dX6_worstOf_10 (by decide) ?_
    have hP9 := hP
    have hD9 := hD
    exact W.iret (v := 0) hx hb hr (fun t ht hW => ⟨⟨0, (), rfl, (by unfold vdV; rw [if_pos (by rw [← hw2]; omega)]), by rw [ht]; exact hP9, va_K.moved hW.alike hK, hD9⟩, hS.F ht⟩) hS.2.2 dX6_worstOf_11

set_option maxHeartbeats 4000000 in
set_option maxRecDepth 100000 in
theorem ct_X10_verdict (l : Launch) (D : va_G) (cI cY cJ cQ : ClassId) (sz : Nat) (ad : Nat → Nat) (tn td lf cn un : Int32) (uk uy uw um : Nat → Int32) (k : Int32)  (h1 : 0 ≤ un.toInt) (h2 : un.toInt ≤ 60)  : Met l yX10_verdict wsX10_verdict ({ frames := 3, cells := 0, slots := 0, locals := 71 }) (cPre D (ty4 cI cY cJ cQ) [(oC10 ad tn td lf), (oC1 ad cn), (oC6 ad un), (aI cI (ad 59) 60 uk), (aI cI (ad 60) 60 uy), (aI cI (ad 61) 60 uw), (aI cI (ad 62) 60 um)] sz [.ref (ad 0), .int k]) (va_Qi (fun (r : Int32) (u : Unit) => r = sp_verdict cn un uk uy uw um k) (cB D (ty4 cI cY cJ cQ) (fun (u : Unit) => [(oC10 ad tn td lf), (oC1 ad cn), (oC6 ad un), (aI cI (ad 59) 60 uk), (aI cI (ad 60) 60 uy), (aI cI (ad 61) 60 uw), (aI cI (ad 62) 60 um)]) (va_A [(oC10 ad tn td lf), (oC1 ad cn), (oC6 ad un), (aI cI (ad 59) 60 uk), (aI cI (ad 60) 60 uy), (aI cI (ad 61) 60 uw), (aI cI (ad 62) 60 um)] sz)) (va_A [(oC10 ad tn td lf), (oC1 ad cn), (oC6 ad un), (aI cI (ad 59) 60 uk), (aI cI (ad 60) 60 uy), (aI cI (ad 61) 60 uw), (aI cI (ad 62) 60 um)] sz)) 0 0 (va_A [(oC10 ad tn td lf), (oC1 ad cn), (oC6 ad un), (aI cI (ad 59) 60 uk), (aI cI (ad 60) 60 uy), (aI cI (ad 61) 60 uw), (aI cI (ad 62) 60 um)] sz) := by
  refine Met.ofW (cc := cX10_verdict) (maxL := 2) (ret := (some .int)) (by decide) rfl ?_
  intro p e s m args below meth c s₁ B hml hv
  obtain ⟨rfl, hsz, hP, hK, hD0, hN⟩ := hv
  have hx := B.exec
  have hb := B.bytes
  have hr := B.returns
  have hts := atoms_spec (ws := wsX10_verdict) B.pre
  have hown : s.vm.findClass RX10 = some m.cls := findClass_of_methodNamed B.named
  have hlocks := B.notSynchronized
  subst hsz
  have hD := hD0.self (sz := s.heap.size)
  generalize hAe : va_A [(oC10 ad tn td lf), (oC1 ad cn), (oC6 ad un), (aI cI (ad 59) 60 uk), (aI cI (ad 60) 60 uy), (aI cI (ad 61) 60 uw), (aI cI (ad 62) 60 um)] s.heap.size = A at hD ⊢
  have hA : ∀ q : Nat, s.heap.size ≤ q → A q := fun q h => by rw [← hAe]; exact Or.inr h
  have hS : va_S A s.heap s.heap [] := va_S.rf
  have hP : va_P D vwCl [(oC10 ad tn td lf), (oC1 ad cn), (oC6 ad un), (aI cI (ad 59) 60 uk), (aI cI (ad 60) 60 uy), (aI cI (ad 61) 60 uw), (aI cI (ad 62) 60 um)] s.heap := hP
  have hl := lv_entry ([.ref (ad 0), .int k]) (n := 2) (Nat.le_of_ble_eq_true rfl)
  rw [lg_entry_eq]
  generalize (lg_sl ([.ref (ad 0), .int k]) ++ List.replicate (2 - (lg_sl ([.ref (ad 0), .int k])).length) Slot.unset).toArray = ls at hl ⊢
  have hl : lv_has ls 2 [(0, .ref (ad 0)), (1, .int k)] := hl
  have km1000001 : (-1000001 : Int32).toInt = -1000001 := by decide
  have k0 : (0 : Int32).toInt = 0 := by decide
  refine lv_aload_n hx hb dX10_verdict_0 rfl (lv_at hl 0 rfl) ?_
  refine lv_iload_n hx hb dX10_verdict_1 rfl (lv_at hl 1 rfl) ?_
  refine st_i1 (va_runV (C := RX10) (As := [.int k]) (rest := []) ⟨hx, hb, hml, hown, hts⟩ (ct_X10_isCrate l D cI cY cJ cQ _ ad tn td lf cn k) (cwV 1 hts gX10_verdict_X10_isCrate rfl rfl rfl ⟨rfl, cdX10_isCrate⟩ ⟨Nat.le_of_ble_eq_true rfl, Nat.le_of_ble_eq_true rfl⟩) (cPreV (hP.sub [0, 1] rfl) hK (hD.sub [0, 1] (by decide +kernel) rfl) hN (ci := 10) (q0 := 0) rfl rfl) rfl rfl hl.1 rfl (lv_room (Nat.le_of_ble_eq_true rfl)) dX10_verdict_2 ⟨Nat.le_of_ble_eq_true rfl, Nat.le_of_ble_eq_true rfl⟩) hP hD hS hA [0, 1] rfl (fun _ => rfl) (fun r3 u1 H locs hw2 => ?_)
  clear hP hS
  intro hP hS
  replace hw2 : r3 = if 0 ≤ k.toInt ∧ k.toInt < cn.toInt then 1 else 0 := hw2
  refine lv_if_ne (tgt := 11) hx hb dX10_verdict_5 (by decide) (fun c4 => ?_) (fun c4 => ?_)
  · skip
    have f5 := bo_t hw2 c4
    refine lv_aload_n hx hb dX10_verdict_11 rfl (lv_at hl 0 rfl) ?_
    refine va_get (D := D) (ci := 10) (v := .ref (ad 9)) (C := RX10) (T := TX10) (N := 14) hx hb hts inX10_verdict_X10 hown hK hP 0 rfl rfl 8 (by decide) (hts (Cond.fieldLink RX10 61 "PortRooms" "openings" "LPortRooms$Openings;") (wm_t (wm_l (wm_i 1 rfl)))) (fun _ h9 => h9) rfl dX10_verdict_12 ?_
    refine lv_iload_n hx hb dX10_verdict_15 rfl (lv_at hl 1 rfl) ?_
    refine st_i1 (va_runV (C := RX6) (As := [.int k]) (rest := []) ⟨hx, hb, hml, hown, hts⟩ (ct_X6_worstOf l D cI cY cJ cQ _ ad un uk uy uw um k h1 h2) (cwV 1 hts gX10_verdict_X6_worstOf rfl rfl rfl ⟨rfl, cdX6_worstOf⟩ ⟨Nat.le_of_ble_eq_true rfl, Nat.le_of_ble_eq_true rfl⟩) (cPreV (hP.sub [2, 3, 4, 5, 6] rfl) hK (hD.sub [2, 3, 4, 5, 6] (by decide +kernel) rfl) hN (ci := 6) (q0 := 0) rfl rfl) rfl rfl hl.1 rfl (lv_room (Nat.le_of_ble_eq_true rfl)) dX10_verdict_16 ⟨Nat.le_of_ble_eq_true rfl, Nat.le_of_ble_eq_true rfl⟩) hP hD hS hA [2, 3, 4, 5, 6] rfl (fun _ => rfl) (fun r8 u6 H locs hw7 => ?_)
    clear hP hS
    intro hP hS
    replace hw7 : r8 = vdV un uk uy uw um k := hw7
    subst hw7
    have hP9 := hP
    have hD9 := hD
    exact W.iret (v := vdV un uk uy uw um k) hx hb hr (fun t ht hW => ⟨⟨vdV un uk uy uw um k, (), rfl, (by unfold sp_verdict; (repeat' split) <;> first | rfl | (exfalso; omega) | (subst_vars; rfl)), by rw [ht]; exact hP9, va_K.moved hW.alike hK, hD9⟩, hS.F ht⟩) hS.2.2 dX10_verdict_19
  · skip
    have f9 := bo_f hw2 c4
    refine lv_ldc hx hb hown (hts (Cond.constant RX10 89 (-1000001)) (wm_t (wm_l (wm_i 0 rfl)))) dX10_verdict_8 ?_
    have hP9 := hP
    have hD9 := hD
    exact W.iret (v := (-1000001)) hx hb hr (fun t ht hW => ⟨⟨(-1000001), (), rfl, (by unfold sp_verdict; (repeat' split) <;> first | rfl | (exfalso; omega) | (subst_vars; rfl)), by rw [ht]; exact hP9, va_K.moved hW.alike hK, hD9⟩, hS.F ht⟩) hS.2.2 dX10_verdict_10


/-- the people on lists on a day, as bits -/
def poV (lp la lb : Nat → Int32) (d : Int32) : Nat → Int32
  | 0 => 0
  | n + 1 => if (la n).toInt ≤ d.toInt ∧ d.toInt ≤ (lb n).toInt then poV lp la lb d n ||| ((1 : Int32) <<< (lp n &&& 31)) else poV lp la lb d n
theorem poV_s (lp la lb : Nat → Int32) (d : Int32) (n : Nat) : poV lp la lb d (n + 1) = if (la n).toInt ≤ d.toInt ∧ d.toInt ≤ (lb n).toInt then poV lp la lb d n ||| ((1 : Int32) <<< (lp n &&& 31)) else poV lp la lb d n := rfl

set_option maxHeartbeats 4000000 in
set_option maxRecDepth 100000 in
theorem ct_X4_peopleOn (l : Launch) (D : va_G) (cI cY cJ cQ : ClassId) (sz : Nat) (ad : Nat → Nat) (lc : Int32) (lp la lb : Nat → Int32) (d : Int32)  (h1 : 0 ≤ lc.toInt) (h2 : lc.toInt ≤ 20)  : Met l yX4_peopleOn wsX4_peopleOn ({ frames := 0, cells := 0, slots := 0, locals := 0 }) (cPre D (ty4 cI cY cJ cQ) [(oC4 ad lc), (aI cI (ad 63) 20 lp), (aI cI (ad 64) 20 la), (aI cI (ad 65) 20 lb)] sz [.ref (ad 10), .int d]) (va_Qi (fun (r : Int32) (u : Unit) => r = poV lp la lb d lc.toNatClampNeg) (cB D (ty4 cI cY cJ cQ) (fun (u : Unit) => [(oC4 ad lc), (aI cI (ad 63) 20 lp), (aI cI (ad 64) 20 la), (aI cI (ad 65) 20 lb)]) (va_A [(oC4 ad lc), (aI cI (ad 63) 20 lp), (aI cI (ad 64) 20 la), (aI cI (ad 65) 20 lb)] sz)) (va_A [(oC4 ad lc), (aI cI (ad 63) 20 lp), (aI cI (ad 64) 20 la), (aI cI (ad 65) 20 lb)] sz)) 0 0 (va_A [(oC4 ad lc), (aI cI (ad 63) 20 lp), (aI cI (ad 64) 20 la), (aI cI (ad 65) 20 lb)] sz) := by
  refine Met.ofW (cc := cX4_peopleOn) (maxL := 4) (ret := (some .int)) (by decide) rfl ?_
  intro p e s m args below meth c s₁ B hml hv
  obtain ⟨rfl, hsz, hP, hK, hD0, hN⟩ := hv
  have hx := B.exec
  have hb := B.bytes
  have hr := B.returns
  have hts := atoms_spec (ws := wsX4_peopleOn) B.pre
  have hown : s.vm.findClass RX4 = some m.cls := findClass_of_methodNamed B.named
  have hlocks := B.notSynchronized
  subst hsz
  have hD := hD0.self (sz := s.heap.size)
  generalize hAe : va_A [(oC4 ad lc), (aI cI (ad 63) 20 lp), (aI cI (ad 64) 20 la), (aI cI (ad 65) 20 lb)] s.heap.size = A at hD ⊢
  have hA : ∀ q : Nat, s.heap.size ≤ q → A q := fun q h => by rw [← hAe]; exact Or.inr h
  have hS : va_S A s.heap s.heap [] := va_S.rf
  have hP : va_P D vwCl [(oC4 ad lc), (aI cI (ad 63) 20 lp), (aI cI (ad 64) 20 la), (aI cI (ad 65) 20 lb)] s.heap := hP
  have hl := lv_entry ([.ref (ad 10), .int d]) (n := 4) (Nat.le_of_ble_eq_true rfl)
  rw [lg_entry_eq]
  generalize (lg_sl ([.ref (ad 10), .int d]) ++ List.replicate (4 - (lg_sl ([.ref (ad 10), .int d])).length) Slot.unset).toArray = ls at hl ⊢
  have hl : lv_has ls 4 [(0, .ref (ad 10)), (1, .int d)] := hl
  have k0 : (0 : Int32).toInt = 0 := by decide
  have k1 : (1 : Int32).toInt = 1 := by decide
  refine lv_iconst (v := 0) hx hb dX4_peopleOn_0 (by decide) ?_
  refine lv_istore_n (lv' := [(2, .int 0), (0, .ref (ad 10)), (1, .int d)]) hx hb dX4_peopleOn_1 rfl hl (by decide) rfl (fun ls hl => ?_)
  refine lv_iconst (v := 0) hx hb dX4_peopleOn_2 (by decide) ?_
  refine lv_istore_n (lv' := [(3, .int 0), (2, .int 0), (0, .ref (ad 10)), (1, .int d)]) hx hb dX4_peopleOn_3 rfl hl (by decide) rfl (fun ls hl => ?_)
  refine st_loop 4 (fun _ => []) (fun (z : Int32 × Int32) (ls : Array Slot) (H : Heap) (locs : List Loc) => match z with | (q4_2, q4_3) => (0 ≤ q4_3.toInt) ∧ (q4_3.toInt ≤ lc.toInt) ∧ (q4_2 = poV lp la lb d q4_3.toNatClampNeg) ∧ lv_has ls 4 [(0, .ref (ad 10)), (1, .int d), (2, .int q4_2), (3, .int q4_3)] ∧ va_P D vwCl [(oC4 ad lc), (aI cI (ad 63) 20 lp), (aI cI (ad 64) 20 la), (aI cI (ad 65) 20 lb)] H ∧ va_D A [(oC4 ad lc), (aI cI (ad 63) 20 lp), (aI cI (ad 64) 20 la), (aI cI (ad 65) 20 lb)] ∧ va_S A s.heap H locs) (fun (z : Int32 × Int32) => match z with | (q4_2, q4_3) => lc.toInt - q4_3.toInt) ?_ ?_ ((0 : Int32), (0 : Int32)) ⟨(by omega), (by omega), (by rfl), lv_sub hl [2, 3, 1, 0] rfl, hP, hD, hS⟩
  · rintro ⟨q4_2, q4_3⟩ ls H locs ⟨g1, g2, g3, hl, hP, hD, hS⟩
    show (0 : Int) ≤ lc.toInt - q4_3.toInt
    omega
  · rintro n6 ih4 ⟨q4_2, q4_3⟩ ls H locs ⟨g1, g2, g3, hl, hP, hD, hS⟩ hm5
    have hm5 : lc.toInt - q4_3.toInt < (n6 : Int) + 1 := hm5
    replace hl : lv_has ls 4 [(0, .ref (ad 10)), (1, .int d), (2, .int q4_2), (3, .int q4_3)] := hl
    replace hP : va_P D vwCl [(oC4 ad lc), (aI cI (ad 63) 20 lp), (aI cI (ad 64) 20 la), (aI cI (ad 65) 20 lb)] H := hP
    replace hD : va_D A [(oC4 ad lc), (aI cI (ad 63) 20 lp), (aI cI (ad 64) 20 la), (aI cI (ad 65) 20 lb)] := hD
    show W _ _ _ _ _ _ _ _ _ _ _ _ _ _ _ (F0 m 4 ls [])
    refine lv_iload_n hx hb dX4_peopleOn_4 rfl (lv_at hl 3 rfl) ?_
    refine lv_aload_n hx hb dX4_peopleOn_5 rfl (lv_at hl 0 rfl) ?_
    refine va_get (D := D) (ci := 4) (v := .int lc) (C := RX4) (T := TX4) (N := 4) hx hb hts inX4_peopleOn_X4 hown hK hP 0 rfl rfl 3 (by decide) (hts (Cond.fieldLink RX4 21 "PortRooms$Lists" "count" "I") (wm_t (wm_l (wm_i 0 rfl)))) (fun _ h9 => h9) rfl dX4_peopleOn_6 ?_
    refine lv_icmp_ge (tgt := 49) hx hb dX4_peopleOn_9 (by decide) (fun c7 => ?_) (fun c7 => ?_)
    · skip
      have f8 := i_le c7
      refine lv_iload_n hx hb dX4_peopleOn_49 rfl (lv_at hl 2 rfl) ?_
      have ce8 := i_cl (x := q4_3) (by omega)
      have ce9 := i_cl (x := lc) (by omega)
      have ee9 : q4_3.toNatClampNeg = lc.toNatClampNeg := by omega
      have hz9 := g3
      rw [ee9] at hz9
      have hP9 := hP
      have hD9 := hD
      exact W.iret (v := q4_2) hx hb hr (fun t ht hW => ⟨⟨q4_2, (), rfl, hz9, by rw [ht]; exact hP9, va_K.moved hW.alike hK, hD9⟩, hS.F ht⟩) hS.2.2 dX4_peopleOn_50
    · skip
      have f9 := i_nle c7
      refine lv_aload_n hx hb dX4_peopleOn_12 rfl (lv_at hl 0 rfl) ?_
      refine va_get (D := D) (ci := 4) (v := .ref (ad 64)) (C := RX4) (T := TX4) (N := 4) hx hb hts inX4_peopleOn_X4 hown hK hP 0 rfl rfl 1 (by decide) (hts (Cond.fieldLink RX4 15 "PortRooms$Lists" "from" "[I") (wm_t (wm_l (wm_i 1 rfl)))) (fun _ h9 => h9) rfl dX4_peopleOn_13 ?_
      refine lv_iload_n hx hb dX4_peopleOn_16 rfl (lv_at hl 3 rfl) ?_
      refine va_iald hx hb hK hP 2 0 rfl rfl (i_in (by omega) (by omega)) dX4_peopleOn_17 ?_
      refine lv_topi (fun v10 ev10 => ?_)
      have tlv10 : v10.toInt = (la q4_3.toNatClampNeg).toInt := by rw [ev10]
      refine lv_iload_n hx hb dX4_peopleOn_18 rfl (lv_at hl 1 rfl) ?_
      refine lv_icmp_gt (tgt := 43) hx hb dX4_peopleOn_19 (by decide) (fun c11 => ?_) (fun c11 => ?_)
      · skip
        have f12 := i_lt c11
        obtain ⟨v13, ev13⟩ : ∃ y : Int32, y = q4_3 + 1 := ⟨_, rfl⟩
        try have tv13 : v13.toInt = q4_3.toInt + 1 := by rw [ev13]; exact (i_add (x := q4_3) (y := (1 : Int32)) (by rw [k1]; omega) (by rw [k1]; omega)).trans (by rw [k1])
        refine lv_iinc (v := v13) (lv' := [(3, .int v13), (0, .ref (ad 10)), (1, .int d), (2, .int q4_2)]) hx hb dX4_peopleOn_43 hl (k := 3) rfl (by rw [ev13]; rfl) (by decide) rfl (fun ls hl => ?_)
        refine lv_goto (tgt := 4) hx hb dX4_peopleOn_46 (by decide) ?_
        have clk8 := i_cl (x := q4_3) (by omega)
        have clk9 := i_cl (x := v13) (by omega)
        have ek9 : v13.toNatClampNeg = q4_3.toNatClampNeg + 1 := by omega
        exact ih4 (q4_2, v13) ls H locs ⟨(by omega), (by omega), (by rw [ek9, poV_s, ← g3, if_neg (by omega)]), lv_sub hl [1, 2, 3, 0] rfl, hP.sub [0, 1, 2, 3] rfl, hD.sub [0, 1, 2, 3] (by decide +kernel) rfl, hS⟩ (by show lc.toInt - v13.toInt < _; omega)
      · skip
        have f14 := i_nlt c11
        refine lv_iload_n hx hb dX4_peopleOn_22 rfl (lv_at hl 1 rfl) ?_
        refine lv_aload_n hx hb dX4_peopleOn_23 rfl (lv_at hl 0 rfl) ?_
        refine va_get (D := D) (ci := 4) (v := .ref (ad 65)) (C := RX4) (T := TX4) (N := 4) hx hb hts inX4_peopleOn_X4 hown hK hP 0 rfl rfl 2 (by decide) (hts (Cond.fieldLink RX4 18 "PortRooms$Lists" "to" "[I") (wm_t (wm_l (wm_i 2 rfl)))) (fun _ h9 => h9) rfl dX4_peopleOn_24 ?_
        refine lv_iload_n hx hb dX4_peopleOn_27 rfl (lv_at hl 3 rfl) ?_
        refine va_iald hx hb hK hP 3 0 rfl rfl (i_in (by omega) (by omega)) dX4_peopleOn_28 ?_
        refine lv_topi (fun v15 ev15 => ?_)
        have tlv15 : v15.toInt = (lb q4_3.toNatClampNeg).toInt := by rw [ev15]
        refine lv_icmp_gt (tgt := 43) hx hb dX4_peopleOn_29 (by decide) (fun c16 => ?_) (fun c16 => ?_)
        · skip
          have f17 := i_lt c16
          obtain ⟨v18, ev18⟩ : ∃ y : Int32, y = q4_3 + 1 := ⟨_, rfl⟩
          try have tv18 : v18.toInt = q4_3.toInt + 1 := by rw [ev18]; exact (i_add (x := q4_3) (y := (1 : Int32)) (by rw [k1]; omega) (by rw [k1]; omega)).trans (by rw [k1])
          refine lv_iinc (v := v18) (lv' := [(3, .int v18), (0, .ref (ad 10)), (1, .int d), (2, .int q4_2)]) hx hb dX4_peopleOn_43 hl (k := 3) rfl (by rw [ev18]; rfl) (by decide) rfl (fun ls hl => ?_)
          refine lv_goto (tgt := 4) hx hb dX4_peopleOn_46 (by decide) ?_
          have clk8 := i_cl (x := q4_3) (by omega)
          have clk9 := i_cl (x := v18) (by omega)
          have ek9 : v18.toNatClampNeg = q4_3.toNatClampNeg + 1 := by omega
          exact ih4 (q4_2, v18) ls H locs ⟨(by omega), (by omega), (by rw [ek9, poV_s, ← g3, if_neg (by omega)]), lv_sub hl [1, 2, 3, 0] rfl, hP.sub [0, 1, 2, 3] rfl, hD.sub [0, 1, 2, 3] (by decide +kernel) rfl, hS⟩ (by show lc.toInt - v18.toInt < _; omega)
        · skip
          have f19 := i_nlt c16
          refine lv_iload_n hx hb dX4_peopleOn_32 rfl (lv_at hl 2 rfl) ?_
          refine lv_iconst (v := 1) hx hb dX4_peopleOn_33 (by decide) ?_
          refine lv_aload_n hx hb dX4_peopleOn_34 rfl (lv_at hl 0 rfl) ?_
          refine va_get (D := D) (ci := 4) (v := .ref (ad 63)) (C := RX4) (T := TX4) (N := 4) hx hb hts inX4_peopleOn_X4 hown hK hP 0 rfl rfl 0 (by decide) (hts (Cond.fieldLink RX4 9 "PortRooms$Lists" "person" "[I") (wm_t (wm_l (wm_i 3 rfl)))) (fun _ h9 => h9) rfl dX4_peopleOn_35 ?_
          refine lv_iload_n hx hb dX4_peopleOn_38 rfl (lv_at hl 3 rfl) ?_
          refine va_iald hx hb hK hP 1 0 rfl rfl (i_in (by omega) (by omega)) dX4_peopleOn_39 ?_
          refine lv_topi (fun v20 ev20 => ?_)
          have tlv20 : v20.toInt = (lp q4_3.toNatClampNeg).toInt := by rw [ev20]
          refine lv_ishl hx hb dX4_peopleOn_40 ?_
          refine lv_topi (fun v21 ev21 => ?_)
          refine lv_ior hx hb dX4_peopleOn_41 ?_
          refine lv_topi (fun v22 ev22 => ?_)
          refine lv_istore_n (lv' := [(2, .int v22), (0, .ref (ad 10)), (1, .int d), (3, .int q4_3)]) hx hb dX4_peopleOn_42 rfl hl (by decide) rfl (fun ls hl => ?_)
          obtain ⟨v23, ev23⟩ : ∃ y : Int32, y = q4_3 + 1 := ⟨_, rfl⟩
          try have tv23 : v23.toInt = q4_3.toInt + 1 := by rw [ev23]; exact (i_add (x := q4_3) (y := (1 : Int32)) (by rw [k1]; omega) (by rw [k1]; omega)).trans (by rw [k1])
          refine lv_iinc (v := v23) (lv' := [(3, .int v23), (2, .int v22), (0, .ref (ad 10)), (1, .int d)]) hx hb dX4_peopleOn_43 hl (k := 3) rfl (by rw [ev23]; rfl) (by decide) rfl (fun ls hl => ?_)
          refine lv_goto (tgt := 4) hx hb dX4_peopleOn_46 (by decide) ?_
          have clk8 := i_cl (x := q4_3) (by omega)
          have clk9 := i_cl (x := v23) (by omega)
          have ek9 : v23.toNatClampNeg = q4_3.toNatClampNeg + 1 := by omega
          exact ih4 (v22, v23) ls H locs ⟨(by omega), (by omega), (by rw [ek9, poV_s, ← g3, if_pos (by omega), ev22, ev21, ev20]), lv_sub hl [2, 3, 1, 0] rfl, hP.sub [0, 1, 2, 3] rfl, hD.sub [0, 1, 2, 3] (by decide +kernel) rfl, hS⟩ (by show lc.toInt - v23.toInt < _; omega)
end

section
theorem cdX0_firstWaking : yX0_firstWaking.cls ≠ "java/lang/invoke/MethodHandle" ∧ yX0_firstWaking.cls ≠ "java/lang/invoke/VarHandle" ∧ (parseMethodDescriptor yX0_firstWaking.desc).map (fun d => d.parameters.length) = some 2 := by decide +kernel
theorem Gd_X20 : gdA wsX20 := gd_all (by decide +kernel)
theorem cdX2_lineFor : yX2_lineFor.cls ≠ "java/lang/invoke/MethodHandle" ∧ yX2_lineFor.cls ≠ "java/lang/invoke/VarHandle" ∧ (parseMethodDescriptor yX2_lineFor.desc).map (fun d => d.parameters.length) = some 2 := by decide +kernel
theorem Gd_X2_lineFor : gdA wsX2_lineFor := gd_cons (by decide +kernel) (gd_app (gd_all (ws := wsX2_lineFor_o1) (by decide +kernel)) Gd_X20)
theorem inX2_lineFor_X2 : ∀ w ∈ u_ws RX2 TX2 15, w ∈ wsX2_lineFor := fun _ h => (List.mem_cons_of_mem _ (List.mem_append_right _ h))
theorem Gd_X0_firstWaking : gdA wsX0_firstWaking := gd_cons (by decide +kernel) (gd_app (gd_all (ws := wsX0_firstWaking_o1) (by decide +kernel)) (gd_app (gd_app Gd_X00 Gd_X20) Gd_X2_lineFor))
theorem inX0_firstWaking_X0 : ∀ w ∈ u_ws RX0 TX0 5, w ∈ wsX0_firstWaking := fun _ h => (List.mem_cons_of_mem _ (List.mem_append_right _ (List.mem_append_left _ (List.mem_append_left _ h))))
theorem inX10_duty_X1 : ∀ w ∈ u_ws RX1 TX1 6, w ∈ wsX10_duty := fun _ h => (List.mem_cons_of_mem _ (List.mem_append_right _ (List.mem_append_left _ (List.mem_append_right _ (List.mem_append_left _ h)))))
theorem inX10_duty_X2 : ∀ w ∈ u_ws RX2 TX2 15, w ∈ wsX10_duty := fun _ h => (List.mem_cons_of_mem _ (List.mem_append_right _ (List.mem_append_left _ (List.mem_append_right _ (List.mem_append_right _ h)))))
theorem inX10_duty_X0 : ∀ w ∈ u_ws RX0 TX0 5, w ∈ wsX10_duty := fun _ h => (List.mem_cons_of_mem _ (List.mem_append_right _ (List.mem_append_left _ (List.mem_append_left _ (List.mem_append_right _ h)))))
theorem inX10_duty_X10 : ∀ w ∈ u_ws RX10 TX10 14, w ∈ wsX10_duty := fun _ h => (List.mem_cons_of_mem _ (List.mem_append_right _ (List.mem_append_left _ (List.mem_append_left _ (List.mem_append_left _ h)))))
theorem ggX0_firstWaking_X2_lineFor : GoodIn wsX0_firstWaking wsX2_lineFor := goodIn_s (fun _ h => wm_t (wm_r (wm_r h))) Gd_X2_lineFor
theorem gX0_firstWaking_X2_lineFor : GoodIn wsX0_firstWaking (wsV RX0 28 RX2 yX2_lineFor wsX2_lineFor) := goodIn_V (own := RX0) (idx := 28) (C := RX2) (y := yX2_lineFor) (wm_t (wm_l (wm_i 5 rfl))) (wm_t (wm_l (wm_i 6 rfl))) (wm_t (wm_l (wm_i 7 rfl))) (wm_t (wm_l (wm_i 8 rfl))) ggX0_firstWaking_X2_lineFor
theorem dX0_firstWaking_all0 : decode cX0_firstWaking 0 = .ok (.iconst (-1), 1) ∧ decode cX0_firstWaking 1 = .ok (.istore_n 3, 1) ∧ decode cX0_firstWaking 2 = .ok (.iconst 0, 1) ∧ decode cX0_firstWaking 3 = .ok (.istore 4, 2) ∧ decode cX0_firstWaking 5 = .ok (.iload 4, 2) ∧ decode cX0_firstWaking 7 = .ok (.aload_n 0, 1) ∧ decode cX0_firstWaking 8 = .ok (.getfield 24, 3) ∧ decode cX0_firstWaking 11 = .ok (.if_icmp .ge 76, 3) ∧ decode cX0_firstWaking 14 = .ok (.iload_n 3, 1) ∧ decode cX0_firstWaking 15 = .ok (.ifCond .lt 19, 3) ∧ decode cX0_firstWaking 18 = .ok (.aload_n 0, 1) ∧ decode cX0_firstWaking 19 = .ok (.getfield 18, 3) := by decide +kernel
theorem dX0_firstWaking_0 : decode cX0_firstWaking 0 = .ok (.iconst (-1), 1) := dX0_firstWaking_all0.1
theorem dX0_firstWaking_1 : decode cX0_firstWaking 1 = .ok (.istore_n 3, 1) := dX0_firstWaking_all0.2.1
theorem dX0_firstWaking_2 : decode cX0_firstWaking 2 = .ok (.iconst 0, 1) := dX0_firstWaking_all0.2.2.1
theorem dX0_firstWaking_3 : decode cX0_firstWaking 3 = .ok (.istore 4, 2) := dX0_firstWaking_all0.2.2.2.1
theorem dX0_firstWaking_5 : decode cX0_firstWaking 5 = .ok (.iload 4, 2) := dX0_firstWaking_all0.2.2.2.2.1
theorem dX0_firstWaking_7 : decode cX0_firstWaking 7 = .ok (.aload_n 0, 1) := dX0_firstWaking_all0.2.2.2.2.2.1
theorem dX0_firstWaking_8 : decode cX0_firstWaking 8 = .ok (.getfield 24, 3) := dX0_firstWaking_all0.2.2.2.2.2.2.1
theorem dX0_firstWaking_11 : decode cX0_firstWaking 11 = .ok (.if_icmp .ge 76, 3) := dX0_firstWaking_all0.2.2.2.2.2.2.2.1
theorem dX0_firstWaking_14 : decode cX0_firstWaking 14 = .ok (.iload_n 3, 1) := dX0_firstWaking_all0.2.2.2.2.2.2.2.2.1
theorem dX0_firstWaking_15 : decode cX0_firstWaking 15 = .ok (.ifCond .lt 19, 3) := dX0_firstWaking_all0.2.2.2.2.2.2.2.2.2.1
theorem dX0_firstWaking_18 : decode cX0_firstWaking 18 = .ok (.aload_n 0, 1) := dX0_firstWaking_all0.2.2.2.2.2.2.2.2.2.2.1
theorem dX0_firstWaking_19 : decode cX0_firstWaking 19 = .ok (.getfield 18, 3) := dX0_firstWaking_all0.2.2.2.2.2.2.2.2.2.2.2
theorem dX0_firstWaking_all1 : decode cX0_firstWaking 22 = .ok (.iload 4, 2) ∧ decode cX0_firstWaking 24 = .ok (.iaload, 1) ∧ decode cX0_firstWaking 25 = .ok (.aload_n 0, 1) ∧ decode cX0_firstWaking 26 = .ok (.getfield 18, 3) ∧ decode cX0_firstWaking 29 = .ok (.iload_n 3, 1) ∧ decode cX0_firstWaking 30 = .ok (.iaload, 1) ∧ decode cX0_firstWaking 31 = .ok (.if_icmp .ge 7, 3) ∧ decode cX0_firstWaking 34 = .ok (.iconst 1, 1) ∧ decode cX0_firstWaking 35 = .ok (.goto 4, 3) ∧ decode cX0_firstWaking 38 = .ok (.iconst 0, 1) ∧ decode cX0_firstWaking 39 = .ok (.istore 5, 2) ∧ decode cX0_firstWaking 41 = .ok (.aload_n 0, 1) := by decide +kernel
theorem dX0_firstWaking_22 : decode cX0_firstWaking 22 = .ok (.iload 4, 2) := dX0_firstWaking_all1.1
theorem dX0_firstWaking_24 : decode cX0_firstWaking 24 = .ok (.iaload, 1) := dX0_firstWaking_all1.2.1
theorem dX0_firstWaking_25 : decode cX0_firstWaking 25 = .ok (.aload_n 0, 1) := dX0_firstWaking_all1.2.2.1
theorem dX0_firstWaking_26 : decode cX0_firstWaking 26 = .ok (.getfield 18, 3) := dX0_firstWaking_all1.2.2.2.1
theorem dX0_firstWaking_29 : decode cX0_firstWaking 29 = .ok (.iload_n 3, 1) := dX0_firstWaking_all1.2.2.2.2.1
theorem dX0_firstWaking_30 : decode cX0_firstWaking 30 = .ok (.iaload, 1) := dX0_firstWaking_all1.2.2.2.2.2.1
theorem dX0_firstWaking_31 : decode cX0_firstWaking 31 = .ok (.if_icmp .ge 7, 3) := dX0_firstWaking_all1.2.2.2.2.2.2.1
theorem dX0_firstWaking_34 : decode cX0_firstWaking 34 = .ok (.iconst 1, 1) := dX0_firstWaking_all1.2.2.2.2.2.2.2.1
theorem dX0_firstWaking_35 : decode cX0_firstWaking 35 = .ok (.goto 4, 3) := dX0_firstWaking_all1.2.2.2.2.2.2.2.2.1
theorem dX0_firstWaking_38 : decode cX0_firstWaking 38 = .ok (.iconst 0, 1) := dX0_firstWaking_all1.2.2.2.2.2.2.2.2.2.1
theorem dX0_firstWaking_39 : decode cX0_firstWaking 39 = .ok (.istore 5, 2) := dX0_firstWaking_all1.2.2.2.2.2.2.2.2.2.2.1
theorem dX0_firstWaking_41 : decode cX0_firstWaking 41 = .ok (.aload_n 0, 1) := dX0_firstWaking_all1.2.2.2.2.2.2.2.2.2.2.2
theorem dX0_firstWaking_all2 : decode cX0_firstWaking 42 = .ok (.getfield 9, 3) ∧ decode cX0_firstWaking 45 = .ok (.iload 4, 2) ∧ decode cX0_firstWaking 47 = .ok (.iaload, 1) ∧ decode cX0_firstWaking 48 = .ok (.iload_n 1, 1) ∧ decode cX0_firstWaking 49 = .ok (.if_icmp .ne 32, 3) ∧ decode cX0_firstWaking 52 = .ok (.iload 5, 2) ∧ decode cX0_firstWaking 54 = .ok (.ifCond .eq 27, 3) ∧ decode cX0_firstWaking 57 = .ok (.aload_n 2, 1) ∧ decode cX0_firstWaking 58 = .ok (.aload_n 0, 1) ∧ decode cX0_firstWaking 59 = .ok (.getfield 15, 3) ∧ decode cX0_firstWaking 62 = .ok (.iload 4, 2) ∧ decode cX0_firstWaking 64 = .ok (.iaload, 1) := by decide +kernel
theorem dX0_firstWaking_42 : decode cX0_firstWaking 42 = .ok (.getfield 9, 3) := dX0_firstWaking_all2.1
theorem dX0_firstWaking_45 : decode cX0_firstWaking 45 = .ok (.iload 4, 2) := dX0_firstWaking_all2.2.1
theorem dX0_firstWaking_47 : decode cX0_firstWaking 47 = .ok (.iaload, 1) := dX0_firstWaking_all2.2.2.1
theorem dX0_firstWaking_48 : decode cX0_firstWaking 48 = .ok (.iload_n 1, 1) := dX0_firstWaking_all2.2.2.2.1
theorem dX0_firstWaking_49 : decode cX0_firstWaking 49 = .ok (.if_icmp .ne 32, 3) := dX0_firstWaking_all2.2.2.2.2.1
theorem dX0_firstWaking_52 : decode cX0_firstWaking 52 = .ok (.iload 5, 2) := dX0_firstWaking_all2.2.2.2.2.2.1
theorem dX0_firstWaking_54 : decode cX0_firstWaking 54 = .ok (.ifCond .eq 27, 3) := dX0_firstWaking_all2.2.2.2.2.2.2.1
theorem dX0_firstWaking_57 : decode cX0_firstWaking 57 = .ok (.aload_n 2, 1) := dX0_firstWaking_all2.2.2.2.2.2.2.2.1
theorem dX0_firstWaking_58 : decode cX0_firstWaking 58 = .ok (.aload_n 0, 1) := dX0_firstWaking_all2.2.2.2.2.2.2.2.2.1
theorem dX0_firstWaking_59 : decode cX0_firstWaking 59 = .ok (.getfield 15, 3) := dX0_firstWaking_all2.2.2.2.2.2.2.2.2.2.1
theorem dX0_firstWaking_62 : decode cX0_firstWaking 62 = .ok (.iload 4, 2) := dX0_firstWaking_all2.2.2.2.2.2.2.2.2.2.2.1
theorem dX0_firstWaking_64 : decode cX0_firstWaking 64 = .ok (.iaload, 1) := dX0_firstWaking_all2.2.2.2.2.2.2.2.2.2.2.2
theorem dX0_firstWaking_all3 : decode cX0_firstWaking 65 = .ok (.aload_n 0, 1) ∧ decode cX0_firstWaking 66 = .ok (.getfield 21, 3) ∧ decode cX0_firstWaking 69 = .ok (.iload 4, 2) ∧ decode cX0_firstWaking 71 = .ok (.iaload, 1) ∧ decode cX0_firstWaking 72 = .ok (.invokevirtual 28, 3) ∧ decode cX0_firstWaking 75 = .ok (.ifCond .lt 6, 3) ∧ decode cX0_firstWaking 78 = .ok (.iload 4, 2) ∧ decode cX0_firstWaking 80 = .ok (.istore_n 3, 1) ∧ decode cX0_firstWaking 81 = .ok (.iinc 4 1, 3) ∧ decode cX0_firstWaking 84 = .ok (.goto (-79), 3) ∧ decode cX0_firstWaking 87 = .ok (.iload_n 3, 1) ∧ decode cX0_firstWaking 88 = .ok (.ireturn, 1) := by decide +kernel
theorem dX0_firstWaking_65 : decode cX0_firstWaking 65 = .ok (.aload_n 0, 1) := dX0_firstWaking_all3.1
theorem dX0_firstWaking_66 : decode cX0_firstWaking 66 = .ok (.getfield 21, 3) := dX0_firstWaking_all3.2.1
theorem dX0_firstWaking_69 : decode cX0_firstWaking 69 = .ok (.iload 4, 2) := dX0_firstWaking_all3.2.2.1
theorem dX0_firstWaking_71 : decode cX0_firstWaking 71 = .ok (.iaload, 1) := dX0_firstWaking_all3.2.2.2.1
theorem dX0_firstWaking_72 : decode cX0_firstWaking 72 = .ok (.invokevirtual 28, 3) := dX0_firstWaking_all3.2.2.2.2.1
theorem dX0_firstWaking_75 : decode cX0_firstWaking 75 = .ok (.ifCond .lt 6, 3) := dX0_firstWaking_all3.2.2.2.2.2.1
theorem dX0_firstWaking_78 : decode cX0_firstWaking 78 = .ok (.iload 4, 2) := dX0_firstWaking_all3.2.2.2.2.2.2.1
theorem dX0_firstWaking_80 : decode cX0_firstWaking 80 = .ok (.istore_n 3, 1) := dX0_firstWaking_all3.2.2.2.2.2.2.2.1
theorem dX0_firstWaking_81 : decode cX0_firstWaking 81 = .ok (.iinc 4 1, 3) := dX0_firstWaking_all3.2.2.2.2.2.2.2.2.1
theorem dX0_firstWaking_84 : decode cX0_firstWaking 84 = .ok (.goto (-79), 3) := dX0_firstWaking_all3.2.2.2.2.2.2.2.2.2.1
theorem dX0_firstWaking_87 : decode cX0_firstWaking 87 = .ok (.iload_n 3, 1) := dX0_firstWaking_all3.2.2.2.2.2.2.2.2.2.2.1
theorem dX0_firstWaking_88 : decode cX0_firstWaking 88 = .ok (.ireturn, 1) := dX0_firstWaking_all3.2.2.2.2.2.2.2.2.2.2.2
theorem dX2_lineFor_all0 : decode cX2_lineFor 0 = .ok (.iconst 0, 1) ∧ decode cX2_lineFor 1 = .ok (.istore_n 3, 1) ∧ decode cX2_lineFor 2 = .ok (.iload_n 3, 1) ∧ decode cX2_lineFor 3 = .ok (.aload_n 0, 1) ∧ decode cX2_lineFor 4 = .ok (.getfield 67, 3) ∧ decode cX2_lineFor 7 = .ok (.if_icmp .ge 31, 3) ∧ decode cX2_lineFor 10 = .ok (.aload_n 0, 1) ∧ decode cX2_lineFor 11 = .ok (.getfield 15, 3) ∧ decode cX2_lineFor 14 = .ok (.iload_n 3, 1) ∧ decode cX2_lineFor 15 = .ok (.iaload, 1) ∧ decode cX2_lineFor 16 = .ok (.iload_n 1, 1) ∧ decode cX2_lineFor 17 = .ok (.if_icmp .ne 15, 3) := by decide +kernel
theorem dX2_lineFor_0 : decode cX2_lineFor 0 = .ok (.iconst 0, 1) := dX2_lineFor_all0.1
theorem dX2_lineFor_1 : decode cX2_lineFor 1 = .ok (.istore_n 3, 1) := dX2_lineFor_all0.2.1
theorem dX2_lineFor_2 : decode cX2_lineFor 2 = .ok (.iload_n 3, 1) := dX2_lineFor_all0.2.2.1
theorem dX2_lineFor_3 : decode cX2_lineFor 3 = .ok (.aload_n 0, 1) := dX2_lineFor_all0.2.2.2.1
theorem dX2_lineFor_4 : decode cX2_lineFor 4 = .ok (.getfield 67, 3) := dX2_lineFor_all0.2.2.2.2.1
theorem dX2_lineFor_7 : decode cX2_lineFor 7 = .ok (.if_icmp .ge 31, 3) := dX2_lineFor_all0.2.2.2.2.2.1
theorem dX2_lineFor_10 : decode cX2_lineFor 10 = .ok (.aload_n 0, 1) := dX2_lineFor_all0.2.2.2.2.2.2.1
theorem dX2_lineFor_11 : decode cX2_lineFor 11 = .ok (.getfield 15, 3) := dX2_lineFor_all0.2.2.2.2.2.2.2.1
theorem dX2_lineFor_14 : decode cX2_lineFor 14 = .ok (.iload_n 3, 1) := dX2_lineFor_all0.2.2.2.2.2.2.2.2.1
theorem dX2_lineFor_15 : decode cX2_lineFor 15 = .ok (.iaload, 1) := dX2_lineFor_all0.2.2.2.2.2.2.2.2.2.1
theorem dX2_lineFor_16 : decode cX2_lineFor 16 = .ok (.iload_n 1, 1) := dX2_lineFor_all0.2.2.2.2.2.2.2.2.2.2.1
theorem dX2_lineFor_17 : decode cX2_lineFor 17 = .ok (.if_icmp .ne 15, 3) := dX2_lineFor_all0.2.2.2.2.2.2.2.2.2.2.2
theorem dX2_lineFor_all1 : decode cX2_lineFor 20 = .ok (.iload_n 2, 1) ∧ decode cX2_lineFor 21 = .ok (.aload_n 0, 1) ∧ decode cX2_lineFor 22 = .ok (.getfield 19, 3) ∧ decode cX2_lineFor 25 = .ok (.iload_n 3, 1) ∧ decode cX2_lineFor 26 = .ok (.iaload, 1) ∧ decode cX2_lineFor 27 = .ok (.if_icmp .le 5, 3) ∧ decode cX2_lineFor 30 = .ok (.iload_n 3, 1) ∧ decode cX2_lineFor 31 = .ok (.ireturn, 1) ∧ decode cX2_lineFor 32 = .ok (.iinc 3 1, 3) ∧ decode cX2_lineFor 35 = .ok (.goto (-33), 3) ∧ decode cX2_lineFor 38 = .ok (.iconst (-1), 1) ∧ decode cX2_lineFor 39 = .ok (.ireturn, 1) := by decide +kernel
theorem dX2_lineFor_20 : decode cX2_lineFor 20 = .ok (.iload_n 2, 1) := dX2_lineFor_all1.1
theorem dX2_lineFor_21 : decode cX2_lineFor 21 = .ok (.aload_n 0, 1) := dX2_lineFor_all1.2.1
theorem dX2_lineFor_22 : decode cX2_lineFor 22 = .ok (.getfield 19, 3) := dX2_lineFor_all1.2.2.1
theorem dX2_lineFor_25 : decode cX2_lineFor 25 = .ok (.iload_n 3, 1) := dX2_lineFor_all1.2.2.2.1
theorem dX2_lineFor_26 : decode cX2_lineFor 26 = .ok (.iaload, 1) := dX2_lineFor_all1.2.2.2.2.1
theorem dX2_lineFor_27 : decode cX2_lineFor 27 = .ok (.if_icmp .le 5, 3) := dX2_lineFor_all1.2.2.2.2.2.1
theorem dX2_lineFor_30 : decode cX2_lineFor 30 = .ok (.iload_n 3, 1) := dX2_lineFor_all1.2.2.2.2.2.2.1
theorem dX2_lineFor_31 : decode cX2_lineFor 31 = .ok (.ireturn, 1) := dX2_lineFor_all1.2.2.2.2.2.2.2.1
theorem dX2_lineFor_32 : decode cX2_lineFor 32 = .ok (.iinc 3 1, 3) := dX2_lineFor_all1.2.2.2.2.2.2.2.2.1
theorem dX2_lineFor_35 : decode cX2_lineFor 35 = .ok (.goto (-33), 3) := dX2_lineFor_all1.2.2.2.2.2.2.2.2.2.1
theorem dX2_lineFor_38 : decode cX2_lineFor 38 = .ok (.iconst (-1), 1) := dX2_lineFor_all1.2.2.2.2.2.2.2.2.2.2.1
theorem dX2_lineFor_39 : decode cX2_lineFor 39 = .ok (.ireturn, 1) := dX2_lineFor_all1.2.2.2.2.2.2.2.2.2.2.2
theorem ggX10_duty_X10_isCrate : GoodIn wsX10_duty wsX10_isCrate := goodIn_s (fun _ h => wm_t (wm_r (wm_r (wm_l (wm_l h))))) Gd_X10_isCrate
theorem gX10_duty_X10_isCrate : GoodIn wsX10_duty (wsV RX10 180 RX10 yX10_isCrate wsX10_isCrate) := goodIn_V (own := RX10) (idx := 180) (C := RX10) (y := yX10_isCrate) (wm_t (wm_l (wm_i 10 rfl))) (wm_t (wm_l (wm_i 11 rfl))) (wm_t (wm_l (wm_i 12 rfl))) (wm_t (wm_l (wm_i 13 rfl))) ggX10_duty_X10_isCrate
theorem ggX10_duty_X10_isBelow : GoodIn wsX10_duty wsX10_isBelow := goodIn_s (fun _ h => wm_t (wm_r (wm_r (wm_l (wm_r h))))) Gd_X10_isBelow
theorem gX10_duty_X10_isBelow : GoodIn wsX10_duty (va_wsS RX10 85 yX10_isBelow wsX10_isBelow) := goodIn_S (own := RX10) (idx := 85) (y := yX10_isBelow) (wm_t (wm_l (wm_i 14 rfl))) (wm_t (wm_l (wm_i 15 rfl))) (wm_t (wm_l (wm_i 13 rfl))) ggX10_duty_X10_isBelow
theorem ggX10_duty_X0_firstWaking : GoodIn wsX10_duty wsX0_firstWaking := goodIn_s (fun _ h => wm_t (wm_r (wm_r (wm_r (wm_l h))))) Gd_X0_firstWaking
theorem gX10_duty_X0_firstWaking : GoodIn wsX10_duty (wsV RX10 229 RX0 yX0_firstWaking wsX0_firstWaking) := goodIn_V (own := RX10) (idx := 229) (C := RX0) (y := yX0_firstWaking) (wm_t (wm_l (wm_i 16 rfl))) (wm_t (wm_l (wm_i 17 rfl))) (wm_t (wm_l (wm_i 18 rfl))) (wm_t (wm_l (wm_i 19 rfl))) ggX10_duty_X0_firstWaking
theorem ggX10_duty_X2_lineFor : GoodIn wsX10_duty wsX2_lineFor := goodIn_s (fun _ h => wm_t (wm_r (wm_r (wm_r (wm_r h))))) Gd_X2_lineFor
theorem gX10_duty_X2_lineFor : GoodIn wsX10_duty (wsV RX10 239 RX2 yX2_lineFor wsX2_lineFor) := goodIn_V (own := RX10) (idx := 239) (C := RX2) (y := yX2_lineFor) (wm_t (wm_l (wm_i 22 rfl))) (wm_t (wm_l (wm_i 20 rfl))) (wm_t (wm_r (wm_r (wm_r (wm_l (wm_t (wm_l (wm_i 7 rfl)))))))) (wm_t (wm_l (wm_i 21 rfl))) ggX10_duty_X2_lineFor
theorem dX10_duty_all0 : decode cX10_duty 0 = .ok (.aload_n 0, 1) ∧ decode cX10_duty 1 = .ok (.iload_n 1, 1) ∧ decode cX10_duty 2 = .ok (.invokevirtual 180, 3) ∧ decode cX10_duty 5 = .ok (.ifCond .eq 11, 3) ∧ decode cX10_duty 8 = .ok (.iload_n 2, 1) ∧ decode cX10_duty 9 = .ok (.iconst 3, 1) ∧ decode cX10_duty 10 = .ok (.invokestatic 85, 3) ∧ decode cX10_duty 13 = .ok (.ifCond .ne 6, 3) ∧ decode cX10_duty 16 = .ok (.ldc 89, 2) ∧ decode cX10_duty 18 = .ok (.ireturn, 1) ∧ decode cX10_duty 19 = .ok (.aload_n 0, 1) ∧ decode cX10_duty 20 = .ok (.getfield 54, 3) := by decide +kernel
theorem dX10_duty_0 : decode cX10_duty 0 = .ok (.aload_n 0, 1) := dX10_duty_all0.1
theorem dX10_duty_1 : decode cX10_duty 1 = .ok (.iload_n 1, 1) := dX10_duty_all0.2.1
theorem dX10_duty_2 : decode cX10_duty 2 = .ok (.invokevirtual 180, 3) := dX10_duty_all0.2.2.1
theorem dX10_duty_5 : decode cX10_duty 5 = .ok (.ifCond .eq 11, 3) := dX10_duty_all0.2.2.2.1
theorem dX10_duty_8 : decode cX10_duty 8 = .ok (.iload_n 2, 1) := dX10_duty_all0.2.2.2.2.1
theorem dX10_duty_9 : decode cX10_duty 9 = .ok (.iconst 3, 1) := dX10_duty_all0.2.2.2.2.2.1
theorem dX10_duty_10 : decode cX10_duty 10 = .ok (.invokestatic 85, 3) := dX10_duty_all0.2.2.2.2.2.2.1
theorem dX10_duty_13 : decode cX10_duty 13 = .ok (.ifCond .ne 6, 3) := dX10_duty_all0.2.2.2.2.2.2.2.1
theorem dX10_duty_16 : decode cX10_duty 16 = .ok (.ldc 89, 2) := dX10_duty_all0.2.2.2.2.2.2.2.2.1
theorem dX10_duty_18 : decode cX10_duty 18 = .ok (.ireturn, 1) := dX10_duty_all0.2.2.2.2.2.2.2.2.2.1
theorem dX10_duty_19 : decode cX10_duty 19 = .ok (.aload_n 0, 1) := dX10_duty_all0.2.2.2.2.2.2.2.2.2.2.1
theorem dX10_duty_20 : decode cX10_duty 20 = .ok (.getfield 54, 3) := dX10_duty_all0.2.2.2.2.2.2.2.2.2.2.2
theorem dX10_duty_all1 : decode cX10_duty 23 = .ok (.iload_n 1, 1) ∧ decode cX10_duty 24 = .ok (.aload_n 0, 1) ∧ decode cX10_duty 25 = .ok (.getfield 47, 3) ∧ decode cX10_duty 28 = .ok (.invokevirtual 229, 3) ∧ decode cX10_duty 31 = .ok (.istore_n 3, 1) ∧ decode cX10_duty 32 = .ok (.iload_n 3, 1) ∧ decode cX10_duty 33 = .ok (.ifCond .ge 7, 3) ∧ decode cX10_duty 36 = .ok (.iconst (-1), 1) ∧ decode cX10_duty 37 = .ok (.goto 28, 3) ∧ decode cX10_duty 40 = .ok (.aload_n 0, 1) ∧ decode cX10_duty 41 = .ok (.getfield 47, 3) ∧ decode cX10_duty 44 = .ok (.aload_n 0, 1) := by decide +kernel
theorem dX10_duty_23 : decode cX10_duty 23 = .ok (.iload_n 1, 1) := dX10_duty_all1.1
theorem dX10_duty_24 : decode cX10_duty 24 = .ok (.aload_n 0, 1) := dX10_duty_all1.2.1
theorem dX10_duty_25 : decode cX10_duty 25 = .ok (.getfield 47, 3) := dX10_duty_all1.2.2.1
theorem dX10_duty_28 : decode cX10_duty 28 = .ok (.invokevirtual 229, 3) := dX10_duty_all1.2.2.2.1
theorem dX10_duty_31 : decode cX10_duty 31 = .ok (.istore_n 3, 1) := dX10_duty_all1.2.2.2.2.1
theorem dX10_duty_32 : decode cX10_duty 32 = .ok (.iload_n 3, 1) := dX10_duty_all1.2.2.2.2.2.1
theorem dX10_duty_33 : decode cX10_duty 33 = .ok (.ifCond .ge 7, 3) := dX10_duty_all1.2.2.2.2.2.2.1
theorem dX10_duty_36 : decode cX10_duty 36 = .ok (.iconst (-1), 1) := dX10_duty_all1.2.2.2.2.2.2.2.1
theorem dX10_duty_37 : decode cX10_duty 37 = .ok (.goto 28, 3) := dX10_duty_all1.2.2.2.2.2.2.2.2.1
theorem dX10_duty_40 : decode cX10_duty 40 = .ok (.aload_n 0, 1) := dX10_duty_all1.2.2.2.2.2.2.2.2.2.1
theorem dX10_duty_41 : decode cX10_duty 41 = .ok (.getfield 47, 3) := dX10_duty_all1.2.2.2.2.2.2.2.2.2.2.1
theorem dX10_duty_44 : decode cX10_duty 44 = .ok (.aload_n 0, 1) := dX10_duty_all1.2.2.2.2.2.2.2.2.2.2.2
theorem dX10_duty_all2 : decode cX10_duty 45 = .ok (.getfield 54, 3) ∧ decode cX10_duty 48 = .ok (.getfield 233, 3) ∧ decode cX10_duty 51 = .ok (.iload_n 3, 1) ∧ decode cX10_duty 52 = .ok (.iaload, 1) ∧ decode cX10_duty 53 = .ok (.aload_n 0, 1) ∧ decode cX10_duty 54 = .ok (.getfield 54, 3) ∧ decode cX10_duty 57 = .ok (.getfield 236, 3) ∧ decode cX10_duty 60 = .ok (.iload_n 3, 1) ∧ decode cX10_duty 61 = .ok (.iaload, 1) ∧ decode cX10_duty 62 = .ok (.invokevirtual 239, 3) ∧ decode cX10_duty 65 = .ok (.istore 4, 2) ∧ decode cX10_duty 67 = .ok (.iload 4, 2) := by decide +kernel
theorem dX10_duty_45 : decode cX10_duty 45 = .ok (.getfield 54, 3) := dX10_duty_all2.1
theorem dX10_duty_48 : decode cX10_duty 48 = .ok (.getfield 233, 3) := dX10_duty_all2.2.1
theorem dX10_duty_51 : decode cX10_duty 51 = .ok (.iload_n 3, 1) := dX10_duty_all2.2.2.1
theorem dX10_duty_52 : decode cX10_duty 52 = .ok (.iaload, 1) := dX10_duty_all2.2.2.2.1
theorem dX10_duty_53 : decode cX10_duty 53 = .ok (.aload_n 0, 1) := dX10_duty_all2.2.2.2.2.1
theorem dX10_duty_54 : decode cX10_duty 54 = .ok (.getfield 54, 3) := dX10_duty_all2.2.2.2.2.2.1
theorem dX10_duty_57 : decode cX10_duty 57 = .ok (.getfield 236, 3) := dX10_duty_all2.2.2.2.2.2.2.1
theorem dX10_duty_60 : decode cX10_duty 60 = .ok (.iload_n 3, 1) := dX10_duty_all2.2.2.2.2.2.2.2.1
theorem dX10_duty_61 : decode cX10_duty 61 = .ok (.iaload, 1) := dX10_duty_all2.2.2.2.2.2.2.2.2.1
theorem dX10_duty_62 : decode cX10_duty 62 = .ok (.invokevirtual 239, 3) := dX10_duty_all2.2.2.2.2.2.2.2.2.2.1
theorem dX10_duty_65 : decode cX10_duty 65 = .ok (.istore 4, 2) := dX10_duty_all2.2.2.2.2.2.2.2.2.2.2.1
theorem dX10_duty_67 : decode cX10_duty 67 = .ok (.iload 4, 2) := dX10_duty_all2.2.2.2.2.2.2.2.2.2.2.2
theorem dX10_duty_all3 : decode cX10_duty 69 = .ok (.ifCond .ge 14, 3) ∧ decode cX10_duty 72 = .ok (.iload_n 2, 1) ∧ decode cX10_duty 73 = .ok (.ifCond .ne 7, 3) ∧ decode cX10_duty 76 = .ok (.iconst 0, 1) ∧ decode cX10_duty 77 = .ok (.goto 5, 3) ∧ decode cX10_duty 80 = .ok (.ldc 169, 2) ∧ decode cX10_duty 82 = .ok (.ireturn, 1) ∧ decode cX10_duty 83 = .ok (.iload_n 2, 1) ∧ decode cX10_duty 84 = .ok (.ifCond .ne 27, 3) ∧ decode cX10_duty 87 = .ok (.aload_n 0, 1) ∧ decode cX10_duty 88 = .ok (.getfield 26, 3) ∧ decode cX10_duty 91 = .ok (.getfield 207, 3) := by decide +kernel
theorem dX10_duty_69 : decode cX10_duty 69 = .ok (.ifCond .ge 14, 3) := dX10_duty_all3.1
theorem dX10_duty_72 : decode cX10_duty 72 = .ok (.iload_n 2, 1) := dX10_duty_all3.2.1
theorem dX10_duty_73 : decode cX10_duty 73 = .ok (.ifCond .ne 7, 3) := dX10_duty_all3.2.2.1
theorem dX10_duty_76 : decode cX10_duty 76 = .ok (.iconst 0, 1) := dX10_duty_all3.2.2.2.1
theorem dX10_duty_77 : decode cX10_duty 77 = .ok (.goto 5, 3) := dX10_duty_all3.2.2.2.2.1
theorem dX10_duty_80 : decode cX10_duty 80 = .ok (.ldc 169, 2) := dX10_duty_all3.2.2.2.2.2.1
theorem dX10_duty_82 : decode cX10_duty 82 = .ok (.ireturn, 1) := dX10_duty_all3.2.2.2.2.2.2.1
theorem dX10_duty_83 : decode cX10_duty 83 = .ok (.iload_n 2, 1) := dX10_duty_all3.2.2.2.2.2.2.2.1
theorem dX10_duty_84 : decode cX10_duty 84 = .ok (.ifCond .ne 27, 3) := dX10_duty_all3.2.2.2.2.2.2.2.2.1
theorem dX10_duty_87 : decode cX10_duty 87 = .ok (.aload_n 0, 1) := dX10_duty_all3.2.2.2.2.2.2.2.2.2.1
theorem dX10_duty_88 : decode cX10_duty 88 = .ok (.getfield 26, 3) := dX10_duty_all3.2.2.2.2.2.2.2.2.2.2.1
theorem dX10_duty_91 : decode cX10_duty 91 = .ok (.getfield 207, 3) := dX10_duty_all3.2.2.2.2.2.2.2.2.2.2.2
theorem dX10_duty_all4 : decode cX10_duty 94 = .ok (.iload_n 1, 1) ∧ decode cX10_duty 95 = .ok (.iaload, 1) ∧ decode cX10_duty 96 = .ok (.aload_n 0, 1) ∧ decode cX10_duty 97 = .ok (.getfield 47, 3) ∧ decode cX10_duty 100 = .ok (.getfield 242, 3) ∧ decode cX10_duty 103 = .ok (.iload 4, 2) ∧ decode cX10_duty 105 = .ok (.iaload, 1) ∧ decode cX10_duty 106 = .ok (.imul, 1) ∧ decode cX10_duty 107 = .ok (.bipush 100, 2) ∧ decode cX10_duty 109 = .ok (.idiv, 1) ∧ decode cX10_duty 110 = .ok (.ireturn, 1) ∧ decode cX10_duty 111 = .ok (.iload_n 2, 1) := by decide +kernel
theorem dX10_duty_94 : decode cX10_duty 94 = .ok (.iload_n 1, 1) := dX10_duty_all4.1
theorem dX10_duty_95 : decode cX10_duty 95 = .ok (.iaload, 1) := dX10_duty_all4.2.1
theorem dX10_duty_96 : decode cX10_duty 96 = .ok (.aload_n 0, 1) := dX10_duty_all4.2.2.1
theorem dX10_duty_97 : decode cX10_duty 97 = .ok (.getfield 47, 3) := dX10_duty_all4.2.2.2.1
theorem dX10_duty_100 : decode cX10_duty 100 = .ok (.getfield 242, 3) := dX10_duty_all4.2.2.2.2.1
theorem dX10_duty_103 : decode cX10_duty 103 = .ok (.iload 4, 2) := dX10_duty_all4.2.2.2.2.2.1
theorem dX10_duty_105 : decode cX10_duty 105 = .ok (.iaload, 1) := dX10_duty_all4.2.2.2.2.2.2.1
theorem dX10_duty_106 : decode cX10_duty 106 = .ok (.imul, 1) := dX10_duty_all4.2.2.2.2.2.2.2.1
theorem dX10_duty_107 : decode cX10_duty 107 = .ok (.bipush 100, 2) := dX10_duty_all4.2.2.2.2.2.2.2.2.1
theorem dX10_duty_109 : decode cX10_duty 109 = .ok (.idiv, 1) := dX10_duty_all4.2.2.2.2.2.2.2.2.2.1
theorem dX10_duty_110 : decode cX10_duty 110 = .ok (.ireturn, 1) := dX10_duty_all4.2.2.2.2.2.2.2.2.2.2.1
theorem dX10_duty_111 : decode cX10_duty 111 = .ok (.iload_n 2, 1) := dX10_duty_all4.2.2.2.2.2.2.2.2.2.2.2
theorem dX10_duty_all5 : decode cX10_duty 112 = .ok (.iconst 1, 1) ∧ decode cX10_duty 113 = .ok (.if_icmp .ne 15, 3) ∧ decode cX10_duty 116 = .ok (.aload_n 0, 1) ∧ decode cX10_duty 117 = .ok (.getfield 54, 3) ∧ decode cX10_duty 120 = .ok (.getfield 245, 3) ∧ decode cX10_duty 123 = .ok (.iload_n 3, 1) ∧ decode cX10_duty 124 = .ok (.iaload, 1) ∧ decode cX10_duty 125 = .ok (.goto 5, 3) ∧ decode cX10_duty 128 = .ok (.iload 4, 2) ∧ decode cX10_duty 130 = .ok (.ireturn, 1) := by decide +kernel
theorem dX10_duty_112 : decode cX10_duty 112 = .ok (.iconst 1, 1) := dX10_duty_all5.1
theorem dX10_duty_113 : decode cX10_duty 113 = .ok (.if_icmp .ne 15, 3) := dX10_duty_all5.2.1
theorem dX10_duty_116 : decode cX10_duty 116 = .ok (.aload_n 0, 1) := dX10_duty_all5.2.2.1
theorem dX10_duty_117 : decode cX10_duty 117 = .ok (.getfield 54, 3) := dX10_duty_all5.2.2.2.1
theorem dX10_duty_120 : decode cX10_duty 120 = .ok (.getfield 245, 3) := dX10_duty_all5.2.2.2.2.1
theorem dX10_duty_123 : decode cX10_duty 123 = .ok (.iload_n 3, 1) := dX10_duty_all5.2.2.2.2.2.1
theorem dX10_duty_124 : decode cX10_duty 124 = .ok (.iaload, 1) := dX10_duty_all5.2.2.2.2.2.2.1
theorem dX10_duty_125 : decode cX10_duty 125 = .ok (.goto 5, 3) := dX10_duty_all5.2.2.2.2.2.2.2.1
theorem dX10_duty_128 : decode cX10_duty 128 = .ok (.iload 4, 2) := dX10_duty_all5.2.2.2.2.2.2.2.2.1
theorem dX10_duty_130 : decode cX10_duty 130 = .ok (.ireturn, 1) := dX10_duty_all5.2.2.2.2.2.2.2.2.2
set_option maxHeartbeats 4000000 in
set_option maxRecDepth 100000 in
theorem ct_X2_lineFor (l : Launch) (D : va_G) (cI cY cJ cQ : ClassId) (sz : Nat) (ad : Nat → Nat) (ln lfa dl dr bs be tk nb : Int32) (dw dd dp : Nat → Int32) (a : Int32) (d : Int32)  (h1 : 0 ≤ dl.toInt) (h2 : dl.toInt ≤ 12)  : Met l yX2_lineFor wsX2_lineFor ({ frames := 0, cells := 0, slots := 0, locals := 0 }) (cPre D (ty4 cI cY cJ cQ) [(oC2 ad ln lfa dl dr bs be tk nb), (aI cI (ad 48) 12 dw), (aI cI (ad 49) 12 dd), (aI cI (ad 50) 12 dp)] sz [.ref (ad 6), .int a, .int d]) (va_Qi (fun (r : Int32) (u : Unit) => -1 ≤ r.toInt ∧ (r.toInt < dl.toInt ∨ r.toInt < 0)) (cB D (ty4 cI cY cJ cQ) (fun (u : Unit) => [(oC2 ad ln lfa dl dr bs be tk nb), (aI cI (ad 48) 12 dw), (aI cI (ad 49) 12 dd), (aI cI (ad 50) 12 dp)]) (va_A [(oC2 ad ln lfa dl dr bs be tk nb), (aI cI (ad 48) 12 dw), (aI cI (ad 49) 12 dd), (aI cI (ad 50) 12 dp)] sz)) (va_A [(oC2 ad ln lfa dl dr bs be tk nb), (aI cI (ad 48) 12 dw), (aI cI (ad 49) 12 dd), (aI cI (ad 50) 12 dp)] sz)) 0 0 (va_A [(oC2 ad ln lfa dl dr bs be tk nb), (aI cI (ad 48) 12 dw), (aI cI (ad 49) 12 dd), (aI cI (ad 50) 12 dp)] sz) := by
  refine Met.ofW (cc := cX2_lineFor) (maxL := 4) (ret := (some .int)) (by decide) rfl ?_
  intro p e s m args below meth c s₁ B hml hv
  obtain ⟨rfl, hsz, hP, hK, hD0, hN⟩ := hv
  have hx := B.exec
  have hb := B.bytes
  have hr := B.returns
  have hts := atoms_spec (ws := wsX2_lineFor) B.pre
  have hown : s.vm.findClass RX2 = some m.cls := findClass_of_methodNamed B.named
  have hlocks := B.notSynchronized
  subst hsz
  have hD := hD0.self (sz := s.heap.size)
  generalize hAe : va_A [(oC2 ad ln lfa dl dr bs be tk nb), (aI cI (ad 48) 12 dw), (aI cI (ad 49) 12 dd), (aI cI (ad 50) 12 dp)] s.heap.size = A at hD ⊢
  have hA : ∀ q : Nat, s.heap.size ≤ q → A q := fun q h => by rw [← hAe]; exact Or.inr h
  have hS : va_S A s.heap s.heap [] := va_S.rf
  have hP : va_P D vwCl [(oC2 ad ln lfa dl dr bs be tk nb), (aI cI (ad 48) 12 dw), (aI cI (ad 49) 12 dd), (aI cI (ad 50) 12 dp)] s.heap := hP
  have hl := lv_entry ([.ref (ad 6), .int a, .int d]) (n := 4) (Nat.le_of_ble_eq_true rfl)
  rw [lg_entry_eq]
  generalize (lg_sl ([.ref (ad 6), .int a, .int d]) ++ List.replicate (4 - (lg_sl ([.ref (ad 6), .int a, .int d])).length) Slot.unset).toArray = ls at hl ⊢
  have hl : lv_has ls 4 [(0, .ref (ad 6)), (1, .int a), (2, .int d)] := hl
  have km1 : (-1 : Int32).toInt = -1 := by decide
  have k0 : (0 : Int32).toInt = 0 := by decide
  have k1 : (1 : Int32).toInt = 1 := by decide
  refine lv_iconst (v := 0) hx hb dX2_lineFor_0 (by decide) ?_
  refine lv_istore_n (lv' := [(3, .int 0), (0, .ref (ad 6)), (1, .int a), (2, .int d)]) hx hb dX2_lineFor_1 rfl hl (by decide) rfl (fun ls hl => ?_)
  refine st_loop 2 (fun _ => []) (fun (q2_3 : Int32) (ls : Array Slot) (H : Heap) (locs : List Loc) => (0 ≤ q2_3.toInt) ∧ (q2_3.toInt ≤ dl.toInt) ∧ lv_has ls 4 [(0, .ref (ad 6)), (1, .int a), (2, .int d), (3, .int q2_3)] ∧ va_P D vwCl [(oC2 ad ln lfa dl dr bs be tk nb), (aI cI (ad 48) 12 dw), (aI cI (ad 49) 12 dd), (aI cI (ad 50) 12 dp)] H ∧ va_D A [(oC2 ad ln lfa dl dr bs be tk nb), (aI cI (ad 48) 12 dw), (aI cI (ad 49) 12 dd), (aI cI (ad 50) 12 dp)] ∧ va_S A s.heap H locs) (fun (q2_3 : Int32) => dl.toInt - q2_3.toInt) ?_ ?_ (0 : Int32) ⟨(by omega), (by omega), lv_sub hl [1, 2, 3, 0] rfl, hP, hD, hS⟩
  · rintro q2_3 ls H locs ⟨g1, g2, hl, hP, hD, hS⟩
    show (0 : Int) ≤ dl.toInt - q2_3.toInt
    omega
  · rintro n5 ih3 q2_3 ls H locs ⟨g1, g2, hl, hP, hD, hS⟩ hm4
    have hm4 : dl.toInt - q2_3.toInt < (n5 : Int) + 1 := hm4
    replace hl : lv_has ls 4 [(0, .ref (ad 6)), (1, .int a), (2, .int d), (3, .int q2_3)] := hl
    replace hP : va_P D vwCl [(oC2 ad ln lfa dl dr bs be tk nb), (aI cI (ad 48) 12 dw), (aI cI (ad 49) 12 dd), (aI cI (ad 50) 12 dp)] H := hP
    replace hD : va_D A [(oC2 ad ln lfa dl dr bs be tk nb), (aI cI (ad 48) 12 dw), (aI cI (ad 49) 12 dd), (aI cI (ad 50) 12 dp)] := hD
    show W _ _ _ _ _ _ _ _ _ _ _ _ _ _ _ (F0 m 2 ls [])
    refine lv_iload_n hx hb dX2_lineFor_2 rfl (lv_at hl 3 rfl) ?_
    refine lv_aload_n hx hb dX2_lineFor_3 rfl (lv_at hl 0 rfl) ?_
    refine va_get (D := D) (ci := 2) (v := .int dl) (C := RX2) (T := TX2) (N := 15) hx hb hts inX2_lineFor_X2 hown hK hP 0 rfl rfl 6 (by decide) (hts (Cond.fieldLink RX2 67 "PortRooms$Duties" "lines" "I") (wm_t (wm_l (wm_i 0 rfl)))) (fun _ h9 => h9) rfl dX2_lineFor_4 ?_
    refine lv_icmp_ge (tgt := 38) hx hb dX2_lineFor_7 (by decide) (fun c6 => ?_) (fun c6 => ?_)
    · skip
      have f7 := i_le c6
      refine lv_iconst (v := (-1)) hx hb dX2_lineFor_38 (by decide) ?_
      have hP9 := hP
      have hD9 := hD
      exact W.iret (v := (-1)) hx hb hr (fun t ht hW => ⟨⟨(-1), (), rfl, (by omega), by rw [ht]; exact hP9, va_K.moved hW.alike hK, hD9⟩, hS.F ht⟩) hS.2.2 dX2_lineFor_39
    · skip
      have f8 := i_nle c6
      refine lv_aload_n hx hb dX2_lineFor_10 rfl (lv_at hl 0 rfl) ?_
      refine va_get (D := D) (ci := 2) (v := .ref (ad 48)) (C := RX2) (T := TX2) (N := 15) hx hb hts inX2_lineFor_X2 hown hK hP 0 rfl rfl 3 (by decide) (hts (Cond.fieldLink RX2 15 "PortRooms$Duties" "what" "[I") (wm_t (wm_l (wm_i 1 rfl)))) (fun _ h9 => h9) rfl dX2_lineFor_11 ?_
      refine lv_iload_n hx hb dX2_lineFor_14 rfl (lv_at hl 3 rfl) ?_
      refine va_iald hx hb hK hP 1 0 rfl rfl (i_in (by omega) (by omega)) dX2_lineFor_15 ?_
      refine lv_topi (fun v9 ev9 => ?_)
      refine lv_iload_n hx hb dX2_lineFor_16 rfl (lv_at hl 1 rfl) ?_
      refine lv_icmp_ne (tgt := 32) hx hb dX2_lineFor_17 (by decide) (fun c10 => ?_) (fun c10 => ?_)
      · skip
        have f11 := i_ne c10
        obtain ⟨v12, ev12⟩ : ∃ y : Int32, y = q2_3 + 1 := ⟨_, rfl⟩
        try have tv12 : v12.toInt = q2_3.toInt + 1 := by rw [ev12]; exact (i_add (x := q2_3) (y := (1 : Int32)) (by rw [k1]; omega) (by rw [k1]; omega)).trans (by rw [k1])
        refine lv_iinc (v := v12) (lv' := [(3, .int v12), (0, .ref (ad 6)), (1, .int a), (2, .int d)]) hx hb dX2_lineFor_32 hl (k := 3) rfl (by rw [ev12]; rfl) (by decide) rfl (fun ls hl => ?_)
        refine lv_goto (tgt := 2) hx hb dX2_lineFor_35 (by decide) ?_
        exact ih3 v12 ls H locs ⟨(by omega), (by omega), lv_sub hl [1, 2, 3, 0] rfl, hP.sub [0, 1, 2, 3] rfl, hD.sub [0, 1, 2, 3] (by decide +kernel) rfl, hS⟩ (by show dl.toInt - v12.toInt < _; omega)
      · skip
        have f13 := i_eq c10
        refine lv_iload_n hx hb dX2_lineFor_20 rfl (lv_at hl 2 rfl) ?_
        refine lv_aload_n hx hb dX2_lineFor_21 rfl (lv_at hl 0 rfl) ?_
        refine va_get (D := D) (ci := 2) (v := .ref (ad 49)) (C := RX2) (T := TX2) (N := 15) hx hb hts inX2_lineFor_X2 hown hK hP 0 rfl rfl 4 (by decide) (hts (Cond.fieldLink RX2 19 "PortRooms$Duties" "days" "[I") (wm_t (wm_l (wm_i 2 rfl)))) (fun _ h9 => h9) rfl dX2_lineFor_22 ?_
        refine lv_iload_n hx hb dX2_lineFor_25 rfl (lv_at hl 3 rfl) ?_
        refine va_iald hx hb hK hP 2 0 rfl rfl (i_in (by omega) (by omega)) dX2_lineFor_26 ?_
        refine lv_topi (fun v14 ev14 => ?_)
        refine lv_icmp_le (tgt := 32) hx hb dX2_lineFor_27 (by decide) (fun c15 => ?_) (fun c15 => ?_)
        · skip
          have f16 := i_le c15
          obtain ⟨v17, ev17⟩ : ∃ y : Int32, y = q2_3 + 1 := ⟨_, rfl⟩
          try have tv17 : v17.toInt = q2_3.toInt + 1 := by rw [ev17]; exact (i_add (x := q2_3) (y := (1 : Int32)) (by rw [k1]; omega) (by rw [k1]; omega)).trans (by rw [k1])
          refine lv_iinc (v := v17) (lv' := [(3, .int v17), (0, .ref (ad 6)), (1, .int a), (2, .int d)]) hx hb dX2_lineFor_32 hl (k := 3) rfl (by rw [ev17]; rfl) (by decide) rfl (fun ls hl => ?_)
          refine lv_goto (tgt := 2) hx hb dX2_lineFor_35 (by decide) ?_
          exact ih3 v17 ls H locs ⟨(by omega), (by omega), lv_sub hl [1, 2, 3, 0] rfl, hP.sub [0, 1, 2, 3] rfl, hD.sub [0, 1, 2, 3] (by decide +kernel) rfl, hS⟩ (by show dl.toInt - v17.toInt < _; omega)
        · skip
          have f18 := i_nle c15
          refine lv_iload_n hx hb dX2_lineFor_30 rfl (lv_at hl 3 rfl) ?_
          have hP9 := hP
          have hD9 := hD
          exact W.iret (v := q2_3) hx hb hr (fun t ht hW => ⟨⟨q2_3, (), rfl, (by omega), by rw [ht]; exact hP9, va_K.moved hW.alike hK, hD9⟩, hS.F ht⟩) hS.2.2 dX2_lineFor_31

set_option maxHeartbeats 4000000 in
set_option maxRecDepth 100000 in
theorem ct_X0_firstWaking (l : Launch) (D : va_G) (cI cY cJ cQ : ClassId) (sz : Nat) (ad : Nat → Nat) (an ln lfa dl dr bs be tk nb : Int32) (ak ah ay az dw dd dp : Nat → Int32) (k : Int32)  (h1 : 0 ≤ an.toInt) (h2 : an.toInt ≤ 60) (h3 : 0 ≤ dl.toInt) (h4 : dl.toInt ≤ 12)  : Met l yX0_firstWaking wsX0_firstWaking ({ frames := 1, cells := 0, slots := 0, locals := 23 }) (cPre D (ty4 cI cY cJ cQ) [(oC0 ad an), (aI cI (ad 54) 60 ak), (aI cI (ad 55) 60 ah), (aI cI (ad 56) 60 ay), (aI cI (ad 57) 60 az), (oC2 ad ln lfa dl dr bs be tk nb), (aI cI (ad 48) 12 dw), (aI cI (ad 49) 12 dd), (aI cI (ad 50) 12 dp)] sz [.ref (ad 7), .int k, .ref (ad 6)]) (va_Qi (fun (r : Int32) (u : Unit) => -1 ≤ r.toInt ∧ (r.toInt < an.toInt ∨ r.toInt < 0)) (cB D (ty4 cI cY cJ cQ) (fun (u : Unit) => [(oC0 ad an), (aI cI (ad 54) 60 ak), (aI cI (ad 55) 60 ah), (aI cI (ad 56) 60 ay), (aI cI (ad 57) 60 az), (oC2 ad ln lfa dl dr bs be tk nb), (aI cI (ad 48) 12 dw), (aI cI (ad 49) 12 dd), (aI cI (ad 50) 12 dp)]) (va_A [(oC0 ad an), (aI cI (ad 54) 60 ak), (aI cI (ad 55) 60 ah), (aI cI (ad 56) 60 ay), (aI cI (ad 57) 60 az), (oC2 ad ln lfa dl dr bs be tk nb), (aI cI (ad 48) 12 dw), (aI cI (ad 49) 12 dd), (aI cI (ad 50) 12 dp)] sz)) (va_A [(oC0 ad an), (aI cI (ad 54) 60 ak), (aI cI (ad 55) 60 ah), (aI cI (ad 56) 60 ay), (aI cI (ad 57) 60 az), (oC2 ad ln lfa dl dr bs be tk nb), (aI cI (ad 48) 12 dw), (aI cI (ad 49) 12 dd), (aI cI (ad 50) 12 dp)] sz)) 0 0 (va_A [(oC0 ad an), (aI cI (ad 54) 60 ak), (aI cI (ad 55) 60 ah), (aI cI (ad 56) 60 ay), (aI cI (ad 57) 60 az), (oC2 ad ln lfa dl dr bs be tk nb), (aI cI (ad 48) 12 dw), (aI cI (ad 49) 12 dd), (aI cI (ad 50) 12 dp)] sz) := by
  refine Met.ofW (cc := cX0_firstWaking) (maxL := 6) (ret := (some .int)) (by decide) rfl ?_
  intro p e s m args below meth c s₁ B hml hv
  obtain ⟨rfl, hsz, hP, hK, hD0, hN⟩ := hv
  have hx := B.exec
  have hb := B.bytes
  have hr := B.returns
  have hts := atoms_spec (ws := wsX0_firstWaking) B.pre
  have hown : s.vm.findClass RX0 = some m.cls := findClass_of_methodNamed B.named
  have hlocks := B.notSynchronized
  subst hsz
  have hD := hD0.self (sz := s.heap.size)
  generalize hAe : va_A [(oC0 ad an), (aI cI (ad 54) 60 ak), (aI cI (ad 55) 60 ah), (aI cI (ad 56) 60 ay), (aI cI (ad 57) 60 az), (oC2 ad ln lfa dl dr bs be tk nb), (aI cI (ad 48) 12 dw), (aI cI (ad 49) 12 dd), (aI cI (ad 50) 12 dp)] s.heap.size = A at hD ⊢
  have hA : ∀ q : Nat, s.heap.size ≤ q → A q := fun q h => by rw [← hAe]; exact Or.inr h
  have hS : va_S A s.heap s.heap [] := va_S.rf
  have hP : va_P D vwCl [(oC0 ad an), (aI cI (ad 54) 60 ak), (aI cI (ad 55) 60 ah), (aI cI (ad 56) 60 ay), (aI cI (ad 57) 60 az), (oC2 ad ln lfa dl dr bs be tk nb), (aI cI (ad 48) 12 dw), (aI cI (ad 49) 12 dd), (aI cI (ad 50) 12 dp)] s.heap := hP
  have hl := lv_entry ([.ref (ad 7), .int k, .ref (ad 6)]) (n := 6) (Nat.le_of_ble_eq_true rfl)
  rw [lg_entry_eq]
  generalize (lg_sl ([.ref (ad 7), .int k, .ref (ad 6)]) ++ List.replicate (6 - (lg_sl ([.ref (ad 7), .int k, .ref (ad 6)])).length) Slot.unset).toArray = ls at hl ⊢
  have hl : lv_has ls 6 [(0, .ref (ad 7)), (1, .int k), (2, .ref (ad 6))] := hl
  have km1 : (-1 : Int32).toInt = -1 := by decide
  have k0 : (0 : Int32).toInt = 0 := by decide
  have k1 : (1 : Int32).toInt = 1 := by decide
  refine lv_iconst (v := (-1)) hx hb dX0_firstWaking_0 (by decide) ?_
  refine lv_istore_n (lv' := [(3, .int (-1)), (0, .ref (ad 7)), (1, .int k), (2, .ref (ad 6))]) hx hb dX0_firstWaking_1 rfl hl (by decide) rfl (fun ls hl => ?_)
  refine lv_iconst (v := 0) hx hb dX0_firstWaking_2 (by decide) ?_
  refine lv_istore (lv' := [(4, .int 0), (3, .int (-1)), (0, .ref (ad 7)), (1, .int k), (2, .ref (ad 6))]) hx hb dX0_firstWaking_3 hl (by decide) rfl (fun ls hl => ?_)
  refine st_loop 5 (fun _ => []) (fun (z : Int32 × Int32) (ls : Array Slot) (H : Heap) (locs : List Loc) => match z with | (q5_3, q5_4) => (0 ≤ q5_4.toInt) ∧ (q5_4.toInt ≤ an.toInt) ∧ (-1 ≤ q5_3.toInt) ∧ (q5_3.toInt < an.toInt ∨ q5_3.toInt < 0) ∧ lv_has ls 6 [(0, .ref (ad 7)), (1, .int k), (2, .ref (ad 6)), (3, .int q5_3), (4, .int q5_4)] ∧ va_P D vwCl [(oC0 ad an), (aI cI (ad 54) 60 ak), (aI cI (ad 55) 60 ah), (aI cI (ad 56) 60 ay), (aI cI (ad 57) 60 az), (oC2 ad ln lfa dl dr bs be tk nb), (aI cI (ad 48) 12 dw), (aI cI (ad 49) 12 dd), (aI cI (ad 50) 12 dp)] H ∧ va_D A [(oC0 ad an), (aI cI (ad 54) 60 ak), (aI cI (ad 55) 60 ah), (aI cI (ad 56) 60 ay), (aI cI (ad 57) 60 az), (oC2 ad ln lfa dl dr bs be tk nb), (aI cI (ad 48) 12 dw), (aI cI (ad 49) 12 dd), (aI cI (ad 50) 12 dp)] ∧ va_S A s.heap H locs) (fun (z : Int32 × Int32) => match z with | (q5_3, q5_4) => an.toInt - q5_4.toInt) ?_ ?_ (((-1) : Int32), (0 : Int32)) ⟨(by omega), (by omega), (by omega), (by omega), lv_sub hl [2, 3, 4, 1, 0] rfl, hP, hD, hS⟩
  · rintro ⟨q5_3, q5_4⟩ ls H locs ⟨g1, g2, g3, g4, hl, hP, hD, hS⟩
    show (0 : Int) ≤ an.toInt - q5_4.toInt
    omega
  · rintro n7 ih5 ⟨q5_3, q5_4⟩ ls H locs ⟨g1, g2, g3, g4, hl, hP, hD, hS⟩ hm6
    have hm6 : an.toInt - q5_4.toInt < (n7 : Int) + 1 := hm6
    replace hl : lv_has ls 6 [(0, .ref (ad 7)), (1, .int k), (2, .ref (ad 6)), (3, .int q5_3), (4, .int q5_4)] := hl
    replace hP : va_P D vwCl [(oC0 ad an), (aI cI (ad 54) 60 ak), (aI cI (ad 55) 60 ah), (aI cI (ad 56) 60 ay), (aI cI (ad 57) 60 az), (oC2 ad ln lfa dl dr bs be tk nb), (aI cI (ad 48) 12 dw), (aI cI (ad 49) 12 dd), (aI cI (ad 50) 12 dp)] H := hP
    replace hD : va_D A [(oC0 ad an), (aI cI (ad 54) 60 ak), (aI cI (ad 55) 60 ah), (aI cI (ad 56) 60 ay), (aI cI (ad 57) 60 az), (oC2 ad ln lfa dl dr bs be tk nb), (aI cI (ad 48) 12 dw), (aI cI (ad 49) 12 dd), (aI cI (ad 50) 12 dp)] := hD
    show W _ _ _ _ _ _ _ _ _ _ _ _ _ _ _ (F0 m 5 ls [])
    refine lv_iload hx hb dX0_firstWaking_5 (lv_at hl 4 rfl) ?_
    refine lv_aload_n hx hb dX0_firstWaking_7 rfl (lv_at hl 0 rfl) ?_
    refine va_get (D := D) (ci := 0) (v := .int an) (C := RX0) (T := TX0) (N := 5) hx hb hts inX0_firstWaking_X0 hown hK hP 0 rfl rfl 4 (by decide) (hts (Cond.fieldLink RX0 24 "PortRooms$Acts" "count" "I") (wm_t (wm_l (wm_i 0 rfl)))) (fun _ h9 => h9) rfl dX0_firstWaking_8 ?_
    refine lv_icmp_ge (tgt := 87) hx hb dX0_firstWaking_11 (by decide) (fun c8 => ?_) (fun c8 => ?_)
    · skip
      have f9 := i_le c8
      refine lv_iload_n hx hb dX0_firstWaking_87 rfl (lv_at hl 3 rfl) ?_
      have hP9 := hP
      have hD9 := hD
      exact W.iret (v := q5_3) hx hb hr (fun t ht hW => ⟨⟨q5_3, (), rfl, (by omega), by rw [ht]; exact hP9, va_K.moved hW.alike hK, hD9⟩, hS.F ht⟩) hS.2.2 dX0_firstWaking_88
    · skip
      have f10 := i_nle c8
      refine lv_iload_n hx hb dX0_firstWaking_14 rfl (lv_at hl 3 rfl) ?_
      refine lv_if_lt (tgt := 34) hx hb dX0_firstWaking_15 (by decide) (fun c11 => ?_) (fun c11 => ?_)
      · skip
        have f12 := i_lt c11
        refine lv_iconst (v := 1) hx hb dX0_firstWaking_34 (by decide) ?_
        refine lv_goto (tgt := 39) hx hb dX0_firstWaking_35 (by decide) ?_
        refine lv_istore (lv' := [(5, .int 1), (0, .ref (ad 7)), (1, .int k), (2, .ref (ad 6)), (3, .int q5_3), (4, .int q5_4)]) hx hb dX0_firstWaking_39 hl (by decide) rfl (fun ls hl => ?_)
        refine lv_aload_n hx hb dX0_firstWaking_41 rfl (lv_at hl 1 rfl) ?_
        refine va_get (D := D) (ci := 0) (v := .ref (ad 54)) (C := RX0) (T := TX0) (N := 5) hx hb hts inX0_firstWaking_X0 hown hK hP 0 rfl rfl 0 (by decide) (hts (Cond.fieldLink RX0 9 "PortRooms$Acts" "crate" "[I") (wm_t (wm_l (wm_i 2 rfl)))) (fun _ h9 => h9) rfl dX0_firstWaking_42 ?_
        refine lv_iload hx hb dX0_firstWaking_45 (lv_at hl 5 rfl) ?_
        refine va_iald hx hb hK hP 1 0 rfl rfl (i_in (by omega) (by omega)) dX0_firstWaking_47 ?_
        refine lv_topi (fun v13 ev13 => ?_)
        refine lv_iload_n hx hb dX0_firstWaking_48 rfl (lv_at hl 2 rfl) ?_
        refine lv_icmp_ne (tgt := 81) hx hb dX0_firstWaking_49 (by decide) (fun c14 => ?_) (fun c14 => ?_)
        · skip
          have f15 := i_ne c14
          obtain ⟨v16, ev16⟩ : ∃ y : Int32, y = q5_4 + 1 := ⟨_, rfl⟩
          try have tv16 : v16.toInt = q5_4.toInt + 1 := by rw [ev16]; exact (i_add (x := q5_4) (y := (1 : Int32)) (by rw [k1]; omega) (by rw [k1]; omega)).trans (by rw [k1])
          refine lv_iinc (v := v16) (lv' := [(4, .int v16), (5, .int 1), (0, .ref (ad 7)), (1, .int k), (2, .ref (ad 6)), (3, .int q5_3)]) hx hb dX0_firstWaking_81 hl (k := 5) rfl (by rw [ev16]; rfl) (by decide) rfl (fun ls hl => ?_)
          refine lv_goto (tgt := 5) hx hb dX0_firstWaking_84 (by decide) ?_
          exact ih5 (q5_3, v16) ls H locs ⟨(by omega), (by omega), (by omega), (by omega), lv_sub hl [2, 3, 4, 5, 0] rfl, hP.sub [0, 1, 2, 3, 4, 5, 6, 7, 8] rfl, hD.sub [0, 1, 2, 3, 4, 5, 6, 7, 8] (by decide +kernel) rfl, hS⟩ (by show an.toInt - v16.toInt < _; omega)
        · skip
          have f17 := i_eq c14
          refine lv_iload hx hb dX0_firstWaking_52 (lv_at hl 0 rfl) ?_
          refine lv_if_eq (tgt := 81) hx hb dX0_firstWaking_54 (by decide) (fun c => absurd c (by decide)) (fun _ => ?_)
          refine lv_aload_n hx hb dX0_firstWaking_57 rfl (lv_at hl 3 rfl) ?_
          refine lv_aload_n hx hb dX0_firstWaking_58 rfl (lv_at hl 1 rfl) ?_
          refine va_get (D := D) (ci := 0) (v := .ref (ad 55)) (C := RX0) (T := TX0) (N := 5) hx hb hts inX0_firstWaking_X0 hown hK hP 0 rfl rfl 1 (by decide) (hts (Cond.fieldLink RX0 15 "PortRooms$Acts" "what" "[I") (wm_t (wm_l (wm_i 3 rfl)))) (fun _ h9 => h9) rfl dX0_firstWaking_59 ?_
          refine lv_iload hx hb dX0_firstWaking_62 (lv_at hl 5 rfl) ?_
          refine va_iald hx hb hK hP 2 0 rfl rfl (i_in (by omega) (by omega)) dX0_firstWaking_64 ?_
          refine lv_topi (fun v18 ev18 => ?_)
          refine lv_aload_n hx hb dX0_firstWaking_65 rfl (lv_at hl 1 rfl) ?_
          refine va_get (D := D) (ci := 0) (v := .ref (ad 57)) (C := RX0) (T := TX0) (N := 5) hx hb hts inX0_firstWaking_X0 hown hK hP 0 rfl rfl 3 (by decide) (hts (Cond.fieldLink RX0 21 "PortRooms$Acts" "days" "[I") (wm_t (wm_l (wm_i 4 rfl)))) (fun _ h9 => h9) rfl dX0_firstWaking_66 ?_
          refine lv_iload hx hb dX0_firstWaking_69 (lv_at hl 5 rfl) ?_
          refine va_iald hx hb hK hP 4 0 rfl rfl (i_in (by omega) (by omega)) dX0_firstWaking_71 ?_
          refine lv_topi (fun v19 ev19 => ?_)
          refine st_i1 (va_runV (C := RX2) (As := [.int v18, .int v19]) (rest := []) ⟨hx, hb, hml, hown, hts⟩ (ct_X2_lineFor l D cI cY cJ cQ _ ad ln lfa dl dr bs be tk nb dw dd dp v18 v19 h3 h4) (cwV 2 hts gX0_firstWaking_X2_lineFor rfl rfl rfl ⟨rfl, cdX2_lineFor⟩ ⟨Nat.le_of_ble_eq_true rfl, Nat.le_of_ble_eq_true rfl⟩) (cPreV (hP.sub [5, 6, 7, 8] rfl) hK (hD.sub [5, 6, 7, 8] (by decide +kernel) rfl) hN (ci := 2) (q0 := 0) rfl rfl) rfl rfl hl.1 rfl (lv_room (Nat.le_of_ble_eq_true rfl)) dX0_firstWaking_72 ⟨Nat.le_of_ble_eq_true rfl, Nat.le_of_ble_eq_true rfl⟩) hP hD hS hA [5, 6, 7, 8] rfl (fun _ => rfl) (fun r22 u20 H locs hw21 => ?_)
          clear hP hS
          intro hP hS
          replace hw21 : -1 ≤ r22.toInt ∧ (r22.toInt < dl.toInt ∨ r22.toInt < 0) := hw21
          refine lv_if_lt (tgt := 81) hx hb dX0_firstWaking_75 (by decide) (fun c23 => ?_) (fun c23 => ?_)
          · skip
            have f24 := i_lt c23
            obtain ⟨v25, ev25⟩ : ∃ y : Int32, y = q5_4 + 1 := ⟨_, rfl⟩
            try have tv25 : v25.toInt = q5_4.toInt + 1 := by rw [ev25]; exact (i_add (x := q5_4) (y := (1 : Int32)) (by rw [k1]; omega) (by rw [k1]; omega)).trans (by rw [k1])
            refine lv_iinc (v := v25) (lv' := [(4, .int v25), (5, .int 1), (0, .ref (ad 7)), (1, .int k), (2, .ref (ad 6)), (3, .int q5_3)]) hx hb dX0_firstWaking_81 hl (k := 5) rfl (by rw [ev25]; rfl) (by decide) rfl (fun ls hl => ?_)
            refine lv_goto (tgt := 5) hx hb dX0_firstWaking_84 (by decide) ?_
            exact ih5 (q5_3, v25) ls H locs ⟨(by omega), (by omega), (by omega), (by omega), lv_sub hl [2, 3, 4, 5, 0] rfl, hP.sub [0, 1, 2, 3, 4, 5, 6, 7, 8] rfl, hD.sub [0, 1, 2, 3, 4, 5, 6, 7, 8] (by decide +kernel) rfl, hS⟩ (by show an.toInt - v25.toInt < _; omega)
          · skip
            have f26 := i_nlt c23
            refine lv_iload hx hb dX0_firstWaking_78 (lv_at hl 5 rfl) ?_
            refine lv_istore_n (lv' := [(3, .int q5_4), (5, .int 1), (0, .ref (ad 7)), (1, .int k), (2, .ref (ad 6)), (4, .int q5_4)]) hx hb dX0_firstWaking_80 rfl hl (by decide) rfl (fun ls hl => ?_)
            obtain ⟨v27, ev27⟩ : ∃ y : Int32, y = q5_4 + 1 := ⟨_, rfl⟩
            try have tv27 : v27.toInt = q5_4.toInt + 1 := by rw [ev27]; exact (i_add (x := q5_4) (y := (1 : Int32)) (by rw [k1]; omega) (by rw [k1]; omega)).trans (by rw [k1])
            refine lv_iinc (v := v27) (lv' := [(4, .int v27), (3, .int q5_4), (5, .int 1), (0, .ref (ad 7)), (1, .int k), (2, .ref (ad 6))]) hx hb dX0_firstWaking_81 hl (k := 5) rfl (by rw [ev27]; rfl) (by decide) rfl (fun ls hl => ?_)
            refine lv_goto (tgt := 5) hx hb dX0_firstWaking_84 (by decide) ?_
            exact ih5 (q5_4, v27) ls H locs ⟨(by omega), (by omega), (by omega), (by omega), lv_sub hl [3, 4, 5, 1, 0] rfl, hP.sub [0, 1, 2, 3, 4, 5, 6, 7, 8] rfl, hD.sub [0, 1, 2, 3, 4, 5, 6, 7, 8] (by decide +kernel) rfl, hS⟩ (by show an.toInt - v27.toInt < _; omega)
      · skip
        have f28 := i_nlt c11
        refine lv_aload_n hx hb dX0_firstWaking_18 rfl (lv_at hl 0 rfl) ?_
        refine va_get (D := D) (ci := 0) (v := .ref (ad 56)) (C := RX0) (T := TX0) (N := 5) hx hb hts inX0_firstWaking_X0 hown hK hP 0 rfl rfl 2 (by decide) (hts (Cond.fieldLink RX0 18 "PortRooms$Acts" "day" "[I") (wm_t (wm_l (wm_i 1 rfl)))) (fun _ h9 => h9) rfl dX0_firstWaking_19 ?_
        refine lv_iload hx hb dX0_firstWaking_22 (lv_at hl 4 rfl) ?_
        refine va_iald hx hb hK hP 3 0 rfl rfl (i_in (by omega) (by omega)) dX0_firstWaking_24 ?_
        refine lv_topi (fun v29 ev29 => ?_)
        refine lv_aload_n hx hb dX0_firstWaking_25 rfl (lv_at hl 0 rfl) ?_
        refine va_get (D := D) (ci := 0) (v := .ref (ad 56)) (C := RX0) (T := TX0) (N := 5) hx hb hts inX0_firstWaking_X0 hown hK hP 0 rfl rfl 2 (by decide) (hts (Cond.fieldLink RX0 18 "PortRooms$Acts" "day" "[I") (wm_t (wm_l (wm_i 1 rfl)))) (fun _ h9 => h9) rfl dX0_firstWaking_26 ?_
        refine lv_iload_n hx hb dX0_firstWaking_29 rfl (lv_at hl 3 rfl) ?_
        refine va_iald hx hb hK hP 3 0 rfl rfl (i_in (by omega) (by omega)) dX0_firstWaking_30 ?_
        refine lv_topi (fun v30 ev30 => ?_)
        refine lv_icmp_ge (tgt := 38) hx hb dX0_firstWaking_31 (by decide) (fun c31 => ?_) (fun c31 => ?_)
        · skip
          have f32 := i_le c31
          refine lv_iconst (v := 0) hx hb dX0_firstWaking_38 (by decide) ?_
          refine lv_istore (lv' := [(5, .int 0), (0, .ref (ad 7)), (1, .int k), (2, .ref (ad 6)), (3, .int q5_3), (4, .int q5_4)]) hx hb dX0_firstWaking_39 hl (by decide) rfl (fun ls hl => ?_)
          refine lv_aload_n hx hb dX0_firstWaking_41 rfl (lv_at hl 1 rfl) ?_
          refine va_get (D := D) (ci := 0) (v := .ref (ad 54)) (C := RX0) (T := TX0) (N := 5) hx hb hts inX0_firstWaking_X0 hown hK hP 0 rfl rfl 0 (by decide) (hts (Cond.fieldLink RX0 9 "PortRooms$Acts" "crate" "[I") (wm_t (wm_l (wm_i 2 rfl)))) (fun _ h9 => h9) rfl dX0_firstWaking_42 ?_
          refine lv_iload hx hb dX0_firstWaking_45 (lv_at hl 5 rfl) ?_
          refine va_iald hx hb hK hP 1 0 rfl rfl (i_in (by omega) (by omega)) dX0_firstWaking_47 ?_
          refine lv_topi (fun v33 ev33 => ?_)
          refine lv_iload_n hx hb dX0_firstWaking_48 rfl (lv_at hl 2 rfl) ?_
          refine lv_icmp_ne (tgt := 81) hx hb dX0_firstWaking_49 (by decide) (fun c34 => ?_) (fun c34 => ?_)
          · skip
            have f35 := i_ne c34
            obtain ⟨v36, ev36⟩ : ∃ y : Int32, y = q5_4 + 1 := ⟨_, rfl⟩
            try have tv36 : v36.toInt = q5_4.toInt + 1 := by rw [ev36]; exact (i_add (x := q5_4) (y := (1 : Int32)) (by rw [k1]; omega) (by rw [k1]; omega)).trans (by rw [k1])
            refine lv_iinc (v := v36) (lv' := [(4, .int v36), (5, .int 0), (0, .ref (ad 7)), (1, .int k), (2, .ref (ad 6)), (3, .int q5_3)]) hx hb dX0_firstWaking_81 hl (k := 5) rfl (by rw [ev36]; rfl) (by decide) rfl (fun ls hl => ?_)
            refine lv_goto (tgt := 5) hx hb dX0_firstWaking_84 (by decide) ?_
            exact ih5 (q5_3, v36) ls H locs ⟨(by omega), (by omega), (by omega), (by omega), lv_sub hl [2, 3, 4, 5, 0] rfl, hP.sub [0, 1, 2, 3, 4, 5, 6, 7, 8] rfl, hD.sub [0, 1, 2, 3, 4, 5, 6, 7, 8] (by decide +kernel) rfl, hS⟩ (by show an.toInt - v36.toInt < _; omega)
          · skip
            have f37 := i_eq c34
            refine lv_iload hx hb dX0_firstWaking_52 (lv_at hl 0 rfl) ?_
            refine lv_if_eq (tgt := 81) hx hb dX0_firstWaking_54 (by decide) (fun _ => ?_) (fun c => absurd (by decide) c)
            obtain ⟨v38, ev38⟩ : ∃ y : Int32, y = q5_4 + 1 := ⟨_, rfl⟩
            try have tv38 : v38.toInt = q5_4.toInt + 1 := by rw [ev38]; exact (i_add (x := q5_4) (y := (1 : Int32)) (by rw [k1]; omega) (by rw [k1]; omega)).trans (by rw [k1])
            refine lv_iinc (v := v38) (lv' := [(4, .int v38), (5, .int 0), (0, .ref (ad 7)), (1, .int k), (2, .ref (ad 6)), (3, .int q5_3)]) hx hb dX0_firstWaking_81 hl (k := 5) rfl (by rw [ev38]; rfl) (by decide) rfl (fun ls hl => ?_)
            refine lv_goto (tgt := 5) hx hb dX0_firstWaking_84 (by decide) ?_
            exact ih5 (q5_3, v38) ls H locs ⟨(by omega), (by omega), (by omega), (by omega), lv_sub hl [2, 3, 4, 5, 0] rfl, hP.sub [0, 1, 2, 3, 4, 5, 6, 7, 8] rfl, hD.sub [0, 1, 2, 3, 4, 5, 6, 7, 8] (by decide +kernel) rfl, hS⟩ (by show an.toInt - v38.toInt < _; omega)
        · skip
          have f39 := i_nle c31
          refine lv_iconst (v := 1) hx hb dX0_firstWaking_34 (by decide) ?_
          refine lv_goto (tgt := 39) hx hb dX0_firstWaking_35 (by decide) ?_
          refine lv_istore (lv' := [(5, .int 1), (0, .ref (ad 7)), (1, .int k), (2, .ref (ad 6)), (3, .int q5_3), (4, .int q5_4)]) hx hb dX0_firstWaking_39 hl (by decide) rfl (fun ls hl => ?_)
          refine lv_aload_n hx hb dX0_firstWaking_41 rfl (lv_at hl 1 rfl) ?_
          refine va_get (D := D) (ci := 0) (v := .ref (ad 54)) (C := RX0) (T := TX0) (N := 5) hx hb hts inX0_firstWaking_X0 hown hK hP 0 rfl rfl 0 (by decide) (hts (Cond.fieldLink RX0 9 "PortRooms$Acts" "crate" "[I") (wm_t (wm_l (wm_i 2 rfl)))) (fun _ h9 => h9) rfl dX0_firstWaking_42 ?_
          refine lv_iload hx hb dX0_firstWaking_45 (lv_at hl 5 rfl) ?_
          refine va_iald hx hb hK hP 1 0 rfl rfl (i_in (by omega) (by omega)) dX0_firstWaking_47 ?_
          refine lv_topi (fun v40 ev40 => ?_)
          refine lv_iload_n hx hb dX0_firstWaking_48 rfl (lv_at hl 2 rfl) ?_
          refine lv_icmp_ne (tgt := 81) hx hb dX0_firstWaking_49 (by decide) (fun c41 => ?_) (fun c41 => ?_)
          · skip
            have f42 := i_ne c41
            obtain ⟨v43, ev43⟩ : ∃ y : Int32, y = q5_4 + 1 := ⟨_, rfl⟩
            try have tv43 : v43.toInt = q5_4.toInt + 1 := by rw [ev43]; exact (i_add (x := q5_4) (y := (1 : Int32)) (by rw [k1]; omega) (by rw [k1]; omega)).trans (by rw [k1])
            refine lv_iinc (v := v43) (lv' := [(4, .int v43), (5, .int 1), (0, .ref (ad 7)), (1, .int k), (2, .ref (ad 6)), (3, .int q5_3)]) hx hb dX0_firstWaking_81 hl (k := 5) rfl (by rw [ev43]; rfl) (by decide) rfl (fun ls hl => ?_)
            refine lv_goto (tgt := 5) hx hb dX0_firstWaking_84 (by decide) ?_
            exact ih5 (q5_3, v43) ls H locs ⟨(by omega), (by omega), (by omega), (by omega), lv_sub hl [2, 3, 4, 5, 0] rfl, hP.sub [0, 1, 2, 3, 4, 5, 6, 7, 8] rfl, hD.sub [0, 1, 2, 3, 4, 5, 6, 7, 8] (by decide +kernel) rfl, hS⟩ (by show an.toInt - v43.toInt < _; omega)
          · skip
            have f44 := i_eq c41
            refine lv_iload hx hb dX0_firstWaking_52 (lv_at hl 0 rfl) ?_
            refine lv_if_eq (tgt := 81) hx hb dX0_firstWaking_54 (by decide) (fun c => absurd c (by decide)) (fun _ => ?_)
            refine lv_aload_n hx hb dX0_firstWaking_57 rfl (lv_at hl 3 rfl) ?_
            refine lv_aload_n hx hb dX0_firstWaking_58 rfl (lv_at hl 1 rfl) ?_
            refine va_get (D := D) (ci := 0) (v := .ref (ad 55)) (C := RX0) (T := TX0) (N := 5) hx hb hts inX0_firstWaking_X0 hown hK hP 0 rfl rfl 1 (by decide) (hts (Cond.fieldLink RX0 15 "PortRooms$Acts" "what" "[I") (wm_t (wm_l (wm_i 3 rfl)))) (fun _ h9 => h9) rfl dX0_firstWaking_59 ?_
            refine lv_iload hx hb dX0_firstWaking_62 (lv_at hl 5 rfl) ?_
            refine va_iald hx hb hK hP 2 0 rfl rfl (i_in (by omega) (by omega)) dX0_firstWaking_64 ?_
            refine lv_topi (fun v45 ev45 => ?_)
            refine lv_aload_n hx hb dX0_firstWaking_65 rfl (lv_at hl 1 rfl) ?_
            refine va_get (D := D) (ci := 0) (v := .ref (ad 57)) (C := RX0) (T := TX0) (N := 5) hx hb hts inX0_firstWaking_X0 hown hK hP 0 rfl rfl 3 (by decide) (hts (Cond.fieldLink RX0 21 "PortRooms$Acts" "days" "[I") (wm_t (wm_l (wm_i 4 rfl)))) (fun _ h9 => h9) rfl dX0_firstWaking_66 ?_
            refine lv_iload hx hb dX0_firstWaking_69 (lv_at hl 5 rfl) ?_
            refine va_iald hx hb hK hP 4 0 rfl rfl (i_in (by omega) (by omega)) dX0_firstWaking_71 ?_
            refine lv_topi (fun v46 ev46 => ?_)
            refine st_i1 (va_runV (C := RX2) (As := [.int v45, .int v46]) (rest := []) ⟨hx, hb, hml, hown, hts⟩ (ct_X2_lineFor l D cI cY cJ cQ _ ad ln lfa dl dr bs be tk nb dw dd dp v45 v46 h3 h4) (cwV 2 hts gX0_firstWaking_X2_lineFor rfl rfl rfl ⟨rfl, cdX2_lineFor⟩ ⟨Nat.le_of_ble_eq_true rfl, Nat.le_of_ble_eq_true rfl⟩) (cPreV (hP.sub [5, 6, 7, 8] rfl) hK (hD.sub [5, 6, 7, 8] (by decide +kernel) rfl) hN (ci := 2) (q0 := 0) rfl rfl) rfl rfl hl.1 rfl (lv_room (Nat.le_of_ble_eq_true rfl)) dX0_firstWaking_72 ⟨Nat.le_of_ble_eq_true rfl, Nat.le_of_ble_eq_true rfl⟩) hP hD hS hA [5, 6, 7, 8] rfl (fun _ => rfl) (fun r49 u47 H locs hw48 => ?_)
            clear hP hS
            intro hP hS
            replace hw48 : -1 ≤ r49.toInt ∧ (r49.toInt < dl.toInt ∨ r49.toInt < 0) := hw48
            refine lv_if_lt (tgt := 81) hx hb dX0_firstWaking_75 (by decide) (fun c50 => ?_) (fun c50 => ?_)
            · skip
              have f51 := i_lt c50
              obtain ⟨v52, ev52⟩ : ∃ y : Int32, y = q5_4 + 1 := ⟨_, rfl⟩
              try have tv52 : v52.toInt = q5_4.toInt + 1 := by rw [ev52]; exact (i_add (x := q5_4) (y := (1 : Int32)) (by rw [k1]; omega) (by rw [k1]; omega)).trans (by rw [k1])
              refine lv_iinc (v := v52) (lv' := [(4, .int v52), (5, .int 1), (0, .ref (ad 7)), (1, .int k), (2, .ref (ad 6)), (3, .int q5_3)]) hx hb dX0_firstWaking_81 hl (k := 5) rfl (by rw [ev52]; rfl) (by decide) rfl (fun ls hl => ?_)
              refine lv_goto (tgt := 5) hx hb dX0_firstWaking_84 (by decide) ?_
              exact ih5 (q5_3, v52) ls H locs ⟨(by omega), (by omega), (by omega), (by omega), lv_sub hl [2, 3, 4, 5, 0] rfl, hP.sub [0, 1, 2, 3, 4, 5, 6, 7, 8] rfl, hD.sub [0, 1, 2, 3, 4, 5, 6, 7, 8] (by decide +kernel) rfl, hS⟩ (by show an.toInt - v52.toInt < _; omega)
            · skip
              have f53 := i_nlt c50
              refine lv_iload hx hb dX0_firstWaking_78 (lv_at hl 5 rfl) ?_
              refine lv_istore_n (lv' := [(3, .int q5_4), (5, .int 1), (0, .ref (ad 7)), (1, .int k), (2, .ref (ad 6)), (4, .int q5_4)]) hx hb dX0_firstWaking_80 rfl hl (by decide) rfl (fun ls hl => ?_)
              obtain ⟨v54, ev54⟩ : ∃ y : Int32, y = q5_4 + 1 := ⟨_, rfl⟩
              try have tv54 : v54.toInt = q5_4.toInt + 1 := by rw [ev54]; exact (i_add (x := q5_4) (y := (1 : Int32)) (by rw [k1]; omega) (by rw [k1]; omega)).trans (by rw [k1])
              refine lv_iinc (v := v54) (lv' := [(4, .int v54), (3, .int q5_4), (5, .int 1), (0, .ref (ad 7)), (1, .int k), (2, .ref (ad 6))]) hx hb dX0_firstWaking_81 hl (k := 5) rfl (by rw [ev54]; rfl) (by decide) rfl (fun ls hl => ?_)
              refine lv_goto (tgt := 5) hx hb dX0_firstWaking_84 (by decide) ?_
              exact ih5 (q5_4, v54) ls H locs ⟨(by omega), (by omega), (by omega), (by omega), lv_sub hl [3, 4, 5, 1, 0] rfl, hP.sub [0, 1, 2, 3, 4, 5, 6, 7, 8] rfl, hD.sub [0, 1, 2, 3, 4, 5, 6, 7, 8] (by decide +kernel) rfl, hS⟩ (by show an.toInt - v54.toInt < _; omega)

set_option maxHeartbeats 4000000 in
set_option maxRecDepth 100000 in
theorem ct_X10_duty (l : Launch) (D : va_G) (cI cY cJ cQ : ClassId) (sz : Nat) (ad : Nat → Nat) (tn td lf cn ln lfa dl dr bs be tk nb an : Int32) (wo dw dd dp ak ah ay az : Nat → Int32) (k : Int32) (w : Int32)  (h1 : 0 ≤ cn.toInt) (h2 : cn.toInt ≤ 12) (h3 : 0 ≤ an.toInt) (h4 : an.toInt ≤ 60) (h5 : 0 ≤ dl.toInt) (h6 : dl.toInt ≤ 12)  : Met l yX10_duty wsX10_duty ({ frames := 2, cells := 0, slots := 0, locals := 48 }) (cPre D (ty4 cI cY cJ cQ) [(oC10 ad tn td lf), (oC1 ad cn), (aI cI (ad 32) 12 wo), (oC2 ad ln lfa dl dr bs be tk nb), (aI cI (ad 48) 12 dw), (aI cI (ad 49) 12 dd), (aI cI (ad 50) 12 dp), (oC0 ad an), (aI cI (ad 54) 60 ak), (aI cI (ad 55) 60 ah), (aI cI (ad 56) 60 ay), (aI cI (ad 57) 60 az)] sz [.ref (ad 0), .int k, .int w]) (va_Qi (fun (r : Int32) (u : Unit) => True) (cB D (ty4 cI cY cJ cQ) (fun (u : Unit) => [(oC10 ad tn td lf), (oC1 ad cn), (aI cI (ad 32) 12 wo), (oC2 ad ln lfa dl dr bs be tk nb), (aI cI (ad 48) 12 dw), (aI cI (ad 49) 12 dd), (aI cI (ad 50) 12 dp), (oC0 ad an), (aI cI (ad 54) 60 ak), (aI cI (ad 55) 60 ah), (aI cI (ad 56) 60 ay), (aI cI (ad 57) 60 az)]) (va_A [(oC10 ad tn td lf), (oC1 ad cn), (aI cI (ad 32) 12 wo), (oC2 ad ln lfa dl dr bs be tk nb), (aI cI (ad 48) 12 dw), (aI cI (ad 49) 12 dd), (aI cI (ad 50) 12 dp), (oC0 ad an), (aI cI (ad 54) 60 ak), (aI cI (ad 55) 60 ah), (aI cI (ad 56) 60 ay), (aI cI (ad 57) 60 az)] sz)) (va_A [(oC10 ad tn td lf), (oC1 ad cn), (aI cI (ad 32) 12 wo), (oC2 ad ln lfa dl dr bs be tk nb), (aI cI (ad 48) 12 dw), (aI cI (ad 49) 12 dd), (aI cI (ad 50) 12 dp), (oC0 ad an), (aI cI (ad 54) 60 ak), (aI cI (ad 55) 60 ah), (aI cI (ad 56) 60 ay), (aI cI (ad 57) 60 az)] sz)) 0 0 (va_A [(oC10 ad tn td lf), (oC1 ad cn), (aI cI (ad 32) 12 wo), (oC2 ad ln lfa dl dr bs be tk nb), (aI cI (ad 48) 12 dw), (aI cI (ad 49) 12 dd), (aI cI (ad 50) 12 dp), (oC0 ad an), (aI cI (ad 54) 60 ak), (aI cI (ad 55) 60 ah), (aI cI (ad 56) 60 ay), (aI cI (ad 57) 60 az)] sz) := by
  refine Met.ofW (cc := cX10_duty) (maxL := 5) (ret := (some .int)) (by decide) rfl ?_
  intro p e s m args below meth c s₁ B hml hv
  obtain ⟨rfl, hsz, hP, hK, hD0, hN⟩ := hv
  have hx := B.exec
  have hb := B.bytes
  have hr := B.returns
  have hts := atoms_spec (ws := wsX10_duty) B.pre
  have hown : s.vm.findClass RX10 = some m.cls := findClass_of_methodNamed B.named
  have hlocks := B.notSynchronized
  subst hsz
  have hD := hD0.self (sz := s.heap.size)
  generalize hAe : va_A [(oC10 ad tn td lf), (oC1 ad cn), (aI cI (ad 32) 12 wo), (oC2 ad ln lfa dl dr bs be tk nb), (aI cI (ad 48) 12 dw), (aI cI (ad 49) 12 dd), (aI cI (ad 50) 12 dp), (oC0 ad an), (aI cI (ad 54) 60 ak), (aI cI (ad 55) 60 ah), (aI cI (ad 56) 60 ay), (aI cI (ad 57) 60 az)] s.heap.size = A at hD ⊢
  have hA : ∀ q : Nat, s.heap.size ≤ q → A q := fun q h => by rw [← hAe]; exact Or.inr h
  have hS : va_S A s.heap s.heap [] := va_S.rf
  have hP : va_P D vwCl [(oC10 ad tn td lf), (oC1 ad cn), (aI cI (ad 32) 12 wo), (oC2 ad ln lfa dl dr bs be tk nb), (aI cI (ad 48) 12 dw), (aI cI (ad 49) 12 dd), (aI cI (ad 50) 12 dp), (oC0 ad an), (aI cI (ad 54) 60 ak), (aI cI (ad 55) 60 ah), (aI cI (ad 56) 60 ay), (aI cI (ad 57) 60 az)] s.heap := hP
  have hl := lv_entry ([.ref (ad 0), .int k, .int w]) (n := 5) (Nat.le_of_ble_eq_true rfl)
  rw [lg_entry_eq]
  generalize (lg_sl ([.ref (ad 0), .int k, .int w]) ++ List.replicate (5 - (lg_sl ([.ref (ad 0), .int k, .int w])).length) Slot.unset).toArray = ls at hl ⊢
  have hl : lv_has ls 5 [(0, .ref (ad 0)), (1, .int k), (2, .int w)] := hl
  have k0 : (0 : Int32).toInt = 0 := by decide
  have k1 : (1 : Int32).toInt = 1 := by decide
  have k3 : (3 : Int32).toInt = 3 := by decide
  refine lv_aload_n hx hb dX10_duty_0 rfl (lv_at hl 0 rfl) ?_
  refine lv_iload_n hx hb dX10_duty_1 rfl (lv_at hl 1 rfl) ?_
  refine st_i1 (va_runV (C := RX10) (As := [.int k]) (rest := []) ⟨hx, hb, hml, hown, hts⟩ (ct_X10_isCrate l D cI cY cJ cQ _ ad tn td lf cn k) (cwV 1 hts gX10_duty_X10_isCrate rfl rfl rfl ⟨rfl, cdX10_isCrate⟩ ⟨Nat.le_of_ble_eq_true rfl, Nat.le_of_ble_eq_true rfl⟩) (cPreV (hP.sub [0, 1] rfl) hK (hD.sub [0, 1] (by decide +kernel) rfl) hN (ci := 10) (q0 := 0) rfl rfl) rfl rfl hl.1 rfl (lv_room (Nat.le_of_ble_eq_true rfl)) dX10_duty_2 ⟨Nat.le_of_ble_eq_true rfl, Nat.le_of_ble_eq_true rfl⟩) hP hD hS hA [0, 1] rfl (fun _ => rfl) (fun r3 u1 H locs hw2 => ?_)
  clear hP hS
  intro hP hS
  replace hw2 : r3 = if 0 ≤ k.toInt ∧ k.toInt < cn.toInt then 1 else 0 := hw2
  refine lv_if_eq (tgt := 16) hx hb dX10_duty_5 (by decide) (fun c4 => ?_) (fun c4 => ?_)
  · skip
    have f5 := bo_f hw2 c4
    refine lv_ldc hx hb hown (hts (Cond.constant RX10 89 (-1000001)) (wm_t (wm_l (wm_i 0 rfl)))) dX10_duty_16 ?_
    have hP9 := hP
    have hD9 := hD
    exact W.iret (v := (-1000001)) hx hb hr (fun t ht hW => ⟨⟨(-1000001), (), rfl, trivial, by rw [ht]; exact hP9, va_K.moved hW.alike hK, hD9⟩, hS.F ht⟩) hS.2.2 dX10_duty_18
  · skip
    have f6 := bo_t hw2 c4
    refine lv_iload_n hx hb dX10_duty_8 rfl (lv_at hl 2 rfl) ?_
    refine lv_iconst (v := 3) hx hb dX10_duty_9 (by decide) ?_
    refine st_i1 (va_runS (As := [.int w, .int 3]) (rest := []) ⟨hx, hb, hml, hown, hts⟩ (ct_X10_isBelow l D cI cY cJ cQ _ w (3 : Int32)) (va_cwS 2 hts gX10_duty_X10_isBelow rfl rfl rfl cdX10_isBelow ⟨Nat.le_of_ble_eq_true rfl, Nat.le_of_ble_eq_true rfl⟩) (cPreS (hP.sub [] rfl) hK (hD.sub [] (by decide +kernel) rfl) hN) rfl rfl hl.1 rfl (lv_room (Nat.le_of_ble_eq_true rfl)) dX10_duty_10 ⟨Nat.le_of_ble_eq_true rfl, Nat.le_of_ble_eq_true rfl⟩) hP hD hS hA [] rfl (fun _ => rfl) (fun r9 u7 H locs hw8 => ?_)
    clear hP hS
    intro hP hS
    replace hw8 : r9 = if 0 ≤ w.toInt ∧ w.toInt < (3 : Int32).toInt then 1 else 0 := hw8
    refine lv_if_ne (tgt := 19) hx hb dX10_duty_13 (by decide) (fun c10 => ?_) (fun c10 => ?_)
    · skip
      have f11 := bo_t hw8 c10
      refine lv_aload_n hx hb dX10_duty_19 rfl (lv_at hl 0 rfl) ?_
      refine va_get (D := D) (ci := 10) (v := .ref (ad 7)) (C := RX10) (T := TX10) (N := 14) hx hb hts inX10_duty_X10 hown hK hP 0 rfl rfl 6 (by decide) (hts (Cond.fieldLink RX10 54 "PortRooms" "acts" "LPortRooms$Acts;") (wm_t (wm_l (wm_i 1 rfl)))) (fun _ h9 => h9) rfl dX10_duty_20 ?_
      refine lv_iload_n hx hb dX10_duty_23 rfl (lv_at hl 1 rfl) ?_
      refine lv_aload_n hx hb dX10_duty_24 rfl (lv_at hl 0 rfl) ?_
      refine va_get (D := D) (ci := 10) (v := .ref (ad 6)) (C := RX10) (T := TX10) (N := 14) hx hb hts inX10_duty_X10 hown hK hP 0 rfl rfl 5 (by decide) (hts (Cond.fieldLink RX10 47 "PortRooms" "duties" "LPortRooms$Duties;") (wm_t (wm_l (wm_i 2 rfl)))) (fun _ h9 => h9) rfl dX10_duty_25 ?_
      refine st_i1 (va_runV (C := RX0) (As := [.int k, .ref (ad 6)]) (rest := []) ⟨hx, hb, hml, hown, hts⟩ (ct_X0_firstWaking l D cI cY cJ cQ _ ad an ln lfa dl dr bs be tk nb ak ah ay az dw dd dp k h3 h4 h5 h6) (cwV 2 hts gX10_duty_X0_firstWaking rfl rfl rfl ⟨rfl, cdX0_firstWaking⟩ ⟨Nat.le_of_ble_eq_true rfl, Nat.le_of_ble_eq_true rfl⟩) (cPreV (hP.sub [7, 8, 9, 10, 11, 3, 4, 5, 6] rfl) hK (hD.sub [7, 8, 9, 10, 11, 3, 4, 5, 6] (by decide +kernel) rfl) hN (ci := 0) (q0 := 0) rfl rfl) rfl rfl hl.1 rfl (lv_room (Nat.le_of_ble_eq_true rfl)) dX10_duty_28 ⟨Nat.le_of_ble_eq_true rfl, Nat.le_of_ble_eq_true rfl⟩) hP hD hS hA [7, 8, 9, 10, 11, 3, 4, 5, 6] rfl (fun _ => rfl) (fun r14 u12 H locs hw13 => ?_)
      clear hP hS
      intro hP hS
      replace hw13 : -1 ≤ r14.toInt ∧ (r14.toInt < an.toInt ∨ r14.toInt < 0) := hw13
      refine lv_istore_n (lv' := [(3, .int r14), (0, .ref (ad 0)), (1, .int k), (2, .int w)]) hx hb dX10_duty_31 rfl hl (by decide) rfl (fun ls hl => ?_)
      refine lv_iload_n hx hb dX10_duty_32 rfl (lv_at hl 0 rfl) ?_
      refine lv_if_ge (tgt := 40) hx hb dX10_duty_33 (by decide) (fun c15 => ?_) (fun c15 => ?_)
      · skip
        have f16 := i_le c15
        refine lv_aload_n hx hb dX10_duty_40 rfl (lv_at hl 1 rfl) ?_
        refine va_get (D := D) (ci := 10) (v := .ref (ad 6)) (C := RX10) (T := TX10) (N := 14) hx hb hts inX10_duty_X10 hown hK hP 0 rfl rfl 5 (by decide) (hts (Cond.fieldLink RX10 47 "PortRooms" "duties" "LPortRooms$Duties;") (wm_t (wm_l (wm_i 2 rfl)))) (fun _ h9 => h9) rfl dX10_duty_41 ?_
        refine lv_aload_n hx hb dX10_duty_44 rfl (lv_at hl 1 rfl) ?_
        refine va_get (D := D) (ci := 10) (v := .ref (ad 7)) (C := RX10) (T := TX10) (N := 14) hx hb hts inX10_duty_X10 hown hK hP 0 rfl rfl 6 (by decide) (hts (Cond.fieldLink RX10 54 "PortRooms" "acts" "LPortRooms$Acts;") (wm_t (wm_l (wm_i 1 rfl)))) (fun _ h9 => h9) rfl dX10_duty_45 ?_
        refine va_get (D := D) (ci := 0) (v := .ref (ad 55)) (C := RX0) (T := TX0) (N := 5) hx hb hts inX10_duty_X0 hown hK hP 7 rfl rfl 1 (by decide) (hts (Cond.fieldLink RX10 233 "PortRooms$Acts" "what" "[I") (wm_t (wm_l (wm_i 3 rfl)))) (fun _ h9 => h9) rfl dX10_duty_48 ?_
        refine lv_iload_n hx hb dX10_duty_51 rfl (lv_at hl 0 rfl) ?_
        refine va_iald hx hb hK hP 9 0 rfl rfl (i_in (by omega) (by omega)) dX10_duty_52 ?_
        refine lv_topi (fun v17 ev17 => ?_)
        refine lv_aload_n hx hb dX10_duty_53 rfl (lv_at hl 1 rfl) ?_
        refine va_get (D := D) (ci := 10) (v := .ref (ad 7)) (C := RX10) (T := TX10) (N := 14) hx hb hts inX10_duty_X10 hown hK hP 0 rfl rfl 6 (by decide) (hts (Cond.fieldLink RX10 54 "PortRooms" "acts" "LPortRooms$Acts;") (wm_t (wm_l (wm_i 1 rfl)))) (fun _ h9 => h9) rfl dX10_duty_54 ?_
        refine va_get (D := D) (ci := 0) (v := .ref (ad 57)) (C := RX0) (T := TX0) (N := 5) hx hb hts inX10_duty_X0 hown hK hP 7 rfl rfl 3 (by decide) (hts (Cond.fieldLink RX10 236 "PortRooms$Acts" "days" "[I") (wm_t (wm_l (wm_i 4 rfl)))) (fun _ h9 => h9) rfl dX10_duty_57 ?_
        refine lv_iload_n hx hb dX10_duty_60 rfl (lv_at hl 0 rfl) ?_
        refine va_iald hx hb hK hP 11 0 rfl rfl (i_in (by omega) (by omega)) dX10_duty_61 ?_
        refine lv_topi (fun v18 ev18 => ?_)
        refine st_i1 (va_runV (C := RX2) (As := [.int v17, .int v18]) (rest := []) ⟨hx, hb, hml, hown, hts⟩ (ct_X2_lineFor l D cI cY cJ cQ _ ad ln lfa dl dr bs be tk nb dw dd dp v17 v18 h5 h6) (cwV 2 hts gX10_duty_X2_lineFor rfl rfl rfl ⟨rfl, cdX2_lineFor⟩ ⟨Nat.le_of_ble_eq_true rfl, Nat.le_of_ble_eq_true rfl⟩) (cPreV (hP.sub [3, 4, 5, 6] rfl) hK (hD.sub [3, 4, 5, 6] (by decide +kernel) rfl) hN (ci := 2) (q0 := 0) rfl rfl) rfl rfl hl.1 rfl (lv_room (Nat.le_of_ble_eq_true rfl)) dX10_duty_62 ⟨Nat.le_of_ble_eq_true rfl, Nat.le_of_ble_eq_true rfl⟩) hP hD hS hA [3, 4, 5, 6] rfl (fun _ => rfl) (fun r21 u19 H locs hw20 => ?_)
        clear hP hS
        intro hP hS
        replace hw20 : -1 ≤ r21.toInt ∧ (r21.toInt < dl.toInt ∨ r21.toInt < 0) := hw20
        refine lv_istore (lv' := [(4, .int r21), (3, .int r14), (0, .ref (ad 0)), (1, .int k), (2, .int w)]) hx hb dX10_duty_65 hl (by decide) rfl (fun ls hl => ?_)
        refine lv_iload hx hb dX10_duty_67 (lv_at hl 0 rfl) ?_
        refine lv_if_ge (tgt := 83) hx hb dX10_duty_69 (by decide) (fun c22 => ?_) (fun c22 => ?_)
        · skip
          have f23 := i_le c22
          refine lv_iload_n hx hb dX10_duty_83 rfl (lv_at hl 4 rfl) ?_
          refine lv_if_ne (tgt := 111) hx hb dX10_duty_84 (by decide) (fun c24 => ?_) (fun c24 => ?_)
          · skip
            have f25 := i_ne c24
            refine lv_iload_n hx hb dX10_duty_111 rfl (lv_at hl 4 rfl) ?_
            refine lv_iconst (v := 1) hx hb dX10_duty_112 (by decide) ?_
            refine lv_icmp_ne (tgt := 128) hx hb dX10_duty_113 (by decide) (fun c26 => ?_) (fun c26 => ?_)
            · skip
              have f27 := i_ne c26
              refine lv_iload hx hb dX10_duty_128 (lv_at hl 0 rfl) ?_
              have hP9 := hP
              have hD9 := hD
              exact W.iret (v := r21) hx hb hr (fun t ht hW => ⟨⟨r21, (), rfl, trivial, by rw [ht]; exact hP9, va_K.moved hW.alike hK, hD9⟩, hS.F ht⟩) hS.2.2 dX10_duty_130
            · skip
              have f28 := i_eq c26
              refine lv_aload_n hx hb dX10_duty_116 rfl (lv_at hl 2 rfl) ?_
              refine va_get (D := D) (ci := 10) (v := .ref (ad 7)) (C := RX10) (T := TX10) (N := 14) hx hb hts inX10_duty_X10 hown hK hP 0 rfl rfl 6 (by decide) (hts (Cond.fieldLink RX10 54 "PortRooms" "acts" "LPortRooms$Acts;") (wm_t (wm_l (wm_i 1 rfl)))) (fun _ h9 => h9) rfl dX10_duty_117 ?_
              refine va_get (D := D) (ci := 0) (v := .ref (ad 56)) (C := RX0) (T := TX0) (N := 5) hx hb hts inX10_duty_X0 hown hK hP 7 rfl rfl 2 (by decide) (hts (Cond.fieldLink RX10 245 "PortRooms$Acts" "day" "[I") (wm_t (wm_l (wm_i 9 rfl)))) (fun _ h9 => h9) rfl dX10_duty_120 ?_
              refine lv_iload_n hx hb dX10_duty_123 rfl (lv_at hl 1 rfl) ?_
              refine va_iald hx hb hK hP 10 0 rfl rfl (i_in (by omega) (by omega)) dX10_duty_124 ?_
              refine lv_topi (fun v29 ev29 => ?_)
              refine lv_goto (tgt := 130) hx hb dX10_duty_125 (by decide) ?_
              have hP9 := hP
              have hD9 := hD
              exact W.iret (v := v29) hx hb hr (fun t ht hW => ⟨⟨v29, (), rfl, trivial, by rw [ht]; exact hP9, va_K.moved hW.alike hK, hD9⟩, hS.F ht⟩) hS.2.2 dX10_duty_130
          · skip
            have f30 := i_eq c24
            refine lv_aload_n hx hb dX10_duty_87 rfl (lv_at hl 2 rfl) ?_
            refine va_get (D := D) (ci := 10) (v := .ref (ad 3)) (C := RX10) (T := TX10) (N := 14) hx hb hts inX10_duty_X10 hown hK hP 0 rfl rfl 2 (by decide) (hts (Cond.fieldLink RX10 26 "PortRooms" "crates" "LPortRooms$Crates;") (wm_t (wm_l (wm_i 6 rfl)))) (fun _ h9 => h9) rfl dX10_duty_88 ?_
            refine va_get (D := D) (ci := 1) (v := .ref (ad 32)) (C := RX1) (T := TX1) (N := 6) hx hb hts inX10_duty_X1 hown hK hP 1 rfl rfl 1 (by decide) (hts (Cond.fieldLink RX10 207 "PortRooms$Crates" "worth" "[I") (wm_t (wm_l (wm_i 7 rfl)))) (fun _ h9 => h9) rfl dX10_duty_91 ?_
            refine lv_iload_n hx hb dX10_duty_94 rfl (lv_at hl 3 rfl) ?_
            refine va_iald hx hb hK hP 2 0 rfl rfl (i_in (by omega) (by omega)) dX10_duty_95 ?_
            refine lv_topi (fun v31 ev31 => ?_)
            refine lv_aload_n hx hb dX10_duty_96 rfl (lv_at hl 2 rfl) ?_
            refine va_get (D := D) (ci := 10) (v := .ref (ad 6)) (C := RX10) (T := TX10) (N := 14) hx hb hts inX10_duty_X10 hown hK hP 0 rfl rfl 5 (by decide) (hts (Cond.fieldLink RX10 47 "PortRooms" "duties" "LPortRooms$Duties;") (wm_t (wm_l (wm_i 2 rfl)))) (fun _ h9 => h9) rfl dX10_duty_97 ?_
            refine va_get (D := D) (ci := 2) (v := .ref (ad 50)) (C := RX2) (T := TX2) (N := 15) hx hb hts inX10_duty_X2 hown hK hP 3 rfl rfl 5 (by decide) (hts (Cond.fieldLink RX10 242 "PortRooms$Duties" "part" "[I") (wm_t (wm_l (wm_i 8 rfl)))) (fun _ h9 => h9) rfl dX10_duty_100 ?_
            refine lv_iload hx hb dX10_duty_103 (lv_at hl 0 rfl) ?_
            refine va_iald hx hb hK hP 6 0 rfl rfl (i_in (by omega) (by omega)) dX10_duty_105 ?_
            refine lv_topi (fun v32 ev32 => ?_)
            refine lv_imul hx hb dX10_duty_106 ?_
            refine lv_topi (fun v33 ev33 => ?_)
            refine lv_bipush (v := 100) hx hb dX10_duty_107 (by decide) ?_
            refine lv_idiv hx hb dX10_duty_109 (by decide) ?_
            refine lv_topi (fun v34 ev34 => ?_)
            have hP9 := hP
            have hD9 := hD
            exact W.iret (v := v34) hx hb hr (fun t ht hW => ⟨⟨v34, (), rfl, trivial, by rw [ht]; exact hP9, va_K.moved hW.alike hK, hD9⟩, hS.F ht⟩) hS.2.2 dX10_duty_110
        · skip
          have f35 := i_nle c22
          refine lv_iload_n hx hb dX10_duty_72 rfl (lv_at hl 4 rfl) ?_
          refine lv_if_ne (tgt := 80) hx hb dX10_duty_73 (by decide) (fun c36 => ?_) (fun c36 => ?_)
          · skip
            have f37 := i_ne c36
            refine lv_ldc hx hb hown (hts (Cond.constant RX10 169 (-1000000)) (wm_t (wm_l (wm_i 5 rfl)))) dX10_duty_80 ?_
            have hP9 := hP
            have hD9 := hD
            exact W.iret (v := (-1000000)) hx hb hr (fun t ht hW => ⟨⟨(-1000000), (), rfl, trivial, by rw [ht]; exact hP9, va_K.moved hW.alike hK, hD9⟩, hS.F ht⟩) hS.2.2 dX10_duty_82
          · skip
            have f38 := i_eq c36
            refine lv_iconst (v := 0) hx hb dX10_duty_76 (by decide) ?_
            refine lv_goto (tgt := 82) hx hb dX10_duty_77 (by decide) ?_
            have hP9 := hP
            have hD9 := hD
            exact W.iret (v := 0) hx hb hr (fun t ht hW => ⟨⟨0, (), rfl, trivial, by rw [ht]; exact hP9, va_K.moved hW.alike hK, hD9⟩, hS.F ht⟩) hS.2.2 dX10_duty_82
      · skip
        have f39 := i_nle c15
        refine lv_iconst (v := (-1)) hx hb dX10_duty_36 (by decide) ?_
        refine lv_goto (tgt := 65) hx hb dX10_duty_37 (by decide) ?_
        refine lv_istore (lv' := [(4, .int (-1)), (3, .int r14), (0, .ref (ad 0)), (1, .int k), (2, .int w)]) hx hb dX10_duty_65 hl (by decide) rfl (fun ls hl => ?_)
        refine lv_iload hx hb dX10_duty_67 (lv_at hl 0 rfl) ?_
        refine lv_if_ge (tgt := 83) hx hb dX10_duty_69 (by decide) (fun c => absurd c (by decide)) (fun _ => ?_)
        refine lv_iload_n hx hb dX10_duty_72 rfl (lv_at hl 4 rfl) ?_
        refine lv_if_ne (tgt := 80) hx hb dX10_duty_73 (by decide) (fun c40 => ?_) (fun c40 => ?_)
        · skip
          have f41 := i_ne c40
          refine lv_ldc hx hb hown (hts (Cond.constant RX10 169 (-1000000)) (wm_t (wm_l (wm_i 5 rfl)))) dX10_duty_80 ?_
          have hP9 := hP
          have hD9 := hD
          exact W.iret (v := (-1000000)) hx hb hr (fun t ht hW => ⟨⟨(-1000000), (), rfl, trivial, by rw [ht]; exact hP9, va_K.moved hW.alike hK, hD9⟩, hS.F ht⟩) hS.2.2 dX10_duty_82
        · skip
          have f42 := i_eq c40
          refine lv_iconst (v := 0) hx hb dX10_duty_76 (by decide) ?_
          refine lv_goto (tgt := 82) hx hb dX10_duty_77 (by decide) ?_
          have hP9 := hP
          have hD9 := hD
          exact W.iret (v := 0) hx hb hr (fun t ht hW => ⟨⟨0, (), rfl, trivial, by rw [ht]; exact hP9, va_K.moved hW.alike hK, hD9⟩, hS.F ht⟩) hS.2.2 dX10_duty_82
    · skip
      have f43 := bo_f hw8 c10
      refine lv_ldc hx hb hown (hts (Cond.constant RX10 89 (-1000001)) (wm_t (wm_l (wm_i 0 rfl)))) dX10_duty_16 ?_
      have hP9 := hP
      have hD9 := hD
      exact W.iret (v := (-1000001)) hx hb hr (fun t ht hW => ⟨⟨(-1000001), (), rfl, trivial, by rw [ht]; exact hP9, va_K.moved hW.alike hK, hD9⟩, hS.F ht⟩) hS.2.2 dX10_duty_18
end
