theorem cdX11_began : yX11_began.cls ≠ "java/lang/invoke/MethodHandle" ∧ yX11_began.cls ≠ "java/lang/invoke/VarHandle" ∧ (parseMethodDescriptor yX11_began.desc).map (fun d => d.parameters.length) = some 1 := by decide +kernel
theorem inX11_owes_X11 : ∀ w ∈ u_ws RX11 TX11 64, w ∈ wsX11_owes := fun _ h => (List.mem_cons_of_mem _ (List.mem_append_right _ h))
theorem Gd_X11_began : gdA wsX11_began := gd_cons (by decide +kernel) (gd_app (gd_all (ws := wsX11_began_o1) (by decide +kernel)) Gd_X110)
theorem inX11_began_X11 : ∀ w ∈ u_ws RX11 TX11 64, w ∈ wsX11_began := fun _ h => (List.mem_cons_of_mem _ (List.mem_append_right _ h))
theorem inX11_plainSize_X11 : ∀ w ∈ u_ws RX11 TX11 64, w ∈ wsX11_plainSize := fun _ h => (List.mem_cons_of_mem _ (List.mem_append_right _ (List.mem_append_left _ h)))
theorem inX11_trace_X11 : ∀ w ∈ u_ws RX11 TX11 64, w ∈ wsX11_trace := fun _ h => (List.mem_cons_of_mem _ (List.mem_append_right _ (List.mem_append_left _ h)))
theorem inX11_count_X11 : ∀ w ∈ u_ws RX11 TX11 64, w ∈ wsX11_count := fun _ h => (List.mem_cons_of_mem _ (List.mem_append_right _ h))
theorem dX11_bits_all0 : decode cX11_bits 0 = .ok (.iconst 0, 1) ∧ decode cX11_bits 1 = .ok (.istore_n 1, 1) ∧ decode cX11_bits 2 = .ok (.iconst 0, 1) ∧ decode cX11_bits 3 = .ok (.istore_n 2, 1) ∧ decode cX11_bits 4 = .ok (.iload_n 2, 1) ∧ decode cX11_bits 5 = .ok (.bipush 12, 2) ∧ decode cX11_bits 7 = .ok (.if_icmp .ge 17, 3) ∧ decode cX11_bits 10 = .ok (.iload_n 1, 1) ∧ decode cX11_bits 11 = .ok (.iload_n 0, 1) ∧ decode cX11_bits 12 = .ok (.iload_n 2, 1) ∧ decode cX11_bits 13 = .ok (.ishr, 1) ∧ decode cX11_bits 14 = .ok (.iconst 1, 1) := by decide +kernel
theorem dX11_bits_0 : decode cX11_bits 0 = .ok (.iconst 0, 1) := dX11_bits_all0.1
theorem dX11_bits_1 : decode cX11_bits 1 = .ok (.istore_n 1, 1) := dX11_bits_all0.2.1
theorem dX11_bits_2 : decode cX11_bits 2 = .ok (.iconst 0, 1) := dX11_bits_all0.2.2.1
theorem dX11_bits_3 : decode cX11_bits 3 = .ok (.istore_n 2, 1) := dX11_bits_all0.2.2.2.1
theorem dX11_bits_4 : decode cX11_bits 4 = .ok (.iload_n 2, 1) := dX11_bits_all0.2.2.2.2.1
theorem dX11_bits_5 : decode cX11_bits 5 = .ok (.bipush 12, 2) := dX11_bits_all0.2.2.2.2.2.1
theorem dX11_bits_7 : decode cX11_bits 7 = .ok (.if_icmp .ge 17, 3) := dX11_bits_all0.2.2.2.2.2.2.1
theorem dX11_bits_10 : decode cX11_bits 10 = .ok (.iload_n 1, 1) := dX11_bits_all0.2.2.2.2.2.2.2.1
theorem dX11_bits_11 : decode cX11_bits 11 = .ok (.iload_n 0, 1) := dX11_bits_all0.2.2.2.2.2.2.2.2.1
theorem dX11_bits_12 : decode cX11_bits 12 = .ok (.iload_n 2, 1) := dX11_bits_all0.2.2.2.2.2.2.2.2.2.1
theorem dX11_bits_13 : decode cX11_bits 13 = .ok (.ishr, 1) := dX11_bits_all0.2.2.2.2.2.2.2.2.2.2.1
theorem dX11_bits_14 : decode cX11_bits 14 = .ok (.iconst 1, 1) := dX11_bits_all0.2.2.2.2.2.2.2.2.2.2.2
theorem dX11_bits_all1 : decode cX11_bits 15 = .ok (.iand, 1) ∧ decode cX11_bits 16 = .ok (.iadd, 1) ∧ decode cX11_bits 17 = .ok (.istore_n 1, 1) ∧ decode cX11_bits 18 = .ok (.iinc 2 1, 3) ∧ decode cX11_bits 21 = .ok (.goto (-17), 3) ∧ decode cX11_bits 24 = .ok (.iload_n 1, 1) ∧ decode cX11_bits 25 = .ok (.ireturn, 1) := by decide +kernel
theorem dX11_bits_15 : decode cX11_bits 15 = .ok (.iand, 1) := dX11_bits_all1.1
theorem dX11_bits_16 : decode cX11_bits 16 = .ok (.iadd, 1) := dX11_bits_all1.2.1
theorem dX11_bits_17 : decode cX11_bits 17 = .ok (.istore_n 1, 1) := dX11_bits_all1.2.2.1
theorem dX11_bits_18 : decode cX11_bits 18 = .ok (.iinc 2 1, 3) := dX11_bits_all1.2.2.2.1
theorem dX11_bits_21 : decode cX11_bits 21 = .ok (.goto (-17), 3) := dX11_bits_all1.2.2.2.2.1
theorem dX11_bits_24 : decode cX11_bits 24 = .ok (.iload_n 1, 1) := dX11_bits_all1.2.2.2.2.2.1
theorem dX11_bits_25 : decode cX11_bits 25 = .ok (.ireturn, 1) := dX11_bits_all1.2.2.2.2.2.2
theorem dX11_owes_all0 : decode cX11_owes 0 = .ok (.iconst 0, 1) ∧ decode cX11_owes 1 = .ok (.istore_n 2, 1) ∧ decode cX11_owes 2 = .ok (.iconst 0, 1) ∧ decode cX11_owes 3 = .ok (.istore_n 3, 1) ∧ decode cX11_owes 4 = .ok (.iload_n 3, 1) ∧ decode cX11_owes 5 = .ok (.aload_n 0, 1) ∧ decode cX11_owes 6 = .ok (.getfield 231, 3) ∧ decode cX11_owes 9 = .ok (.if_icmp .ge 45, 3) ∧ decode cX11_owes 12 = .ok (.iload_n 2, 1) ∧ decode cX11_owes 13 = .ok (.aload_n 0, 1) ∧ decode cX11_owes 14 = .ok (.getfield 69, 3) ∧ decode cX11_owes 17 = .ok (.iload_n 3, 1) := by decide +kernel
theorem dX11_owes_0 : decode cX11_owes 0 = .ok (.iconst 0, 1) := dX11_owes_all0.1
theorem dX11_owes_1 : decode cX11_owes 1 = .ok (.istore_n 2, 1) := dX11_owes_all0.2.1
theorem dX11_owes_2 : decode cX11_owes 2 = .ok (.iconst 0, 1) := dX11_owes_all0.2.2.1
theorem dX11_owes_3 : decode cX11_owes 3 = .ok (.istore_n 3, 1) := dX11_owes_all0.2.2.2.1
theorem dX11_owes_4 : decode cX11_owes 4 = .ok (.iload_n 3, 1) := dX11_owes_all0.2.2.2.2.1
theorem dX11_owes_5 : decode cX11_owes 5 = .ok (.aload_n 0, 1) := dX11_owes_all0.2.2.2.2.2.1
theorem dX11_owes_6 : decode cX11_owes 6 = .ok (.getfield 231, 3) := dX11_owes_all0.2.2.2.2.2.2.1
theorem dX11_owes_9 : decode cX11_owes 9 = .ok (.if_icmp .ge 45, 3) := dX11_owes_all0.2.2.2.2.2.2.2.1
theorem dX11_owes_12 : decode cX11_owes 12 = .ok (.iload_n 2, 1) := dX11_owes_all0.2.2.2.2.2.2.2.2.1
theorem dX11_owes_13 : decode cX11_owes 13 = .ok (.aload_n 0, 1) := dX11_owes_all0.2.2.2.2.2.2.2.2.2.1
theorem dX11_owes_14 : decode cX11_owes 14 = .ok (.getfield 69, 3) := dX11_owes_all0.2.2.2.2.2.2.2.2.2.2.1
theorem dX11_owes_17 : decode cX11_owes 17 = .ok (.iload_n 3, 1) := dX11_owes_all0.2.2.2.2.2.2.2.2.2.2.2
theorem dX11_owes_all1 : decode cX11_owes 18 = .ok (.iaload, 1) ∧ decode cX11_owes 19 = .ok (.iload_n 1, 1) ∧ decode cX11_owes 20 = .ok (.if_icmp .ne 25, 3) ∧ decode cX11_owes 23 = .ok (.aload_n 0, 1) ∧ decode cX11_owes 24 = .ok (.getfield 78, 3) ∧ decode cX11_owes 27 = .ok (.iload_n 3, 1) ∧ decode cX11_owes 28 = .ok (.iaload, 1) ∧ decode cX11_owes 29 = .ok (.aload_n 0, 1) ∧ decode cX11_owes 30 = .ok (.getfield 369, 3) ∧ decode cX11_owes 33 = .ok (.if_icmp .gt 12, 3) ∧ decode cX11_owes 36 = .ok (.aload_n 0, 1) ∧ decode cX11_owes 37 = .ok (.getfield 72, 3) := by decide +kernel
theorem dX11_owes_18 : decode cX11_owes 18 = .ok (.iaload, 1) := dX11_owes_all1.1
theorem dX11_owes_19 : decode cX11_owes 19 = .ok (.iload_n 1, 1) := dX11_owes_all1.2.1
theorem dX11_owes_20 : decode cX11_owes 20 = .ok (.if_icmp .ne 25, 3) := dX11_owes_all1.2.2.1
theorem dX11_owes_23 : decode cX11_owes 23 = .ok (.aload_n 0, 1) := dX11_owes_all1.2.2.2.1
theorem dX11_owes_24 : decode cX11_owes 24 = .ok (.getfield 78, 3) := dX11_owes_all1.2.2.2.2.1
theorem dX11_owes_27 : decode cX11_owes 27 = .ok (.iload_n 3, 1) := dX11_owes_all1.2.2.2.2.2.1
theorem dX11_owes_28 : decode cX11_owes 28 = .ok (.iaload, 1) := dX11_owes_all1.2.2.2.2.2.2.1
theorem dX11_owes_29 : decode cX11_owes 29 = .ok (.aload_n 0, 1) := dX11_owes_all1.2.2.2.2.2.2.2.1
theorem dX11_owes_30 : decode cX11_owes 30 = .ok (.getfield 369, 3) := dX11_owes_all1.2.2.2.2.2.2.2.2.1
theorem dX11_owes_33 : decode cX11_owes 33 = .ok (.if_icmp .gt 12, 3) := dX11_owes_all1.2.2.2.2.2.2.2.2.2.1
theorem dX11_owes_36 : decode cX11_owes 36 = .ok (.aload_n 0, 1) := dX11_owes_all1.2.2.2.2.2.2.2.2.2.2.1
theorem dX11_owes_37 : decode cX11_owes 37 = .ok (.getfield 72, 3) := dX11_owes_all1.2.2.2.2.2.2.2.2.2.2.2
theorem dX11_owes_all2 : decode cX11_owes 40 = .ok (.iload_n 3, 1) ∧ decode cX11_owes 41 = .ok (.iaload, 1) ∧ decode cX11_owes 42 = .ok (.goto 4, 3) ∧ decode cX11_owes 45 = .ok (.iconst 0, 1) ∧ decode cX11_owes 46 = .ok (.iadd, 1) ∧ decode cX11_owes 47 = .ok (.istore_n 2, 1) ∧ decode cX11_owes 48 = .ok (.iinc 3 1, 3) ∧ decode cX11_owes 51 = .ok (.goto (-47), 3) ∧ decode cX11_owes 54 = .ok (.iload_n 2, 1) ∧ decode cX11_owes 55 = .ok (.ireturn, 1) := by decide +kernel
theorem dX11_owes_40 : decode cX11_owes 40 = .ok (.iload_n 3, 1) := dX11_owes_all2.1
theorem dX11_owes_41 : decode cX11_owes 41 = .ok (.iaload, 1) := dX11_owes_all2.2.1
theorem dX11_owes_42 : decode cX11_owes 42 = .ok (.goto 4, 3) := dX11_owes_all2.2.2.1
theorem dX11_owes_45 : decode cX11_owes 45 = .ok (.iconst 0, 1) := dX11_owes_all2.2.2.2.1
theorem dX11_owes_46 : decode cX11_owes 46 = .ok (.iadd, 1) := dX11_owes_all2.2.2.2.2.1
theorem dX11_owes_47 : decode cX11_owes 47 = .ok (.istore_n 2, 1) := dX11_owes_all2.2.2.2.2.2.1
theorem dX11_owes_48 : decode cX11_owes 48 = .ok (.iinc 3 1, 3) := dX11_owes_all2.2.2.2.2.2.2.1
theorem dX11_owes_51 : decode cX11_owes 51 = .ok (.goto (-47), 3) := dX11_owes_all2.2.2.2.2.2.2.2.1
theorem dX11_owes_54 : decode cX11_owes 54 = .ok (.iload_n 2, 1) := dX11_owes_all2.2.2.2.2.2.2.2.2.1
theorem dX11_owes_55 : decode cX11_owes 55 = .ok (.ireturn, 1) := dX11_owes_all2.2.2.2.2.2.2.2.2.2
theorem dX11_isOf_all0 : decode cX11_isOf 0 = .ok (.iload_n 1, 1) ∧ decode cX11_isOf 1 = .ok (.ifCond .eq 18, 3) ∧ decode cX11_isOf 4 = .ok (.iload_n 0, 1) ∧ decode cX11_isOf 5 = .ok (.iload_n 1, 1) ∧ decode cX11_isOf 6 = .ok (.if_icmp .eq 13, 3) ∧ decode cX11_isOf 9 = .ok (.iload_n 1, 1) ∧ decode cX11_isOf 10 = .ok (.iconst 1, 1) ∧ decode cX11_isOf 11 = .ok (.if_icmp .ne 12, 3) ∧ decode cX11_isOf 14 = .ok (.iload_n 0, 1) ∧ decode cX11_isOf 15 = .ok (.iconst 2, 1) ∧ decode cX11_isOf 16 = .ok (.if_icmp .ne 7, 3) ∧ decode cX11_isOf 19 = .ok (.iconst 1, 1) := by decide +kernel
theorem dX11_isOf_0 : decode cX11_isOf 0 = .ok (.iload_n 1, 1) := dX11_isOf_all0.1
theorem dX11_isOf_1 : decode cX11_isOf 1 = .ok (.ifCond .eq 18, 3) := dX11_isOf_all0.2.1
theorem dX11_isOf_4 : decode cX11_isOf 4 = .ok (.iload_n 0, 1) := dX11_isOf_all0.2.2.1
theorem dX11_isOf_5 : decode cX11_isOf 5 = .ok (.iload_n 1, 1) := dX11_isOf_all0.2.2.2.1
theorem dX11_isOf_6 : decode cX11_isOf 6 = .ok (.if_icmp .eq 13, 3) := dX11_isOf_all0.2.2.2.2.1
theorem dX11_isOf_9 : decode cX11_isOf 9 = .ok (.iload_n 1, 1) := dX11_isOf_all0.2.2.2.2.2.1
theorem dX11_isOf_10 : decode cX11_isOf 10 = .ok (.iconst 1, 1) := dX11_isOf_all0.2.2.2.2.2.2.1
theorem dX11_isOf_11 : decode cX11_isOf 11 = .ok (.if_icmp .ne 12, 3) := dX11_isOf_all0.2.2.2.2.2.2.2.1
theorem dX11_isOf_14 : decode cX11_isOf 14 = .ok (.iload_n 0, 1) := dX11_isOf_all0.2.2.2.2.2.2.2.2.1
theorem dX11_isOf_15 : decode cX11_isOf 15 = .ok (.iconst 2, 1) := dX11_isOf_all0.2.2.2.2.2.2.2.2.2.1
theorem dX11_isOf_16 : decode cX11_isOf 16 = .ok (.if_icmp .ne 7, 3) := dX11_isOf_all0.2.2.2.2.2.2.2.2.2.2.1
theorem dX11_isOf_19 : decode cX11_isOf 19 = .ok (.iconst 1, 1) := dX11_isOf_all0.2.2.2.2.2.2.2.2.2.2.2
theorem dX11_isOf_all1 : decode cX11_isOf 20 = .ok (.goto 4, 3) ∧ decode cX11_isOf 23 = .ok (.iconst 0, 1) ∧ decode cX11_isOf 24 = .ok (.ireturn, 1) := by decide +kernel
theorem dX11_isOf_20 : decode cX11_isOf 20 = .ok (.goto 4, 3) := dX11_isOf_all1.1
theorem dX11_isOf_23 : decode cX11_isOf 23 = .ok (.iconst 0, 1) := dX11_isOf_all1.2.1
theorem dX11_isOf_24 : decode cX11_isOf 24 = .ok (.ireturn, 1) := dX11_isOf_all1.2.2
theorem dX11_began_all0 : decode cX11_began 0 = .ok (.aload_n 0, 1) ∧ decode cX11_began 1 = .ok (.getfield 383, 3) ∧ decode cX11_began 4 = .ok (.bipush 16, 2) ∧ decode cX11_began 6 = .ok (.if_icmp .ge 23, 3) ∧ decode cX11_began 9 = .ok (.aload_n 0, 1) ∧ decode cX11_began 10 = .ok (.getfield 132, 3) ∧ decode cX11_began 13 = .ok (.aload_n 0, 1) ∧ decode cX11_began 14 = .ok (.getfield 383, 3) ∧ decode cX11_began 17 = .ok (.iload_n 1, 1) ∧ decode cX11_began 18 = .ok (.iastore, 1) ∧ decode cX11_began 19 = .ok (.aload_n 0, 1) ∧ decode cX11_began 20 = .ok (.dup, 1) := by decide +kernel
theorem dX11_began_0 : decode cX11_began 0 = .ok (.aload_n 0, 1) := dX11_began_all0.1
theorem dX11_began_1 : decode cX11_began 1 = .ok (.getfield 383, 3) := dX11_began_all0.2.1
theorem dX11_began_4 : decode cX11_began 4 = .ok (.bipush 16, 2) := dX11_began_all0.2.2.1
theorem dX11_began_6 : decode cX11_began 6 = .ok (.if_icmp .ge 23, 3) := dX11_began_all0.2.2.2.1
theorem dX11_began_9 : decode cX11_began 9 = .ok (.aload_n 0, 1) := dX11_began_all0.2.2.2.2.1
theorem dX11_began_10 : decode cX11_began 10 = .ok (.getfield 132, 3) := dX11_began_all0.2.2.2.2.2.1
theorem dX11_began_13 : decode cX11_began 13 = .ok (.aload_n 0, 1) := dX11_began_all0.2.2.2.2.2.2.1
theorem dX11_began_14 : decode cX11_began 14 = .ok (.getfield 383, 3) := dX11_began_all0.2.2.2.2.2.2.2.1
theorem dX11_began_17 : decode cX11_began 17 = .ok (.iload_n 1, 1) := dX11_began_all0.2.2.2.2.2.2.2.2.1
theorem dX11_began_18 : decode cX11_began 18 = .ok (.iastore, 1) := dX11_began_all0.2.2.2.2.2.2.2.2.2.1
theorem dX11_began_19 : decode cX11_began 19 = .ok (.aload_n 0, 1) := dX11_began_all0.2.2.2.2.2.2.2.2.2.2.1
theorem dX11_began_20 : decode cX11_began 20 = .ok (.dup, 1) := dX11_began_all0.2.2.2.2.2.2.2.2.2.2.2
theorem dX11_began_all1 : decode cX11_began 21 = .ok (.getfield 383, 3) ∧ decode cX11_began 24 = .ok (.iconst 1, 1) ∧ decode cX11_began 25 = .ok (.iadd, 1) ∧ decode cX11_began 26 = .ok (.putfield 383, 3) ∧ decode cX11_began 29 = .ok (.return_, 1) := by decide +kernel
theorem dX11_began_21 : decode cX11_began 21 = .ok (.getfield 383, 3) := dX11_began_all1.1
theorem dX11_began_24 : decode cX11_began 24 = .ok (.iconst 1, 1) := dX11_began_all1.2.1
theorem dX11_began_25 : decode cX11_began 25 = .ok (.iadd, 1) := dX11_began_all1.2.2.1
theorem dX11_began_26 : decode cX11_began 26 = .ok (.putfield 383, 3) := dX11_began_all1.2.2.2.1
theorem dX11_began_29 : decode cX11_began 29 = .ok (.return_, 1) := dX11_began_all1.2.2.2.2
theorem ggX11_plainSize_X11_began : GoodIn wsX11_plainSize wsX11_began := goodIn_s (fun _ h => wm_t (wm_r (wm_r h))) Gd_X11_began
theorem gX11_plainSize_X11_began : GoodIn wsX11_plainSize (wsV RX11 386 RX11 yX11_began wsX11_began) := goodIn_V (own := RX11) (idx := 386) (C := RX11) (y := yX11_began) (wm_t (wm_l (wm_i 1 rfl))) (wm_t (wm_l (wm_i 2 rfl))) (wm_t (wm_l (wm_i 3 rfl))) (wm_t (wm_l (wm_i 4 rfl))) ggX11_plainSize_X11_began
theorem dX11_plainSize_all0 : decode cX11_plainSize 0 = .ok (.aload_n 0, 1) ∧ decode cX11_plainSize 1 = .ok (.bipush 10, 2) ∧ decode cX11_plainSize 3 = .ok (.invokevirtual 386, 3) ∧ decode cX11_plainSize 6 = .ok (.aload_n 0, 1) ∧ decode cX11_plainSize 7 = .ok (.getfield 51, 3) ∧ decode cX11_plainSize 10 = .ok (.iload_n 1, 1) ∧ decode cX11_plainSize 11 = .ok (.iaload, 1) ∧ decode cX11_plainSize 12 = .ok (.ireturn, 1) := by decide +kernel
theorem dX11_plainSize_0 : decode cX11_plainSize 0 = .ok (.aload_n 0, 1) := dX11_plainSize_all0.1
theorem dX11_plainSize_1 : decode cX11_plainSize 1 = .ok (.bipush 10, 2) := dX11_plainSize_all0.2.1
theorem dX11_plainSize_3 : decode cX11_plainSize 3 = .ok (.invokevirtual 386, 3) := dX11_plainSize_all0.2.2.1
theorem dX11_plainSize_6 : decode cX11_plainSize 6 = .ok (.aload_n 0, 1) := dX11_plainSize_all0.2.2.2.1
theorem dX11_plainSize_7 : decode cX11_plainSize 7 = .ok (.getfield 51, 3) := dX11_plainSize_all0.2.2.2.2.1
theorem dX11_plainSize_10 : decode cX11_plainSize 10 = .ok (.iload_n 1, 1) := dX11_plainSize_all0.2.2.2.2.2.1
theorem dX11_plainSize_11 : decode cX11_plainSize 11 = .ok (.iaload, 1) := dX11_plainSize_all0.2.2.2.2.2.2.1
theorem dX11_plainSize_12 : decode cX11_plainSize 12 = .ok (.ireturn, 1) := dX11_plainSize_all0.2.2.2.2.2.2.2
theorem ggX11_trace_X11_in : GoodIn wsX11_trace wsX11_in := goodIn_s (fun _ h => wm_t (wm_r (wm_r h))) Gd_X11_in
theorem gX11_trace_X11_in : GoodIn wsX11_trace (va_wsS RX11 147 yX11_in wsX11_in) := goodIn_S (own := RX11) (idx := 147) (y := yX11_in) (wm_t (wm_l (wm_i 4 rfl))) (wm_t (wm_l (wm_i 5 rfl))) (wm_t (wm_l (wm_i 6 rfl))) ggX11_trace_X11_in
theorem dX11_trace_all0 : decode cX11_trace 0 = .ok (.aload_n 0, 1) ∧ decode cX11_trace 1 = .ok (.iconst 0, 1) ∧ decode cX11_trace 2 = .ok (.putfield 1, 3) ∧ decode cX11_trace 5 = .ok (.iload_n 1, 1) ∧ decode cX11_trace 6 = .ok (.i2l, 1) ∧ decode cX11_trace 7 = .ok (.lconst 0, 1) ∧ decode cX11_trace 8 = .ok (.aload_n 0, 1) ∧ decode cX11_trace 9 = .ok (.getfield 383, 3) ∧ decode cX11_trace 12 = .ok (.iconst 1, 1) ∧ decode cX11_trace 13 = .ok (.isub, 1) ∧ decode cX11_trace 14 = .ok (.i2l, 1) ∧ decode cX11_trace 15 = .ok (.invokestatic 147, 3) := by decide +kernel
theorem dX11_trace_0 : decode cX11_trace 0 = .ok (.aload_n 0, 1) := dX11_trace_all0.1
theorem dX11_trace_1 : decode cX11_trace 1 = .ok (.iconst 0, 1) := dX11_trace_all0.2.1
theorem dX11_trace_2 : decode cX11_trace 2 = .ok (.putfield 1, 3) := dX11_trace_all0.2.2.1
theorem dX11_trace_5 : decode cX11_trace 5 = .ok (.iload_n 1, 1) := dX11_trace_all0.2.2.2.1
theorem dX11_trace_6 : decode cX11_trace 6 = .ok (.i2l, 1) := dX11_trace_all0.2.2.2.2.1
theorem dX11_trace_7 : decode cX11_trace 7 = .ok (.lconst 0, 1) := dX11_trace_all0.2.2.2.2.2.1
theorem dX11_trace_8 : decode cX11_trace 8 = .ok (.aload_n 0, 1) := dX11_trace_all0.2.2.2.2.2.2.1
theorem dX11_trace_9 : decode cX11_trace 9 = .ok (.getfield 383, 3) := dX11_trace_all0.2.2.2.2.2.2.2.1
theorem dX11_trace_12 : decode cX11_trace 12 = .ok (.iconst 1, 1) := dX11_trace_all0.2.2.2.2.2.2.2.2.1
theorem dX11_trace_13 : decode cX11_trace 13 = .ok (.isub, 1) := dX11_trace_all0.2.2.2.2.2.2.2.2.2.1
theorem dX11_trace_14 : decode cX11_trace 14 = .ok (.i2l, 1) := dX11_trace_all0.2.2.2.2.2.2.2.2.2.2.1
theorem dX11_trace_15 : decode cX11_trace 15 = .ok (.invokestatic 147, 3) := dX11_trace_all0.2.2.2.2.2.2.2.2.2.2.2
theorem dX11_trace_all1 : decode cX11_trace 18 = .ok (.ifCond .eq 12, 3) ∧ decode cX11_trace 21 = .ok (.aload_n 0, 1) ∧ decode cX11_trace 22 = .ok (.getfield 132, 3) ∧ decode cX11_trace 25 = .ok (.iload_n 1, 1) ∧ decode cX11_trace 26 = .ok (.iaload, 1) ∧ decode cX11_trace 27 = .ok (.goto 5, 3) ∧ decode cX11_trace 30 = .ok (.ldc 139, 2) ∧ decode cX11_trace 32 = .ok (.ireturn, 1) := by decide +kernel
theorem dX11_trace_18 : decode cX11_trace 18 = .ok (.ifCond .eq 12, 3) := dX11_trace_all1.1
theorem dX11_trace_21 : decode cX11_trace 21 = .ok (.aload_n 0, 1) := dX11_trace_all1.2.1
theorem dX11_trace_22 : decode cX11_trace 22 = .ok (.getfield 132, 3) := dX11_trace_all1.2.2.1
theorem dX11_trace_25 : decode cX11_trace 25 = .ok (.iload_n 1, 1) := dX11_trace_all1.2.2.2.1
theorem dX11_trace_26 : decode cX11_trace 26 = .ok (.iaload, 1) := dX11_trace_all1.2.2.2.2.1
theorem dX11_trace_27 : decode cX11_trace 27 = .ok (.goto 5, 3) := dX11_trace_all1.2.2.2.2.2.1
theorem dX11_trace_30 : decode cX11_trace 30 = .ok (.ldc 139, 2) := dX11_trace_all1.2.2.2.2.2.2.1
theorem dX11_trace_32 : decode cX11_trace 32 = .ok (.ireturn, 1) := dX11_trace_all1.2.2.2.2.2.2.2
theorem dX11_count_all0 : decode cX11_count 0 = .ok (.aload_n 0, 1) ∧ decode cX11_count 1 = .ok (.iconst 0, 1) ∧ decode cX11_count 2 = .ok (.putfield 1, 3) ∧ decode cX11_count 5 = .ok (.iload_n 1, 1) ∧ decode cX11_count 6 = .ok (.tableswitch 134 0 9 #[54, 89, 94, 99, 104, 109, 114, 119, 124, 129], 54) ∧ decode cX11_count 60 = .ok (.iconst 0, 1) ∧ decode cX11_count 61 = .ok (.istore_n 2, 1) ∧ decode cX11_count 62 = .ok (.iconst 0, 1) ∧ decode cX11_count 63 = .ok (.istore_n 3, 1) ∧ decode cX11_count 64 = .ok (.iload_n 3, 1) ∧ decode cX11_count 65 = .ok (.bipush 8, 2) ∧ decode cX11_count 67 = .ok (.if_icmp .ge 26, 3) := by decide +kernel
theorem dX11_count_0 : decode cX11_count 0 = .ok (.aload_n 0, 1) := dX11_count_all0.1
theorem dX11_count_1 : decode cX11_count 1 = .ok (.iconst 0, 1) := dX11_count_all0.2.1
theorem dX11_count_2 : decode cX11_count 2 = .ok (.putfield 1, 3) := dX11_count_all0.2.2.1
theorem dX11_count_5 : decode cX11_count 5 = .ok (.iload_n 1, 1) := dX11_count_all0.2.2.2.1
theorem dX11_count_6 : decode cX11_count 6 = .ok (.tableswitch 134 0 9 #[54, 89, 94, 99, 104, 109, 114, 119, 124, 129], 54) := dX11_count_all0.2.2.2.2.1
theorem dX11_count_60 : decode cX11_count 60 = .ok (.iconst 0, 1) := dX11_count_all0.2.2.2.2.2.1
theorem dX11_count_61 : decode cX11_count 61 = .ok (.istore_n 2, 1) := dX11_count_all0.2.2.2.2.2.2.1
theorem dX11_count_62 : decode cX11_count 62 = .ok (.iconst 0, 1) := dX11_count_all0.2.2.2.2.2.2.2.1
theorem dX11_count_63 : decode cX11_count 63 = .ok (.istore_n 3, 1) := dX11_count_all0.2.2.2.2.2.2.2.2.1
theorem dX11_count_64 : decode cX11_count 64 = .ok (.iload_n 3, 1) := dX11_count_all0.2.2.2.2.2.2.2.2.2.1
theorem dX11_count_65 : decode cX11_count 65 = .ok (.bipush 8, 2) := dX11_count_all0.2.2.2.2.2.2.2.2.2.2.1
theorem dX11_count_67 : decode cX11_count 67 = .ok (.if_icmp .ge 26, 3) := dX11_count_all0.2.2.2.2.2.2.2.2.2.2.2
theorem dX11_count_all1 : decode cX11_count 70 = .ok (.iload_n 2, 1) ∧ decode cX11_count 71 = .ok (.aload_n 0, 1) ∧ decode cX11_count 72 = .ok (.getfield 13, 3) ∧ decode cX11_count 75 = .ok (.iload_n 3, 1) ∧ decode cX11_count 76 = .ok (.iaload, 1) ∧ decode cX11_count 77 = .ok (.ifCond .lt 7, 3) ∧ decode cX11_count 80 = .ok (.iconst 1, 1) ∧ decode cX11_count 81 = .ok (.goto 4, 3) ∧ decode cX11_count 84 = .ok (.iconst 0, 1) ∧ decode cX11_count 85 = .ok (.iadd, 1) ∧ decode cX11_count 86 = .ok (.istore_n 2, 1) ∧ decode cX11_count 87 = .ok (.iinc 3 1, 3) := by decide +kernel
theorem dX11_count_70 : decode cX11_count 70 = .ok (.iload_n 2, 1) := dX11_count_all1.1
theorem dX11_count_71 : decode cX11_count 71 = .ok (.aload_n 0, 1) := dX11_count_all1.2.1
theorem dX11_count_72 : decode cX11_count 72 = .ok (.getfield 13, 3) := dX11_count_all1.2.2.1
theorem dX11_count_75 : decode cX11_count 75 = .ok (.iload_n 3, 1) := dX11_count_all1.2.2.2.1
theorem dX11_count_76 : decode cX11_count 76 = .ok (.iaload, 1) := dX11_count_all1.2.2.2.2.1
theorem dX11_count_77 : decode cX11_count 77 = .ok (.ifCond .lt 7, 3) := dX11_count_all1.2.2.2.2.2.1
theorem dX11_count_80 : decode cX11_count 80 = .ok (.iconst 1, 1) := dX11_count_all1.2.2.2.2.2.2.1
theorem dX11_count_81 : decode cX11_count 81 = .ok (.goto 4, 3) := dX11_count_all1.2.2.2.2.2.2.2.1
theorem dX11_count_84 : decode cX11_count 84 = .ok (.iconst 0, 1) := dX11_count_all1.2.2.2.2.2.2.2.2.1
theorem dX11_count_85 : decode cX11_count 85 = .ok (.iadd, 1) := dX11_count_all1.2.2.2.2.2.2.2.2.2.1
theorem dX11_count_86 : decode cX11_count 86 = .ok (.istore_n 2, 1) := dX11_count_all1.2.2.2.2.2.2.2.2.2.2.1
theorem dX11_count_87 : decode cX11_count 87 = .ok (.iinc 3 1, 3) := dX11_count_all1.2.2.2.2.2.2.2.2.2.2.2
theorem dX11_count_all2 : decode cX11_count 90 = .ok (.goto (-26), 3) ∧ decode cX11_count 93 = .ok (.iload_n 2, 1) ∧ decode cX11_count 94 = .ok (.ireturn, 1) ∧ decode cX11_count 95 = .ok (.aload_n 0, 1) ∧ decode cX11_count 96 = .ok (.getfield 181, 3) ∧ decode cX11_count 99 = .ok (.ireturn, 1) ∧ decode cX11_count 100 = .ok (.aload_n 0, 1) ∧ decode cX11_count 101 = .ok (.getfield 214, 3) ∧ decode cX11_count 104 = .ok (.ireturn, 1) ∧ decode cX11_count 105 = .ok (.aload_n 0, 1) ∧ decode cX11_count 106 = .ok (.getfield 222, 3) ∧ decode cX11_count 109 = .ok (.ireturn, 1) := by decide +kernel
theorem dX11_count_90 : decode cX11_count 90 = .ok (.goto (-26), 3) := dX11_count_all2.1
theorem dX11_count_93 : decode cX11_count 93 = .ok (.iload_n 2, 1) := dX11_count_all2.2.1
theorem dX11_count_94 : decode cX11_count 94 = .ok (.ireturn, 1) := dX11_count_all2.2.2.1
theorem dX11_count_95 : decode cX11_count 95 = .ok (.aload_n 0, 1) := dX11_count_all2.2.2.2.1
theorem dX11_count_96 : decode cX11_count 96 = .ok (.getfield 181, 3) := dX11_count_all2.2.2.2.2.1
theorem dX11_count_99 : decode cX11_count 99 = .ok (.ireturn, 1) := dX11_count_all2.2.2.2.2.2.1
theorem dX11_count_100 : decode cX11_count 100 = .ok (.aload_n 0, 1) := dX11_count_all2.2.2.2.2.2.2.1
theorem dX11_count_101 : decode cX11_count 101 = .ok (.getfield 214, 3) := dX11_count_all2.2.2.2.2.2.2.2.1
theorem dX11_count_104 : decode cX11_count 104 = .ok (.ireturn, 1) := dX11_count_all2.2.2.2.2.2.2.2.2.1
theorem dX11_count_105 : decode cX11_count 105 = .ok (.aload_n 0, 1) := dX11_count_all2.2.2.2.2.2.2.2.2.2.1
theorem dX11_count_106 : decode cX11_count 106 = .ok (.getfield 222, 3) := dX11_count_all2.2.2.2.2.2.2.2.2.2.2.1
theorem dX11_count_109 : decode cX11_count 109 = .ok (.ireturn, 1) := dX11_count_all2.2.2.2.2.2.2.2.2.2.2.2
theorem dX11_count_all3 : decode cX11_count 110 = .ok (.aload_n 0, 1) ∧ decode cX11_count 111 = .ok (.getfield 231, 3) ∧ decode cX11_count 114 = .ok (.ireturn, 1) ∧ decode cX11_count 115 = .ok (.aload_n 0, 1) ∧ decode cX11_count 116 = .ok (.getfield 314, 3) ∧ decode cX11_count 119 = .ok (.ireturn, 1) ∧ decode cX11_count 120 = .ok (.aload_n 0, 1) ∧ decode cX11_count 121 = .ok (.getfield 319, 3) ∧ decode cX11_count 124 = .ok (.ireturn, 1) ∧ decode cX11_count 125 = .ok (.aload_n 0, 1) ∧ decode cX11_count 126 = .ok (.getfield 354, 3) ∧ decode cX11_count 129 = .ok (.ireturn, 1) := by decide +kernel
theorem dX11_count_110 : decode cX11_count 110 = .ok (.aload_n 0, 1) := dX11_count_all3.1
theorem dX11_count_111 : decode cX11_count 111 = .ok (.getfield 231, 3) := dX11_count_all3.2.1
theorem dX11_count_114 : decode cX11_count 114 = .ok (.ireturn, 1) := dX11_count_all3.2.2.1
theorem dX11_count_115 : decode cX11_count 115 = .ok (.aload_n 0, 1) := dX11_count_all3.2.2.2.1
theorem dX11_count_116 : decode cX11_count 116 = .ok (.getfield 314, 3) := dX11_count_all3.2.2.2.2.1
theorem dX11_count_119 : decode cX11_count 119 = .ok (.ireturn, 1) := dX11_count_all3.2.2.2.2.2.1
theorem dX11_count_120 : decode cX11_count 120 = .ok (.aload_n 0, 1) := dX11_count_all3.2.2.2.2.2.2.1
theorem dX11_count_121 : decode cX11_count 121 = .ok (.getfield 319, 3) := dX11_count_all3.2.2.2.2.2.2.2.1
theorem dX11_count_124 : decode cX11_count 124 = .ok (.ireturn, 1) := dX11_count_all3.2.2.2.2.2.2.2.2.1
theorem dX11_count_125 : decode cX11_count 125 = .ok (.aload_n 0, 1) := dX11_count_all3.2.2.2.2.2.2.2.2.2.1
theorem dX11_count_126 : decode cX11_count 126 = .ok (.getfield 354, 3) := dX11_count_all3.2.2.2.2.2.2.2.2.2.2.1
theorem dX11_count_129 : decode cX11_count 129 = .ok (.ireturn, 1) := dX11_count_all3.2.2.2.2.2.2.2.2.2.2.2
theorem dX11_count_all4 : decode cX11_count 130 = .ok (.aload_n 0, 1) ∧ decode cX11_count 131 = .ok (.getfield 360, 3) ∧ decode cX11_count 134 = .ok (.ireturn, 1) ∧ decode cX11_count 135 = .ok (.aload_n 0, 1) ∧ decode cX11_count 136 = .ok (.getfield 242, 3) ∧ decode cX11_count 139 = .ok (.ireturn, 1) ∧ decode cX11_count 140 = .ok (.ldc 157, 2) ∧ decode cX11_count 142 = .ok (.ireturn, 1) := by decide +kernel
theorem dX11_count_130 : decode cX11_count 130 = .ok (.aload_n 0, 1) := dX11_count_all4.1
theorem dX11_count_131 : decode cX11_count 131 = .ok (.getfield 360, 3) := dX11_count_all4.2.1
theorem dX11_count_134 : decode cX11_count 134 = .ok (.ireturn, 1) := dX11_count_all4.2.2.1
theorem dX11_count_135 : decode cX11_count 135 = .ok (.aload_n 0, 1) := dX11_count_all4.2.2.2.1
theorem dX11_count_136 : decode cX11_count 136 = .ok (.getfield 242, 3) := dX11_count_all4.2.2.2.2.1
theorem dX11_count_139 : decode cX11_count 139 = .ok (.ireturn, 1) := dX11_count_all4.2.2.2.2.2.1
theorem dX11_count_140 : decode cX11_count 140 = .ok (.ldc 157, 2) := dX11_count_all4.2.2.2.2.2.2.1
theorem dX11_count_142 : decode cX11_count 142 = .ok (.ireturn, 1) := dX11_count_all4.2.2.2.2.2.2.2

/-- the bits of a number, as the reference counts them -/
def bmV (a : Int32) : Nat → Int32
  | 0 => 0
  | n + 1 => bmV a n + ((a >>> (nI n &&& 31)) &&& 1)
theorem bmV_s (a : Int32) (n : Nat) : bmV a (n + 1) = bmV a n + ((a >>> (nI n &&& 31)) &&& 1) := rfl

set_option maxHeartbeats 4000000 in
set_option maxRecDepth 100000 in
theorem ct_X11_bits (l : Launch) (D : va_G) (cI cY cJ cQ : ClassId) (sz : Nat) (a : Int32)   : Met l yX11_bits wsX11_bits ({ frames := 0, cells := 0, slots := 0, locals := 0 }) (cPre D (ty4 cI cY cJ cQ) [] sz [.int a]) (va_Qi (fun (r : Int32) (u : Unit) => r = bmV a 12) (cB D (ty4 cI cY cJ cQ) (fun (u : Unit) => []) (va_A [] sz)) (va_A [] sz)) 0 0 (va_A [] sz) := by
  refine Met.ofW (cc := cX11_bits) (maxL := 3) (ret := (some .int)) (by decide) rfl ?_
  intro p e s m args below meth c s₁ B hml hv
  obtain ⟨rfl, hsz, hP, hK, hD0, hN⟩ := hv
  have hx := B.exec
  have hb := B.bytes
  have hr := B.returns
  have hts := atoms_spec (ws := wsX11_bits) B.pre
  have hown : s.vm.findClass RX11 = some m.cls := findClass_of_methodNamed B.named
  have hlocks := B.notSynchronized
  subst hsz
  have hD := hD0.self (sz := s.heap.size)
  generalize hAe : va_A [] s.heap.size = A at hD ⊢
  have hA : ∀ q : Nat, s.heap.size ≤ q → A q := fun q h => by rw [← hAe]; exact Or.inr h
  have hS : va_S A s.heap s.heap [] := va_S.rf
  have hP : va_P D vwCl [] s.heap := hP
  have hl := lv_entry ([.int a]) (n := 3) (Nat.le_of_ble_eq_true rfl)
  rw [lg_entry_eq]
  generalize (lg_sl ([.int a]) ++ List.replicate (3 - (lg_sl ([.int a])).length) Slot.unset).toArray = ls at hl ⊢
  have hl : lv_has ls 3 [(0, .int a)] := hl
  have k0 : (0 : Int32).toInt = 0 := by decide
  have k1 : (1 : Int32).toInt = 1 := by decide
  have k12 : (12 : Int32).toInt = 12 := by decide
  refine lv_iconst (v := 0) hx hb dX11_bits_0 (by decide) ?_
  refine lv_istore_n (lv' := [(1, .int 0), (0, .int a)]) hx hb dX11_bits_1 rfl hl (by decide) rfl (fun ls hl => ?_)
  refine lv_iconst (v := 0) hx hb dX11_bits_2 (by decide) ?_
  refine lv_istore_n (lv' := [(2, .int 0), (1, .int 0), (0, .int a)]) hx hb dX11_bits_3 rfl hl (by decide) rfl (fun ls hl => ?_)
  refine st_loop 4 (fun _ => []) (fun (z : Int32 × Int32) (ls : Array Slot) (H : Heap) (locs : List Loc) => match z with | (q4_1, q4_2) => (0 ≤ q4_2.toInt) ∧ (q4_2.toInt ≤ 12) ∧ (q4_1 = bmV a q4_2.toNatClampNeg) ∧ lv_has ls 3 [(0, .int a), (1, .int q4_1), (2, .int q4_2)] ∧ va_P D vwCl [] H ∧ va_D A [] ∧ va_S A s.heap H locs) (fun (z : Int32 × Int32) => match z with | (q4_1, q4_2) => 12 - q4_2.toInt) ?_ ?_ ((0 : Int32), (0 : Int32)) ⟨(by omega), (by omega), (by rfl), lv_sub hl [2, 1, 0] rfl, hP, hD, hS⟩
  · rintro ⟨q4_1, q4_2⟩ ls H locs ⟨g1, g2, g3, hl, hP, hD, hS⟩
    show (0 : Int) ≤ 12 - q4_2.toInt
    omega
  · rintro n6 ih4 ⟨q4_1, q4_2⟩ ls H locs ⟨g1, g2, g3, hl, hP, hD, hS⟩ hm5
    have hm5 : 12 - q4_2.toInt < (n6 : Int) + 1 := hm5
    replace hl : lv_has ls 3 [(0, .int a), (1, .int q4_1), (2, .int q4_2)] := hl
    replace hP : va_P D vwCl [] H := hP
    replace hD : va_D A [] := hD
    show W _ _ _ _ _ _ _ _ _ _ _ _ _ _ _ (F0 m 4 ls [])
    refine lv_iload_n hx hb dX11_bits_4 rfl (lv_at hl 2 rfl) ?_
    refine lv_bipush (v := 12) hx hb dX11_bits_5 (by decide) ?_
    refine lv_icmp_ge (tgt := 24) hx hb dX11_bits_7 (by decide) (fun c7 => ?_) (fun c7 => ?_)
    · skip
      have f8 := i_le c7
      refine lv_iload_n hx hb dX11_bits_24 rfl (lv_at hl 1 rfl) ?_
      have ce9 := i_cl (x := q4_2) (by omega)
      have ee9 : q4_2.toNatClampNeg = 12 := by omega
      have hz9 := g3
      rw [ee9] at hz9
      have hP9 := hP
      have hD9 := hD
      exact W.iret (v := q4_1) hx hb hr (fun t ht hW => ⟨⟨q4_1, (), rfl, hz9, by rw [ht]; exact hP9, va_K.moved hW.alike hK, hD9⟩, hS.F ht⟩) hS.2.2 dX11_bits_25
    · skip
      have f9 := i_nle c7
      refine lv_iload_n hx hb dX11_bits_10 rfl (lv_at hl 1 rfl) ?_
      refine lv_iload_n hx hb dX11_bits_11 rfl (lv_at hl 0 rfl) ?_
      refine lv_iload_n hx hb dX11_bits_12 rfl (lv_at hl 2 rfl) ?_
      refine lv_ishr hx hb dX11_bits_13 ?_
      refine lv_topi (fun v10 ev10 => ?_)
      refine lv_iconst (v := 1) hx hb dX11_bits_14 (by decide) ?_
      refine lv_iand hx hb dX11_bits_15 ?_
      refine lv_topi (fun v11 ev11 => ?_)
      refine lv_iadd hx hb dX11_bits_16 ?_
      refine lv_topi (fun v12 ev12 => ?_)
      refine lv_istore_n (lv' := [(1, .int v12), (0, .int a), (2, .int q4_2)]) hx hb dX11_bits_17 rfl hl (by decide) rfl (fun ls hl => ?_)
      obtain ⟨v13, ev13⟩ : ∃ y : Int32, y = q4_2 + 1 := ⟨_, rfl⟩
      try have tv13 : v13.toInt = q4_2.toInt + 1 := by rw [ev13]; exact (i_add (x := q4_2) (y := (1 : Int32)) (by rw [k1]; omega) (by rw [k1]; omega)).trans (by rw [k1])
      refine lv_iinc (v := v13) (lv' := [(2, .int v13), (1, .int v12), (0, .int a)]) hx hb dX11_bits_18 hl (k := 2) rfl (by rw [ev13]; rfl) (by decide) rfl (fun ls hl => ?_)
      refine lv_goto (tgt := 4) hx hb dX11_bits_21 (by decide) ?_
      have clk8 := i_cl (x := q4_2) (by omega)
      have clk9 := i_cl (x := v13) (by omega)
      have ek9 : v13.toNatClampNeg = q4_2.toNatClampNeg + 1 := by omega
      have nk9 : nI q4_2.toNatClampNeg = q4_2 := i_nI (by omega)
      exact ih4 (v12, v13) ls H locs ⟨(by omega), (by omega), (by rw [ek9, bmV_s, nk9, ← g3]; (repeat' split) <;> first | (exfalso; omega) | (exfalso; contradiction) | rfl | (subst_vars; rfl)), lv_sub hl [2, 1, 0] rfl, hP.sub [] rfl, hD.sub [] (by decide +kernel) rfl, hS⟩ (by show 12 - v13.toInt < _; omega)


def cnL (b : Bool) (s : Int32 × (Nat → Int32)) (a : Int32) : Int32 × (Nat → Int32) := if b = true then lvT s a else s
theorem cnL_t {P : Prop} [Decidable P] {s u : Int32 × (Nat → Int32)} {a : Int32} (h : P) (e : u = lvT s a) : u = cnL (decide P) s a := by
  unfold cnL
  rw [if_pos (decide_eq_true h), e]
theorem cnL_f {P : Prop} [Decidable P] {s : Int32 × (Nat → Int32)} {a : Int32} (h : ¬ P) : s = cnL (decide P) s a := by
  unfold cnL
  rw [if_neg (by rw [decide_eq_false h]; decide)]
def mkM (w wo ow : Int32) (s : Int32 × (Nat → Int32)) : Int32 × Int32 × (Nat → Int32) := (ow + (if w.toInt = 1 ∨ w.toInt = 2 then 100 else if w.toInt = 3 then 1000 else if w.toInt = 4 then wo else 0), cnL (decide (w.toInt = 4)) (lvT (cnL (decide (w.toInt = 4)) (cnL (decide (w.toInt = 3)) (cnL (decide (w.toInt = 1 ∨ w.toInt = 2)) s 21) 22) 23) 20) 10)
def szM (w wo su ow : Int32) (s : Int32 × (Nat → Int32)) : Int32 × Int32 × (Nat → Int32) := if w.toInt = 3 then (-(mkM w wo ow (lvT s 13)).1, (mkM w wo ow (lvT s 13)).2) else (if w.toInt = 2 then (wo - su) / 2 else wo - su, lvT (cnL (decide (w.toInt = 1 ∨ w.toInt = 2)) (cnL (decide (w.toInt = 2)) s 12) 11) 10)

set_option maxHeartbeats 4000000 in
set_option maxRecDepth 100000 in
theorem ct_X11_owes (l : Launch) (D : va_G) (cI cY cJ cQ : ClassId) (sz : Nat) (md : Nat → Nat) (sd : Int32) (mth mst hn cn pn mq gn mln mnn ln mlt msz mcu mtk mfr mti mfa mfb an un lc td mtn : Int32) (gk gs gd ge : Nat → Int32) (k : Int32)  (h1 : 0 ≤ gn.toInt) (h2 : gn.toInt ≤ 40)  : Met l yX11_owes wsX11_owes ({ frames := 0, cells := 0, slots := 0, locals := 0 }) (cPre D (ty4 cI cY cJ cQ) [(moC md sd mth mst hn cn pn mq gn mln mnn ln mlt msz mcu mtk mfr mti mfa mfb an un lc td mtn), (aI cI (md 26) 40 gk), (aI cI (md 27) 40 gs), (aI cI (md 28) 40 gd), (aI cI (md 29) 40 ge)] sz [.ref (md 64), .int k]) (va_Qi (fun (r : Int32) (u : Unit) => r = suV gk gs ge k td gn.toNatClampNeg) (cB D (ty4 cI cY cJ cQ) (fun (u : Unit) => [(moC md sd mth mst hn cn pn mq gn mln mnn ln mlt msz mcu mtk mfr mti mfa mfb an un lc td mtn), (aI cI (md 26) 40 gk), (aI cI (md 27) 40 gs), (aI cI (md 28) 40 gd), (aI cI (md 29) 40 ge)]) (va_A [(moC md sd mth mst hn cn pn mq gn mln mnn ln mlt msz mcu mtk mfr mti mfa mfb an un lc td mtn), (aI cI (md 26) 40 gk), (aI cI (md 27) 40 gs), (aI cI (md 28) 40 gd), (aI cI (md 29) 40 ge)] sz)) (va_A [(moC md sd mth mst hn cn pn mq gn mln mnn ln mlt msz mcu mtk mfr mti mfa mfb an un lc td mtn), (aI cI (md 26) 40 gk), (aI cI (md 27) 40 gs), (aI cI (md 28) 40 gd), (aI cI (md 29) 40 ge)] sz)) 0 0 (va_A [(moC md sd mth mst hn cn pn mq gn mln mnn ln mlt msz mcu mtk mfr mti mfa mfb an un lc td mtn), (aI cI (md 26) 40 gk), (aI cI (md 27) 40 gs), (aI cI (md 28) 40 gd), (aI cI (md 29) 40 ge)] sz) := by
  refine Met.ofW (cc := cX11_owes) (maxL := 4) (ret := (some .int)) (by decide) rfl ?_
  intro p e s m args below meth c s₁ B hml hv
  obtain ⟨rfl, hsz, hP, hK, hD0, hN⟩ := hv
  have hx := B.exec
  have hb := B.bytes
  have hr := B.returns
  have hts := atoms_spec (ws := wsX11_owes) B.pre
  have hown : s.vm.findClass RX11 = some m.cls := findClass_of_methodNamed B.named
  have hlocks := B.notSynchronized
  subst hsz
  have hD := hD0.self (sz := s.heap.size)
  generalize hAe : va_A [(moC md sd mth mst hn cn pn mq gn mln mnn ln mlt msz mcu mtk mfr mti mfa mfb an un lc td mtn), (aI cI (md 26) 40 gk), (aI cI (md 27) 40 gs), (aI cI (md 28) 40 gd), (aI cI (md 29) 40 ge)] s.heap.size = A at hD ⊢
  have hA : ∀ q : Nat, s.heap.size ≤ q → A q := fun q h => by rw [← hAe]; exact Or.inr h
  have hS : va_S A s.heap s.heap [] := va_S.rf
  have hP : va_P D vwCl [(moC md sd mth mst hn cn pn mq gn mln mnn ln mlt msz mcu mtk mfr mti mfa mfb an un lc td mtn), (aI cI (md 26) 40 gk), (aI cI (md 27) 40 gs), (aI cI (md 28) 40 gd), (aI cI (md 29) 40 ge)] s.heap := hP
  have hl := lv_entry ([.ref (md 64), .int k]) (n := 4) (Nat.le_of_ble_eq_true rfl)
  rw [lg_entry_eq]
  generalize (lg_sl ([.ref (md 64), .int k]) ++ List.replicate (4 - (lg_sl ([.ref (md 64), .int k])).length) Slot.unset).toArray = ls at hl ⊢
  have hl : lv_has ls 4 [(0, .ref (md 64)), (1, .int k)] := hl
  have k0 : (0 : Int32).toInt = 0 := by decide
  have k1 : (1 : Int32).toInt = 1 := by decide
  refine lv_iconst (v := 0) hx hb dX11_owes_0 (by decide) ?_
  refine lv_istore_n (lv' := [(2, .int 0), (0, .ref (md 64)), (1, .int k)]) hx hb dX11_owes_1 rfl hl (by decide) rfl (fun ls hl => ?_)
  refine lv_iconst (v := 0) hx hb dX11_owes_2 (by decide) ?_
  refine lv_istore_n (lv' := [(3, .int 0), (2, .int 0), (0, .ref (md 64)), (1, .int k)]) hx hb dX11_owes_3 rfl hl (by decide) rfl (fun ls hl => ?_)
  refine st_loop 4 (fun _ => []) (fun (z : Int32 × Int32) (ls : Array Slot) (H : Heap) (locs : List Loc) => match z with | (q4_2, q4_3) => (0 ≤ q4_3.toInt) ∧ (q4_3.toInt ≤ gn.toInt) ∧ (q4_2 = suV gk gs ge k td q4_3.toNatClampNeg) ∧ lv_has ls 4 [(0, .ref (md 64)), (1, .int k), (2, .int q4_2), (3, .int q4_3)] ∧ va_P D vwCl [(moC md sd mth mst hn cn pn mq gn mln mnn ln mlt msz mcu mtk mfr mti mfa mfb an un lc td mtn), (aI cI (md 26) 40 gk), (aI cI (md 27) 40 gs), (aI cI (md 28) 40 gd), (aI cI (md 29) 40 ge)] H ∧ va_D A [(moC md sd mth mst hn cn pn mq gn mln mnn ln mlt msz mcu mtk mfr mti mfa mfb an un lc td mtn), (aI cI (md 26) 40 gk), (aI cI (md 27) 40 gs), (aI cI (md 28) 40 gd), (aI cI (md 29) 40 ge)] ∧ va_S A s.heap H locs) (fun (z : Int32 × Int32) => match z with | (q4_2, q4_3) => gn.toInt - q4_3.toInt) ?_ ?_ ((0 : Int32), (0 : Int32)) ⟨(by omega), (by omega), (by rfl), lv_sub hl [2, 3, 1, 0] rfl, hP, hD, hS⟩
  · rintro ⟨q4_2, q4_3⟩ ls H locs ⟨g1, g2, g3, hl, hP, hD, hS⟩
    show (0 : Int) ≤ gn.toInt - q4_3.toInt
    omega
  · rintro n6 ih4 ⟨q4_2, q4_3⟩ ls H locs ⟨g1, g2, g3, hl, hP, hD, hS⟩ hm5
    have hm5 : gn.toInt - q4_3.toInt < (n6 : Int) + 1 := hm5
    replace hl : lv_has ls 4 [(0, .ref (md 64)), (1, .int k), (2, .int q4_2), (3, .int q4_3)] := hl
    replace hP : va_P D vwCl [(moC md sd mth mst hn cn pn mq gn mln mnn ln mlt msz mcu mtk mfr mti mfa mfb an un lc td mtn), (aI cI (md 26) 40 gk), (aI cI (md 27) 40 gs), (aI cI (md 28) 40 gd), (aI cI (md 29) 40 ge)] H := hP
    replace hD : va_D A [(moC md sd mth mst hn cn pn mq gn mln mnn ln mlt msz mcu mtk mfr mti mfa mfb an un lc td mtn), (aI cI (md 26) 40 gk), (aI cI (md 27) 40 gs), (aI cI (md 28) 40 gd), (aI cI (md 29) 40 ge)] := hD
    show W _ _ _ _ _ _ _ _ _ _ _ _ _ _ _ (F0 m 4 ls [])
    refine lv_iload_n hx hb dX11_owes_4 rfl (lv_at hl 3 rfl) ?_
    refine lv_aload_n hx hb dX11_owes_5 rfl (lv_at hl 0 rfl) ?_
    refine va_get (D := D) (ci := 11) (v := .int gn) (C := RX11) (T := TX11) (N := 64) hx hb hts inX11_owes_X11 hown hK hP 0 rfl rfl 25 (by decide) (hts (Cond.fieldLink RX11 231 "PortRoomsModel" "pledges" "I") (wm_t (wm_l (wm_i 0 rfl)))) (fun _ h9 => h9) rfl dX11_owes_6 ?_
    refine lv_icmp_ge (tgt := 54) hx hb dX11_owes_9 (by decide) (fun c7 => ?_) (fun c7 => ?_)
    · skip
      have f8 := i_le c7
      refine lv_iload_n hx hb dX11_owes_54 rfl (lv_at hl 2 rfl) ?_
      have ce8 := i_cl (x := q4_3) (by omega)
      have ce9 := i_cl (x := gn) (by omega)
      have ee9 : q4_3.toNatClampNeg = gn.toNatClampNeg := by omega
      have hz9 := g3
      rw [ee9] at hz9
      have hP9 := hP
      have hD9 := hD
      exact W.iret (v := q4_2) hx hb hr (fun t ht hW => ⟨⟨q4_2, (), rfl, hz9, by rw [ht]; exact hP9, va_K.moved hW.alike hK, hD9⟩, hS.F ht⟩) hS.2.2 dX11_owes_55
    · skip
      have f9 := i_nle c7
      refine lv_iload_n hx hb dX11_owes_12 rfl (lv_at hl 2 rfl) ?_
      refine lv_aload_n hx hb dX11_owes_13 rfl (lv_at hl 0 rfl) ?_
      refine va_get (D := D) (ci := 11) (v := .ref (md 26)) (C := RX11) (T := TX11) (N := 64) hx hb hts inX11_owes_X11 hown hK hP 0 rfl rfl 26 (by decide) (hts (Cond.fieldLink RX11 69 "PortRoomsModel" "pledgeCrate" "[I") (wm_t (wm_l (wm_i 1 rfl)))) (fun _ h9 => h9) rfl dX11_owes_14 ?_
      refine lv_iload_n hx hb dX11_owes_17 rfl (lv_at hl 3 rfl) ?_
      refine va_iald hx hb hK hP 1 0 rfl rfl (i_in (by omega) (by omega)) dX11_owes_18 ?_
      refine lv_topi (fun v10 ev10 => ?_)
      have tlv10 : v10.toInt = (gk q4_3.toNatClampNeg).toInt := by rw [ev10]
      refine lv_iload_n hx hb dX11_owes_19 rfl (lv_at hl 1 rfl) ?_
      refine lv_icmp_ne (tgt := 45) hx hb dX11_owes_20 (by decide) (fun c11 => ?_) (fun c11 => ?_)
      · skip
        have f12 := i_ne c11
        refine lv_iconst (v := 0) hx hb dX11_owes_45 (by decide) ?_
        refine lv_iadd hx hb dX11_owes_46 ?_
        refine lv_topi (fun v13 ev13 => ?_)
        refine lv_istore_n (lv' := [(2, .int v13), (0, .ref (md 64)), (1, .int k), (3, .int q4_3)]) hx hb dX11_owes_47 rfl hl (by decide) rfl (fun ls hl => ?_)
        obtain ⟨v14, ev14⟩ : ∃ y : Int32, y = q4_3 + 1 := ⟨_, rfl⟩
        try have tv14 : v14.toInt = q4_3.toInt + 1 := by rw [ev14]; exact (i_add (x := q4_3) (y := (1 : Int32)) (by rw [k1]; omega) (by rw [k1]; omega)).trans (by rw [k1])
        refine lv_iinc (v := v14) (lv' := [(3, .int v14), (2, .int v13), (0, .ref (md 64)), (1, .int k)]) hx hb dX11_owes_48 hl (k := 3) rfl (by rw [ev14]; rfl) (by decide) rfl (fun ls hl => ?_)
        refine lv_goto (tgt := 4) hx hb dX11_owes_51 (by decide) ?_
        have clk8 := i_cl (x := q4_3) (by omega)
        have clk9 := i_cl (x := v14) (by omega)
        have ek9 : v14.toNatClampNeg = q4_3.toNatClampNeg + 1 := by omega
        exact ih4 (v13, v14) ls H locs ⟨(by omega), (by omega), (by rw [ek9, suV_s, ← g3]; first | (rw [if_neg (by omega), ev13]; exact Int32.add_zero _) | (rw [if_pos (by omega), ev13, eNone])), lv_sub hl [2, 3, 1, 0] rfl, hP.sub [0, 1, 2, 3, 4] rfl, hD.sub [0, 1, 2, 3, 4] (by decide +kernel) rfl, hS⟩ (by show gn.toInt - v14.toInt < _; omega)
      · skip
        have f15 := i_eq c11
        refine lv_aload_n hx hb dX11_owes_23 rfl (lv_at hl 0 rfl) ?_
        refine va_get (D := D) (ci := 11) (v := .ref (md 29)) (C := RX11) (T := TX11) (N := 64) hx hb hts inX11_owes_X11 hown hK hP 0 rfl rfl 29 (by decide) (hts (Cond.fieldLink RX11 78 "PortRoomsModel" "pledgeFiled" "[I") (wm_t (wm_l (wm_i 2 rfl)))) (fun _ h9 => h9) rfl dX11_owes_24 ?_
        refine lv_iload_n hx hb dX11_owes_27 rfl (lv_at hl 3 rfl) ?_
        refine va_iald hx hb hK hP 4 0 rfl rfl (i_in (by omega) (by omega)) dX11_owes_28 ?_
        refine lv_topi (fun v16 ev16 => ?_)
        have tlv16 : v16.toInt = (ge q4_3.toNatClampNeg).toInt := by rw [ev16]
        refine lv_aload_n hx hb dX11_owes_29 rfl (lv_at hl 0 rfl) ?_
        refine va_get (D := D) (ci := 11) (v := .int td) (C := RX11) (T := TX11) (N := 64) hx hb hts inX11_owes_X11 hown hK hP 0 rfl rfl 61 (by decide) (hts (Cond.fieldLink RX11 369 "PortRoomsModel" "theDay" "I") (wm_t (wm_l (wm_i 3 rfl)))) (fun _ h9 => h9) rfl dX11_owes_30 ?_
        refine lv_icmp_gt (tgt := 45) hx hb dX11_owes_33 (by decide) (fun c17 => ?_) (fun c17 => ?_)
        · skip
          have f18 := i_lt c17
          refine lv_iconst (v := 0) hx hb dX11_owes_45 (by decide) ?_
          refine lv_iadd hx hb dX11_owes_46 ?_
          refine lv_topi (fun v19 ev19 => ?_)
          refine lv_istore_n (lv' := [(2, .int v19), (0, .ref (md 64)), (1, .int k), (3, .int q4_3)]) hx hb dX11_owes_47 rfl hl (by decide) rfl (fun ls hl => ?_)
          obtain ⟨v20, ev20⟩ : ∃ y : Int32, y = q4_3 + 1 := ⟨_, rfl⟩
          try have tv20 : v20.toInt = q4_3.toInt + 1 := by rw [ev20]; exact (i_add (x := q4_3) (y := (1 : Int32)) (by rw [k1]; omega) (by rw [k1]; omega)).trans (by rw [k1])
          refine lv_iinc (v := v20) (lv' := [(3, .int v20), (2, .int v19), (0, .ref (md 64)), (1, .int k)]) hx hb dX11_owes_48 hl (k := 3) rfl (by rw [ev20]; rfl) (by decide) rfl (fun ls hl => ?_)
          refine lv_goto (tgt := 4) hx hb dX11_owes_51 (by decide) ?_
          have clk8 := i_cl (x := q4_3) (by omega)
          have clk9 := i_cl (x := v20) (by omega)
          have ek9 : v20.toNatClampNeg = q4_3.toNatClampNeg + 1 := by omega
          exact ih4 (v19, v20) ls H locs ⟨(by omega), (by omega), (by rw [ek9, suV_s, ← g3]; first | (rw [if_neg (by omega), ev19]; exact Int32.add_zero _) | (rw [if_pos (by omega), ev19, eNone])), lv_sub hl [2, 3, 1, 0] rfl, hP.sub [0, 1, 2, 3, 4] rfl, hD.sub [0, 1, 2, 3, 4] (by decide +kernel) rfl, hS⟩ (by show gn.toInt - v20.toInt < _; omega)
        · skip
          have f21 := i_nlt c17
          refine lv_aload_n hx hb dX11_owes_36 rfl (lv_at hl 0 rfl) ?_
          refine va_get (D := D) (ci := 11) (v := .ref (md 27)) (C := RX11) (T := TX11) (N := 64) hx hb hts inX11_owes_X11 hown hK hP 0 rfl rfl 27 (by decide) (hts (Cond.fieldLink RX11 72 "PortRoomsModel" "pledgeSum" "[I") (wm_t (wm_l (wm_i 4 rfl)))) (fun _ h9 => h9) rfl dX11_owes_37 ?_
          refine lv_iload_n hx hb dX11_owes_40 rfl (lv_at hl 3 rfl) ?_
          refine va_iald hx hb hK hP 2 0 rfl rfl (i_in (by omega) (by omega)) dX11_owes_41 ?_
          refine lv_topi (fun v22 ev22 => ?_)
          have tlv22 : v22.toInt = (gs q4_3.toNatClampNeg).toInt := by rw [ev22]
          refine lv_goto (tgt := 46) hx hb dX11_owes_42 (by decide) ?_
          refine lv_iadd hx hb dX11_owes_46 ?_
          refine lv_topi (fun v23 ev23 => ?_)
          refine lv_istore_n (lv' := [(2, .int v23), (0, .ref (md 64)), (1, .int k), (3, .int q4_3)]) hx hb dX11_owes_47 rfl hl (by decide) rfl (fun ls hl => ?_)
          obtain ⟨v24, ev24⟩ : ∃ y : Int32, y = q4_3 + 1 := ⟨_, rfl⟩
          try have tv24 : v24.toInt = q4_3.toInt + 1 := by rw [ev24]; exact (i_add (x := q4_3) (y := (1 : Int32)) (by rw [k1]; omega) (by rw [k1]; omega)).trans (by rw [k1])
          refine lv_iinc (v := v24) (lv' := [(3, .int v24), (2, .int v23), (0, .ref (md 64)), (1, .int k)]) hx hb dX11_owes_48 hl (k := 3) rfl (by rw [ev24]; rfl) (by decide) rfl (fun ls hl => ?_)
          refine lv_goto (tgt := 4) hx hb dX11_owes_51 (by decide) ?_
          have clk8 := i_cl (x := q4_3) (by omega)
          have clk9 := i_cl (x := v24) (by omega)
          have ek9 : v24.toNatClampNeg = q4_3.toNatClampNeg + 1 := by omega
          exact ih4 (v23, v24) ls H locs ⟨(by omega), (by omega), (by rw [ek9, suV_s, ← g3]; first | (rw [if_neg (by omega), ev23]; exact Int32.add_zero _) | (rw [if_pos (by omega), ev23, ev22])), lv_sub hl [2, 3, 1, 0] rfl, hP.sub [0, 1, 2, 3, 4] rfl, hD.sub [0, 1, 2, 3, 4] (by decide +kernel) rfl, hS⟩ (by show gn.toInt - v24.toInt < _; omega)

set_option maxHeartbeats 4000000 in
set_option maxRecDepth 100000 in
theorem ct_X11_isOf (l : Launch) (D : va_G) (cI cY cJ cQ : ClassId) (sz : Nat) (a : Int32) (b : Int32)   : Met l yX11_isOf wsX11_isOf ({ frames := 0, cells := 0, slots := 0, locals := 0 }) (cPre D (ty4 cI cY cJ cQ) [] sz [.int a, .int b]) (va_Qi (fun (r : Int32) (u : Unit) => r = if b.toInt = 0 ∨ b.toInt = a.toInt ∨ (b.toInt = 1 ∧ a.toInt = 2) then 1 else 0) (cB D (ty4 cI cY cJ cQ) (fun (u : Unit) => []) (va_A [] sz)) (va_A [] sz)) 0 0 (va_A [] sz) := by
  refine Met.ofW (cc := cX11_isOf) (maxL := 2) (ret := (some .boolean)) (by decide) rfl ?_
  intro p e s m args below meth c s₁ B hml hv
  obtain ⟨rfl, hsz, hP, hK, hD0, hN⟩ := hv
  have hx := B.exec
  have hb := B.bytes
  have hr := B.returns
  have hts := atoms_spec (ws := wsX11_isOf) B.pre
  have hown : s.vm.findClass RX11 = some m.cls := findClass_of_methodNamed B.named
  have hlocks := B.notSynchronized
  subst hsz
  have hD := hD0.self (sz := s.heap.size)
  generalize hAe : va_A [] s.heap.size = A at hD ⊢
  have hA : ∀ q : Nat, s.heap.size ≤ q → A q := fun q h => by rw [← hAe]; exact Or.inr h
  have hS : va_S A s.heap s.heap [] := va_S.rf
  have hP : va_P D vwCl [] s.heap := hP
  have hl := lv_entry ([.int a, .int b]) (n := 2) (Nat.le_of_ble_eq_true rfl)
  rw [lg_entry_eq]
  generalize (lg_sl ([.int a, .int b]) ++ List.replicate (2 - (lg_sl ([.int a, .int b])).length) Slot.unset).toArray = ls at hl ⊢
  have hl : lv_has ls 2 [(0, .int a), (1, .int b)] := hl
  have k0 : (0 : Int32).toInt = 0 := by decide
  have k1 : (1 : Int32).toInt = 1 := by decide
  have k2 : (2 : Int32).toInt = 2 := by decide
  refine lv_iload_n hx hb dX11_isOf_0 rfl (lv_at hl 1 rfl) ?_
  refine lv_if_eq (tgt := 19) hx hb dX11_isOf_1 (by decide) (fun c1 => ?_) (fun c1 => ?_)
  · skip
    have f2 := i_eq c1
    refine lv_iconst (v := 1) hx hb dX11_isOf_19 (by decide) ?_
    refine lv_goto (tgt := 24) hx hb dX11_isOf_20 (by decide) ?_
    have hP9 := hP
    have hD9 := hD
    exact W.zret (v := 1) hx hb hr rfl (fun t ht hW => ⟨⟨1, (), rfl, bo_yes (by omega), by rw [ht]; exact hP9, va_K.moved hW.alike hK, hD9⟩, hS.F ht⟩) hS.2.2 dX11_isOf_24
  · skip
    have f3 := i_ne c1
    refine lv_iload_n hx hb dX11_isOf_4 rfl (lv_at hl 0 rfl) ?_
    refine lv_iload_n hx hb dX11_isOf_5 rfl (lv_at hl 1 rfl) ?_
    refine lv_icmp_eq (tgt := 19) hx hb dX11_isOf_6 (by decide) (fun c4 => ?_) (fun c4 => ?_)
    · skip
      have f5 := i_eq c4
      refine lv_iconst (v := 1) hx hb dX11_isOf_19 (by decide) ?_
      refine lv_goto (tgt := 24) hx hb dX11_isOf_20 (by decide) ?_
      have hP9 := hP
      have hD9 := hD
      exact W.zret (v := 1) hx hb hr rfl (fun t ht hW => ⟨⟨1, (), rfl, bo_yes (by omega), by rw [ht]; exact hP9, va_K.moved hW.alike hK, hD9⟩, hS.F ht⟩) hS.2.2 dX11_isOf_24
    · skip
      have f6 := i_ne c4
      refine lv_iload_n hx hb dX11_isOf_9 rfl (lv_at hl 1 rfl) ?_
      refine lv_iconst (v := 1) hx hb dX11_isOf_10 (by decide) ?_
      refine lv_icmp_ne (tgt := 23) hx hb dX11_isOf_11 (by decide) (fun c7 => ?_) (fun c7 => ?_)
      · skip
        have f8 := i_ne c7
        refine lv_iconst (v := 0) hx hb dX11_isOf_23 (by decide) ?_
        have hP9 := hP
        have hD9 := hD
        exact W.zret (v := 0) hx hb hr rfl (fun t ht hW => ⟨⟨0, (), rfl, bo_no (by omega), by rw [ht]; exact hP9, va_K.moved hW.alike hK, hD9⟩, hS.F ht⟩) hS.2.2 dX11_isOf_24
      · skip
        have f9 := i_eq c7
        refine lv_iload_n hx hb dX11_isOf_14 rfl (lv_at hl 0 rfl) ?_
        refine lv_iconst (v := 2) hx hb dX11_isOf_15 (by decide) ?_
        refine lv_icmp_ne (tgt := 23) hx hb dX11_isOf_16 (by decide) (fun c10 => ?_) (fun c10 => ?_)
        · skip
          have f11 := i_ne c10
          refine lv_iconst (v := 0) hx hb dX11_isOf_23 (by decide) ?_
          have hP9 := hP
          have hD9 := hD
          exact W.zret (v := 0) hx hb hr rfl (fun t ht hW => ⟨⟨0, (), rfl, bo_no (by omega), by rw [ht]; exact hP9, va_K.moved hW.alike hK, hD9⟩, hS.F ht⟩) hS.2.2 dX11_isOf_24
        · skip
          have f12 := i_eq c10
          refine lv_iconst (v := 1) hx hb dX11_isOf_19 (by decide) ?_
          refine lv_goto (tgt := 24) hx hb dX11_isOf_20 (by decide) ?_
          have hP9 := hP
          have hD9 := hD
          exact W.zret (v := 1) hx hb hr rfl (fun t ht hW => ⟨⟨1, (), rfl, bo_yes (by omega), by rw [ht]; exact hP9, va_K.moved hW.alike hK, hD9⟩, hS.F ht⟩) hS.2.2 dX11_isOf_24

set_option maxHeartbeats 4000000 in
set_option maxRecDepth 100000 in
theorem ct_X11_began (l : Launch) (D : va_G) (cI cY cJ cQ : ClassId) (sz : Nat) (md : Nat → Nat) (sd : Int32) (mth mst hn cn pn mq gn mln mnn ln mlt msz mcu mtk mfr mti mfa mfb an un lc td mtn : Int32) (mtr : Nat → Int32) (a : Int32)  (h1 : 0 ≤ mtn.toInt) (h2 : mtn.toInt ≤ 16)  : Met l yX11_began wsX11_began ({ frames := 0, cells := 0, slots := 0, locals := 0 }) (cPre D (ty4 cI cY cJ cQ) [(moC md sd mth mst hn cn pn mq gn mln mnn ln mlt msz mcu mtk mfr mti mfa mfb an un lc td mtn), (aI cI (md 62) 16 mtr)] sz [.ref (md 64), .int a]) (va_Qv (fun (u : Int32 × (Nat → Int32)) => u = lvT (mtn, mtr) a ∧ 0 ≤ u.1.toInt ∧ u.1.toInt ≤ 16) (cB D (ty4 cI cY cJ cQ) (fun (u : Int32 × (Nat → Int32)) => [(moC md sd mth mst hn cn pn mq gn mln mnn ln mlt msz mcu mtk mfr mti mfa mfb an un lc td u.1), (aI cI (md 62) 16 u.2)]) (va_A [(moC md sd mth mst hn cn pn mq gn mln mnn ln mlt msz mcu mtk mfr mti mfa mfb an un lc td mtn), (aI cI (md 62) 16 mtr)] sz)) (va_A [(moC md sd mth mst hn cn pn mq gn mln mnn ln mlt msz mcu mtk mfr mti mfa mfb an un lc td mtn), (aI cI (md 62) 16 mtr)] sz)) 0 0 (va_A [(moC md sd mth mst hn cn pn mq gn mln mnn ln mlt msz mcu mtk mfr mti mfa mfb an un lc td mtn), (aI cI (md 62) 16 mtr)] sz) := by
  refine Met.ofW (cc := cX11_began) (maxL := 2) (ret := none) (by decide) rfl ?_
  intro p e s m args below meth c s₁ B hml hv
  obtain ⟨rfl, hsz, hP, hK, hD0, hN⟩ := hv
  have hx := B.exec
  have hb := B.bytes
  have hr := B.returns
  have hts := atoms_spec (ws := wsX11_began) B.pre
  have hown : s.vm.findClass RX11 = some m.cls := findClass_of_methodNamed B.named
  have hlocks := B.notSynchronized
  subst hsz
  have hD := hD0.self (sz := s.heap.size)
  generalize hAe : va_A [(moC md sd mth mst hn cn pn mq gn mln mnn ln mlt msz mcu mtk mfr mti mfa mfb an un lc td mtn), (aI cI (md 62) 16 mtr)] s.heap.size = A at hD ⊢
  have hA : ∀ q : Nat, s.heap.size ≤ q → A q := fun q h => by rw [← hAe]; exact Or.inr h
  have hS : va_S A s.heap s.heap [] := va_S.rf
  have hP : va_P D vwCl [(moC md sd mth mst hn cn pn mq gn mln mnn ln mlt msz mcu mtk mfr mti mfa mfb an un lc td mtn), (aI cI (md 62) 16 mtr)] s.heap := hP
  have hl := lv_entry ([.ref (md 64), .int a]) (n := 2) (Nat.le_of_ble_eq_true rfl)
  rw [lg_entry_eq]
  generalize (lg_sl ([.ref (md 64), .int a]) ++ List.replicate (2 - (lg_sl ([.ref (md 64), .int a])).length) Slot.unset).toArray = ls at hl ⊢
  have hl : lv_has ls 2 [(0, .ref (md 64)), (1, .int a)] := hl
  have k1 : (1 : Int32).toInt = 1 := by decide
  have k16 : (16 : Int32).toInt = 16 := by decide
  refine lv_aload_n hx hb dX11_began_0 rfl (lv_at hl 0 rfl) ?_
  refine va_get (D := D) (ci := 11) (v := .int mtn) (C := RX11) (T := TX11) (N := 64) hx hb hts inX11_began_X11 hown hK hP 0 rfl rfl 63 (by decide) (hts (Cond.fieldLink RX11 383 "PortRoomsModel" "traced" "I") (wm_t (wm_l (wm_i 0 rfl)))) (fun _ h9 => h9) rfl dX11_began_1 ?_
  refine lv_bipush (v := 16) hx hb dX11_began_4 (by decide) ?_
  refine lv_icmp_ge (tgt := 29) hx hb dX11_began_6 (by decide) (fun c1 => ?_) (fun c1 => ?_)
  · skip
    have f2 := i_le c1
    have hP9 := hP
    have hD9 := hD
    exact W.vret hx hb hr (fun t ht hW => ⟨⟨(mtn, mtr), rfl, (by show (mtn, mtr) = lvT (mtn, mtr) a ∧ 0 ≤ mtn.toInt ∧ mtn.toInt ≤ 16; exact ⟨lvT_n (by omega), by omega, by omega⟩), by rw [ht]; exact hP9, va_K.moved hW.alike hK, hD9⟩, hS.F ht⟩) hS.2.2 dX11_began_29
  · skip
    have f3 := i_nle c1
    refine lv_aload_n hx hb dX11_began_9 rfl (lv_at hl 0 rfl) ?_
    refine va_get (D := D) (ci := 11) (v := .ref (md 62)) (C := RX11) (T := TX11) (N := 64) hx hb hts inX11_began_X11 hown hK hP 0 rfl rfl 62 (by decide) (hts (Cond.fieldLink RX11 132 "PortRoomsModel" "trace" "[I") (wm_t (wm_l (wm_i 1 rfl)))) (fun _ h9 => h9) rfl dX11_began_10 ?_
    refine lv_aload_n hx hb dX11_began_13 rfl (lv_at hl 0 rfl) ?_
    refine va_get (D := D) (ci := 11) (v := .int mtn) (C := RX11) (T := TX11) (N := 64) hx hb hts inX11_began_X11 hown hK hP 0 rfl rfl 63 (by decide) (hts (Cond.fieldLink RX11 383 "PortRoomsModel" "traced" "I") (wm_t (wm_l (wm_i 0 rfl)))) (fun _ h9 => h9) rfl dX11_began_14 ?_
    refine lv_iload_n hx hb dX11_began_17 rfl (lv_at hl 1 rfl) ?_
    refine va_iast hx hb hK hP hD hS 1 0 rfl rfl (i_in (by omega) (by omega)) dX11_began_18 (fun H locs => ?_)
    clear hP hD hS
    intro hP hD hS
    replace hP : va_P D vwCl [(moC md sd mth mst hn cn pn mq gn mln mnn ln mlt msz mcu mtk mfr mti mfa mfb an un lc td mtn), (aI cI (md 62) 16 (upd mtr mtn.toNatClampNeg a))] H := hP
    replace hD : va_D A [(moC md sd mth mst hn cn pn mq gn mln mnn ln mlt msz mcu mtk mfr mti mfa mfb an un lc td mtn), (aI cI (md 62) 16 (upd mtr mtn.toNatClampNeg a))] := hD
    refine lv_aload_n hx hb dX11_began_19 rfl (lv_at hl 0 rfl) ?_
    refine lv_dup hx hb dX11_began_20 rfl ?_
    refine va_get (D := D) (ci := 11) (v := .int mtn) (C := RX11) (T := TX11) (N := 64) hx hb hts inX11_began_X11 hown hK hP 0 rfl rfl 63 (by decide) (hts (Cond.fieldLink RX11 383 "PortRoomsModel" "traced" "I") (wm_t (wm_l (wm_i 0 rfl)))) (fun _ h9 => h9) rfl dX11_began_21 ?_
    refine lv_iconst (v := 1) hx hb dX11_began_24 (by decide) ?_
    refine lv_iadd hx hb dX11_began_25 ?_
    refine lv_topi (fun v4 ev4 => ?_)
    try have tv4 : v4.toInt = mtn.toInt + 1 := by rw [ev4]; exact (i_add (x := mtn) (y := (1 : Int32)) (by rw [k1]; omega) (by rw [k1]; omega)).trans (by rw [k1])
    refine va_put (D := D) (ci := 11) (v := .int v4) (ty := .int) (C := RX11) (T := TX11) (N := 64) hx hb hts inX11_began_X11 tyX11 tyX11_ok nmX11 hown hK hP hD hS 0 rfl rfl 63 (by decide) (hts (Cond.fieldLink RX11 383 "PortRoomsModel" "traced" "I") (wm_t (wm_l (wm_i 0 rfl)))) (fun _ h9 => h9) rfl (tyX11_ok 63 (by decide)) rfl rfl (Nat.le_of_ble_eq_true rfl) dX11_began_26 (fun H locs => ?_)
    clear hP hD hS
    intro hP hD hS
    replace hP : va_P D vwCl [(moC md sd mth mst hn cn pn mq gn mln mnn ln mlt msz mcu mtk mfr mti mfa mfb an un lc td v4), (aI cI (md 62) 16 (upd mtr mtn.toNatClampNeg a))] H := hP
    replace hD : va_D A [(moC md sd mth mst hn cn pn mq gn mln mnn ln mlt msz mcu mtk mfr mti mfa mfb an un lc td v4), (aI cI (md 62) 16 (upd mtr mtn.toNatClampNeg a))] := hD
    have hP9 := hP
    have hD9 := hD
    exact W.vret hx hb hr (fun t ht hW => ⟨⟨(v4, upd mtr mtn.toNatClampNeg a), rfl, (by show (v4, upd mtr mtn.toNatClampNeg a) = lvT (mtn, mtr) a ∧ 0 ≤ v4.toInt ∧ v4.toInt ≤ 16; exact ⟨lvT_y (by omega) (by assumption), by omega, by omega⟩), by rw [ht]; exact hP9, va_K.moved hW.alike hK, hD9⟩, hS.F ht⟩) hS.2.2 dX11_began_29

set_option maxHeartbeats 4000000 in
set_option maxRecDepth 100000 in
theorem ct_X11_plainSize (l : Launch) (D : va_G) (cI cY cJ cQ : ClassId) (sz : Nat) (md : Nat → Nat) (sd : Int32) (mth mst hn cn pn mq gn mln mnn ln mlt msz mcu mtk mfr mti mfa mfb an un lc td mtn : Int32) (mtr wo : Nat → Int32) (k : Int32)  (h1 : cn.toInt ≤ 12) (h2 : 0 ≤ k.toInt) (h3 : k.toInt < cn.toInt) (h4 : 0 ≤ mtn.toInt) (h5 : mtn.toInt ≤ 16)  : Met l yX11_plainSize wsX11_plainSize ({ frames := 1, cells := 0, slots := 0, locals := 21 }) (cPre D (ty4 cI cY cJ cQ) [(moC md sd mth mst hn cn pn mq gn mln mnn ln mlt msz mcu mtk mfr mti mfa mfb an un lc td mtn), (aI cI (md 62) 16 mtr), (aI cI (md 17) 12 wo)] sz [.ref (md 64), .int k]) (va_Qi (fun (r : Int32) (u : Int32 × (Nat → Int32)) => r = wo k.toNatClampNeg ∧ u = (lvT (mtn, mtr) 10) ∧ 0 ≤ u.1.toInt ∧ u.1.toInt ≤ 16) (cB D (ty4 cI cY cJ cQ) (fun (u : Int32 × (Nat → Int32)) => [(moC md sd mth mst hn cn pn mq gn mln mnn ln mlt msz mcu mtk mfr mti mfa mfb an un lc td u.1), (aI cI (md 62) 16 u.2), (aI cI (md 17) 12 wo)]) (va_A [(moC md sd mth mst hn cn pn mq gn mln mnn ln mlt msz mcu mtk mfr mti mfa mfb an un lc td mtn), (aI cI (md 62) 16 mtr), (aI cI (md 17) 12 wo)] sz)) (va_A [(moC md sd mth mst hn cn pn mq gn mln mnn ln mlt msz mcu mtk mfr mti mfa mfb an un lc td mtn), (aI cI (md 62) 16 mtr), (aI cI (md 17) 12 wo)] sz)) 0 0 (va_A [(moC md sd mth mst hn cn pn mq gn mln mnn ln mlt msz mcu mtk mfr mti mfa mfb an un lc td mtn), (aI cI (md 62) 16 mtr), (aI cI (md 17) 12 wo)] sz) := by
  refine Met.ofW (cc := cX11_plainSize) (maxL := 2) (ret := (some .int)) (by decide) rfl ?_
  intro p e s m args below meth c s₁ B hml hv
  obtain ⟨rfl, hsz, hP, hK, hD0, hN⟩ := hv
  have hx := B.exec
  have hb := B.bytes
  have hr := B.returns
  have hts := atoms_spec (ws := wsX11_plainSize) B.pre
  have hown : s.vm.findClass RX11 = some m.cls := findClass_of_methodNamed B.named
  have hlocks := B.notSynchronized
  subst hsz
  have hD := hD0.self (sz := s.heap.size)
  generalize hAe : va_A [(moC md sd mth mst hn cn pn mq gn mln mnn ln mlt msz mcu mtk mfr mti mfa mfb an un lc td mtn), (aI cI (md 62) 16 mtr), (aI cI (md 17) 12 wo)] s.heap.size = A at hD ⊢
  have hA : ∀ q : Nat, s.heap.size ≤ q → A q := fun q h => by rw [← hAe]; exact Or.inr h
  have hS : va_S A s.heap s.heap [] := va_S.rf
  have hP : va_P D vwCl [(moC md sd mth mst hn cn pn mq gn mln mnn ln mlt msz mcu mtk mfr mti mfa mfb an un lc td mtn), (aI cI (md 62) 16 mtr), (aI cI (md 17) 12 wo)] s.heap := hP
  have hl := lv_entry ([.ref (md 64), .int k]) (n := 2) (Nat.le_of_ble_eq_true rfl)
  rw [lg_entry_eq]
  generalize (lg_sl ([.ref (md 64), .int k]) ++ List.replicate (2 - (lg_sl ([.ref (md 64), .int k])).length) Slot.unset).toArray = ls at hl ⊢
  have hl : lv_has ls 2 [(0, .ref (md 64)), (1, .int k)] := hl
  have k10 : (10 : Int32).toInt = 10 := by decide
  refine lv_aload_n hx hb dX11_plainSize_0 rfl (lv_at hl 0 rfl) ?_
  refine lv_bipush (v := 10) hx hb dX11_plainSize_1 (by decide) ?_
  refine st_v (wr := [(aI cI (md 17) 12 wo)]) (va_runV (C := RX11) (As := [.int 10]) (rest := []) ⟨hx, hb, hml, hown, hts⟩ (ct_X11_began l D cI cY cJ cQ _ md sd mth mst hn cn pn mq gn mln mnn ln mlt msz mcu mtk mfr mti mfa mfb an un lc td mtn mtr (10 : Int32) h4 h5) (cwV 1 hts gX11_plainSize_X11_began rfl rfl rfl ⟨rfl, cdX11_began⟩ ⟨Nat.le_of_ble_eq_true rfl, Nat.le_of_ble_eq_true rfl⟩) (cPreV (hP.sub [0, 1] rfl) hK (hD.sub [0, 1] (by decide +kernel) rfl) hN (ci := 11) (q0 := 0) rfl rfl) rfl rfl hl.1 rfl (lv_room (Nat.le_of_ble_eq_true rfl)) dX11_plainSize_3 ⟨Nat.le_of_ble_eq_true rfl, Nat.le_of_ble_eq_true rfl⟩) hP hD hS hA [0, 1] [2] rfl rfl (by decide +kernel) (by decide +kernel) (fun u1 H locs hw2 => ?_)
  clear hP hD hS
  intro hP hD hS
  obtain ⟨mtn_4, mtr_5⟩ := u1
  replace hw2 : (mtn_4, mtr_5) = lvT (mtn, mtr) (10 : Int32) ∧ 0 ≤ mtn_4.toInt ∧ mtn_4.toInt ≤ 16 := hw2
  replace hP : va_P D vwCl [(aI cI (md 17) 12 wo), (moC md sd mth mst hn cn pn mq gn mln mnn ln mlt msz mcu mtk mfr mti mfa mfb an un lc td mtn_4), (aI cI (md 62) 16 mtr_5)] H := hP
  replace hD : va_D A [(aI cI (md 17) 12 wo), (moC md sd mth mst hn cn pn mq gn mln mnn ln mlt msz mcu mtk mfr mti mfa mfb an un lc td mtn_4), (aI cI (md 62) 16 mtr_5)] := hD
  obtain ⟨hw2, hw2a, hw2b⟩ := hw2
  refine lv_aload_n hx hb dX11_plainSize_6 rfl (lv_at hl 0 rfl) ?_
  refine va_get (D := D) (ci := 11) (v := .ref (md 17)) (C := RX11) (T := TX11) (N := 64) hx hb hts inX11_plainSize_X11 hown hK hP 1 rfl rfl 17 (by decide) (hts (Cond.fieldLink RX11 51 "PortRoomsModel" "worth" "[I") (wm_t (wm_l (wm_i 0 rfl)))) (fun _ h9 => h9) rfl dX11_plainSize_7 ?_
  refine lv_iload_n hx hb dX11_plainSize_10 rfl (lv_at hl 1 rfl) ?_
  refine va_iald hx hb hK hP 0 0 rfl rfl (i_in (by omega) (by omega)) dX11_plainSize_11 ?_
  refine lv_topi (fun v6 ev6 => ?_)
  have hP9 := hP.sub (ws' := [(moC md sd mth mst hn cn pn mq gn mln mnn ln mlt msz mcu mtk mfr mti mfa mfb an un lc td mtn_4), (aI cI (md 62) 16 mtr_5), (aI cI (md 17) 12 wo)]) [1, 2, 0] rfl
  have hD9 := hD.sub (ws' := [(moC md sd mth mst hn cn pn mq gn mln mnn ln mlt msz mcu mtk mfr mti mfa mfb an un lc td mtn_4), (aI cI (md 62) 16 mtr_5), (aI cI (md 17) 12 wo)]) [1, 2, 0] (by decide +kernel) rfl
  exact W.iret (v := v6) hx hb hr (fun t ht hW => ⟨⟨v6, (mtn_4, mtr_5), rfl, (by show v6 = wo k.toNatClampNeg ∧ (mtn_4, mtr_5) = (lvT (mtn, mtr) 10) ∧ 0 ≤ mtn_4.toInt ∧ mtn_4.toInt ≤ 16; exact ⟨ev6, (by rw [hw2]), by omega, by omega⟩), by rw [ht]; exact hP9, va_K.moved hW.alike hK, hD9⟩, hS.F ht⟩) hS.2.2 dX11_plainSize_12

set_option maxHeartbeats 4000000 in
set_option maxRecDepth 100000 in
theorem ct_X11_trace (l : Launch) (D : va_G) (cI cY cJ cQ : ClassId) (sz : Nat) (md : Nat → Nat) (sd : Int32) (mth mst hn cn pn mq gn mln mnn ln mlt msz mcu mtk mfr mti mfa mfb an un lc td mtn : Int32) (mtr : Nat → Int32) (i : Int32)  (h1 : 0 ≤ mtn.toInt) (h2 : mtn.toInt ≤ 16)  : Met l yX11_trace wsX11_trace ({ frames := 1, cells := 0, slots := 0, locals := 25 }) (cPre D (ty4 cI cY cJ cQ) [(moC md sd mth mst hn cn pn mq gn mln mnn ln mlt msz mcu mtk mfr mti mfa mfb an un lc td mtn), (aI cI (md 62) 16 mtr)] sz [.ref (md 64), .int i]) (va_Qi (fun (r : Int32) (u : Unit) => r = sp_trace mtn mtr i) (cB D (ty4 cI cY cJ cQ) (fun (u : Unit) => [(moC md sd 0 mst hn cn pn mq gn mln mnn ln mlt msz mcu mtk mfr mti mfa mfb an un lc td mtn), (aI cI (md 62) 16 mtr)]) (va_A [(moC md sd mth mst hn cn pn mq gn mln mnn ln mlt msz mcu mtk mfr mti mfa mfb an un lc td mtn), (aI cI (md 62) 16 mtr)] sz)) (va_A [(moC md sd mth mst hn cn pn mq gn mln mnn ln mlt msz mcu mtk mfr mti mfa mfb an un lc td mtn), (aI cI (md 62) 16 mtr)] sz)) 0 0 (va_A [(moC md sd mth mst hn cn pn mq gn mln mnn ln mlt msz mcu mtk mfr mti mfa mfb an un lc td mtn), (aI cI (md 62) 16 mtr)] sz) := by
  refine Met.ofW (cc := cX11_trace) (maxL := 2) (ret := (some .int)) (by decide) rfl ?_
  intro p e s m args below meth c s₁ B hml hv
  obtain ⟨rfl, hsz, hP, hK, hD0, hN⟩ := hv
  have hx := B.exec
  have hb := B.bytes
  have hr := B.returns
  have hts := atoms_spec (ws := wsX11_trace) B.pre
  have hown : s.vm.findClass RX11 = some m.cls := findClass_of_methodNamed B.named
  have hlocks := B.notSynchronized
  subst hsz
  have hD := hD0.self (sz := s.heap.size)
  generalize hAe : va_A [(moC md sd mth mst hn cn pn mq gn mln mnn ln mlt msz mcu mtk mfr mti mfa mfb an un lc td mtn), (aI cI (md 62) 16 mtr)] s.heap.size = A at hD ⊢
  have hA : ∀ q : Nat, s.heap.size ≤ q → A q := fun q h => by rw [← hAe]; exact Or.inr h
  have hS : va_S A s.heap s.heap [] := va_S.rf
  have hP : va_P D vwCl [(moC md sd mth mst hn cn pn mq gn mln mnn ln mlt msz mcu mtk mfr mti mfa mfb an un lc td mtn), (aI cI (md 62) 16 mtr)] s.heap := hP
  have hl := lv_entry ([.ref (md 64), .int i]) (n := 2) (Nat.le_of_ble_eq_true rfl)
  rw [lg_entry_eq]
  generalize (lg_sl ([.ref (md 64), .int i]) ++ List.replicate (2 - (lg_sl ([.ref (md 64), .int i])).length) Slot.unset).toArray = ls at hl ⊢
  have hl : lv_has ls 2 [(0, .ref (md 64)), (1, .int i)] := hl
  have km1000000 : (-1000000 : Int32).toInt = -1000000 := by decide
  have k0 : (0 : Int32).toInt = 0 := by decide
  have k1 : (1 : Int32).toInt = 1 := by decide
  have kl0 : (0 : Int64).toInt = 0 := by decide
  refine lv_aload_n hx hb dX11_trace_0 rfl (lv_at hl 0 rfl) ?_
  refine lv_iconst (v := 0) hx hb dX11_trace_1 (by decide) ?_
  refine va_put (D := D) (ci := 11) (v := .int 0) (ty := .int) (C := RX11) (T := TX11) (N := 64) hx hb hts inX11_trace_X11 tyX11 tyX11_ok nmX11 hown hK hP hD hS 0 rfl rfl 0 (by decide) (hts (Cond.fieldLink RX11 1 "PortRoomsModel" "thrown" "I") (wm_t (wm_l (wm_i 0 rfl)))) (fun _ h9 => h9) rfl (tyX11_ok 0 (by decide)) rfl rfl (Nat.le_of_ble_eq_true rfl) dX11_trace_2 (fun H locs => ?_)
  clear hP hD hS
  intro hP hD hS
  replace hP : va_P D vwCl [(moC md sd (0) mst hn cn pn mq gn mln mnn ln mlt msz mcu mtk mfr mti mfa mfb an un lc td mtn), (aI cI (md 62) 16 mtr)] H := hP
  replace hD : va_D A [(moC md sd (0) mst hn cn pn mq gn mln mnn ln mlt msz mcu mtk mfr mti mfa mfb an un lc td mtn), (aI cI (md 62) 16 mtr)] := hD
  refine lv_iload_n hx hb dX11_trace_5 rfl (lv_at hl 1 rfl) ?_
  refine lv_i2l hx hb dX11_trace_6 rfl ?_
  have w1 := i_w i
  have w2 := i_rng i
  refine lv_lconst (v := 0) hx hb dX11_trace_7 (by decide) ?_
  refine lv_aload_n hx hb dX11_trace_8 rfl (lv_at hl 0 rfl) ?_
  refine va_get (D := D) (ci := 11) (v := .int mtn) (C := RX11) (T := TX11) (N := 64) hx hb hts inX11_trace_X11 hown hK hP 0 rfl rfl 63 (by decide) (hts (Cond.fieldLink RX11 383 "PortRoomsModel" "traced" "I") (wm_t (wm_l (wm_i 1 rfl)))) (fun _ h9 => h9) rfl dX11_trace_9 ?_
  refine lv_iconst (v := 1) hx hb dX11_trace_12 (by decide) ?_
  refine lv_isub hx hb dX11_trace_13 ?_
  refine lv_topi (fun v3 ev3 => ?_)
  try have tv3 : v3.toInt = mtn.toInt - 1 := by rw [ev3]; exact (i_sub (x := mtn) (y := (1 : Int32)) (by rw [k1]; omega) (by rw [k1]; omega)).trans (by rw [k1])
  refine lv_i2l hx hb dX11_trace_14 rfl ?_
  have w4 := i_w v3
  have w5 := i_rng v3
  refine st_i1 (va_runS (As := [.long (i.toInt64), .long 0, .long (v3.toInt64)]) (rest := []) ⟨hx, hb, hml, hown, hts⟩ (ct_X11_in l D cI cY cJ cQ _ i.toInt64 (0 : Int64) v3.toInt64) (va_cwS 3 hts gX11_trace_X11_in rfl rfl rfl cdX11_in ⟨Nat.le_of_ble_eq_true rfl, Nat.le_of_ble_eq_true rfl⟩) (cPreS (hP.sub [] rfl) hK (hD.sub [] (by decide +kernel) rfl) hN) rfl rfl hl.1 rfl (lv_room (Nat.le_of_ble_eq_true rfl)) dX11_trace_15 ⟨Nat.le_of_ble_eq_true rfl, Nat.le_of_ble_eq_true rfl⟩) hP hD hS hA [] rfl (fun _ => rfl) (fun r8 u6 H locs hw7 => ?_)
  clear hP hS
  intro hP hS
  replace hw7 : r8 = if (0 : Int64).toInt ≤ i.toInt64.toInt ∧ i.toInt64.toInt ≤ v3.toInt64.toInt then 1 else 0 := hw7
  refine lv_if_eq (tgt := 30) hx hb dX11_trace_18 (by decide) (fun c9 => ?_) (fun c9 => ?_)
  · skip
    have f10 := bo_f hw7 c9
    refine lv_ldc hx hb hown (hts (Cond.constant RX11 139 (-1000000)) (wm_t (wm_l (wm_i 3 rfl)))) dX11_trace_30 ?_
    have hP9 := hP
    have hD9 := hD
    exact W.iret (v := (-1000000)) hx hb hr (fun t ht hW => ⟨⟨(-1000000), (), rfl, (by unfold sp_trace; (repeat' split) <;> first | rfl | (exfalso; omega) | (subst_vars; rfl)), by rw [ht]; exact hP9, va_K.moved hW.alike hK, hD9⟩, hS.F ht⟩) hS.2.2 dX11_trace_32
  · skip
    have f11 := bo_t hw7 c9
    refine lv_aload_n hx hb dX11_trace_21 rfl (lv_at hl 0 rfl) ?_
    refine va_get (D := D) (ci := 11) (v := .ref (md 62)) (C := RX11) (T := TX11) (N := 64) hx hb hts inX11_trace_X11 hown hK hP 0 rfl rfl 62 (by decide) (hts (Cond.fieldLink RX11 132 "PortRoomsModel" "trace" "[I") (wm_t (wm_l (wm_i 2 rfl)))) (fun _ h9 => h9) rfl dX11_trace_22 ?_
    refine lv_iload_n hx hb dX11_trace_25 rfl (lv_at hl 1 rfl) ?_
    refine va_iald hx hb hK hP 1 0 rfl rfl (i_in (by omega) (by omega)) dX11_trace_26 ?_
    refine lv_topi (fun v12 ev12 => ?_)
    refine lv_goto (tgt := 32) hx hb dX11_trace_27 (by decide) ?_
    have hP9 := hP
    have hD9 := hD
    exact W.iret (v := v12) hx hb hr (fun t ht hW => ⟨⟨v12, (), rfl, (by unfold sp_trace; (repeat' split) <;> first | rfl | (exfalso; omega) | (subst_vars; rfl)), by rw [ht]; exact hP9, va_K.moved hW.alike hK, hD9⟩, hS.F ht⟩) hS.2.2 dX11_trace_32

set_option maxHeartbeats 4000000 in
set_option maxRecDepth 100000 in
theorem ct_X11_count (l : Launch) (D : va_G) (cI cY cJ cQ : ClassId) (sz : Nat) (md : Nat → Nat) (sd : Int32) (mth mst hn cn pn mq gn mln mnn ln mlt msz mcu mtk mfr mti mfa mfb an un lc td mtn : Int32) (ml : Nat → Int32) (w : Int32)   : Met l yX11_count wsX11_count ({ frames := 0, cells := 0, slots := 0, locals := 0 }) (cPre D (ty4 cI cY cJ cQ) [(moC md sd mth mst hn cn pn mq gn mln mnn ln mlt msz mcu mtk mfr mti mfa mfb an un lc td mtn), (aI cI (md 3) 8 ml)] sz [.ref (md 64), .int w]) (va_Qi (fun (r : Int32) (u : Unit) => True) (cB D (ty4 cI cY cJ cQ) (fun (u : Unit) => [(moC md sd 0 mst hn cn pn mq gn mln mnn ln mlt msz mcu mtk mfr mti mfa mfb an un lc td mtn), (aI cI (md 3) 8 ml)]) (va_A [(moC md sd mth mst hn cn pn mq gn mln mnn ln mlt msz mcu mtk mfr mti mfa mfb an un lc td mtn), (aI cI (md 3) 8 ml)] sz)) (va_A [(moC md sd mth mst hn cn pn mq gn mln mnn ln mlt msz mcu mtk mfr mti mfa mfb an un lc td mtn), (aI cI (md 3) 8 ml)] sz)) 0 0 (va_A [(moC md sd mth mst hn cn pn mq gn mln mnn ln mlt msz mcu mtk mfr mti mfa mfb an un lc td mtn), (aI cI (md 3) 8 ml)] sz) := by
  refine Met.ofW (cc := cX11_count) (maxL := 4) (ret := (some .int)) (by decide) rfl ?_
  intro p e s m args below meth c s₁ B hml hv
  obtain ⟨rfl, hsz, hP, hK, hD0, hN⟩ := hv
  have hx := B.exec
  have hb := B.bytes
  have hr := B.returns
  have hts := atoms_spec (ws := wsX11_count) B.pre
  have hown : s.vm.findClass RX11 = some m.cls := findClass_of_methodNamed B.named
  have hlocks := B.notSynchronized
  subst hsz
  have hD := hD0.self (sz := s.heap.size)
  generalize hAe : va_A [(moC md sd mth mst hn cn pn mq gn mln mnn ln mlt msz mcu mtk mfr mti mfa mfb an un lc td mtn), (aI cI (md 3) 8 ml)] s.heap.size = A at hD ⊢
  have hA : ∀ q : Nat, s.heap.size ≤ q → A q := fun q h => by rw [← hAe]; exact Or.inr h
  have hS : va_S A s.heap s.heap [] := va_S.rf
  have hP : va_P D vwCl [(moC md sd mth mst hn cn pn mq gn mln mnn ln mlt msz mcu mtk mfr mti mfa mfb an un lc td mtn), (aI cI (md 3) 8 ml)] s.heap := hP
  have hl := lv_entry ([.ref (md 64), .int w]) (n := 4) (Nat.le_of_ble_eq_true rfl)
  rw [lg_entry_eq]
  generalize (lg_sl ([.ref (md 64), .int w]) ++ List.replicate (4 - (lg_sl ([.ref (md 64), .int w])).length) Slot.unset).toArray = ls at hl ⊢
  have hl : lv_has ls 4 [(0, .ref (md 64)), (1, .int w)] := hl
  have k0 : (0 : Int32).toInt = 0 := by decide
  have k1 : (1 : Int32).toInt = 1 := by decide
  have k8 : (8 : Int32).toInt = 8 := by decide
  refine lv_aload_n hx hb dX11_count_0 rfl (lv_at hl 0 rfl) ?_
  refine lv_iconst (v := 0) hx hb dX11_count_1 (by decide) ?_
  refine va_put (D := D) (ci := 11) (v := .int 0) (ty := .int) (C := RX11) (T := TX11) (N := 64) hx hb hts inX11_count_X11 tyX11 tyX11_ok nmX11 hown hK hP hD hS 0 rfl rfl 0 (by decide) (hts (Cond.fieldLink RX11 1 "PortRoomsModel" "thrown" "I") (wm_t (wm_l (wm_i 0 rfl)))) (fun _ h9 => h9) rfl (tyX11_ok 0 (by decide)) rfl rfl (Nat.le_of_ble_eq_true rfl) dX11_count_2 (fun H locs => ?_)
  clear hP hD hS
  intro hP hD hS
  replace hP : va_P D vwCl [(moC md sd (0) mst hn cn pn mq gn mln mnn ln mlt msz mcu mtk mfr mti mfa mfb an un lc td mtn), (aI cI (md 3) 8 ml)] H := hP
  replace hD : va_D A [(moC md sd (0) mst hn cn pn mq gn mln mnn ln mlt msz mcu mtk mfr mti mfa mfb an un lc td mtn), (aI cI (md 3) 8 ml)] := hD
  refine lv_iload_n hx hb dX11_count_5 rfl (lv_at hl 1 rfl) ?_
  rcases (show (w.toInt < 0 ∨ 9 < w.toInt) ∨ w.toInt = 0 ∨ w.toInt = 1 ∨ w.toInt = 2 ∨ w.toInt = 3 ∨ w.toInt = 4 ∨ w.toInt = 5 ∨ w.toInt = 6 ∨ w.toInt = 7 ∨ w.toInt = 8 ∨ w.toInt = 9 by omega) with hsw1 | hsw1 | hsw1 | hsw1 | hsw1 | hsw1 | hsw1 | hsw1 | hsw1 | hsw1 | hsw1
  · skip
    refine lv_tableOut (tgt := 140) hx hb dX11_count_6 hsw1 (by decide) ?_
    refine lv_ldc hx hb hown (hts (Cond.constant RX11 157 (-1000001)) (wm_t (wm_l (wm_i 11 rfl)))) dX11_count_140 ?_
    have hP9 := hP
    have hD9 := hD
    exact W.iret (v := (-1000001)) hx hb hr (fun t ht hW => ⟨⟨(-1000001), (), rfl, trivial, by rw [ht]; exact hP9, va_K.moved hW.alike hK, hD9⟩, hS.F ht⟩) hS.2.2 dX11_count_142
  · skip
    refine lv_tableIn (tgt := 60) (off := 54) hx hb dX11_count_6 (by omega) (by omega) (by rw [hsw1]; rfl) (by decide) ?_
    refine lv_iconst (v := 0) hx hb dX11_count_60 (by decide) ?_
    refine lv_istore_n (lv' := [(2, .int 0), (0, .ref (md 64)), (1, .int w)]) hx hb dX11_count_61 rfl hl (by decide) rfl (fun ls hl => ?_)
    refine lv_iconst (v := 0) hx hb dX11_count_62 (by decide) ?_
    refine lv_istore_n (lv' := [(3, .int 0), (2, .int 0), (0, .ref (md 64)), (1, .int w)]) hx hb dX11_count_63 rfl hl (by decide) rfl (fun ls hl => ?_)
    refine st_loop 64 (fun _ => []) (fun (z : Int32 × Int32) (ls : Array Slot) (H : Heap) (locs : List Loc) => match z with | (q64_2, q64_3) => (0 ≤ q64_3.toInt) ∧ (q64_3.toInt ≤ 8) ∧ (0 ≤ q64_2.toInt) ∧ (q64_2.toInt ≤ q64_3.toInt) ∧ lv_has ls 4 [(0, .ref (md 64)), (1, .int w), (2, .int q64_2), (3, .int q64_3)] ∧ va_P D vwCl [(moC md sd (0) mst hn cn pn mq gn mln mnn ln mlt msz mcu mtk mfr mti mfa mfb an un lc td mtn), (aI cI (md 3) 8 ml)] H ∧ va_D A [(moC md sd (0) mst hn cn pn mq gn mln mnn ln mlt msz mcu mtk mfr mti mfa mfb an un lc td mtn), (aI cI (md 3) 8 ml)] ∧ va_S A s.heap H locs) (fun (z : Int32 × Int32) => match z with | (q64_2, q64_3) => 8 - q64_3.toInt) ?_ ?_ ((0 : Int32), (0 : Int32)) ⟨(by omega), (by omega), (by omega), (by omega), lv_sub hl [2, 3, 1, 0] rfl, hP, hD, hS⟩
    · rintro ⟨q64_2, q64_3⟩ ls H locs ⟨g2, g3, g4, g5, hl, hP, hD, hS⟩
      show (0 : Int) ≤ 8 - q64_3.toInt
      omega
    · rintro n8 ih6 ⟨q64_2, q64_3⟩ ls H locs ⟨g2, g3, g4, g5, hl, hP, hD, hS⟩ hm7
      have hm7 : 8 - q64_3.toInt < (n8 : Int) + 1 := hm7
      replace hl : lv_has ls 4 [(0, .ref (md 64)), (1, .int w), (2, .int q64_2), (3, .int q64_3)] := hl
      replace hP : va_P D vwCl [(moC md sd (0) mst hn cn pn mq gn mln mnn ln mlt msz mcu mtk mfr mti mfa mfb an un lc td mtn), (aI cI (md 3) 8 ml)] H := hP
      replace hD : va_D A [(moC md sd (0) mst hn cn pn mq gn mln mnn ln mlt msz mcu mtk mfr mti mfa mfb an un lc td mtn), (aI cI (md 3) 8 ml)] := hD
      show W _ _ _ _ _ _ _ _ _ _ _ _ _ _ _ (F0 m 64 ls [])
      refine lv_iload_n hx hb dX11_count_64 rfl (lv_at hl 3 rfl) ?_
      refine lv_bipush (v := 8) hx hb dX11_count_65 (by decide) ?_
      refine lv_icmp_ge (tgt := 93) hx hb dX11_count_67 (by decide) (fun c9 => ?_) (fun c9 => ?_)
      · skip
        have f10 := i_le c9
        refine lv_iload_n hx hb dX11_count_93 rfl (lv_at hl 2 rfl) ?_
        have hP9 := hP
        have hD9 := hD
        exact W.iret (v := q64_2) hx hb hr (fun t ht hW => ⟨⟨q64_2, (), rfl, trivial, by rw [ht]; exact hP9, va_K.moved hW.alike hK, hD9⟩, hS.F ht⟩) hS.2.2 dX11_count_94
      · skip
        have f11 := i_nle c9
        refine lv_iload_n hx hb dX11_count_70 rfl (lv_at hl 2 rfl) ?_
        refine lv_aload_n hx hb dX11_count_71 rfl (lv_at hl 0 rfl) ?_
        refine va_get (D := D) (ci := 11) (v := .ref (md 3)) (C := RX11) (T := TX11) (N := 64) hx hb hts inX11_count_X11 hown hK hP 0 rfl rfl 3 (by decide) (hts (Cond.fieldLink RX11 13 "PortRoomsModel" "lane" "[I") (wm_t (wm_l (wm_i 1 rfl)))) (fun _ h9 => h9) rfl dX11_count_72 ?_
        refine lv_iload_n hx hb dX11_count_75 rfl (lv_at hl 3 rfl) ?_
        refine va_iald hx hb hK hP 1 0 rfl rfl (i_in (by omega) (by omega)) dX11_count_76 ?_
        refine lv_topi (fun v12 ev12 => ?_)
        refine lv_if_lt (tgt := 84) hx hb dX11_count_77 (by decide) (fun c13 => ?_) (fun c13 => ?_)
        · skip
          have f14 := i_lt c13
          refine lv_iconst (v := 0) hx hb dX11_count_84 (by decide) ?_
          refine lv_iadd hx hb dX11_count_85 ?_
          refine lv_topi (fun v15 ev15 => ?_)
          try have tv15 : v15.toInt = q64_2.toInt + 0 := by rw [ev15]; exact (i_add (x := q64_2) (y := (0 : Int32)) (by rw [k0]; omega) (by rw [k0]; omega)).trans (by rw [k0])
          refine lv_istore_n (lv' := [(2, .int v15), (0, .ref (md 64)), (1, .int w), (3, .int q64_3)]) hx hb dX11_count_86 rfl hl (by decide) rfl (fun ls hl => ?_)
          obtain ⟨v16, ev16⟩ : ∃ y : Int32, y = q64_3 + 1 := ⟨_, rfl⟩
          try have tv16 : v16.toInt = q64_3.toInt + 1 := by rw [ev16]; exact (i_add (x := q64_3) (y := (1 : Int32)) (by rw [k1]; omega) (by rw [k1]; omega)).trans (by rw [k1])
          refine lv_iinc (v := v16) (lv' := [(3, .int v16), (2, .int v15), (0, .ref (md 64)), (1, .int w)]) hx hb dX11_count_87 hl (k := 3) rfl (by rw [ev16]; rfl) (by decide) rfl (fun ls hl => ?_)
          refine lv_goto (tgt := 64) hx hb dX11_count_90 (by decide) ?_
          exact ih6 (v15, v16) ls H locs ⟨(by omega), (by omega), (by omega), (by omega), lv_sub hl [2, 3, 1, 0] rfl, hP.sub [0, 1] rfl, hD.sub [0, 1] (by decide +kernel) rfl, hS⟩ (by show 8 - v16.toInt < _; omega)
        · skip
          have f17 := i_nlt c13
          refine lv_iconst (v := 1) hx hb dX11_count_80 (by decide) ?_
          refine lv_goto (tgt := 85) hx hb dX11_count_81 (by decide) ?_
          refine lv_iadd hx hb dX11_count_85 ?_
          refine lv_topi (fun v18 ev18 => ?_)
          try have tv18 : v18.toInt = q64_2.toInt + 1 := by rw [ev18]; exact (i_add (x := q64_2) (y := (1 : Int32)) (by rw [k1]; omega) (by rw [k1]; omega)).trans (by rw [k1])
          refine lv_istore_n (lv' := [(2, .int v18), (0, .ref (md 64)), (1, .int w), (3, .int q64_3)]) hx hb dX11_count_86 rfl hl (by decide) rfl (fun ls hl => ?_)
          obtain ⟨v19, ev19⟩ : ∃ y : Int32, y = q64_3 + 1 := ⟨_, rfl⟩
          try have tv19 : v19.toInt = q64_3.toInt + 1 := by rw [ev19]; exact (i_add (x := q64_3) (y := (1 : Int32)) (by rw [k1]; omega) (by rw [k1]; omega)).trans (by rw [k1])
          refine lv_iinc (v := v19) (lv' := [(3, .int v19), (2, .int v18), (0, .ref (md 64)), (1, .int w)]) hx hb dX11_count_87 hl (k := 3) rfl (by rw [ev19]; rfl) (by decide) rfl (fun ls hl => ?_)
          refine lv_goto (tgt := 64) hx hb dX11_count_90 (by decide) ?_
          exact ih6 (v18, v19) ls H locs ⟨(by omega), (by omega), (by omega), (by omega), lv_sub hl [2, 3, 1, 0] rfl, hP.sub [0, 1] rfl, hD.sub [0, 1] (by decide +kernel) rfl, hS⟩ (by show 8 - v19.toInt < _; omega)
  · skip
    refine lv_tableIn (tgt := 95) (off := 89) hx hb dX11_count_6 (by omega) (by omega) (by rw [hsw1]; rfl) (by decide) ?_
    refine lv_aload_n hx hb dX11_count_95 rfl (lv_at hl 0 rfl) ?_
    refine va_get (D := D) (ci := 11) (v := .int hn) (C := RX11) (T := TX11) (N := 64) hx hb hts inX11_count_X11 hown hK hP 0 rfl rfl 6 (by decide) (hts (Cond.fieldLink RX11 181 "PortRoomsModel" "holdings" "I") (wm_t (wm_l (wm_i 2 rfl)))) (fun _ h9 => h9) rfl dX11_count_96 ?_
    have hP9 := hP
    have hD9 := hD
    exact W.iret (v := hn) hx hb hr (fun t ht hW => ⟨⟨hn, (), rfl, trivial, by rw [ht]; exact hP9, va_K.moved hW.alike hK, hD9⟩, hS.F ht⟩) hS.2.2 dX11_count_99
  · skip
    refine lv_tableIn (tgt := 100) (off := 94) hx hb dX11_count_6 (by omega) (by omega) (by rw [hsw1]; rfl) (by decide) ?_
    refine lv_aload_n hx hb dX11_count_100 rfl (lv_at hl 0 rfl) ?_
    refine va_get (D := D) (ci := 11) (v := .int cn) (C := RX11) (T := TX11) (N := 64) hx hb hts inX11_count_X11 hown hK hP 0 rfl rfl 15 (by decide) (hts (Cond.fieldLink RX11 214 "PortRoomsModel" "crates" "I") (wm_t (wm_l (wm_i 3 rfl)))) (fun _ h9 => h9) rfl dX11_count_101 ?_
    have hP9 := hP
    have hD9 := hD
    exact W.iret (v := cn) hx hb hr (fun t ht hW => ⟨⟨cn, (), rfl, trivial, by rw [ht]; exact hP9, va_K.moved hW.alike hK, hD9⟩, hS.F ht⟩) hS.2.2 dX11_count_104
  · skip
    refine lv_tableIn (tgt := 105) (off := 99) hx hb dX11_count_6 (by omega) (by omega) (by rw [hsw1]; rfl) (by decide) ?_
    refine lv_aload_n hx hb dX11_count_105 rfl (lv_at hl 0 rfl) ?_
    refine va_get (D := D) (ci := 11) (v := .int pn) (C := RX11) (T := TX11) (N := 64) hx hb hts inX11_count_X11 hown hK hP 0 rfl rfl 18 (by decide) (hts (Cond.fieldLink RX11 222 "PortRoomsModel" "papers" "I") (wm_t (wm_l (wm_i 4 rfl)))) (fun _ h9 => h9) rfl dX11_count_106 ?_
    have hP9 := hP
    have hD9 := hD
    exact W.iret (v := pn) hx hb hr (fun t ht hW => ⟨⟨pn, (), rfl, trivial, by rw [ht]; exact hP9, va_K.moved hW.alike hK, hD9⟩, hS.F ht⟩) hS.2.2 dX11_count_109
  · skip
    refine lv_tableIn (tgt := 110) (off := 104) hx hb dX11_count_6 (by omega) (by omega) (by rw [hsw1]; rfl) (by decide) ?_
    refine lv_aload_n hx hb dX11_count_110 rfl (lv_at hl 0 rfl) ?_
    refine va_get (D := D) (ci := 11) (v := .int gn) (C := RX11) (T := TX11) (N := 64) hx hb hts inX11_count_X11 hown hK hP 0 rfl rfl 25 (by decide) (hts (Cond.fieldLink RX11 231 "PortRoomsModel" "pledges" "I") (wm_t (wm_l (wm_i 5 rfl)))) (fun _ h9 => h9) rfl dX11_count_111 ?_
    have hP9 := hP
    have hD9 := hD
    exact W.iret (v := gn) hx hb hr (fun t ht hW => ⟨⟨gn, (), rfl, trivial, by rw [ht]; exact hP9, va_K.moved hW.alike hK, hD9⟩, hS.F ht⟩) hS.2.2 dX11_count_114
  · skip
    refine lv_tableIn (tgt := 115) (off := 109) hx hb dX11_count_6 (by omega) (by omega) (by rw [hsw1]; rfl) (by decide) ?_
    refine lv_aload_n hx hb dX11_count_115 rfl (lv_at hl 0 rfl) ?_
    refine va_get (D := D) (ci := 11) (v := .int mln) (C := RX11) (T := TX11) (N := 64) hx hb hts inX11_count_X11 hown hK hP 0 rfl rfl 30 (by decide) (hts (Cond.fieldLink RX11 314 "PortRoomsModel" "lines" "I") (wm_t (wm_l (wm_i 6 rfl)))) (fun _ h9 => h9) rfl dX11_count_116 ?_
    have hP9 := hP
    have hD9 := hD
    exact W.iret (v := mln) hx hb hr (fun t ht hW => ⟨⟨mln, (), rfl, trivial, by rw [ht]; exact hP9, va_K.moved hW.alike hK, hD9⟩, hS.F ht⟩) hS.2.2 dX11_count_119
  · skip
    refine lv_tableIn (tgt := 120) (off := 114) hx hb dX11_count_6 (by omega) (by omega) (by rw [hsw1]; rfl) (by decide) ?_
    refine lv_aload_n hx hb dX11_count_120 rfl (lv_at hl 0 rfl) ?_
    refine va_get (D := D) (ci := 11) (v := .int an) (C := RX11) (T := TX11) (N := 64) hx hb hts inX11_count_X11 hown hK hP 0 rfl rfl 44 (by decide) (hts (Cond.fieldLink RX11 319 "PortRoomsModel" "acts" "I") (wm_t (wm_l (wm_i 7 rfl)))) (fun _ h9 => h9) rfl dX11_count_121 ?_
    have hP9 := hP
    have hD9 := hD
    exact W.iret (v := an) hx hb hr (fun t ht hW => ⟨⟨an, (), rfl, trivial, by rw [ht]; exact hP9, va_K.moved hW.alike hK, hD9⟩, hS.F ht⟩) hS.2.2 dX11_count_124
  · skip
    refine lv_tableIn (tgt := 125) (off := 119) hx hb dX11_count_6 (by omega) (by omega) (by rw [hsw1]; rfl) (by decide) ?_
    refine lv_aload_n hx hb dX11_count_125 rfl (lv_at hl 0 rfl) ?_
    refine va_get (D := D) (ci := 11) (v := .int un) (C := RX11) (T := TX11) (N := 64) hx hb hts inX11_count_X11 hown hK hP 0 rfl rfl 52 (by decide) (hts (Cond.fieldLink RX11 354 "PortRoomsModel" "opens" "I") (wm_t (wm_l (wm_i 8 rfl)))) (fun _ h9 => h9) rfl dX11_count_126 ?_
    have hP9 := hP
    have hD9 := hD
    exact W.iret (v := un) hx hb hr (fun t ht hW => ⟨⟨un, (), rfl, trivial, by rw [ht]; exact hP9, va_K.moved hW.alike hK, hD9⟩, hS.F ht⟩) hS.2.2 dX11_count_129
  · skip
    refine lv_tableIn (tgt := 130) (off := 124) hx hb dX11_count_6 (by omega) (by omega) (by rw [hsw1]; rfl) (by decide) ?_
    refine lv_aload_n hx hb dX11_count_130 rfl (lv_at hl 0 rfl) ?_
    refine va_get (D := D) (ci := 11) (v := .int lc) (C := RX11) (T := TX11) (N := 64) hx hb hts inX11_count_X11 hown hK hP 0 rfl rfl 57 (by decide) (hts (Cond.fieldLink RX11 360 "PortRoomsModel" "lists" "I") (wm_t (wm_l (wm_i 9 rfl)))) (fun _ h9 => h9) rfl dX11_count_131 ?_
    have hP9 := hP
    have hD9 := hD
    exact W.iret (v := lc) hx hb hr (fun t ht hW => ⟨⟨lc, (), rfl, trivial, by rw [ht]; exact hP9, va_K.moved hW.alike hK, hD9⟩, hS.F ht⟩) hS.2.2 dX11_count_134
  · skip
    refine lv_tableIn (tgt := 135) (off := 129) hx hb dX11_count_6 (by omega) (by omega) (by rw [hsw1]; rfl) (by decide) ?_
    refine lv_aload_n hx hb dX11_count_135 rfl (lv_at hl 0 rfl) ?_
    refine va_get (D := D) (ci := 11) (v := .int ln) (C := RX11) (T := TX11) (N := 64) hx hb hts inX11_count_X11 hown hK hP 0 rfl rfl 35 (by decide) (hts (Cond.fieldLink RX11 242 "PortRoomsModel" "taped" "I") (wm_t (wm_l (wm_i 10 rfl)))) (fun _ h9 => h9) rfl dX11_count_136 ?_
    have hP9 := hP
    have hD9 := hD
    exact W.iret (v := ln) hx hb hr (fun t ht hW => ⟨⟨ln, (), rfl, trivial, by rw [ht]; exact hP9, va_K.moved hW.alike hK, hD9⟩, hS.F ht⟩) hS.2.2 dX11_count_139
