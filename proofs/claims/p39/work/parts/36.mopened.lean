section
theorem cdX11_began : yX11_began.cls ≠ "java/lang/invoke/MethodHandle" ∧ yX11_began.cls ≠ "java/lang/invoke/VarHandle" ∧ (parseMethodDescriptor yX11_began.desc).map (fun d => d.parameters.length) = some 1 := by decide +kernel
theorem inX11_owes_X11 : ∀ w ∈ u_ws RX11 TX11 64, w ∈ wsX11_owes := fun _ h => (List.mem_cons_of_mem _ (List.mem_append_right _ h))
theorem Gd_X11_began : gdA wsX11_began := gd_cons (by decide +kernel) (gd_app (gd_all (ws := wsX11_began_o1) (by decide +kernel)) Gd_X110)
theorem inX11_began_X11 : ∀ w ∈ u_ws RX11 TX11 64, w ∈ wsX11_began := fun _ h => (List.mem_cons_of_mem _ (List.mem_append_right _ h))
theorem inX11_plainSize_X11 : ∀ w ∈ u_ws RX11 TX11 64, w ∈ wsX11_plainSize := fun _ h => (List.mem_cons_of_mem _ (List.mem_append_right _ (List.mem_append_left _ h)))
theorem inX11_trace_X11 : ∀ w ∈ u_ws RX11 TX11 64, w ∈ wsX11_trace := fun _ h => (List.mem_cons_of_mem _ (List.mem_append_right _ (List.mem_append_left _ h)))
theorem inX11_count_X11 : ∀ w ∈ u_ws RX11 TX11 64, w ∈ wsX11_count := fun _ h => (List.mem_cons_of_mem _ (List.mem_append_right _ h))
theorem dX11_bits_all0 : decode cX11_bits 0 = .ok (.iconst 0, 1) ∧ decode cX11_bits 1 = .ok (.istore_n 1, 1) ∧ decode cX11_bits 2 = .ok (.iconst 0, 1) ∧ decode cX11_bits 3 = .ok (.istore_n 2, 1) ∧ decode cX11_bits 4 = .ok (.iload_n 2, 1) ∧ decode cX11_bits 5 = .ok (.bipush 12, 2) ∧ decode cX11_bits 7 = .ok (.if_icmp .ge 17, 3) ∧ decode cX11_bits 10 = .ok (.iload_n 1, 1) ∧ decode cX11_bits 11 = .ok (.iload_n 0, 1) ∧ decode cX11_bits 12 = .ok (.iload_n 2, 1) ∧ decode cX11_bits 13 = .ok (.ishr, 1) ∧ decode cX11_bits 14 = .ok (.iconst 1, 1) := by decide +kernel
theorem dX11_bits_0 : decode cX11_bits 0 = .ok (.iconst 0, 1) := dX11_bits_all0.1
theorem dX11_bits_1 : decode cX11_bits 1 = .ok (.istore_n 1, 1) := dX11_bits_all0.2.1
theorem dX11_bits_2 : decode cX11_bits 2 = .ok (.iconst 0, 1) := dX11_bits_all0.2.2.1
theorem dX11_bits_3 : decode cX11_bits 3 = .ok (.istore_n 2, 1) := dX11_bits_all0.2.2.2.1
theorem dX11_bits_4 : decode cX11_bits 4 = .ok (.iload_n 2, 1) := dX11_bits_all0.2.2.2.2.1
theorem dX11_bits_5 : decode cX11_bits 5 = .ok (.bipush 12, 2) := dX11_bits_all0.2.2.2.2.2.1
theorem dX11_bits_7 : decode cX11_bits 7 = .ok (.if_icmp .ge 17, 3) := dX11_bits_all0.2.2.2.2.2.2.1
theorem dX11_bits_10 : decode cX11_bits 10 = .ok (.iload_n 1, 1) := dX11_bits_all0.2.2.2.2.2.2.2.1
theorem dX11_bits_11 : decode cX11_bits 11 = .ok (.iload_n 0, 1) := dX11_bits_all0.2.2.2.2.2.2.2.2.1
theorem dX11_bits_12 : decode cX11_bits 12 = .ok (.iload_n 2, 1) := dX11_bits_all0.2.2.2.2.2.2.2.2.2.1
theorem dX11_bits_13 : decode cX11_bits 13 = .ok (.ishr, 1) := dX11_bits_all0.2.2.2.2.2.2.2.2.2.2.1
theorem dX11_bits_14 : decode cX11_bits 14 = .ok (.iconst 1, 1) := dX11_bits_all0.2.2.2.2.2.2.2.2.2.2.2
theorem dX11_bits_all1 : decode cX11_bits 15 = .ok (.iand, 1) ∧ decode cX11_bits 16 = .ok (.iadd, 1) ∧ decode cX11_bits 17 = .ok (.istore_n 1, 1) ∧ decode cX11_bits 18 = .ok (.iinc 2 1, 3) ∧ decode cX11_bits 21 = .ok (.goto (-17), 3) ∧ decode cX11_bits 24 = .ok (.iload_n 1, 1) ∧ decode cX11_bits 25 = .ok (.ireturn, 1) := by decide +kernel
theorem dX11_bits_15 : decode cX11_bits 15 = .ok (.iand, 1) := dX11_bits_all1.1
theorem dX11_bits_16 : decode cX11_bits 16 = .ok (.iadd, 1) := dX11_bits_all1.2.1
theorem dX11_bits_17 : decode cX11_bits 17 = .ok (.istore_n 1, 1) := dX11_bits_all1.2.2.1
theorem dX11_bits_18 : decode cX11_bits 18 = .ok (.iinc 2 1, 3) := dX11_bits_all1.2.2.2.1
theorem dX11_bits_21 : decode cX11_bits 21 = .ok (.goto (-17), 3) := dX11_bits_all1.2.2.2.2.1
theorem dX11_bits_24 : decode cX11_bits 24 = .ok (.iload_n 1, 1) := dX11_bits_all1.2.2.2.2.2.1
theorem dX11_bits_25 : decode cX11_bits 25 = .ok (.ireturn, 1) := dX11_bits_all1.2.2.2.2.2.2
theorem dX11_owes_all0 : decode cX11_owes 0 = .ok (.iconst 0, 1) ∧ decode cX11_owes 1 = .ok (.istore_n 2, 1) ∧ decode cX11_owes 2 = .ok (.iconst 0, 1) ∧ decode cX11_owes 3 = .ok (.istore_n 3, 1) ∧ decode cX11_owes 4 = .ok (.iload_n 3, 1) ∧ decode cX11_owes 5 = .ok (.aload_n 0, 1) ∧ decode cX11_owes 6 = .ok (.getfield 231, 3) ∧ decode cX11_owes 9 = .ok (.if_icmp .ge 45, 3) ∧ decode cX11_owes 12 = .ok (.iload_n 2, 1) ∧ decode cX11_owes 13 = .ok (.aload_n 0, 1) ∧ decode cX11_owes 14 = .ok (.getfield 69, 3) ∧ decode cX11_owes 17 = .ok (.iload_n 3, 1) := by decide +kernel
theorem dX11_owes_0 : decode cX11_owes 0 = .ok (.iconst 0, 1) := dX11_owes_all0.1
theorem dX11_owes_1 : decode cX11_owes 1 = .ok (.istore_n 2, 1) := dX11_owes_all0.2.1
theorem dX11_owes_2 : decode cX11_owes 2 = .ok (.iconst 0, 1) := dX11_owes_all0.2.2.1
theorem dX11_owes_3 : decode cX11_owes 3 = .ok (.istore_n 3, 1) := dX11_owes_all0.2.2.2.1
theorem dX11_owes_4 : decode cX11_owes 4 = .ok (.iload_n 3, 1) := dX11_owes_all0.2.2.2.2.1
theorem dX11_owes_5 : decode cX11_owes 5 = .ok (.aload_n 0, 1) := dX11_owes_all0.2.2.2.2.2.1
theorem dX11_owes_6 : decode cX11_owes 6 = .ok (.getfield 231, 3) := dX11_owes_all0.2.2.2.2.2.2.1
theorem dX11_owes_9 : decode cX11_owes 9 = .ok (.if_icmp .ge 45, 3) := dX11_owes_all0.2.2.2.2.2.2.2.1
theorem dX11_owes_12 : decode cX11_owes 12 = .ok (.iload_n 2, 1) := dX11_owes_all0.2.2.2.2.2.2.2.2.1
theorem dX11_owes_13 : decode cX11_owes 13 = .ok (.aload_n 0, 1) := dX11_owes_all0.2.2.2.2.2.2.2.2.2.1
theorem dX11_owes_14 : decode cX11_owes 14 = .ok (.getfield 69, 3) := dX11_owes_all0.2.2.2.2.2.2.2.2.2.2.1
theorem dX11_owes_17 : decode cX11_owes 17 = .ok (.iload_n 3, 1) := dX11_owes_all0.2.2.2.2.2.2.2.2.2.2.2
theorem dX11_owes_all1 : decode cX11_owes 18 = .ok (.iaload, 1) ∧ decode cX11_owes 19 = .ok (.iload_n 1, 1) ∧ decode cX11_owes 20 = .ok (.if_icmp .ne 25, 3) ∧ decode cX11_owes 23 = .ok (.aload_n 0, 1) ∧ decode cX11_owes 24 = .ok (.getfield 78, 3) ∧ decode cX11_owes 27 = .ok (.iload_n 3, 1) ∧ decode cX11_owes 28 = .ok (.iaload, 1) ∧ decode cX11_owes 29 = .ok (.aload_n 0, 1) ∧ decode cX11_owes 30 = .ok (.getfield 369, 3) ∧ decode cX11_owes 33 = .ok (.if_icmp .gt 12, 3) ∧ decode cX11_owes 36 = .ok (.aload_n 0, 1) ∧ decode cX11_owes 37 = .ok (.getfield 72, 3) := by decide +kernel
theorem dX11_owes_18 : decode cX11_owes 18 = .ok (.iaload, 1) := dX11_owes_all1.1
theorem dX11_owes_19 : decode cX11_owes 19 = .ok (.iload_n 1, 1) := dX11_owes_all1.2.1
theorem dX11_owes_20 : decode cX11_owes 20 = .ok (.if_icmp .ne 25, 3) := dX11_owes_all1.2.2.1
theorem dX11_owes_23 : decode cX11_owes 23 = .ok (.aload_n 0, 1) := dX11_owes_all1.2.2.2.1
theorem dX11_owes_24 : decode cX11_owes 24 = .ok (.getfield 78, 3) := dX11_owes_all1.2.2.2.2.1
theorem dX11_owes_27 : decode cX11_owes 27 = .ok (.iload_n 3, 1) := dX11_owes_all1.2.2.2.2.2.1
theorem dX11_owes_28 : decode cX11_owes 28 = .ok (.iaload, 1) := dX11_owes_all1.2.2.2.2.2.2.1
theorem dX11_owes_29 : decode cX11_owes 29 = .ok (.aload_n 0, 1) := dX11_owes_all1.2.2.2.2.2.2.2.1
theorem dX11_owes_30 : decode cX11_owes 30 = .ok (.getfield 369, 3) := dX11_owes_all1.2.2.2.2.2.2.2.2.1
theorem dX11_owes_33 : decode cX11_owes 33 = .ok (.if_icmp .gt 12, 3) := dX11_owes_all1.2.2.2.2.2.2.2.2.2.1
theorem dX11_owes_36 : decode cX11_owes 36 = .ok (.aload_n 0, 1) := dX11_owes_all1.2.2.2.2.2.2.2.2.2.2.1
theorem dX11_owes_37 : decode cX11_owes 37 = .ok (.getfield 72, 3) := dX11_owes_all1.2.2.2.2.2.2.2.2.2.2.2
theorem dX11_owes_all2 : decode cX11_owes 40 = .ok (.iload_n 3, 1) ∧ decode cX11_owes 41 = .ok (.iaload, 1) ∧ decode cX11_owes 42 = .ok (.goto 4, 3) ∧ decode cX11_owes 45 = .ok (.iconst 0, 1) ∧ decode cX11_owes 46 = .ok (.iadd, 1) ∧ decode cX11_owes 47 = .ok (.istore_n 2, 1) ∧ decode cX11_owes 48 = .ok (.iinc 3 1, 3) ∧ decode cX11_owes 51 = .ok (.goto (-47), 3) ∧ decode cX11_owes 54 = .ok (.iload_n 2, 1) ∧ decode cX11_owes 55 = .ok (.ireturn, 1) := by decide +kernel
theorem dX11_owes_40 : decode cX11_owes 40 = .ok (.iload_n 3, 1) := dX11_owes_all2.1
theorem dX11_owes_41 : decode cX11_owes 41 = .ok (.iaload, 1) := dX11_owes_all2.2.1
theorem dX11_owes_42 : decode cX11_owes 42 = .ok (.goto 4, 3) := dX11_owes_all2.2.2.1
theorem dX11_owes_45 : decode cX11_owes 45 = .ok (.iconst 0, 1) := dX11_owes_all2.2.2.2.1
theorem dX11_owes_46 : decode cX11_owes 46 = .ok (.iadd, 1) := dX11_owes_all2.2.2.2.2.1
theorem dX11_owes_47 : decode cX11_owes 47 = .ok (.istore_n 2, 1) := dX11_owes_all2.2.2.2.2.2.1
theorem dX11_owes_48 : decode cX11_owes 48 = .ok (.iinc 3 1, 3) := dX11_owes_all2.2.2.2.2.2.2.1
theorem dX11_owes_51 : decode cX11_owes 51 = .ok (.goto (-47), 3) := dX11_owes_all2.2.2.2.2.2.2.2.1
theorem dX11_owes_54 : decode cX11_owes 54 = .ok (.iload_n 2, 1) := dX11_owes_all2.2.2.2.2.2.2.2.2.1
theorem dX11_owes_55 : decode cX11_owes 55 = .ok (.ireturn, 1) := dX11_owes_all2.2.2.2.2.2.2.2.2.2
theorem dX11_isOf_all0 : decode cX11_isOf 0 = .ok (.iload_n 1, 1) ∧ decode cX11_isOf 1 = .ok (.ifCond .eq 18, 3) ∧ decode cX11_isOf 4 = .ok (.iload_n 0, 1) ∧ decode cX11_isOf 5 = .ok (.iload_n 1, 1) ∧ decode cX11_isOf 6 = .ok (.if_icmp .eq 13, 3) ∧ decode cX11_isOf 9 = .ok (.iload_n 1, 1) ∧ decode cX11_isOf 10 = .ok (.iconst 1, 1) ∧ decode cX11_isOf 11 = .ok (.if_icmp .ne 12, 3) ∧ decode cX11_isOf 14 = .ok (.iload_n 0, 1) ∧ decode cX11_isOf 15 = .ok (.iconst 2, 1) ∧ decode cX11_isOf 16 = .ok (.if_icmp .ne 7, 3) ∧ decode cX11_isOf 19 = .ok (.iconst 1, 1) := by decide +kernel
theorem dX11_isOf_0 : decode cX11_isOf 0 = .ok (.iload_n 1, 1) := dX11_isOf_all0.1
theorem dX11_isOf_1 : decode cX11_isOf 1 = .ok (.ifCond .eq 18, 3) := dX11_isOf_all0.2.1
theorem dX11_isOf_4 : decode cX11_isOf 4 = .ok (.iload_n 0, 1) := dX11_isOf_all0.2.2.1
theorem dX11_isOf_5 : decode cX11_isOf 5 = .ok (.iload_n 1, 1) := dX11_isOf_all0.2.2.2.1
theorem dX11_isOf_6 : decode cX11_isOf 6 = .ok (.if_icmp .eq 13, 3) := dX11_isOf_all0.2.2.2.2.1
theorem dX11_isOf_9 : decode cX11_isOf 9 = .ok (.iload_n 1, 1) := dX11_isOf_all0.2.2.2.2.2.1
theorem dX11_isOf_10 : decode cX11_isOf 10 = .ok (.iconst 1, 1) := dX11_isOf_all0.2.2.2.2.2.2.1
theorem dX11_isOf_11 : decode cX11_isOf 11 = .ok (.if_icmp .ne 12, 3) := dX11_isOf_all0.2.2.2.2.2.2.2.1
theorem dX11_isOf_14 : decode cX11_isOf 14 = .ok (.iload_n 0, 1) := dX11_isOf_all0.2.2.2.2.2.2.2.2.1
theorem dX11_isOf_15 : decode cX11_isOf 15 = .ok (.iconst 2, 1) := dX11_isOf_all0.2.2.2.2.2.2.2.2.2.1
theorem dX11_isOf_16 : decode cX11_isOf 16 = .ok (.if_icmp .ne 7, 3) := dX11_isOf_all0.2.2.2.2.2.2.2.2.2.2.1
theorem dX11_isOf_19 : decode cX11_isOf 19 = .ok (.iconst 1, 1) := dX11_isOf_all0.2.2.2.2.2.2.2.2.2.2.2
theorem dX11_isOf_all1 : decode cX11_isOf 20 = .ok (.goto 4, 3) ∧ decode cX11_isOf 23 = .ok (.iconst 0, 1) ∧ decode cX11_isOf 24 = .ok (.ireturn, 1) := by decide +kernel
theorem dX11_isOf_20 : decode cX11_isOf 20 = .ok (.goto 4, 3) := dX11_isOf_all1.1
theorem dX11_isOf_23 : decode cX11_isOf 23 = .ok (.iconst 0, 1) := dX11_isOf_all1.2.1
theorem dX11_isOf_24 : decode cX11_isOf 24 = .ok (.ireturn, 1) := dX11_isOf_all1.2.2
theorem dX11_began_all0 : decode cX11_began 0 = .ok (.aload_n 0, 1) ∧ decode cX11_began 1 = .ok (.getfield 383, 3) ∧ decode cX11_began 4 = .ok (.bipush 16, 2) ∧ decode cX11_began 6 = .ok (.if_icmp .ge 23, 3) ∧ decode cX11_began 9 = .ok (.aload_n 0, 1) ∧ decode cX11_began 10 = .ok (.getfield 132, 3) ∧ decode cX11_began 13 = .ok (.aload_n 0, 1) ∧ decode cX11_began 14 = .ok (.getfield 383, 3) ∧ decode cX11_began 17 = .ok (.iload_n 1, 1) ∧ decode cX11_began 18 = .ok (.iastore, 1) ∧ decode cX11_began 19 = .ok (.aload_n 0, 1) ∧ decode cX11_began 20 = .ok (.dup, 1) := by decide +kernel
theorem dX11_began_0 : decode cX11_began 0 = .ok (.aload_n 0, 1) := dX11_began_all0.1
theorem dX11_began_1 : decode cX11_began 1 = .ok (.getfield 383, 3) := dX11_began_all0.2.1
theorem dX11_began_4 : decode cX11_began 4 = .ok (.bipush 16, 2) := dX11_began_all0.2.2.1
theorem dX11_began_6 : decode cX11_began 6 = .ok (.if_icmp .ge 23, 3) := dX11_began_all0.2.2.2.1
theorem dX11_began_9 : decode cX11_began 9 = .ok (.aload_n 0, 1) := dX11_began_all0.2.2.2.2.1
theorem dX11_began_10 : decode cX11_began 10 = .ok (.getfield 132, 3) := dX11_began_all0.2.2.2.2.2.1
theorem dX11_began_13 : decode cX11_began 13 = .ok (.aload_n 0, 1) := dX11_began_all0.2.2.2.2.2.2.1
theorem dX11_began_14 : decode cX11_began 14 = .ok (.getfield 383, 3) := dX11_began_all0.2.2.2.2.2.2.2.1
theorem dX11_began_17 : decode cX11_began 17 = .ok (.iload_n 1, 1) := dX11_began_all0.2.2.2.2.2.2.2.2.1
theorem dX11_began_18 : decode cX11_began 18 = .ok (.iastore, 1) := dX11_began_all0.2.2.2.2.2.2.2.2.2.1
theorem dX11_began_19 : decode cX11_began 19 = .ok (.aload_n 0, 1) := dX11_began_all0.2.2.2.2.2.2.2.2.2.2.1
theorem dX11_began_20 : decode cX11_began 20 = .ok (.dup, 1) := dX11_began_all0.2.2.2.2.2.2.2.2.2.2.2
theorem dX11_began_all1 : decode cX11_began 21 = .ok (.getfield 383, 3) ∧ decode cX11_began 24 = .ok (.iconst 1, 1) ∧ decode cX11_began 25 = .ok (.iadd, 1) ∧ decode cX11_began 26 = .ok (.putfield 383, 3) ∧ decode cX11_began 29 = .ok (.return_, 1) := by decide +kernel
theorem dX11_began_21 : decode cX11_began 21 = .ok (.getfield 383, 3) := dX11_began_all1.1
theorem dX11_began_24 : decode cX11_began 24 = .ok (.iconst 1, 1) := dX11_began_all1.2.1
theorem dX11_began_25 : decode cX11_began 25 = .ok (.iadd, 1) := dX11_began_all1.2.2.1
theorem dX11_began_26 : decode cX11_began 26 = .ok (.putfield 383, 3) := dX11_began_all1.2.2.2.1
theorem dX11_began_29 : decode cX11_began 29 = .ok (.return_, 1) := dX11_began_all1.2.2.2.2
theorem ggX11_plainSize_X11_began : GoodIn wsX11_plainSize wsX11_began := goodIn_s (fun _ h => wm_t (wm_r (wm_r h))) Gd_X11_began
theorem gX11_plainSize_X11_began : GoodIn wsX11_plainSize (wsV RX11 386 RX11 yX11_began wsX11_began) := goodIn_V (own := RX11) (idx := 386) (C := RX11) (y := yX11_began) (wm_t (wm_l (wm_i 1 rfl))) (wm_t (wm_l (wm_i 2 rfl))) (wm_t (wm_l (wm_i 3 rfl))) (wm_t (wm_l (wm_i 4 rfl))) ggX11_plainSize_X11_began
theorem dX11_plainSize_all0 : decode cX11_plainSize 0 = .ok (.aload_n 0, 1) ∧ decode cX11_plainSize 1 = .ok (.bipush 10, 2) ∧ decode cX11_plainSize 3 = .ok (.invokevirtual 386, 3) ∧ decode cX11_plainSize 6 = .ok (.aload_n 0, 1) ∧ decode cX11_plainSize 7 = .ok (.getfield 51, 3) ∧ decode cX11_plainSize 10 = .ok (.iload_n 1, 1) ∧ decode cX11_plainSize 11 = .ok (.iaload, 1) ∧ decode cX11_plainSize 12 = .ok (.ireturn, 1) := by decide +kernel
theorem dX11_plainSize_0 : decode cX11_plainSize 0 = .ok (.aload_n 0, 1) := dX11_plainSize_all0.1
theorem dX11_plainSize_1 : decode cX11_plainSize 1 = .ok (.bipush 10, 2) := dX11_plainSize_all0.2.1
theorem dX11_plainSize_3 : decode cX11_plainSize 3 = .ok (.invokevirtual 386, 3) := dX11_plainSize_all0.2.2.1
theorem dX11_plainSize_6 : decode cX11_plainSize 6 = .ok (.aload_n 0, 1) := dX11_plainSize_all0.2.2.2.1
theorem dX11_plainSize_7 : decode cX11_plainSize 7 = .ok (.getfield 51, 3) := dX11_plainSize_all0.2.2.2.2.1
theorem dX11_plainSize_10 : decode cX11_plainSize 10 = .ok (.iload_n 1, 1) := dX11_plainSize_all0.2.2.2.2.2.1
theorem dX11_plainSize_11 : decode cX11_plainSize 11 = .ok (.iaload, 1) := dX11_plainSize_all0.2.2.2.2.2.2.1
theorem dX11_plainSize_12 : decode cX11_plainSize 12 = .ok (.ireturn, 1) := dX11_plainSize_all0.2.2.2.2.2.2.2
theorem ggX11_trace_X11_in : GoodIn wsX11_trace wsX11_in := goodIn_s (fun _ h => wm_t (wm_r (wm_r h))) Gd_X11_in
theorem gX11_trace_X11_in : GoodIn wsX11_trace (va_wsS RX11 147 yX11_in wsX11_in) := goodIn_S (own := RX11) (idx := 147) (y := yX11_in) (wm_t (wm_l (wm_i 4 rfl))) (wm_t (wm_l (wm_i 5 rfl))) (wm_t (wm_l (wm_i 6 rfl))) ggX11_trace_X11_in
theorem dX11_trace_all0 : decode cX11_trace 0 = .ok (.aload_n 0, 1) ∧ decode cX11_trace 1 = .ok (.iconst 0, 1) ∧ decode cX11_trace 2 = .ok (.putfield 1, 3) ∧ decode cX11_trace 5 = .ok (.iload_n 1, 1) ∧ decode cX11_trace 6 = .ok (.i2l, 1) ∧ decode cX11_trace 7 = .ok (.lconst 0, 1) ∧ decode cX11_trace 8 = .ok (.aload_n 0, 1) ∧ decode cX11_trace 9 = .ok (.getfield 383, 3) ∧ decode cX11_trace 12 = .ok (.iconst 1, 1) ∧ decode cX11_trace 13 = .ok (.isub, 1) ∧ decode cX11_trace 14 = .ok (.i2l, 1) ∧ decode cX11_trace 15 = .ok (.invokestatic 147, 3) := by decide +kernel
theorem dX11_trace_0 : decode cX11_trace 0 = .ok (.aload_n 0, 1) := dX11_trace_all0.1
theorem dX11_trace_1 : decode cX11_trace 1 = .ok (.iconst 0, 1) := dX11_trace_all0.2.1
theorem dX11_trace_2 : decode cX11_trace 2 = .ok (.putfield 1, 3) := dX11_trace_all0.2.2.1
theorem dX11_trace_5 : decode cX11_trace 5 = .ok (.iload_n 1, 1) := dX11_trace_all0.2.2.2.1
theorem dX11_trace_6 : decode cX11_trace 6 = .ok (.i2l, 1) := dX11_trace_all0.2.2.2.2.1
theorem dX11_trace_7 : decode cX11_trace 7 = .ok (.lconst 0, 1) := dX11_trace_all0.2.2.2.2.2.1
theorem dX11_trace_8 : decode cX11_trace 8 = .ok (.aload_n 0, 1) := dX11_trace_all0.2.2.2.2.2.2.1
theorem dX11_trace_9 : decode cX11_trace 9 = .ok (.getfield 383, 3) := dX11_trace_all0.2.2.2.2.2.2.2.1
theorem dX11_trace_12 : decode cX11_trace 12 = .ok (.iconst 1, 1) := dX11_trace_all0.2.2.2.2.2.2.2.2.1
theorem dX11_trace_13 : decode cX11_trace 13 = .ok (.isub, 1) := dX11_trace_all0.2.2.2.2.2.2.2.2.2.1
theorem dX11_trace_14 : decode cX11_trace 14 = .ok (.i2l, 1) := dX11_trace_all0.2.2.2.2.2.2.2.2.2.2.1
theorem dX11_trace_15 : decode cX11_trace 15 = .ok (.invokestatic 147, 3) := dX11_trace_all0.2.2.2.2.2.2.2.2.2.2.2
theorem dX11_trace_all1 : decode cX11_trace 18 = .ok (.ifCond .eq 12, 3) ∧ decode cX11_trace 21 = .ok (.aload_n 0, 1) ∧ decode cX11_trace 22 = .ok (.getfield 132, 3) ∧ decode cX11_trace 25 = .ok (.iload_n 1, 1) ∧ decode cX11_trace 26 = .ok (.iaload, 1) ∧ decode cX11_trace 27 = .ok (.goto 5, 3) ∧ decode cX11_trace 30 = .ok (.ldc 139, 2) ∧ decode cX11_trace 32 = .ok (.ireturn, 1) := by decide +kernel
theorem dX11_trace_18 : decode cX11_trace 18 = .ok (.ifCond .eq 12, 3) := dX11_trace_all1.1
theorem dX11_trace_21 : decode cX11_trace 21 = .ok (.aload_n 0, 1) := dX11_trace_all1.2.1
theorem dX11_trace_22 : decode cX11_trace 22 = .ok (.getfield 132, 3) := dX11_trace_all1.2.2.1
theorem dX11_trace_25 : decode cX11_trace 25 = .ok (.iload_n 1, 1) := dX11_trace_all1.2.2.2.1
theorem dX11_trace_26 : decode cX11_trace 26 = .ok (.iaload, 1) := dX11_trace_all1.2.2.2.2.1
theorem dX11_trace_27 : decode cX11_trace 27 = .ok (.goto 5, 3) := dX11_trace_all1.2.2.2.2.2.1
theorem dX11_trace_30 : decode cX11_trace 30 = .ok (.ldc 139, 2) := dX11_trace_all1.2.2.2.2.2.2.1
theorem dX11_trace_32 : decode cX11_trace 32 = .ok (.ireturn, 1) := dX11_trace_all1.2.2.2.2.2.2.2
theorem dX11_count_all0 : decode cX11_count 0 = .ok (.aload_n 0, 1) ∧ decode cX11_count 1 = .ok (.iconst 0, 1) ∧ decode cX11_count 2 = .ok (.putfield 1, 3) ∧ decode cX11_count 5 = .ok (.iload_n 1, 1) ∧ decode cX11_count 6 = .ok (.tableswitch 134 0 9 #[54, 89, 94, 99, 104, 109, 114, 119, 124, 129], 54) ∧ decode cX11_count 60 = .ok (.iconst 0, 1) ∧ decode cX11_count 61 = .ok (.istore_n 2, 1) ∧ decode cX11_count 62 = .ok (.iconst 0, 1) ∧ decode cX11_count 63 = .ok (.istore_n 3, 1) ∧ decode cX11_count 64 = .ok (.iload_n 3, 1) ∧ decode cX11_count 65 = .ok (.bipush 8, 2) ∧ decode cX11_count 67 = .ok (.if_icmp .ge 26, 3) := by decide +kernel
theorem dX11_count_0 : decode cX11_count 0 = .ok (.aload_n 0, 1) := dX11_count_all0.1
theorem dX11_count_1 : decode cX11_count 1 = .ok (.iconst 0, 1) := dX11_count_all0.2.1
theorem dX11_count_2 : decode cX11_count 2 = .ok (.putfield 1, 3) := dX11_count_all0.2.2.1
theorem dX11_count_5 : decode cX11_count 5 = .ok (.iload_n 1, 1) := dX11_count_all0.2.2.2.1
theorem dX11_count_6 : decode cX11_count 6 = .ok (.tableswitch 134 0 9 #[54, 89, 94, 99, 104, 109, 114, 119, 124, 129], 54) := dX11_count_all0.2.2.2.2.1
theorem dX11_count_60 : decode cX11_count 60 = .ok (.iconst 0, 1) := dX11_count_all0.2.2.2.2.2.1
theorem dX11_count_61 : decode cX11_count 61 = .ok (.istore_n 2, 1) := dX11_count_all0.2.2.2.2.2.2.1
theorem dX11_count_62 : decode cX11_count 62 = .ok (.iconst 0, 1) := dX11_count_all0.2.2.2.2.2.2.2.1
theorem dX11_count_63 : decode cX11_count 63 = .ok (.istore_n 3, 1) := dX11_count_all0.2.2.2.2.2.2.2.2.1
theorem dX11_count_64 : decode cX11_count 64 = .ok (.iload_n 3, 1) := dX11_count_all0.2.2.2.2.2.2.2.2.2.1
theorem dX11_count_65 : decode cX11_count 65 = .ok (.bipush 8, 2) := dX11_count_all0.2.2.2.2.2.2.2.2.2.2.1
theorem dX11_count_67 : decode cX11_count 67 = .ok (.if_icmp .ge 26, 3) := dX11_count_all0.2.2.2.2.2.2.2.2.2.2.2
theorem dX11_count_all1 : decode cX11_count 70 = .ok (.iload_n 2, 1) ∧ decode cX11_count 71 = .ok (.aload_n 0, 1) ∧ decode cX11_count 72 = .ok (.getfield 13, 3) ∧ decode cX11_count 75 = .ok (.iload_n 3, 1) ∧ decode cX11_count 76 = .ok (.iaload, 1) ∧ decode cX11_count 77 = .ok (.ifCond .lt 7, 3) ∧ decode cX11_count 80 = .ok (.iconst 1, 1) ∧ decode cX11_count 81 = .ok (.goto 4, 3) ∧ decode cX11_count 84 = .ok (.iconst 0, 1) ∧ decode cX11_count 85 = .ok (.iadd, 1) ∧ decode cX11_count 86 = .ok (.istore_n 2, 1) ∧ decode cX11_count 87 = .ok (.iinc 3 1, 3) := by decide +kernel
theorem dX11_count_70 : decode cX11_count 70 = .ok (.iload_n 2, 1) := dX11_count_all1.1
theorem dX11_count_71 : decode cX11_count 71 = .ok (.aload_n 0, 1) := dX11_count_all1.2.1
theorem dX11_count_72 : decode cX11_count 72 = .ok (.getfield 13, 3) := dX11_count_all1.2.2.1
theorem dX11_count_75 : decode cX11_count 75 = .ok (.iload_n 3, 1) := dX11_count_all1.2.2.2.1
theorem dX11_count_76 : decode cX11_count 76 = .ok (.iaload, 1) := dX11_count_all1.2.2.2.2.1
theorem dX11_count_77 : decode cX11_count 77 = .ok (.ifCond .lt 7, 3) := dX11_count_all1.2.2.2.2.2.1
theorem dX11_count_80 : decode cX11_count 80 = .ok (.iconst 1, 1) := dX11_count_all1.2.2.2.2.2.2.1
theorem dX11_count_81 : decode cX11_count 81 = .ok (.goto 4, 3) := dX11_count_all1.2.2.2.2.2.2.2.1
theorem dX11_count_84 : decode cX11_count 84 = .ok (.iconst 0, 1) := dX11_count_all1.2.2.2.2.2.2.2.2.1
theorem dX11_count_85 : decode cX11_count 85 = .ok (.iadd, 1) := dX11_count_all1.2.2.2.2.2.2.2.2.2.1
theorem dX11_count_86 : decode cX11_count 86 = .ok (.istore_n 2, 1) := dX11_count_all1.2.2.2.2.2.2.2.2.2.2.1
theorem dX11_count_87 : decode cX11_count 87 = .ok (.iinc 3 1, 3) := dX11_count_all1.2.2.2.2.2.2.2.2.2.2.2
theorem dX11_count_all2 : decode cX11_count 90 = .ok (.goto (-26), 3) ∧ decode cX11_count 93 = .ok (.iload_n 2, 1) ∧ decode cX11_count 94 = .ok (.ireturn, 1) ∧ decode cX11_count 95 = .ok (.aload_n 0, 1) ∧ decode cX11_count 96 = .ok (.getfield 181, 3) ∧ decode cX11_count 99 = .ok (.ireturn, 1) ∧ decode cX11_count 100 = .ok (.aload_n 0, 1) ∧ decode cX11_count 101 = .ok (.getfield 214, 3) ∧ decode cX11_count 104 = .ok (.ireturn, 1) ∧ decode cX11_count 105 = .ok (.aload_n 0, 1) ∧ decode cX11_count 106 = .ok (.getfield 222, 3) ∧ decode cX11_count 109 = .ok (.ireturn, 1) := by decide +kernel
theorem dX11_count_90 : decode cX11_count 90 = .ok (.goto (-26), 3) := dX11_count_all2.1
theorem dX11_count_93 : decode cX11_count 93 = .ok (.iload_n 2, 1) := dX11_count_all2.2.1
theorem dX11_count_94 : decode cX11_count 94 = .ok (.ireturn, 1) := dX11_count_all2.2.2.1
theorem dX11_count_95 : decode cX11_count 95 = .ok (.aload_n 0, 1) := dX11_count_all2.2.2.2.1
theorem dX11_count_96 : decode cX11_count 96 = .ok (.getfield 181, 3) := dX11_count_all2.2.2.2.2.1
theorem dX11_count_99 : decode cX11_count 99 = .ok (.ireturn, 1) := dX11_count_all2.2.2.2.2.2.1
theorem dX11_count_100 : decode cX11_count 100 = .ok (.aload_n 0, 1) := dX11_count_all2.2.2.2.2.2.2.1
theorem dX11_count_101 : decode cX11_count 101 = .ok (.getfield 214, 3) := dX11_count_all2.2.2.2.2.2.2.2.1
theorem dX11_count_104 : decode cX11_count 104 = .ok (.ireturn, 1) := dX11_count_all2.2.2.2.2.2.2.2.2.1
theorem dX11_count_105 : decode cX11_count 105 = .ok (.aload_n 0, 1) := dX11_count_all2.2.2.2.2.2.2.2.2.2.1
theorem dX11_count_106 : decode cX11_count 106 = .ok (.getfield 222, 3) := dX11_count_all2.2.2.2.2.2.2.2.2.2.2.1
theorem dX11_count_109 : decode cX11_count 109 = .ok (.ireturn, 1) := dX11_count_all2.2.2.2.2.2.2.2.2.2.2.2
theorem dX11_count_all3 : decode cX11_count 110 = .ok (.aload_n 0, 1) ∧ decode cX11_count 111 = .ok (.getfield 231, 3) ∧ decode cX11_count 114 = .ok (.ireturn, 1) ∧ decode cX11_count 115 = .ok (.aload_n 0, 1) ∧ decode cX11_count 116 = .ok (.getfield 314, 3) ∧ decode cX11_count 119 = .ok (.ireturn, 1) ∧ decode cX11_count 120 = .ok (.aload_n 0, 1) ∧ decode cX11_count 121 = .ok (.getfield 319, 3) ∧ decode cX11_count 124 = .ok (.ireturn, 1) ∧ decode cX11_count 125 = .ok (.aload_n 0, 1) ∧ decode cX11_count 126 = .ok (.getfield 354, 3) ∧ decode cX11_count 129 = .ok (.ireturn, 1) := by decide +kernel
theorem dX11_count_110 : decode cX11_count 110 = .ok (.aload_n 0, 1) := dX11_count_all3.1
theorem dX11_count_111 : decode cX11_count 111 = .ok (.getfield 231, 3) := dX11_count_all3.2.1
theorem dX11_count_114 : decode cX11_count 114 = .ok (.ireturn, 1) := dX11_count_all3.2.2.1
theorem dX11_count_115 : decode cX11_count 115 = .ok (.aload_n 0, 1) := dX11_count_all3.2.2.2.1
theorem dX11_count_116 : decode cX11_count 116 = .ok (.getfield 314, 3) := dX11_count_all3.2.2.2.2.1
theorem dX11_count_119 : decode cX11_count 119 = .ok (.ireturn, 1) := dX11_count_all3.2.2.2.2.2.1
theorem dX11_count_120 : decode cX11_count 120 = .ok (.aload_n 0, 1) := dX11_count_all3.2.2.2.2.2.2.1
theorem dX11_count_121 : decode cX11_count 121 = .ok (.getfield 319, 3) := dX11_count_all3.2.2.2.2.2.2.2.1
theorem dX11_count_124 : decode cX11_count 124 = .ok (.ireturn, 1) := dX11_count_all3.2.2.2.2.2.2.2.2.1
theorem dX11_count_125 : decode cX11_count 125 = .ok (.aload_n 0, 1) := dX11_count_all3.2.2.2.2.2.2.2.2.2.1
theorem dX11_count_126 : decode cX11_count 126 = .ok (.getfield 354, 3) := dX11_count_all3.2.2.2.2.2.2.2.2.2.2.1
theorem dX11_count_129 : decode cX11_count 129 = .ok (.ireturn, 1) := dX11_count_all3.2.2.2.2.2.2.2.2.2.2.2
theorem dX11_count_all4 : decode cX11_count 130 = .ok (.aload_n 0, 1) ∧ decode cX11_count 131 = .ok (.getfield 360, 3) ∧ decode cX11_count 134 = .ok (.ireturn, 1) ∧ decode cX11_count 135 = .ok (.aload_n 0, 1) ∧ decode cX11_count 136 = .ok (.getfield 242, 3) ∧ decode cX11_count 139 = .ok (.ireturn, 1) ∧ decode cX11_count 140 = .ok (.ldc 157, 2) ∧ decode cX11_count 142 = .ok (.ireturn, 1) := by decide +kernel
theorem dX11_count_130 : decode cX11_count 130 = .ok (.aload_n 0, 1) := dX11_count_all4.1
theorem dX11_count_131 : decode cX11_count 131 = .ok (.getfield 360, 3) := dX11_count_all4.2.1
theorem dX11_count_134 : decode cX11_count 134 = .ok (.ireturn, 1) := dX11_count_all4.2.2.1
theorem dX11_count_135 : decode cX11_count 135 = .ok (.aload_n 0, 1) := dX11_count_all4.2.2.2.1
theorem dX11_count_136 : decode cX11_count 136 = .ok (.getfield 242, 3) := dX11_count_all4.2.2.2.2.1
theorem dX11_count_139 : decode cX11_count 139 = .ok (.ireturn, 1) := dX11_count_all4.2.2.2.2.2.1
theorem dX11_count_140 : decode cX11_count 140 = .ok (.ldc 157, 2) := dX11_count_all4.2.2.2.2.2.2.1
theorem dX11_count_142 : decode cX11_count 142 = .ok (.ireturn, 1) := dX11_count_all4.2.2.2.2.2.2.2

/-- the bits of a number, as the reference counts them -/
def bmV (a : Int32) : Nat → Int32
  | 0 => 0
  | n + 1 => bmV a n + ((a >>> (nI n &&& 31)) &&& 1)
theorem bmV_s (a : Int32) (n : Nat) : bmV a (n + 1) = bmV a n + ((a >>> (nI n &&& 31)) &&& 1) := rfl

set_option maxHeartbeats 4000000 in
set_option maxRecDepth 100000 in
theorem ct_X11_bits (l : Launch) (D : va_G) (cI cY cJ cQ : ClassId) (sz : Nat) (a : Int32)   : Met l yX11_bits wsX11_bits ({ frames := 0, cells := 0, slots := 0, locals := 0 }) (cPre D (ty4 cI cY cJ cQ) [] sz [.int a]) (va_Qi (fun (r : Int32) (u : Unit) => r = bmV a 12) (cB D (ty4 cI cY cJ cQ) (fun (u : Unit) => []) (va_A [] sz)) (va_A [] sz)) 0 0 (va_A [] sz) := by
  refine Met.ofW (cc := cX11_bits) (maxL := 3) (ret := (some .int)) (by decide) rfl ?_
  intro p e s m args below meth c s₁ B hml hv
  obtain ⟨rfl, hsz, hP, hK, hD0, hN⟩ := hv
  have hx := B.exec
  have hb := B.bytes
  have hr := B.returns
  have hts := atoms_spec (ws := wsX11_bits) B.pre
  have hown : s.vm.findClass RX11 = some m.cls := findClass_of_methodNamed B.named
  have hlocks := B.notSynchronized
  subst hsz
  have hD := hD0.self (sz := s.heap.size)
  generalize hAe : va_A [] s.heap.size = A at hD ⊢
  have hA : ∀ q : Nat, s.heap.size ≤ q → A q := fun q h => by rw [← hAe]; exact Or.inr h
  have hS : va_S A s.heap s.heap [] := va_S.rf
  have hP : va_P D vwCl [] s.heap := hP
  have hl := lv_entry ([.int a]) (n := 3) (Nat.le_of_ble_eq_true rfl)
  rw [lg_entry_eq]
  generalize (lg_sl ([.int a]) ++ List.replicate (3 - (lg_sl ([.int a])).length) Slot.unset).toArray = ls at hl ⊢
  have hl : lv_has ls 3 [(0, .int a)] := hl
  have k0 : (0 : Int32).toInt = 0 := by decide
  have k1 : (1 : Int32).toInt = 1 := by decide
  have k12 : (12 : Int32).toInt = 12 := by decide
  refine lv_iconst (v := 0) hx hb dX11_bits_0 (by decide) ?_
  refine lv_istore_n (lv' := [(1, .int 0), (0, .int a)]) hx hb dX11_bits_1 rfl hl (by decide) rfl (fun ls hl => ?_)
  refine lv_iconst (v := 0) hx hb dX11_bits_2 (by decide) ?_
  refine lv_istore_n (lv' := [(2, .int 0), (1, .int 0), (0, .int a)]) hx hb dX11_bits_3 rfl hl (by decide) rfl (fun ls hl => ?_)
  refine st_loop 4 (fun _ => []) (fun (z : Int32 × Int32) (ls : Array Slot) (H : Heap) (locs : List Loc) => match z with | (q4_1, q4_2) => (0 ≤ q4_2.toInt) ∧ (q4_2.toInt ≤ 12) ∧ (q4_1 = bmV a q4_2.toNatClampNeg) ∧ lv_has ls 3 [(0, .int a), (1, .int q4_1), (2, .int q4_2)] ∧ va_P D vwCl [] H ∧ va_D A [] ∧ va_S A s.heap H locs) (fun (z : Int32 × Int32) => match z with | (q4_1, q4_2) => 12 - q4_2.toInt) ?_ ?_ ((0 : Int32), (0 : Int32)) ⟨(by omega), (by omega), (by rfl), lv_sub hl [2, 1, 0] rfl, hP, hD, hS⟩
  · rintro ⟨q4_1, q4_2⟩ ls H locs ⟨g1, g2, g3, hl, hP, hD, hS⟩
    show (0 : Int) ≤ 12 - q4_2.toInt
    omega
  · rintro n6 ih4 ⟨q4_1, q4_2⟩ ls H locs ⟨g1, g2, g3, hl, hP, hD, hS⟩ hm5
    have hm5 : 12 - q4_2.toInt < (n6 : Int) + 1 := hm5
    replace hl : lv_has ls 3 [(0, .int a), (1, .int q4_1), (2, .int q4_2)] := hl
    replace hP : va_P D vwCl [] H := hP
    replace hD : va_D A [] := hD
    show W _ _ _ _ _ _ _ _ _ _ _ _ _ _ _ (F0 m 4 ls [])
    refine lv_iload_n hx hb dX11_bits_4 rfl (lv_at hl 2 rfl) ?_
    refine lv_bipush (v := 12) hx hb dX11_bits_5 (by decide) ?_
    refine lv_icmp_ge (tgt := 24) hx hb dX11_bits_7 (by decide) (fun c7 => ?_) (fun c7 => ?_)
    · skip
      have f8 := i_le c7
      refine lv_iload_n hx hb dX11_bits_24 rfl (lv_at hl 1 rfl) ?_
      have ce9 := i_cl (x := q4_2) (by omega)
      have ee9 : q4_2.toNatClampNeg = 12 := by omega
      have hz9 := g3
      rw [ee9] at hz9
      have hP9 := hP
      have hD9 := hD
      exact W.iret (v := q4_1) hx hb hr (fun t ht hW => ⟨⟨q4_1, (), rfl, hz9, by rw [ht]; exact hP9, va_K.moved hW.alike hK, hD9⟩, hS.F ht⟩) hS.2.2 dX11_bits_25
    · skip
      have f9 := i_nle c7
      refine lv_iload_n hx hb dX11_bits_10 rfl (lv_at hl 1 rfl) ?_
      refine lv_iload_n hx hb dX11_bits_11 rfl (lv_at hl 0 rfl) ?_
      refine lv_iload_n hx hb dX11_bits_12 rfl (lv_at hl 2 rfl) ?_
      refine lv_ishr hx hb dX11_bits_13 ?_
      refine lv_topi (fun v10 ev10 => ?_)
      refine lv_iconst (v := 1) hx hb dX11_bits_14 (by decide) ?_
      refine lv_iand hx hb dX11_bits_15 ?_
      refine lv_topi (fun v11 ev11 => ?_)
      refine lv_iadd hx hb dX11_bits_16 ?_
      refine lv_topi (fun v12 ev12 => ?_)
      refine lv_istore_n (lv' := [(1, .int v12), (0, .int a), (2, .int q4_2)]) hx hb dX11_bits_17 rfl hl (by decide) rfl (fun ls hl => ?_)
      obtain ⟨v13, ev13⟩ : ∃ y : Int32, y = q4_2 + 1 := ⟨_, rfl⟩
      try have tv13 : v13.toInt = q4_2.toInt + 1 := by rw [ev13]; exact (i_add (x := q4_2) (y := (1 : Int32)) (by rw [k1]; omega) (by rw [k1]; omega)).trans (by rw [k1])
      refine lv_iinc (v := v13) (lv' := [(2, .int v13), (1, .int v12), (0, .int a)]) hx hb dX11_bits_18 hl (k := 2) rfl (by rw [ev13]; rfl) (by decide) rfl (fun ls hl => ?_)
      refine lv_goto (tgt := 4) hx hb dX11_bits_21 (by decide) ?_
      have clk8 := i_cl (x := q4_2) (by omega)
      have clk9 := i_cl (x := v13) (by omega)
      have ek9 : v13.toNatClampNeg = q4_2.toNatClampNeg + 1 := by omega
      have nk9 : nI q4_2.toNatClampNeg = q4_2 := i_nI (by omega)
      exact ih4 (v12, v13) ls H locs ⟨(by omega), (by omega), (by rw [ek9, bmV_s, nk9, ← g3]; (repeat' split) <;> first | (exfalso; omega) | (exfalso; contradiction) | rfl | (subst_vars; rfl)), lv_sub hl [2, 1, 0] rfl, hP.sub [] rfl, hD.sub [] (by decide +kernel) rfl, hS⟩ (by show 12 - v13.toInt < _; omega)


def cnL (b : Bool) (s : Int32 × (Nat → Int32)) (a : Int32) : Int32 × (Nat → Int32) := if b = true then lvT s a else s
theorem cnL_t {P : Prop} [Decidable P] {s u : Int32 × (Nat → Int32)} {a : Int32} (h : P) (e : u = lvT s a) : u = cnL (decide P) s a := by
  unfold cnL
  rw [if_pos (decide_eq_true h), e]
theorem cnL_f {P : Prop} [Decidable P] {s : Int32 × (Nat → Int32)} {a : Int32} (h : ¬ P) : s = cnL (decide P) s a := by
  unfold cnL
  rw [if_neg (by rw [decide_eq_false h]; decide)]
def mkM (w wo ow : Int32) (s : Int32 × (Nat → Int32)) : Int32 × Int32 × (Nat → Int32) := (ow + (if w.toInt = 1 ∨ w.toInt = 2 then 100 else if w.toInt = 3 then 1000 else if w.toInt = 4 then wo else 0), cnL (decide (w.toInt = 4)) (lvT (cnL (decide (w.toInt = 4)) (cnL (decide (w.toInt = 3)) (cnL (decide (w.toInt = 1 ∨ w.toInt = 2)) s 21) 22) 23) 20) 10)
def szM (w wo su ow : Int32) (s : Int32 × (Nat → Int32)) : Int32 × Int32 × (Nat → Int32) := if w.toInt = 3 then (-(mkM w wo ow (lvT s 13)).1, (mkM w wo ow (lvT s 13)).2) else (if w.toInt = 2 then (wo - su) / 2 else wo - su, lvT (cnL (decide (w.toInt = 1 ∨ w.toInt = 2)) (cnL (decide (w.toInt = 2)) s 12) 11) 10)

set_option maxHeartbeats 4000000 in
set_option maxRecDepth 100000 in
theorem ct_X11_owes (l : Launch) (D : va_G) (cI cY cJ cQ : ClassId) (sz : Nat) (md : Nat → Nat) (sd : Int32) (mth mst hn cn pn mq gn mln mnn ln mlt msz mcu mtk mfr mti mfa mfb an un lc td mtn : Int32) (gk gs gd ge : Nat → Int32) (k : Int32)  (h1 : 0 ≤ gn.toInt) (h2 : gn.toInt ≤ 40)  : Met l yX11_owes wsX11_owes ({ frames := 0, cells := 0, slots := 0, locals := 0 }) (cPre D (ty4 cI cY cJ cQ) [(moC md sd mth mst hn cn pn mq gn mln mnn ln mlt msz mcu mtk mfr mti mfa mfb an un lc td mtn), (aI cI (md 26) 40 gk), (aI cI (md 27) 40 gs), (aI cI (md 28) 40 gd), (aI cI (md 29) 40 ge)] sz [.ref (md 64), .int k]) (va_Qi (fun (r : Int32) (u : Unit) => r = suV gk gs ge k td gn.toNatClampNeg) (cB D (ty4 cI cY cJ cQ) (fun (u : Unit) => [(moC md sd mth mst hn cn pn mq gn mln mnn ln mlt msz mcu mtk mfr mti mfa mfb an un lc td mtn), (aI cI (md 26) 40 gk), (aI cI (md 27) 40 gs), (aI cI (md 28) 40 gd), (aI cI (md 29) 40 ge)]) (va_A [(moC md sd mth mst hn cn pn mq gn mln mnn ln mlt msz mcu mtk mfr mti mfa mfb an un lc td mtn), (aI cI (md 26) 40 gk), (aI cI (md 27) 40 gs), (aI cI (md 28) 40 gd), (aI cI (md 29) 40 ge)] sz)) (va_A [(moC md sd mth mst hn cn pn mq gn mln mnn ln mlt msz mcu mtk mfr mti mfa mfb an un lc td mtn), (aI cI (md 26) 40 gk), (aI cI (md 27) 40 gs), (aI cI (md 28) 40 gd), (aI cI (md 29) 40 ge)] sz)) 0 0 (va_A [(moC md sd mth mst hn cn pn mq gn mln mnn ln mlt msz mcu mtk mfr mti mfa mfb an un lc td mtn), (aI cI (md 26) 40 gk), (aI cI (md 27) 40 gs), (aI cI (md 28) 40 gd), (aI cI (md 29) 40 ge)] sz) := by
  refine Met.ofW (cc := cX11_owes) (maxL := 4) (ret := (some .int)) (by decide) rfl ?_
  intro p e s m args below meth c s₁ B hml hv
  obtain ⟨rfl, hsz, hP, hK, hD0, hN⟩ := hv
  have hx := B.exec
  have hb := B.bytes
  have hr := B.returns
  have hts := atoms_spec (ws := wsX11_owes) B.pre
  have hown : s.vm.findClass RX11 = some m.cls := findClass_of_methodNamed B.named
  have hlocks := B.notSynchronized
  subst hsz
  have hD := hD0.self (sz := s.heap.size)
  generalize hAe : va_A [(moC md sd mth mst hn cn pn mq gn mln mnn ln mlt msz mcu mtk mfr mti mfa mfb an un lc td mtn), (aI cI (md 26) 40 gk), (aI cI (md 27) 40 gs), (aI cI (md 28) 40 gd), (aI cI (md 29) 40 ge)] s.heap.size = A at hD ⊢
  have hA : ∀ q : Nat, s.heap.size ≤ q → A q := fun q h => by rw [← hAe]; exact Or.inr h
  have hS : va_S A s.heap s.heap [] := va_S.rf
  have hP : va_P D vwCl [(moC md sd mth mst hn cn pn mq gn mln mnn ln mlt msz mcu mtk mfr mti mfa mfb an un lc td mtn), (aI cI (md 26) 40 gk), (aI cI (md 27) 40 gs), (aI cI (md 28) 40 gd), (aI cI (md 29) 40 ge)] s.heap := hP
  have hl := lv_entry ([.ref (md 64), .int k]) (n := 4) (Nat.le_of_ble_eq_true rfl)
  rw [lg_entry_eq]
  generalize (lg_sl ([.ref (md 64), .int k]) ++ List.replicate (4 - (lg_sl ([.ref (md 64), .int k])).length) Slot.unset).toArray = ls at hl ⊢
  have hl : lv_has ls 4 [(0, .ref (md 64)), (1, .int k)] := hl
  have k0 : (0 : Int32).toInt = 0 := by decide
  have k1 : (1 : Int32).toInt = 1 := by decide
  refine lv_iconst (v := 0) hx hb dX11_owes_0 (by decide) ?_
  refine lv_istore_n (lv' := [(2, .int 0), (0, .ref (md 64)), (1, .int k)]) hx hb dX11_owes_1 rfl hl (by decide) rfl (fun ls hl => ?_)
  refine lv_iconst (v := 0) hx hb dX11_owes_2 (by decide) ?_
  refine lv_istore_n (lv' := [(3, .int 0), (2, .int 0), (0, .ref (md 64)), (1, .int k)]) hx hb dX11_owes_3 rfl hl (by decide) rfl (fun ls hl => ?_)
  refine st_loop 4 (fun _ => []) (fun (z : Int32 × Int32) (ls : Array Slot) (H : Heap) (locs : List Loc) => match z with | (q4_2, q4_3) => (0 ≤ q4_3.toInt) ∧ (q4_3.toInt ≤ gn.toInt) ∧ (q4_2 = suV gk gs ge k td q4_3.toNatClampNeg) ∧ lv_has ls 4 [(0, .ref (md 64)), (1, .int k), (2, .int q4_2), (3, .int q4_3)] ∧ va_P D vwCl [(moC md sd mth mst hn cn pn mq gn mln mnn ln mlt msz mcu mtk mfr mti mfa mfb an un lc td mtn), (aI cI (md 26) 40 gk), (aI cI (md 27) 40 gs), (aI cI (md 28) 40 gd), (aI cI (md 29) 40 ge)] H ∧ va_D A [(moC md sd mth mst hn cn pn mq gn mln mnn ln mlt msz mcu mtk mfr mti mfa mfb an un lc td mtn), (aI cI (md 26) 40 gk), (aI cI (md 27) 40 gs), (aI cI (md 28) 40 gd), (aI cI (md 29) 40 ge)] ∧ va_S A s.heap H locs) (fun (z : Int32 × Int32) => match z with | (q4_2, q4_3) => gn.toInt - q4_3.toInt) ?_ ?_ ((0 : Int32), (0 : Int32)) ⟨(by omega), (by omega), (by rfl), lv_sub hl [2, 3, 1, 0] rfl, hP, hD, hS⟩
  · rintro ⟨q4_2, q4_3⟩ ls H locs ⟨g1, g2, g3, hl, hP, hD, hS⟩
    show (0 : Int) ≤ gn.toInt - q4_3.toInt
    omega
  · rintro n6 ih4 ⟨q4_2, q4_3⟩ ls H locs ⟨g1, g2, g3, hl, hP, hD, hS⟩ hm5
    have hm5 : gn.toInt - q4_3.toInt < (n6 : Int) + 1 := hm5
    replace hl : lv_has ls 4 [(0, .ref (md 64)), (1, .int k), (2, .int q4_2), (3, .int q4_3)] := hl
    replace hP : va_P D vwCl [(moC md sd mth mst hn cn pn mq gn mln mnn ln mlt msz mcu mtk mfr mti mfa mfb an un lc td mtn), (aI cI (md 26) 40 gk), (aI cI (md 27) 40 gs), (aI cI (md 28) 40 gd), (aI cI (md 29) 40 ge)] H := hP
    replace hD : va_D A [(moC md sd mth mst hn cn pn mq gn mln mnn ln mlt msz mcu mtk mfr mti mfa mfb an un lc td mtn), (aI cI (md 26) 40 gk), (aI cI (md 27) 40 gs), (aI cI (md 28) 40 gd), (aI cI (md 29) 40 ge)] := hD
    show W _ _ _ _ _ _ _ _ _ _ _ _ _ _ _ (F0 m 4 ls [])
    refine lv_iload_n hx hb dX11_owes_4 rfl (lv_at hl 3 rfl) ?_
    refine lv_aload_n hx hb dX11_owes_5 rfl (lv_at hl 0 rfl) ?_
    refine va_get (D := D) (ci := 11) (v := .int gn) (C := RX11) (T := TX11) (N := 64) hx hb hts inX11_owes_X11 hown hK hP 0 rfl rfl 25 (by decide) (hts (Cond.fieldLink RX11 231 "PortRoomsModel" "pledges" "I") (wm_t (wm_l (wm_i 0 rfl)))) (fun _ h9 => h9) rfl dX11_owes_6 ?_
    refine lv_icmp_ge (tgt := 54) hx hb dX11_owes_9 (by decide) (fun c7 => ?_) (fun c7 => ?_)
    · skip
      have f8 := i_le c7
      refine lv_iload_n hx hb dX11_owes_54 rfl (lv_at hl 2 rfl) ?_
      have ce8 := i_cl (x := q4_3) (by omega)
      have ce9 := i_cl (x := gn) (by omega)
      have ee9 : q4_3.toNatClampNeg = gn.toNatClampNeg := by omega
      have hz9 := g3
      rw [ee9] at hz9
      have hP9 := hP
      have hD9 := hD
      exact W.iret (v := q4_2) hx hb hr (fun t ht hW => ⟨⟨q4_2, (), rfl, hz9, by rw [ht]; exact hP9, va_K.moved hW.alike hK, hD9⟩, hS.F ht⟩) hS.2.2 dX11_owes_55
    · skip
      have f9 := i_nle c7
      refine lv_iload_n hx hb dX11_owes_12 rfl (lv_at hl 2 rfl) ?_
      refine lv_aload_n hx hb dX11_owes_13 rfl (lv_at hl 0 rfl) ?_
      refine va_get (D := D) (ci := 11) (v := .ref (md 26)) (C := RX11) (T := TX11) (N := 64) hx hb hts inX11_owes_X11 hown hK hP 0 rfl rfl 26 (by decide) (hts (Cond.fieldLink RX11 69 "PortRoomsModel" "pledgeCrate" "[I") (wm_t (wm_l (wm_i 1 rfl)))) (fun _ h9 => h9) rfl dX11_owes_14 ?_
      refine lv_iload_n hx hb dX11_owes_17 rfl (lv_at hl 3 rfl) ?_
      refine va_iald hx hb hK hP 1 0 rfl rfl (i_in (by omega) (by omega)) dX11_owes_18 ?_
      refine lv_topi (fun v10 ev10 => ?_)
      have tlv10 : v10.toInt = (gk q4_3.toNatClampNeg).toInt := by rw [ev10]
      refine lv_iload_n hx hb dX11_owes_19 rfl (lv_at hl 1 rfl) ?_
      refine lv_icmp_ne (tgt := 45) hx hb dX11_owes_20 (by decide) (fun c11 => ?_) (fun c11 => ?_)
      · skip
        have f12 := i_ne c11
        refine lv_iconst (v := 0) hx hb dX11_owes_45 (by decide) ?_
        refine lv_iadd hx hb dX11_owes_46 ?_
        refine lv_topi (fun v13 ev13 => ?_)
        refine lv_istore_n (lv' := [(2, .int v13), (0, .ref (md 64)), (1, .int k), (3, .int q4_3)]) hx hb dX11_owes_47 rfl hl (by decide) rfl (fun ls hl => ?_)
        obtain ⟨v14, ev14⟩ : ∃ y : Int32, y = q4_3 + 1 := ⟨_, rfl⟩
        try have tv14 : v14.toInt = q4_3.toInt + 1 := by rw [ev14]; exact (i_add (x := q4_3) (y := (1 : Int32)) (by rw [k1]; omega) (by rw [k1]; omega)).trans (by rw [k1])
        refine lv_iinc (v := v14) (lv' := [(3, .int v14), (2, .int v13), (0, .ref (md 64)), (1, .int k)]) hx hb dX11_owes_48 hl (k := 3) rfl (by rw [ev14]; rfl) (by decide) rfl (fun ls hl => ?_)
        refine lv_goto (tgt := 4) hx hb dX11_owes_51 (by decide) ?_
        have clk8 := i_cl (x := q4_3) (by omega)
        have clk9 := i_cl (x := v14) (by omega)
        have ek9 : v14.toNatClampNeg = q4_3.toNatClampNeg + 1 := by omega
        exact ih4 (v13, v14) ls H locs ⟨(by omega), (by omega), (by rw [ek9, suV_s, ← g3]; first | (rw [if_neg (by omega), ev13]; exact Int32.add_zero _) | (rw [if_pos (by omega), ev13, eNone])), lv_sub hl [2, 3, 1, 0] rfl, hP.sub [0, 1, 2, 3, 4] rfl, hD.sub [0, 1, 2, 3, 4] (by decide +kernel) rfl, hS⟩ (by show gn.toInt - v14.toInt < _; omega)
      · skip
        have f15 := i_eq c11
        refine lv_aload_n hx hb dX11_owes_23 rfl (lv_at hl 0 rfl) ?_
        refine va_get (D := D) (ci := 11) (v := .ref (md 29)) (C := RX11) (T := TX11) (N := 64) hx hb hts inX11_owes_X11 hown hK hP 0 rfl rfl 29 (by decide) (hts (Cond.fieldLink RX11 78 "PortRoomsModel" "pledgeFiled" "[I") (wm_t (wm_l (wm_i 2 rfl)))) (fun _ h9 => h9) rfl dX11_owes_24 ?_
        refine lv_iload_n hx hb dX11_owes_27 rfl (lv_at hl 3 rfl) ?_
        refine va_iald hx hb hK hP 4 0 rfl rfl (i_in (by omega) (by omega)) dX11_owes_28 ?_
        refine lv_topi (fun v16 ev16 => ?_)
        have tlv16 : v16.toInt = (ge q4_3.toNatClampNeg).toInt := by rw [ev16]
        refine lv_aload_n hx hb dX11_owes_29 rfl (lv_at hl 0 rfl) ?_
        refine va_get (D := D) (ci := 11) (v := .int td) (C := RX11) (T := TX11) (N := 64) hx hb hts inX11_owes_X11 hown hK hP 0 rfl rfl 61 (by decide) (hts (Cond.fieldLink RX11 369 "PortRoomsModel" "theDay" "I") (wm_t (wm_l (wm_i 3 rfl)))) (fun _ h9 => h9) rfl dX11_owes_30 ?_
        refine lv_icmp_gt (tgt := 45) hx hb dX11_owes_33 (by decide) (fun c17 => ?_) (fun c17 => ?_)
        · skip
          have f18 := i_lt c17
          refine lv_iconst (v := 0) hx hb dX11_owes_45 (by decide) ?_
          refine lv_iadd hx hb dX11_owes_46 ?_
          refine lv_topi (fun v19 ev19 => ?_)
          refine lv_istore_n (lv' := [(2, .int v19), (0, .ref (md 64)), (1, .int k), (3, .int q4_3)]) hx hb dX11_owes_47 rfl hl (by decide) rfl (fun ls hl => ?_)
          obtain ⟨v20, ev20⟩ : ∃ y : Int32, y = q4_3 + 1 := ⟨_, rfl⟩
          try have tv20 : v20.toInt = q4_3.toInt + 1 := by rw [ev20]; exact (i_add (x := q4_3) (y := (1 : Int32)) (by rw [k1]; omega) (by rw [k1]; omega)).trans (by rw [k1])
          refine lv_iinc (v := v20) (lv' := [(3, .int v20), (2, .int v19), (0, .ref (md 64)), (1, .int k)]) hx hb dX11_owes_48 hl (k := 3) rfl (by rw [ev20]; rfl) (by decide) rfl (fun ls hl => ?_)
          refine lv_goto (tgt := 4) hx hb dX11_owes_51 (by decide) ?_
          have clk8 := i_cl (x := q4_3) (by omega)
          have clk9 := i_cl (x := v20) (by omega)
          have ek9 : v20.toNatClampNeg = q4_3.toNatClampNeg + 1 := by omega
          exact ih4 (v19, v20) ls H locs ⟨(by omega), (by omega), (by rw [ek9, suV_s, ← g3]; first | (rw [if_neg (by omega), ev19]; exact Int32.add_zero _) | (rw [if_pos (by omega), ev19, eNone])), lv_sub hl [2, 3, 1, 0] rfl, hP.sub [0, 1, 2, 3, 4] rfl, hD.sub [0, 1, 2, 3, 4] (by decide +kernel) rfl, hS⟩ (by show gn.toInt - v20.toInt < _; omega)
        · skip
          have f21 := i_nlt c17
          refine lv_aload_n hx hb dX11_owes_36 rfl (lv_at hl 0 rfl) ?_
          refine va_get (D := D) (ci := 11) (v := .ref (md 27)) (C := RX11) (T := TX11) (N := 64) hx hb hts inX11_owes_X11 hown hK hP 0 rfl rfl 27 (by decide) (hts (Cond.fieldLink RX11 72 "PortRoomsModel" "pledgeSum" "[I") (wm_t (wm_l (wm_i 4 rfl)))) (fun _ h9 => h9) rfl dX11_owes_37 ?_
          refine lv_iload_n hx hb dX11_owes_40 rfl (lv_at hl 3 rfl) ?_
          refine va_iald hx hb hK hP 2 0 rfl rfl (i_in (by omega) (by omega)) dX11_owes_41 ?_
          refine lv_topi (fun v22 ev22 => ?_)
          have tlv22 : v22.toInt = (gs q4_3.toNatClampNeg).toInt := by rw [ev22]
          refine lv_goto (tgt := 46) hx hb dX11_owes_42 (by decide) ?_
          refine lv_iadd hx hb dX11_owes_46 ?_
          refine lv_topi (fun v23 ev23 => ?_)
          refine lv_istore_n (lv' := [(2, .int v23), (0, .ref (md 64)), (1, .int k), (3, .int q4_3)]) hx hb dX11_owes_47 rfl hl (by decide) rfl (fun ls hl => ?_)
          obtain ⟨v24, ev24⟩ : ∃ y : Int32, y = q4_3 + 1 := ⟨_, rfl⟩
          try have tv24 : v24.toInt = q4_3.toInt + 1 := by rw [ev24]; exact (i_add (x := q4_3) (y := (1 : Int32)) (by rw [k1]; omega) (by rw [k1]; omega)).trans (by rw [k1])
          refine lv_iinc (v := v24) (lv' := [(3, .int v24), (2, .int v23), (0, .ref (md 64)), (1, .int k)]) hx hb dX11_owes_48 hl (k := 3) rfl (by rw [ev24]; rfl) (by decide) rfl (fun ls hl => ?_)
          refine lv_goto (tgt := 4) hx hb dX11_owes_51 (by decide) ?_
          have clk8 := i_cl (x := q4_3) (by omega)
          have clk9 := i_cl (x := v24) (by omega)
          have ek9 : v24.toNatClampNeg = q4_3.toNatClampNeg + 1 := by omega
          exact ih4 (v23, v24) ls H locs ⟨(by omega), (by omega), (by rw [ek9, suV_s, ← g3]; first | (rw [if_neg (by omega), ev23]; exact Int32.add_zero _) | (rw [if_pos (by omega), ev23, ev22])), lv_sub hl [2, 3, 1, 0] rfl, hP.sub [0, 1, 2, 3, 4] rfl, hD.sub [0, 1, 2, 3, 4] (by decide +kernel) rfl, hS⟩ (by show gn.toInt - v24.toInt < _; omega)

set_option maxHeartbeats 4000000 in
set_option maxRecDepth 100000 in
theorem ct_X11_isOf (l : Launch) (D : va_G) (cI cY cJ cQ : ClassId) (sz : Nat) (a : Int32) (b : Int32)   : Met l yX11_isOf wsX11_isOf ({ frames := 0, cells := 0, slots := 0, locals := 0 }) (cPre D (ty4 cI cY cJ cQ) [] sz [.int a, .int b]) (va_Qi (fun (r : Int32) (u : Unit) => r = if b.toInt = 0 ∨ b.toInt = a.toInt ∨ (b.toInt = 1 ∧ a.toInt = 2) then 1 else 0) (cB D (ty4 cI cY cJ cQ) (fun (u : Unit) => []) (va_A [] sz)) (va_A [] sz)) 0 0 (va_A [] sz) := by
  refine Met.ofW (cc := cX11_isOf) (maxL := 2) (ret := (some .boolean)) (by decide) rfl ?_
  intro p e s m args below meth c s₁ B hml hv
  obtain ⟨rfl, hsz, hP, hK, hD0, hN⟩ := hv
  have hx := B.exec
  have hb := B.bytes
  have hr := B.returns
  have hts := atoms_spec (ws := wsX11_isOf) B.pre
  have hown : s.vm.findClass RX11 = some m.cls := findClass_of_methodNamed B.named
  have hlocks := B.notSynchronized
  subst hsz
  have hD := hD0.self (sz := s.heap.size)
  generalize hAe : va_A [] s.heap.size = A at hD ⊢
  have hA : ∀ q : Nat, s.heap.size ≤ q → A q := fun q h => by rw [← hAe]; exact Or.inr h
  have hS : va_S A s.heap s.heap [] := va_S.rf
  have hP : va_P D vwCl [] s.heap := hP
  have hl := lv_entry ([.int a, .int b]) (n := 2) (Nat.le_of_ble_eq_true rfl)
  rw [lg_entry_eq]
  generalize (lg_sl ([.int a, .int b]) ++ List.replicate (2 - (lg_sl ([.int a, .int b])).length) Slot.unset).toArray = ls at hl ⊢
  have hl : lv_has ls 2 [(0, .int a), (1, .int b)] := hl
  have k0 : (0 : Int32).toInt = 0 := by decide
  have k1 : (1 : Int32).toInt = 1 := by decide
  have k2 : (2 : Int32).toInt = 2 := by decide
  refine lv_iload_n hx hb dX11_isOf_0 rfl (lv_at hl 1 rfl) ?_
  refine lv_if_eq (tgt := 19) hx hb dX11_isOf_1 (by decide) (fun c1 => ?_) (fun c1 => ?_)
  · skip
    have f2 := i_eq c1
    refine lv_iconst (v := 1) hx hb dX11_isOf_19 (by decide) ?_
    refine lv_goto (tgt := 24) hx hb dX11_isOf_20 (by decide) ?_
    have hP9 := hP
    have hD9 := hD
    exact W.zret (v := 1) hx hb hr rfl (fun t ht hW => ⟨⟨1, (), rfl, bo_yes (by omega), by rw [ht]; exact hP9, va_K.moved hW.alike hK, hD9⟩, hS.F ht⟩) hS.2.2 dX11_isOf_24
  · skip
    have f3 := i_ne c1
    refine lv_iload_n hx hb dX11_isOf_4 rfl (lv_at hl 0 rfl) ?_
    refine lv_iload_n hx hb dX11_isOf_5 rfl (lv_at hl 1 rfl) ?_
    refine lv_icmp_eq (tgt := 19) hx hb dX11_isOf_6 (by decide) (fun c4 => ?_) (fun c4 => ?_)
    · skip
      have f5 := i_eq c4
      refine lv_iconst (v := 1) hx hb dX11_isOf_19 (by decide) ?_
      refine lv_goto (tgt := 24) hx hb dX11_isOf_20 (by decide) ?_
      have hP9 := hP
      have hD9 := hD
      exact W.zret (v := 1) hx hb hr rfl (fun t ht hW => ⟨⟨1, (), rfl, bo_yes (by omega), by rw [ht]; exact hP9, va_K.moved hW.alike hK, hD9⟩, hS.F ht⟩) hS.2.2 dX11_isOf_24
    · skip
      have f6 := i_ne c4
      refine lv_iload_n hx hb dX11_isOf_9 rfl (lv_at hl 1 rfl) ?_
      refine lv_iconst (v := 1) hx hb dX11_isOf_10 (by decide) ?_
      refine lv_icmp_ne (tgt := 23) hx hb dX11_isOf_11 (by decide) (fun c7 => ?_) (fun c7 => ?_)
      · skip
        have f8 := i_ne c7
        refine lv_iconst (v := 0) hx hb dX11_isOf_23 (by decide) ?_
        have hP9 := hP
        have hD9 := hD
        exact W.zret (v := 0) hx hb hr rfl (fun t ht hW => ⟨⟨0, (), rfl, bo_no (by omega), by rw [ht]; exact hP9, va_K.moved hW.alike hK, hD9⟩, hS.F ht⟩) hS.2.2 dX11_isOf_24
      · skip
        have f9 := i_eq c7
        refine lv_iload_n hx hb dX11_isOf_14 rfl (lv_at hl 0 rfl) ?_
        refine lv_iconst (v := 2) hx hb dX11_isOf_15 (by decide) ?_
        refine lv_icmp_ne (tgt := 23) hx hb dX11_isOf_16 (by decide) (fun c10 => ?_) (fun c10 => ?_)
        · skip
          have f11 := i_ne c10
          refine lv_iconst (v := 0) hx hb dX11_isOf_23 (by decide) ?_
          have hP9 := hP
          have hD9 := hD
          exact W.zret (v := 0) hx hb hr rfl (fun t ht hW => ⟨⟨0, (), rfl, bo_no (by omega), by rw [ht]; exact hP9, va_K.moved hW.alike hK, hD9⟩, hS.F ht⟩) hS.2.2 dX11_isOf_24
        · skip
          have f12 := i_eq c10
          refine lv_iconst (v := 1) hx hb dX11_isOf_19 (by decide) ?_
          refine lv_goto (tgt := 24) hx hb dX11_isOf_20 (by decide) ?_
          have hP9 := hP
          have hD9 := hD
          exact W.zret (v := 1) hx hb hr rfl (fun t ht hW => ⟨⟨1, (), rfl, bo_yes (by omega), by rw [ht]; exact hP9, va_K.moved hW.alike hK, hD9⟩, hS.F ht⟩) hS.2.2 dX11_isOf_24

set_option maxHeartbeats 4000000 in
set_option maxRecDepth 100000 in
theorem ct_X11_began (l : Launch) (D : va_G) (cI cY cJ cQ : ClassId) (sz : Nat) (md : Nat → Nat) (sd : Int32) (mth mst hn cn pn mq gn mln mnn ln mlt msz mcu mtk mfr mti mfa mfb an un lc td mtn : Int32) (mtr : Nat → Int32) (a : Int32)  (h1 : 0 ≤ mtn.toInt) (h2 : mtn.toInt ≤ 16)  : Met l yX11_began wsX11_began ({ frames := 0, cells := 0, slots := 0, locals := 0 }) (cPre D (ty4 cI cY cJ cQ) [(moC md sd mth mst hn cn pn mq gn mln mnn ln mlt msz mcu mtk mfr mti mfa mfb an un lc td mtn), (aI cI (md 62) 16 mtr)] sz [.ref (md 64), .int a]) (va_Qv (fun (u : Int32 × (Nat → Int32)) => u = lvT (mtn, mtr) a ∧ 0 ≤ u.1.toInt ∧ u.1.toInt ≤ 16) (cB D (ty4 cI cY cJ cQ) (fun (u : Int32 × (Nat → Int32)) => [(moC md sd mth mst hn cn pn mq gn mln mnn ln mlt msz mcu mtk mfr mti mfa mfb an un lc td u.1), (aI cI (md 62) 16 u.2)]) (va_A [(moC md sd mth mst hn cn pn mq gn mln mnn ln mlt msz mcu mtk mfr mti mfa mfb an un lc td mtn), (aI cI (md 62) 16 mtr)] sz)) (va_A [(moC md sd mth mst hn cn pn mq gn mln mnn ln mlt msz mcu mtk mfr mti mfa mfb an un lc td mtn), (aI cI (md 62) 16 mtr)] sz)) 0 0 (va_A [(moC md sd mth mst hn cn pn mq gn mln mnn ln mlt msz mcu mtk mfr mti mfa mfb an un lc td mtn), (aI cI (md 62) 16 mtr)] sz) := by
  refine Met.ofW (cc := cX11_began) (maxL := 2) (ret := none) (by decide) rfl ?_
  intro p e s m args below meth c s₁ B hml hv
  obtain ⟨rfl, hsz, hP, hK, hD0, hN⟩ := hv
  have hx := B.exec
  have hb := B.bytes
  have hr := B.returns
  have hts := atoms_spec (ws := wsX11_began) B.pre
  have hown : s.vm.findClass RX11 = some m.cls := findClass_of_methodNamed B.named
  have hlocks := B.notSynchronized
  subst hsz
  have hD := hD0.self (sz := s.heap.size)
  generalize hAe : va_A [(moC md sd mth mst hn cn pn mq gn mln mnn ln mlt msz mcu mtk mfr mti mfa mfb an un lc td mtn), (aI cI (md 62) 16 mtr)] s.heap.size = A at hD ⊢
  have hA : ∀ q : Nat, s.heap.size ≤ q → A q := fun q h => by rw [← hAe]; exact Or.inr h
  have hS : va_S A s.heap s.heap [] := va_S.rf
  have hP : va_P D vwCl [(moC md sd mth mst hn cn pn mq gn mln mnn ln mlt msz mcu mtk mfr mti mfa mfb an un lc td mtn), (aI cI (md 62) 16 mtr)] s.heap := hP
  have hl := lv_entry ([.ref (md 64), .int a]) (n := 2) (Nat.le_of_ble_eq_true rfl)
  rw [lg_entry_eq]
  generalize (lg_sl ([.ref (md 64), .int a]) ++ List.replicate (2 - (lg_sl ([.ref (md 64), .int a])).length) Slot.unset).toArray = ls at hl ⊢
  have hl : lv_has ls 2 [(0, .ref (md 64)), (1, .int a)] := hl
  have k1 : (1 : Int32).toInt = 1 := by decide
  have k16 : (16 : Int32).toInt = 16 := by decide
  refine lv_aload_n hx hb dX11_began_0 rfl (lv_at hl 0 rfl) ?_
  refine va_get (D := D) (ci := 11) (v := .int mtn) (C := RX11) (T := TX11) (N := 64) hx hb hts inX11_began_X11 hown hK hP 0 rfl rfl 63 (by decide) (hts (Cond.fieldLink RX11 383 "PortRoomsModel" "traced" "I") (wm_t (wm_l (wm_i 0 rfl)))) (fun _ h9 => h9) rfl dX11_began_1 ?_
  refine lv_bipush (v := 16) hx hb dX11_began_4 (by decide) ?_
  refine lv_icmp_ge (tgt := 29) hx hb dX11_began_6 (by decide) (fun c1 => ?_) (fun c1 => ?_)
  · skip
    have f2 := i_le c1
    have hP9 := hP
    have hD9 := hD
    exact W.vret hx hb hr (fun t ht hW => ⟨⟨(mtn, mtr), rfl, (by show (mtn, mtr) = lvT (mtn, mtr) a ∧ 0 ≤ mtn.toInt ∧ mtn.toInt ≤ 16; exact ⟨lvT_n (by omega), by omega, by omega⟩), by rw [ht]; exact hP9, va_K.moved hW.alike hK, hD9⟩, hS.F ht⟩) hS.2.2 dX11_began_29
  · skip
    have f3 := i_nle c1
    refine lv_aload_n hx hb dX11_began_9 rfl (lv_at hl 0 rfl) ?_
    refine va_get (D := D) (ci := 11) (v := .ref (md 62)) (C := RX11) (T := TX11) (N := 64) hx hb hts inX11_began_X11 hown hK hP 0 rfl rfl 62 (by decide) (hts (Cond.fieldLink RX11 132 "PortRoomsModel" "trace" "[I") (wm_t (wm_l (wm_i 1 rfl)))) (fun _ h9 => h9) rfl dX11_began_10 ?_
    refine lv_aload_n hx hb dX11_began_13 rfl (lv_at hl 0 rfl) ?_
    refine va_get (D := D) (ci := 11) (v := .int mtn) (C := RX11) (T := TX11) (N := 64) hx hb hts inX11_began_X11 hown hK hP 0 rfl rfl 63 (by decide) (hts (Cond.fieldLink RX11 383 "PortRoomsModel" "traced" "I") (wm_t (wm_l (wm_i 0 rfl)))) (fun _ h9 => h9) rfl dX11_began_14 ?_
    refine lv_iload_n hx hb dX11_began_17 rfl (lv_at hl 1 rfl) ?_
    refine va_iast hx hb hK hP hD hS 1 0 rfl rfl (i_in (by omega) (by omega)) dX11_began_18 (fun H locs => ?_)
    clear hP hD hS
    intro hP hD hS
    replace hP : va_P D vwCl [(moC md sd mth mst hn cn pn mq gn mln mnn ln mlt msz mcu mtk mfr mti mfa mfb an un lc td mtn), (aI cI (md 62) 16 (upd mtr mtn.toNatClampNeg a))] H := hP
    replace hD : va_D A [(moC md sd mth mst hn cn pn mq gn mln mnn ln mlt msz mcu mtk mfr mti mfa mfb an un lc td mtn), (aI cI (md 62) 16 (upd mtr mtn.toNatClampNeg a))] := hD
    refine lv_aload_n hx hb dX11_began_19 rfl (lv_at hl 0 rfl) ?_
    refine lv_dup hx hb dX11_began_20 rfl ?_
    refine va_get (D := D) (ci := 11) (v := .int mtn) (C := RX11) (T := TX11) (N := 64) hx hb hts inX11_began_X11 hown hK hP 0 rfl rfl 63 (by decide) (hts (Cond.fieldLink RX11 383 "PortRoomsModel" "traced" "I") (wm_t (wm_l (wm_i 0 rfl)))) (fun _ h9 => h9) rfl dX11_began_21 ?_
    refine lv_iconst (v := 1) hx hb dX11_began_24 (by decide) ?_
    refine lv_iadd hx hb dX11_began_25 ?_
    refine lv_topi (fun v4 ev4 => ?_)
    try have tv4 : v4.toInt = mtn.toInt + 1 := by rw [ev4]; exact (i_add (x := mtn) (y := (1 : Int32)) (by rw [k1]; omega) (by rw [k1]; omega)).trans (by rw [k1])
    refine va_put (D := D) (ci := 11) (v := .int v4) (ty := .int) (C := RX11) (T := TX11) (N := 64) hx hb hts inX11_began_X11 tyX11 tyX11_ok nmX11 hown hK hP hD hS 0 rfl rfl 63 (by decide) (hts (Cond.fieldLink RX11 383 "PortRoomsModel" "traced" "I") (wm_t (wm_l (wm_i 0 rfl)))) (fun _ h9 => h9) rfl (tyX11_ok 63 (by decide)) rfl rfl (Nat.le_of_ble_eq_true rfl) dX11_began_26 (fun H locs => ?_)
    clear hP hD hS
    intro hP hD hS
    replace hP : va_P D vwCl [(moC md sd mth mst hn cn pn mq gn mln mnn ln mlt msz mcu mtk mfr mti mfa mfb an un lc td v4), (aI cI (md 62) 16 (upd mtr mtn.toNatClampNeg a))] H := hP
    replace hD : va_D A [(moC md sd mth mst hn cn pn mq gn mln mnn ln mlt msz mcu mtk mfr mti mfa mfb an un lc td v4), (aI cI (md 62) 16 (upd mtr mtn.toNatClampNeg a))] := hD
    have hP9 := hP
    have hD9 := hD
    exact W.vret hx hb hr (fun t ht hW => ⟨⟨(v4, upd mtr mtn.toNatClampNeg a), rfl, (by show (v4, upd mtr mtn.toNatClampNeg a) = lvT (mtn, mtr) a ∧ 0 ≤ v4.toInt ∧ v4.toInt ≤ 16; exact ⟨lvT_y (by omega) (by assumption), by omega, by omega⟩), by rw [ht]; exact hP9, va_K.moved hW.alike hK, hD9⟩, hS.F ht⟩) hS.2.2 dX11_began_29

set_option maxHeartbeats 4000000 in
set_option maxRecDepth 100000 in
theorem ct_X11_plainSize (l : Launch) (D : va_G) (cI cY cJ cQ : ClassId) (sz : Nat) (md : Nat → Nat) (sd : Int32) (mth mst hn cn pn mq gn mln mnn ln mlt msz mcu mtk mfr mti mfa mfb an un lc td mtn : Int32) (mtr wo : Nat → Int32) (k : Int32)  (h1 : cn.toInt ≤ 12) (h2 : 0 ≤ k.toInt) (h3 : k.toInt < cn.toInt) (h4 : 0 ≤ mtn.toInt) (h5 : mtn.toInt ≤ 16)  : Met l yX11_plainSize wsX11_plainSize ({ frames := 1, cells := 0, slots := 0, locals := 21 }) (cPre D (ty4 cI cY cJ cQ) [(moC md sd mth mst hn cn pn mq gn mln mnn ln mlt msz mcu mtk mfr mti mfa mfb an un lc td mtn), (aI cI (md 62) 16 mtr), (aI cI (md 17) 12 wo)] sz [.ref (md 64), .int k]) (va_Qi (fun (r : Int32) (u : Int32 × (Nat → Int32)) => r = wo k.toNatClampNeg ∧ u = (lvT (mtn, mtr) 10) ∧ 0 ≤ u.1.toInt ∧ u.1.toInt ≤ 16) (cB D (ty4 cI cY cJ cQ) (fun (u : Int32 × (Nat → Int32)) => [(moC md sd mth mst hn cn pn mq gn mln mnn ln mlt msz mcu mtk mfr mti mfa mfb an un lc td u.1), (aI cI (md 62) 16 u.2), (aI cI (md 17) 12 wo)]) (va_A [(moC md sd mth mst hn cn pn mq gn mln mnn ln mlt msz mcu mtk mfr mti mfa mfb an un lc td mtn), (aI cI (md 62) 16 mtr), (aI cI (md 17) 12 wo)] sz)) (va_A [(moC md sd mth mst hn cn pn mq gn mln mnn ln mlt msz mcu mtk mfr mti mfa mfb an un lc td mtn), (aI cI (md 62) 16 mtr), (aI cI (md 17) 12 wo)] sz)) 0 0 (va_A [(moC md sd mth mst hn cn pn mq gn mln mnn ln mlt msz mcu mtk mfr mti mfa mfb an un lc td mtn), (aI cI (md 62) 16 mtr), (aI cI (md 17) 12 wo)] sz) := by
  refine Met.ofW (cc := cX11_plainSize) (maxL := 2) (ret := (some .int)) (by decide) rfl ?_
  intro p e s m args below meth c s₁ B hml hv
  obtain ⟨rfl, hsz, hP, hK, hD0, hN⟩ := hv
  have hx := B.exec
  have hb := B.bytes
  have hr := B.returns
  have hts := atoms_spec (ws := wsX11_plainSize) B.pre
  have hown : s.vm.findClass RX11 = some m.cls := findClass_of_methodNamed B.named
  have hlocks := B.notSynchronized
  subst hsz
  have hD := hD0.self (sz := s.heap.size)
  generalize hAe : va_A [(moC md sd mth mst hn cn pn mq gn mln mnn ln mlt msz mcu mtk mfr mti mfa mfb an un lc td mtn), (aI cI (md 62) 16 mtr), (aI cI (md 17) 12 wo)] s.heap.size = A at hD ⊢
  have hA : ∀ q : Nat, s.heap.size ≤ q → A q := fun q h => by rw [← hAe]; exact Or.inr h
  have hS : va_S A s.heap s.heap [] := va_S.rf
  have hP : va_P D vwCl [(moC md sd mth mst hn cn pn mq gn mln mnn ln mlt msz mcu mtk mfr mti mfa mfb an un lc td mtn), (aI cI (md 62) 16 mtr), (aI cI (md 17) 12 wo)] s.heap := hP
  have hl := lv_entry ([.ref (md 64), .int k]) (n := 2) (Nat.le_of_ble_eq_true rfl)
  rw [lg_entry_eq]
  generalize (lg_sl ([.ref (md 64), .int k]) ++ List.replicate (2 - (lg_sl ([.ref (md 64), .int k])).length) Slot.unset).toArray = ls at hl ⊢
  have hl : lv_has ls 2 [(0, .ref (md 64)), (1, .int k)] := hl
  have k10 : (10 : Int32).toInt = 10 := by decide
  refine lv_aload_n hx hb dX11_plainSize_0 rfl (lv_at hl 0 rfl) ?_
  refine lv_bipush (v := 10) hx hb dX11_plainSize_1 (by decide) ?_
  refine st_v (wr := [(aI cI (md 17) 12 wo)]) (va_runV (C := RX11) (As := [.int 10]) (rest := []) ⟨hx, hb, hml, hown, hts⟩ (ct_X11_began l D cI cY cJ cQ _ md sd mth mst hn cn pn mq gn mln mnn ln mlt msz mcu mtk mfr mti mfa mfb an un lc td mtn mtr (10 : Int32) h4 h5) (cwV 1 hts gX11_plainSize_X11_began rfl rfl rfl ⟨rfl, cdX11_began⟩ ⟨Nat.le_of_ble_eq_true rfl, Nat.le_of_ble_eq_true rfl⟩) (cPreV (hP.sub [0, 1] rfl) hK (hD.sub [0, 1] (by decide +kernel) rfl) hN (ci := 11) (q0 := 0) rfl rfl) rfl rfl hl.1 rfl (lv_room (Nat.le_of_ble_eq_true rfl)) dX11_plainSize_3 ⟨Nat.le_of_ble_eq_true rfl, Nat.le_of_ble_eq_true rfl⟩) hP hD hS hA [0, 1] [2] rfl rfl (by decide +kernel) (by decide +kernel) (fun u1 H locs hw2 => ?_)
  clear hP hD hS
  intro hP hD hS
  obtain ⟨mtn_4, mtr_5⟩ := u1
  replace hw2 : (mtn_4, mtr_5) = lvT (mtn, mtr) (10 : Int32) ∧ 0 ≤ mtn_4.toInt ∧ mtn_4.toInt ≤ 16 := hw2
  replace hP : va_P D vwCl [(aI cI (md 17) 12 wo), (moC md sd mth mst hn cn pn mq gn mln mnn ln mlt msz mcu mtk mfr mti mfa mfb an un lc td mtn_4), (aI cI (md 62) 16 mtr_5)] H := hP
  replace hD : va_D A [(aI cI (md 17) 12 wo), (moC md sd mth mst hn cn pn mq gn mln mnn ln mlt msz mcu mtk mfr mti mfa mfb an un lc td mtn_4), (aI cI (md 62) 16 mtr_5)] := hD
  obtain ⟨hw2, hw2a, hw2b⟩ := hw2
  refine lv_aload_n hx hb dX11_plainSize_6 rfl (lv_at hl 0 rfl) ?_
  refine va_get (D := D) (ci := 11) (v := .ref (md 17)) (C := RX11) (T := TX11) (N := 64) hx hb hts inX11_plainSize_X11 hown hK hP 1 rfl rfl 17 (by decide) (hts (Cond.fieldLink RX11 51 "PortRoomsModel" "worth" "[I") (wm_t (wm_l (wm_i 0 rfl)))) (fun _ h9 => h9) rfl dX11_plainSize_7 ?_
  refine lv_iload_n hx hb dX11_plainSize_10 rfl (lv_at hl 1 rfl) ?_
  refine va_iald hx hb hK hP 0 0 rfl rfl (i_in (by omega) (by omega)) dX11_plainSize_11 ?_
  refine lv_topi (fun v6 ev6 => ?_)
  have hP9 := hP.sub (ws' := [(moC md sd mth mst hn cn pn mq gn mln mnn ln mlt msz mcu mtk mfr mti mfa mfb an un lc td mtn_4), (aI cI (md 62) 16 mtr_5), (aI cI (md 17) 12 wo)]) [1, 2, 0] rfl
  have hD9 := hD.sub (ws' := [(moC md sd mth mst hn cn pn mq gn mln mnn ln mlt msz mcu mtk mfr mti mfa mfb an un lc td mtn_4), (aI cI (md 62) 16 mtr_5), (aI cI (md 17) 12 wo)]) [1, 2, 0] (by decide +kernel) rfl
  exact W.iret (v := v6) hx hb hr (fun t ht hW => ⟨⟨v6, (mtn_4, mtr_5), rfl, (by show v6 = wo k.toNatClampNeg ∧ (mtn_4, mtr_5) = (lvT (mtn, mtr) 10) ∧ 0 ≤ mtn_4.toInt ∧ mtn_4.toInt ≤ 16; exact ⟨ev6, (by rw [hw2]), by omega, by omega⟩), by rw [ht]; exact hP9, va_K.moved hW.alike hK, hD9⟩, hS.F ht⟩) hS.2.2 dX11_plainSize_12

set_option maxHeartbeats 4000000 in
set_option maxRecDepth 100000 in
theorem ct_X11_trace (l : Launch) (D : va_G) (cI cY cJ cQ : ClassId) (sz : Nat) (md : Nat → Nat) (sd : Int32) (mth mst hn cn pn mq gn mln mnn ln mlt msz mcu mtk mfr mti mfa mfb an un lc td mtn : Int32) (mtr : Nat → Int32) (i : Int32)  (h1 : 0 ≤ mtn.toInt) (h2 : mtn.toInt ≤ 16)  : Met l yX11_trace wsX11_trace ({ frames := 1, cells := 0, slots := 0, locals := 25 }) (cPre D (ty4 cI cY cJ cQ) [(moC md sd mth mst hn cn pn mq gn mln mnn ln mlt msz mcu mtk mfr mti mfa mfb an un lc td mtn), (aI cI (md 62) 16 mtr)] sz [.ref (md 64), .int i]) (va_Qi (fun (r : Int32) (u : Unit) => r = sp_trace mtn mtr i) (cB D (ty4 cI cY cJ cQ) (fun (u : Unit) => [(moC md sd 0 mst hn cn pn mq gn mln mnn ln mlt msz mcu mtk mfr mti mfa mfb an un lc td mtn), (aI cI (md 62) 16 mtr)]) (va_A [(moC md sd mth mst hn cn pn mq gn mln mnn ln mlt msz mcu mtk mfr mti mfa mfb an un lc td mtn), (aI cI (md 62) 16 mtr)] sz)) (va_A [(moC md sd mth mst hn cn pn mq gn mln mnn ln mlt msz mcu mtk mfr mti mfa mfb an un lc td mtn), (aI cI (md 62) 16 mtr)] sz)) 0 0 (va_A [(moC md sd mth mst hn cn pn mq gn mln mnn ln mlt msz mcu mtk mfr mti mfa mfb an un lc td mtn), (aI cI (md 62) 16 mtr)] sz) := by
  refine Met.ofW (cc := cX11_trace) (maxL := 2) (ret := (some .int)) (by decide) rfl ?_
  intro p e s m args below meth c s₁ B hml hv
  obtain ⟨rfl, hsz, hP, hK, hD0, hN⟩ := hv
  have hx := B.exec
  have hb := B.bytes
  have hr := B.returns
  have hts := atoms_spec (ws := wsX11_trace) B.pre
  have hown : s.vm.findClass RX11 = some m.cls := findClass_of_methodNamed B.named
  have hlocks := B.notSynchronized
  subst hsz
  have hD := hD0.self (sz := s.heap.size)
  generalize hAe : va_A [(moC md sd mth mst hn cn pn mq gn mln mnn ln mlt msz mcu mtk mfr mti mfa mfb an un lc td mtn), (aI cI (md 62) 16 mtr)] s.heap.size = A at hD ⊢
  have hA : ∀ q : Nat, s.heap.size ≤ q → A q := fun q h => by rw [← hAe]; exact Or.inr h
  have hS : va_S A s.heap s.heap [] := va_S.rf
  have hP : va_P D vwCl [(moC md sd mth mst hn cn pn mq gn mln mnn ln mlt msz mcu mtk mfr mti mfa mfb an un lc td mtn), (aI cI (md 62) 16 mtr)] s.heap := hP
  have hl := lv_entry ([.ref (md 64), .int i]) (n := 2) (Nat.le_of_ble_eq_true rfl)
  rw [lg_entry_eq]
  generalize (lg_sl ([.ref (md 64), .int i]) ++ List.replicate (2 - (lg_sl ([.ref (md 64), .int i])).length) Slot.unset).toArray = ls at hl ⊢
  have hl : lv_has ls 2 [(0, .ref (md 64)), (1, .int i)] := hl
  have km1000000 : (-1000000 : Int32).toInt = -1000000 := by decide
  have k0 : (0 : Int32).toInt = 0 := by decide
  have k1 : (1 : Int32).toInt = 1 := by decide
  have kl0 : (0 : Int64).toInt = 0 := by decide
  refine lv_aload_n hx hb dX11_trace_0 rfl (lv_at hl 0 rfl) ?_
  refine lv_iconst (v := 0) hx hb dX11_trace_1 (by decide) ?_
  refine va_put (D := D) (ci := 11) (v := .int 0) (ty := .int) (C := RX11) (T := TX11) (N := 64) hx hb hts inX11_trace_X11 tyX11 tyX11_ok nmX11 hown hK hP hD hS 0 rfl rfl 0 (by decide) (hts (Cond.fieldLink RX11 1 "PortRoomsModel" "thrown" "I") (wm_t (wm_l (wm_i 0 rfl)))) (fun _ h9 => h9) rfl (tyX11_ok 0 (by decide)) rfl rfl (Nat.le_of_ble_eq_true rfl) dX11_trace_2 (fun H locs => ?_)
  clear hP hD hS
  intro hP hD hS
  replace hP : va_P D vwCl [(moC md sd (0) mst hn cn pn mq gn mln mnn ln mlt msz mcu mtk mfr mti mfa mfb an un lc td mtn), (aI cI (md 62) 16 mtr)] H := hP
  replace hD : va_D A [(moC md sd (0) mst hn cn pn mq gn mln mnn ln mlt msz mcu mtk mfr mti mfa mfb an un lc td mtn), (aI cI (md 62) 16 mtr)] := hD
  refine lv_iload_n hx hb dX11_trace_5 rfl (lv_at hl 1 rfl) ?_
  refine lv_i2l hx hb dX11_trace_6 rfl ?_
  have w1 := i_w i
  have w2 := i_rng i
  refine lv_lconst (v := 0) hx hb dX11_trace_7 (by decide) ?_
  refine lv_aload_n hx hb dX11_trace_8 rfl (lv_at hl 0 rfl) ?_
  refine va_get (D := D) (ci := 11) (v := .int mtn) (C := RX11) (T := TX11) (N := 64) hx hb hts inX11_trace_X11 hown hK hP 0 rfl rfl 63 (by decide) (hts (Cond.fieldLink RX11 383 "PortRoomsModel" "traced" "I") (wm_t (wm_l (wm_i 1 rfl)))) (fun _ h9 => h9) rfl dX11_trace_9 ?_
  refine lv_iconst (v := 1) hx hb dX11_trace_12 (by decide) ?_
  refine lv_isub hx hb dX11_trace_13 ?_
  refine lv_topi (fun v3 ev3 => ?_)
  try have tv3 : v3.toInt = mtn.toInt - 1 := by rw [ev3]; exact (i_sub (x := mtn) (y := (1 : Int32)) (by rw [k1]; omega) (by rw [k1]; omega)).trans (by rw [k1])
  refine lv_i2l hx hb dX11_trace_14 rfl ?_
  have w4 := i_w v3
  have w5 := i_rng v3
  refine st_i1 (va_runS (As := [.long (i.toInt64), .long 0, .long (v3.toInt64)]) (rest := []) ⟨hx, hb, hml, hown, hts⟩ (ct_X11_in l D cI cY cJ cQ _ i.toInt64 (0 : Int64) v3.toInt64) (va_cwS 3 hts gX11_trace_X11_in rfl rfl rfl cdX11_in ⟨Nat.le_of_ble_eq_true rfl, Nat.le_of_ble_eq_true rfl⟩) (cPreS (hP.sub [] rfl) hK (hD.sub [] (by decide +kernel) rfl) hN) rfl rfl hl.1 rfl (lv_room (Nat.le_of_ble_eq_true rfl)) dX11_trace_15 ⟨Nat.le_of_ble_eq_true rfl, Nat.le_of_ble_eq_true rfl⟩) hP hD hS hA [] rfl (fun _ => rfl) (fun r8 u6 H locs hw7 => ?_)
  clear hP hS
  intro hP hS
  replace hw7 : r8 = if (0 : Int64).toInt ≤ i.toInt64.toInt ∧ i.toInt64.toInt ≤ v3.toInt64.toInt then 1 else 0 := hw7
  refine lv_if_eq (tgt := 30) hx hb dX11_trace_18 (by decide) (fun c9 => ?_) (fun c9 => ?_)
  · skip
    have f10 := bo_f hw7 c9
    refine lv_ldc hx hb hown (hts (Cond.constant RX11 139 (-1000000)) (wm_t (wm_l (wm_i 3 rfl)))) dX11_trace_30 ?_
    have hP9 := hP
    have hD9 := hD
    exact W.iret (v := (-1000000)) hx hb hr (fun t ht hW => ⟨⟨(-1000000), (), rfl, (by unfold sp_trace; (repeat' split) <;> first | rfl | (exfalso; omega) | (subst_vars; rfl)), by rw [ht]; exact hP9, va_K.moved hW.alike hK, hD9⟩, hS.F ht⟩) hS.2.2 dX11_trace_32
  · skip
    have f11 := bo_t hw7 c9
    refine lv_aload_n hx hb dX11_trace_21 rfl (lv_at hl 0 rfl) ?_
    refine va_get (D := D) (ci := 11) (v := .ref (md 62)) (C := RX11) (T := TX11) (N := 64) hx hb hts inX11_trace_X11 hown hK hP 0 rfl rfl 62 (by decide) (hts (Cond.fieldLink RX11 132 "PortRoomsModel" "trace" "[I") (wm_t (wm_l (wm_i 2 rfl)))) (fun _ h9 => h9) rfl dX11_trace_22 ?_
    refine lv_iload_n hx hb dX11_trace_25 rfl (lv_at hl 1 rfl) ?_
    refine va_iald hx hb hK hP 1 0 rfl rfl (i_in (by omega) (by omega)) dX11_trace_26 ?_
    refine lv_topi (fun v12 ev12 => ?_)
    refine lv_goto (tgt := 32) hx hb dX11_trace_27 (by decide) ?_
    have hP9 := hP
    have hD9 := hD
    exact W.iret (v := v12) hx hb hr (fun t ht hW => ⟨⟨v12, (), rfl, (by unfold sp_trace; (repeat' split) <;> first | rfl | (exfalso; omega) | (subst_vars; rfl)), by rw [ht]; exact hP9, va_K.moved hW.alike hK, hD9⟩, hS.F ht⟩) hS.2.2 dX11_trace_32

set_option maxHeartbeats 4000000 in
set_option maxRecDepth 100000 in
theorem ct_X11_count (l : Launch) (D : va_G) (cI cY cJ cQ : ClassId) (sz : Nat) (md : Nat → Nat) (sd : Int32) (mth mst hn cn pn mq gn mln mnn ln mlt msz mcu mtk mfr mti mfa mfb an un lc td mtn : Int32) (ml : Nat → Int32) (w : Int32)   : Met l yX11_count wsX11_count ({ frames := 0, cells := 0, slots := 0, locals := 0 }) (cPre D (ty4 cI cY cJ cQ) [(moC md sd mth mst hn cn pn mq gn mln mnn ln mlt msz mcu mtk mfr mti mfa mfb an un lc td mtn), (aI cI (md 3) 8 ml)] sz [.ref (md 64), .int w]) (va_Qi (fun (r : Int32) (u : Unit) => True) (cB D (ty4 cI cY cJ cQ) (fun (u : Unit) => [(moC md sd 0 mst hn cn pn mq gn mln mnn ln mlt msz mcu mtk mfr mti mfa mfb an un lc td mtn), (aI cI (md 3) 8 ml)]) (va_A [(moC md sd mth mst hn cn pn mq gn mln mnn ln mlt msz mcu mtk mfr mti mfa mfb an un lc td mtn), (aI cI (md 3) 8 ml)] sz)) (va_A [(moC md sd mth mst hn cn pn mq gn mln mnn ln mlt msz mcu mtk mfr mti mfa mfb an un lc td mtn), (aI cI (md 3) 8 ml)] sz)) 0 0 (va_A [(moC md sd mth mst hn cn pn mq gn mln mnn ln mlt msz mcu mtk mfr mti mfa mfb an un lc td mtn), (aI cI (md 3) 8 ml)] sz) := by
  refine Met.ofW (cc := cX11_count) (maxL := 4) (ret := (some .int)) (by decide) rfl ?_
  intro p e s m args below meth c s₁ B hml hv
  obtain ⟨rfl, hsz, hP, hK, hD0, hN⟩ := hv
  have hx := B.exec
  have hb := B.bytes
  have hr := B.returns
  have hts := atoms_spec (ws := wsX11_count) B.pre
  have hown : s.vm.findClass RX11 = some m.cls := findClass_of_methodNamed B.named
  have hlocks := B.notSynchronized
  subst hsz
  have hD := hD0.self (sz := s.heap.size)
  generalize hAe : va_A [(moC md sd mth mst hn cn pn mq gn mln mnn ln mlt msz mcu mtk mfr mti mfa mfb an un lc td mtn), (aI cI (md 3) 8 ml)] s.heap.size = A at hD ⊢
  have hA : ∀ q : Nat, s.heap.size ≤ q → A q := fun q h => by rw [← hAe]; exact Or.inr h
  have hS : va_S A s.heap s.heap [] := va_S.rf
  have hP : va_P D vwCl [(moC md sd mth mst hn cn pn mq gn mln mnn ln mlt msz mcu mtk mfr mti mfa mfb an un lc td mtn), (aI cI (md 3) 8 ml)] s.heap := hP
  have hl := lv_entry ([.ref (md 64), .int w]) (n := 4) (Nat.le_of_ble_eq_true rfl)
  rw [lg_entry_eq]
  generalize (lg_sl ([.ref (md 64), .int w]) ++ List.replicate (4 - (lg_sl ([.ref (md 64), .int w])).length) Slot.unset).toArray = ls at hl ⊢
  have hl : lv_has ls 4 [(0, .ref (md 64)), (1, .int w)] := hl
  have k0 : (0 : Int32).toInt = 0 := by decide
  have k1 : (1 : Int32).toInt = 1 := by decide
  have k8 : (8 : Int32).toInt = 8 := by decide
  refine lv_aload_n hx hb dX11_count_0 rfl (lv_at hl 0 rfl) ?_
  refine lv_iconst (v := 0) hx hb dX11_count_1 (by decide) ?_
  refine va_put (D := D) (ci := 11) (v := .int 0) (ty := .int) (C := RX11) (T := TX11) (N := 64) hx hb hts inX11_count_X11 tyX11 tyX11_ok nmX11 hown hK hP hD hS 0 rfl rfl 0 (by decide) (hts (Cond.fieldLink RX11 1 "PortRoomsModel" "thrown" "I") (wm_t (wm_l (wm_i 0 rfl)))) (fun _ h9 => h9) rfl (tyX11_ok 0 (by decide)) rfl rfl (Nat.le_of_ble_eq_true rfl) dX11_count_2 (fun H locs => ?_)
  clear hP hD hS
  intro hP hD hS
  replace hP : va_P D vwCl [(moC md sd (0) mst hn cn pn mq gn mln mnn ln mlt msz mcu mtk mfr mti mfa mfb an un lc td mtn), (aI cI (md 3) 8 ml)] H := hP
  replace hD : va_D A [(moC md sd (0) mst hn cn pn mq gn mln mnn ln mlt msz mcu mtk mfr mti mfa mfb an un lc td mtn), (aI cI (md 3) 8 ml)] := hD
  refine lv_iload_n hx hb dX11_count_5 rfl (lv_at hl 1 rfl) ?_
  rcases (show (w.toInt < 0 ∨ 9 < w.toInt) ∨ w.toInt = 0 ∨ w.toInt = 1 ∨ w.toInt = 2 ∨ w.toInt = 3 ∨ w.toInt = 4 ∨ w.toInt = 5 ∨ w.toInt = 6 ∨ w.toInt = 7 ∨ w.toInt = 8 ∨ w.toInt = 9 by omega) with hsw1 | hsw1 | hsw1 | hsw1 | hsw1 | hsw1 | hsw1 | hsw1 | hsw1 | hsw1 | hsw1
  · skip
    refine lv_tableOut (tgt := 140) hx hb dX11_count_6 hsw1 (by decide) ?_
    refine lv_ldc hx hb hown (hts (Cond.constant RX11 157 (-1000001)) (wm_t (wm_l (wm_i 11 rfl)))) dX11_count_140 ?_
    have hP9 := hP
    have hD9 := hD
    exact W.iret (v := (-1000001)) hx hb hr (fun t ht hW => ⟨⟨(-1000001), (), rfl, trivial, by rw [ht]; exact hP9, va_K.moved hW.alike hK, hD9⟩, hS.F ht⟩) hS.2.2 dX11_count_142
  · skip
    refine lv_tableIn (tgt := 60) (off := 54) hx hb dX11_count_6 (by omega) (by omega) (by rw [hsw1]; rfl) (by decide) ?_
    refine lv_iconst (v := 0) hx hb dX11_count_60 (by decide) ?_
    refine lv_istore_n (lv' := [(2, .int 0), (0, .ref (md 64)), (1, .int w)]) hx hb dX11_count_61 rfl hl (by decide) rfl (fun ls hl => ?_)
    refine lv_iconst (v := 0) hx hb dX11_count_62 (by decide) ?_
    refine lv_istore_n (lv' := [(3, .int 0), (2, .int 0), (0, .ref (md 64)), (1, .int w)]) hx hb dX11_count_63 rfl hl (by decide) rfl (fun ls hl => ?_)
    refine st_loop 64 (fun _ => []) (fun (z : Int32 × Int32) (ls : Array Slot) (H : Heap) (locs : List Loc) => match z with | (q64_2, q64_3) => (0 ≤ q64_3.toInt) ∧ (q64_3.toInt ≤ 8) ∧ (0 ≤ q64_2.toInt) ∧ (q64_2.toInt ≤ q64_3.toInt) ∧ lv_has ls 4 [(0, .ref (md 64)), (1, .int w), (2, .int q64_2), (3, .int q64_3)] ∧ va_P D vwCl [(moC md sd (0) mst hn cn pn mq gn mln mnn ln mlt msz mcu mtk mfr mti mfa mfb an un lc td mtn), (aI cI (md 3) 8 ml)] H ∧ va_D A [(moC md sd (0) mst hn cn pn mq gn mln mnn ln mlt msz mcu mtk mfr mti mfa mfb an un lc td mtn), (aI cI (md 3) 8 ml)] ∧ va_S A s.heap H locs) (fun (z : Int32 × Int32) => match z with | (q64_2, q64_3) => 8 - q64_3.toInt) ?_ ?_ ((0 : Int32), (0 : Int32)) ⟨(by omega), (by omega), (by omega), (by omega), lv_sub hl [2, 3, 1, 0] rfl, hP, hD, hS⟩
    · rintro ⟨q64_2, q64_3⟩ ls H locs ⟨g2, g3, g4, g5, hl, hP, hD, hS⟩
      show (0 : Int) ≤ 8 - q64_3.toInt
      omega
    · rintro n8 ih6 ⟨q64_2, q64_3⟩ ls H locs ⟨g2, g3, g4, g5, hl, hP, hD, hS⟩ hm7
      have hm7 : 8 - q64_3.toInt < (n8 : Int) + 1 := hm7
      replace hl : lv_has ls 4 [(0, .ref (md 64)), (1, .int w), (2, .int q64_2), (3, .int q64_3)] := hl
      replace hP : va_P D vwCl [(moC md sd (0) mst hn cn pn mq gn mln mnn ln mlt msz mcu mtk mfr mti mfa mfb an un lc td mtn), (aI cI (md 3) 8 ml)] H := hP
      replace hD : va_D A [(moC md sd (0) mst hn cn pn mq gn mln mnn ln mlt msz mcu mtk mfr mti mfa mfb an un lc td mtn), (aI cI (md 3) 8 ml)] := hD
      show W _ _ _ _ _ _ _ _ _ _ _ _ _ _ _ (F0 m 64 ls [])
      refine lv_iload_n hx hb dX11_count_64 rfl (lv_at hl 3 rfl) ?_
      refine lv_bipush (v := 8) hx hb dX11_count_65 (by decide) ?_
      refine lv_icmp_ge (tgt := 93) hx hb dX11_count_67 (by decide) (fun c9 => ?_) (fun c9 => ?_)
      · skip
        have f10 := i_le c9
        refine lv_iload_n hx hb dX11_count_93 rfl (lv_at hl 2 rfl) ?_
        have hP9 := hP
        have hD9 := hD
        exact W.iret (v := q64_2) hx hb hr (fun t ht hW => ⟨⟨q64_2, (), rfl, trivial, by rw [ht]; exact hP9, va_K.moved hW.alike hK, hD9⟩, hS.F ht⟩) hS.2.2 dX11_count_94
      · skip
        have f11 := i_nle c9
        refine lv_iload_n hx hb dX11_count_70 rfl (lv_at hl 2 rfl) ?_
        refine lv_aload_n hx hb dX11_count_71 rfl (lv_at hl 0 rfl) ?_
        refine va_get (D := D) (ci := 11) (v := .ref (md 3)) (C := RX11) (T := TX11) (N := 64) hx hb hts inX11_count_X11 hown hK hP 0 rfl rfl 3 (by decide) (hts (Cond.fieldLink RX11 13 "PortRoomsModel" "lane" "[I") (wm_t (wm_l (wm_i 1 rfl)))) (fun _ h9 => h9) rfl dX11_count_72 ?_
        refine lv_iload_n hx hb dX11_count_75 rfl (lv_at hl 3 rfl) ?_
        refine va_iald hx hb hK hP 1 0 rfl rfl (i_in (by omega) (by omega)) dX11_count_76 ?_
        refine lv_topi (fun v12 ev12 => ?_)
        refine lv_if_lt (tgt := 84) hx hb dX11_count_77 (by decide) (fun c13 => ?_) (fun c13 => ?_)
        · skip
          have f14 := i_lt c13
          refine lv_iconst (v := 0) hx hb dX11_count_84 (by decide) ?_
          refine lv_iadd hx hb dX11_count_85 ?_
          refine lv_topi (fun v15 ev15 => ?_)
          try have tv15 : v15.toInt = q64_2.toInt + 0 := by rw [ev15]; exact (i_add (x := q64_2) (y := (0 : Int32)) (by rw [k0]; omega) (by rw [k0]; omega)).trans (by rw [k0])
          refine lv_istore_n (lv' := [(2, .int v15), (0, .ref (md 64)), (1, .int w), (3, .int q64_3)]) hx hb dX11_count_86 rfl hl (by decide) rfl (fun ls hl => ?_)
          obtain ⟨v16, ev16⟩ : ∃ y : Int32, y = q64_3 + 1 := ⟨_, rfl⟩
          try have tv16 : v16.toInt = q64_3.toInt + 1 := by rw [ev16]; exact (i_add (x := q64_3) (y := (1 : Int32)) (by rw [k1]; omega) (by rw [k1]; omega)).trans (by rw [k1])
          refine lv_iinc (v := v16) (lv' := [(3, .int v16), (2, .int v15), (0, .ref (md 64)), (1, .int w)]) hx hb dX11_count_87 hl (k := 3) rfl (by rw [ev16]; rfl) (by decide) rfl (fun ls hl => ?_)
          refine lv_goto (tgt := 64) hx hb dX11_count_90 (by decide) ?_
          exact ih6 (v15, v16) ls H locs ⟨(by omega), (by omega), (by omega), (by omega), lv_sub hl [2, 3, 1, 0] rfl, hP.sub [0, 1] rfl, hD.sub [0, 1] (by decide +kernel) rfl, hS⟩ (by show 8 - v16.toInt < _; omega)
        · skip
          have f17 := i_nlt c13
          refine lv_iconst (v := 1) hx hb dX11_count_80 (by decide) ?_
          refine lv_goto (tgt := 85) hx hb dX11_count_81 (by decide) ?_
          refine lv_iadd hx hb dX11_count_85 ?_
          refine lv_topi (fun v18 ev18 => ?_)
          try have tv18 : v18.toInt = q64_2.toInt + 1 := by rw [ev18]; exact (i_add (x := q64_2) (y := (1 : Int32)) (by rw [k1]; omega) (by rw [k1]; omega)).trans (by rw [k1])
          refine lv_istore_n (lv' := [(2, .int v18), (0, .ref (md 64)), (1, .int w), (3, .int q64_3)]) hx hb dX11_count_86 rfl hl (by decide) rfl (fun ls hl => ?_)
          obtain ⟨v19, ev19⟩ : ∃ y : Int32, y = q64_3 + 1 := ⟨_, rfl⟩
          try have tv19 : v19.toInt = q64_3.toInt + 1 := by rw [ev19]; exact (i_add (x := q64_3) (y := (1 : Int32)) (by rw [k1]; omega) (by rw [k1]; omega)).trans (by rw [k1])
          refine lv_iinc (v := v19) (lv' := [(3, .int v19), (2, .int v18), (0, .ref (md 64)), (1, .int w)]) hx hb dX11_count_87 hl (k := 3) rfl (by rw [ev19]; rfl) (by decide) rfl (fun ls hl => ?_)
          refine lv_goto (tgt := 64) hx hb dX11_count_90 (by decide) ?_
          exact ih6 (v18, v19) ls H locs ⟨(by omega), (by omega), (by omega), (by omega), lv_sub hl [2, 3, 1, 0] rfl, hP.sub [0, 1] rfl, hD.sub [0, 1] (by decide +kernel) rfl, hS⟩ (by show 8 - v19.toInt < _; omega)
  · skip
    refine lv_tableIn (tgt := 95) (off := 89) hx hb dX11_count_6 (by omega) (by omega) (by rw [hsw1]; rfl) (by decide) ?_
    refine lv_aload_n hx hb dX11_count_95 rfl (lv_at hl 0 rfl) ?_
    refine va_get (D := D) (ci := 11) (v := .int hn) (C := RX11) (T := TX11) (N := 64) hx hb hts inX11_count_X11 hown hK hP 0 rfl rfl 6 (by decide) (hts (Cond.fieldLink RX11 181 "PortRoomsModel" "holdings" "I") (wm_t (wm_l (wm_i 2 rfl)))) (fun _ h9 => h9) rfl dX11_count_96 ?_
    have hP9 := hP
    have hD9 := hD
    exact W.iret (v := hn) hx hb hr (fun t ht hW => ⟨⟨hn, (), rfl, trivial, by rw [ht]; exact hP9, va_K.moved hW.alike hK, hD9⟩, hS.F ht⟩) hS.2.2 dX11_count_99
  · skip
    refine lv_tableIn (tgt := 100) (off := 94) hx hb dX11_count_6 (by omega) (by omega) (by rw [hsw1]; rfl) (by decide) ?_
    refine lv_aload_n hx hb dX11_count_100 rfl (lv_at hl 0 rfl) ?_
    refine va_get (D := D) (ci := 11) (v := .int cn) (C := RX11) (T := TX11) (N := 64) hx hb hts inX11_count_X11 hown hK hP 0 rfl rfl 15 (by decide) (hts (Cond.fieldLink RX11 214 "PortRoomsModel" "crates" "I") (wm_t (wm_l (wm_i 3 rfl)))) (fun _ h9 => h9) rfl dX11_count_101 ?_
    have hP9 := hP
    have hD9 := hD
    exact W.iret (v := cn) hx hb hr (fun t ht hW => ⟨⟨cn, (), rfl, trivial, by rw [ht]; exact hP9, va_K.moved hW.alike hK, hD9⟩, hS.F ht⟩) hS.2.2 dX11_count_104
  · skip
    refine lv_tableIn (tgt := 105) (off := 99) hx hb dX11_count_6 (by omega) (by omega) (by rw [hsw1]; rfl) (by decide) ?_
    refine lv_aload_n hx hb dX11_count_105 rfl (lv_at hl 0 rfl) ?_
    refine va_get (D := D) (ci := 11) (v := .int pn) (C := RX11) (T := TX11) (N := 64) hx hb hts inX11_count_X11 hown hK hP 0 rfl rfl 18 (by decide) (hts (Cond.fieldLink RX11 222 "PortRoomsModel" "papers" "I") (wm_t (wm_l (wm_i 4 rfl)))) (fun _ h9 => h9) rfl dX11_count_106 ?_
    have hP9 := hP
    have hD9 := hD
    exact W.iret (v := pn) hx hb hr (fun t ht hW => ⟨⟨pn, (), rfl, trivial, by rw [ht]; exact hP9, va_K.moved hW.alike hK, hD9⟩, hS.F ht⟩) hS.2.2 dX11_count_109
  · skip
    refine lv_tableIn (tgt := 110) (off := 104) hx hb dX11_count_6 (by omega) (by omega) (by rw [hsw1]; rfl) (by decide) ?_
    refine lv_aload_n hx hb dX11_count_110 rfl (lv_at hl 0 rfl) ?_
    refine va_get (D := D) (ci := 11) (v := .int gn) (C := RX11) (T := TX11) (N := 64) hx hb hts inX11_count_X11 hown hK hP 0 rfl rfl 25 (by decide) (hts (Cond.fieldLink RX11 231 "PortRoomsModel" "pledges" "I") (wm_t (wm_l (wm_i 5 rfl)))) (fun _ h9 => h9) rfl dX11_count_111 ?_
    have hP9 := hP
    have hD9 := hD
    exact W.iret (v := gn) hx hb hr (fun t ht hW => ⟨⟨gn, (), rfl, trivial, by rw [ht]; exact hP9, va_K.moved hW.alike hK, hD9⟩, hS.F ht⟩) hS.2.2 dX11_count_114
  · skip
    refine lv_tableIn (tgt := 115) (off := 109) hx hb dX11_count_6 (by omega) (by omega) (by rw [hsw1]; rfl) (by decide) ?_
    refine lv_aload_n hx hb dX11_count_115 rfl (lv_at hl 0 rfl) ?_
    refine va_get (D := D) (ci := 11) (v := .int mln) (C := RX11) (T := TX11) (N := 64) hx hb hts inX11_count_X11 hown hK hP 0 rfl rfl 30 (by decide) (hts (Cond.fieldLink RX11 314 "PortRoomsModel" "lines" "I") (wm_t (wm_l (wm_i 6 rfl)))) (fun _ h9 => h9) rfl dX11_count_116 ?_
    have hP9 := hP
    have hD9 := hD
    exact W.iret (v := mln) hx hb hr (fun t ht hW => ⟨⟨mln, (), rfl, trivial, by rw [ht]; exact hP9, va_K.moved hW.alike hK, hD9⟩, hS.F ht⟩) hS.2.2 dX11_count_119
  · skip
    refine lv_tableIn (tgt := 120) (off := 114) hx hb dX11_count_6 (by omega) (by omega) (by rw [hsw1]; rfl) (by decide) ?_
    refine lv_aload_n hx hb dX11_count_120 rfl (lv_at hl 0 rfl) ?_
    refine va_get (D := D) (ci := 11) (v := .int an) (C := RX11) (T := TX11) (N := 64) hx hb hts inX11_count_X11 hown hK hP 0 rfl rfl 44 (by decide) (hts (Cond.fieldLink RX11 319 "PortRoomsModel" "acts" "I") (wm_t (wm_l (wm_i 7 rfl)))) (fun _ h9 => h9) rfl dX11_count_121 ?_
    have hP9 := hP
    have hD9 := hD
    exact W.iret (v := an) hx hb hr (fun t ht hW => ⟨⟨an, (), rfl, trivial, by rw [ht]; exact hP9, va_K.moved hW.alike hK, hD9⟩, hS.F ht⟩) hS.2.2 dX11_count_124
  · skip
    refine lv_tableIn (tgt := 125) (off := 119) hx hb dX11_count_6 (by omega) (by omega) (by rw [hsw1]; rfl) (by decide) ?_
    refine lv_aload_n hx hb dX11_count_125 rfl (lv_at hl 0 rfl) ?_
    refine va_get (D := D) (ci := 11) (v := .int un) (C := RX11) (T := TX11) (N := 64) hx hb hts inX11_count_X11 hown hK hP 0 rfl rfl 52 (by decide) (hts (Cond.fieldLink RX11 354 "PortRoomsModel" "opens" "I") (wm_t (wm_l (wm_i 8 rfl)))) (fun _ h9 => h9) rfl dX11_count_126 ?_
    have hP9 := hP
    have hD9 := hD
    exact W.iret (v := un) hx hb hr (fun t ht hW => ⟨⟨un, (), rfl, trivial, by rw [ht]; exact hP9, va_K.moved hW.alike hK, hD9⟩, hS.F ht⟩) hS.2.2 dX11_count_129
  · skip
    refine lv_tableIn (tgt := 130) (off := 124) hx hb dX11_count_6 (by omega) (by omega) (by rw [hsw1]; rfl) (by decide) ?_
    refine lv_aload_n hx hb dX11_count_130 rfl (lv_at hl 0 rfl) ?_
    refine va_get (D := D) (ci := 11) (v := .int lc) (C := RX11) (T := TX11) (N := 64) hx hb hts inX11_count_X11 hown hK hP 0 rfl rfl 57 (by decide) (hts (Cond.fieldLink RX11 360 "PortRoomsModel" "lists" "I") (wm_t (wm_l (wm_i 9 rfl)))) (fun _ h9 => h9) rfl dX11_count_131 ?_
    have hP9 := hP
    have hD9 := hD
    exact W.iret (v := lc) hx hb hr (fun t ht hW => ⟨⟨lc, (), rfl, trivial, by rw [ht]; exact hP9, va_K.moved hW.alike hK, hD9⟩, hS.F ht⟩) hS.2.2 dX11_count_134
  · skip
    refine lv_tableIn (tgt := 135) (off := 129) hx hb dX11_count_6 (by omega) (by omega) (by rw [hsw1]; rfl) (by decide) ?_
    refine lv_aload_n hx hb dX11_count_135 rfl (lv_at hl 0 rfl) ?_
    refine va_get (D := D) (ci := 11) (v := .int ln) (C := RX11) (T := TX11) (N := 64) hx hb hts inX11_count_X11 hown hK hP 0 rfl rfl 35 (by decide) (hts (Cond.fieldLink RX11 242 "PortRoomsModel" "taped" "I") (wm_t (wm_l (wm_i 10 rfl)))) (fun _ h9 => h9) rfl dX11_count_136 ?_
    have hP9 := hP
    have hD9 := hD
    exact W.iret (v := ln) hx hb hr (fun t ht hW => ⟨⟨ln, (), rfl, trivial, by rw [ht]; exact hP9, va_K.moved hW.alike hK, hD9⟩, hS.F ht⟩) hS.2.2 dX11_count_139
end

section
theorem cdX11_ownerOf : yX11_ownerOf.cls ≠ "java/lang/invoke/MethodHandle" ∧ yX11_ownerOf.cls ≠ "java/lang/invoke/VarHandle" ∧ (parseMethodDescriptor yX11_ownerOf.desc).map (fun d => d.parameters.length) = some 3 := by decide +kernel
theorem Gd_X11_ownerOf : gdA wsX11_ownerOf := gd_cons (by decide +kernel) (gd_app (gd_all (ws := wsX11_ownerOf_o1) (by decide +kernel)) Gd_X110)
theorem inX11_ownerOf_X11 : ∀ w ∈ u_ws RX11 TX11 64, w ∈ wsX11_ownerOf := fun _ h => (List.mem_cons_of_mem _ (List.mem_append_right _ h))
theorem inX11_owner_X11 : ∀ w ∈ u_ws RX11 TX11 64, w ∈ wsX11_owner := fun _ h => (List.mem_cons_of_mem _ (List.mem_append_right _ (List.mem_append_left _ (List.mem_append_left _ h))))
theorem inX11_quarrels_X11 : ∀ w ∈ u_ws RX11 TX11 64, w ∈ wsX11_quarrels := fun _ h => (List.mem_cons_of_mem _ (List.mem_append_right _ (List.mem_append_left _ (List.mem_append_left _ h))))
theorem dX11_ownerOf_all0 : decode cX11_ownerOf 0 = .ok (.aload_n 0, 1) ∧ decode cX11_ownerOf 1 = .ok (.getfield 48, 3) ∧ decode cX11_ownerOf 4 = .ok (.iload_n 1, 1) ∧ decode cX11_ownerOf 5 = .ok (.iaload, 1) ∧ decode cX11_ownerOf 6 = .ok (.istore 4, 2) ∧ decode cX11_ownerOf 8 = .ok (.aload_n 0, 1) ∧ decode cX11_ownerOf 9 = .ok (.getfield 48, 3) ∧ decode cX11_ownerOf 12 = .ok (.iload_n 1, 1) ∧ decode cX11_ownerOf 13 = .ok (.iaload, 1) ∧ decode cX11_ownerOf 14 = .ok (.istore 5, 2) ∧ decode cX11_ownerOf 16 = .ok (.lconst 0, 1) ∧ decode cX11_ownerOf 17 = .ok (.lstore 6, 2) := by decide +kernel
theorem dX11_ownerOf_0 : decode cX11_ownerOf 0 = .ok (.aload_n 0, 1) := dX11_ownerOf_all0.1
theorem dX11_ownerOf_1 : decode cX11_ownerOf 1 = .ok (.getfield 48, 3) := dX11_ownerOf_all0.2.1
theorem dX11_ownerOf_4 : decode cX11_ownerOf 4 = .ok (.iload_n 1, 1) := dX11_ownerOf_all0.2.2.1
theorem dX11_ownerOf_5 : decode cX11_ownerOf 5 = .ok (.iaload, 1) := dX11_ownerOf_all0.2.2.2.1
theorem dX11_ownerOf_6 : decode cX11_ownerOf 6 = .ok (.istore 4, 2) := dX11_ownerOf_all0.2.2.2.2.1
theorem dX11_ownerOf_8 : decode cX11_ownerOf 8 = .ok (.aload_n 0, 1) := dX11_ownerOf_all0.2.2.2.2.2.1
theorem dX11_ownerOf_9 : decode cX11_ownerOf 9 = .ok (.getfield 48, 3) := dX11_ownerOf_all0.2.2.2.2.2.2.1
theorem dX11_ownerOf_12 : decode cX11_ownerOf 12 = .ok (.iload_n 1, 1) := dX11_ownerOf_all0.2.2.2.2.2.2.2.1
theorem dX11_ownerOf_13 : decode cX11_ownerOf 13 = .ok (.iaload, 1) := dX11_ownerOf_all0.2.2.2.2.2.2.2.2.1
theorem dX11_ownerOf_14 : decode cX11_ownerOf 14 = .ok (.istore 5, 2) := dX11_ownerOf_all0.2.2.2.2.2.2.2.2.2.1
theorem dX11_ownerOf_16 : decode cX11_ownerOf 16 = .ok (.lconst 0, 1) := dX11_ownerOf_all0.2.2.2.2.2.2.2.2.2.2.1
theorem dX11_ownerOf_17 : decode cX11_ownerOf 17 = .ok (.lstore 6, 2) := dX11_ownerOf_all0.2.2.2.2.2.2.2.2.2.2.2
theorem dX11_ownerOf_all1 : decode cX11_ownerOf 19 = .ok (.aload_n 0, 1) ∧ decode cX11_ownerOf 20 = .ok (.iconst 0, 1) ∧ decode cX11_ownerOf 21 = .ok (.putfield 225, 3) ∧ decode cX11_ownerOf 24 = .ok (.iconst 1, 1) ∧ decode cX11_ownerOf 25 = .ok (.istore 8, 2) ∧ decode cX11_ownerOf 27 = .ok (.iload 8, 2) ∧ decode cX11_ownerOf 29 = .ok (.ifCond .eq 223, 3) ∧ decode cX11_ownerOf 32 = .ok (.ldc 139, 2) ∧ decode cX11_ownerOf 34 = .ok (.istore 9, 2) ∧ decode cX11_ownerOf 36 = .ok (.iconst 0, 1) ∧ decode cX11_ownerOf 37 = .ok (.istore 10, 2) ∧ decode cX11_ownerOf 39 = .ok (.iload 10, 2) := by decide +kernel
theorem dX11_ownerOf_19 : decode cX11_ownerOf 19 = .ok (.aload_n 0, 1) := dX11_ownerOf_all1.1
theorem dX11_ownerOf_20 : decode cX11_ownerOf 20 = .ok (.iconst 0, 1) := dX11_ownerOf_all1.2.1
theorem dX11_ownerOf_21 : decode cX11_ownerOf 21 = .ok (.putfield 225, 3) := dX11_ownerOf_all1.2.2.1
theorem dX11_ownerOf_24 : decode cX11_ownerOf 24 = .ok (.iconst 1, 1) := dX11_ownerOf_all1.2.2.2.1
theorem dX11_ownerOf_25 : decode cX11_ownerOf 25 = .ok (.istore 8, 2) := dX11_ownerOf_all1.2.2.2.2.1
theorem dX11_ownerOf_27 : decode cX11_ownerOf 27 = .ok (.iload 8, 2) := dX11_ownerOf_all1.2.2.2.2.2.1
theorem dX11_ownerOf_29 : decode cX11_ownerOf 29 = .ok (.ifCond .eq 223, 3) := dX11_ownerOf_all1.2.2.2.2.2.2.1
theorem dX11_ownerOf_32 : decode cX11_ownerOf 32 = .ok (.ldc 139, 2) := dX11_ownerOf_all1.2.2.2.2.2.2.2.1
theorem dX11_ownerOf_34 : decode cX11_ownerOf 34 = .ok (.istore 9, 2) := dX11_ownerOf_all1.2.2.2.2.2.2.2.2.1
theorem dX11_ownerOf_36 : decode cX11_ownerOf 36 = .ok (.iconst 0, 1) := dX11_ownerOf_all1.2.2.2.2.2.2.2.2.2.1
theorem dX11_ownerOf_37 : decode cX11_ownerOf 37 = .ok (.istore 10, 2) := dX11_ownerOf_all1.2.2.2.2.2.2.2.2.2.2.1
theorem dX11_ownerOf_39 : decode cX11_ownerOf 39 = .ok (.iload 10, 2) := dX11_ownerOf_all1.2.2.2.2.2.2.2.2.2.2.2
theorem dX11_ownerOf_all2 : decode cX11_ownerOf 41 = .ok (.aload_n 0, 1) ∧ decode cX11_ownerOf 42 = .ok (.getfield 222, 3) ∧ decode cX11_ownerOf 45 = .ok (.if_icmp .ge 122, 3) ∧ decode cX11_ownerOf 48 = .ok (.aload_n 0, 1) ∧ decode cX11_ownerOf 49 = .ok (.getfield 54, 3) ∧ decode cX11_ownerOf 52 = .ok (.iload 10, 2) ∧ decode cX11_ownerOf 54 = .ok (.iaload, 1) ∧ decode cX11_ownerOf 55 = .ok (.iload_n 1, 1) ∧ decode cX11_ownerOf 56 = .ok (.if_icmp .ne 105, 3) ∧ decode cX11_ownerOf 59 = .ok (.aload_n 0, 1) ∧ decode cX11_ownerOf 60 = .ok (.getfield 66, 3) ∧ decode cX11_ownerOf 63 = .ok (.iload 10, 2) := by decide +kernel
theorem dX11_ownerOf_41 : decode cX11_ownerOf 41 = .ok (.aload_n 0, 1) := dX11_ownerOf_all2.1
theorem dX11_ownerOf_42 : decode cX11_ownerOf 42 = .ok (.getfield 222, 3) := dX11_ownerOf_all2.2.1
theorem dX11_ownerOf_45 : decode cX11_ownerOf 45 = .ok (.if_icmp .ge 122, 3) := dX11_ownerOf_all2.2.2.1
theorem dX11_ownerOf_48 : decode cX11_ownerOf 48 = .ok (.aload_n 0, 1) := dX11_ownerOf_all2.2.2.2.1
theorem dX11_ownerOf_49 : decode cX11_ownerOf 49 = .ok (.getfield 54, 3) := dX11_ownerOf_all2.2.2.2.2.1
theorem dX11_ownerOf_52 : decode cX11_ownerOf 52 = .ok (.iload 10, 2) := dX11_ownerOf_all2.2.2.2.2.2.1
theorem dX11_ownerOf_54 : decode cX11_ownerOf 54 = .ok (.iaload, 1) := dX11_ownerOf_all2.2.2.2.2.2.2.1
theorem dX11_ownerOf_55 : decode cX11_ownerOf 55 = .ok (.iload_n 1, 1) := dX11_ownerOf_all2.2.2.2.2.2.2.2.1
theorem dX11_ownerOf_56 : decode cX11_ownerOf 56 = .ok (.if_icmp .ne 105, 3) := dX11_ownerOf_all2.2.2.2.2.2.2.2.2.1
theorem dX11_ownerOf_59 : decode cX11_ownerOf 59 = .ok (.aload_n 0, 1) := dX11_ownerOf_all2.2.2.2.2.2.2.2.2.2.1
theorem dX11_ownerOf_60 : decode cX11_ownerOf 60 = .ok (.getfield 66, 3) := dX11_ownerOf_all2.2.2.2.2.2.2.2.2.2.2.1
theorem dX11_ownerOf_63 : decode cX11_ownerOf 63 = .ok (.iload 10, 2) := dX11_ownerOf_all2.2.2.2.2.2.2.2.2.2.2.2
theorem dX11_ownerOf_all3 : decode cX11_ownerOf 65 = .ok (.iaload, 1) ∧ decode cX11_ownerOf 66 = .ok (.iload_n 3, 1) ∧ decode cX11_ownerOf 67 = .ok (.if_icmp .gt 94, 3) ∧ decode cX11_ownerOf 70 = .ok (.lload 6, 2) ∧ decode cX11_ownerOf 72 = .ok (.iload 10, 2) ∧ decode cX11_ownerOf 74 = .ok (.lshr, 1) ∧ decode cX11_ownerOf 75 = .ok (.lconst 1, 1) ∧ decode cX11_ownerOf 76 = .ok (.land, 1) ∧ decode cX11_ownerOf 77 = .ok (.lconst 0, 1) ∧ decode cX11_ownerOf 78 = .ok (.lcmp, 1) ∧ decode cX11_ownerOf 79 = .ok (.ifCond .ne 82, 3) ∧ decode cX11_ownerOf 82 = .ok (.iload 9, 2) := by decide +kernel
theorem dX11_ownerOf_65 : decode cX11_ownerOf 65 = .ok (.iaload, 1) := dX11_ownerOf_all3.1
theorem dX11_ownerOf_66 : decode cX11_ownerOf 66 = .ok (.iload_n 3, 1) := dX11_ownerOf_all3.2.1
theorem dX11_ownerOf_67 : decode cX11_ownerOf 67 = .ok (.if_icmp .gt 94, 3) := dX11_ownerOf_all3.2.2.1
theorem dX11_ownerOf_70 : decode cX11_ownerOf 70 = .ok (.lload 6, 2) := dX11_ownerOf_all3.2.2.2.1
theorem dX11_ownerOf_72 : decode cX11_ownerOf 72 = .ok (.iload 10, 2) := dX11_ownerOf_all3.2.2.2.2.1
theorem dX11_ownerOf_74 : decode cX11_ownerOf 74 = .ok (.lshr, 1) := dX11_ownerOf_all3.2.2.2.2.2.1
theorem dX11_ownerOf_75 : decode cX11_ownerOf 75 = .ok (.lconst 1, 1) := dX11_ownerOf_all3.2.2.2.2.2.2.1
theorem dX11_ownerOf_76 : decode cX11_ownerOf 76 = .ok (.land, 1) := dX11_ownerOf_all3.2.2.2.2.2.2.2.1
theorem dX11_ownerOf_77 : decode cX11_ownerOf 77 = .ok (.lconst 0, 1) := dX11_ownerOf_all3.2.2.2.2.2.2.2.2.1
theorem dX11_ownerOf_78 : decode cX11_ownerOf 78 = .ok (.lcmp, 1) := dX11_ownerOf_all3.2.2.2.2.2.2.2.2.2.1
theorem dX11_ownerOf_79 : decode cX11_ownerOf 79 = .ok (.ifCond .ne 82, 3) := dX11_ownerOf_all3.2.2.2.2.2.2.2.2.2.2.1
theorem dX11_ownerOf_82 : decode cX11_ownerOf 82 = .ok (.iload 9, 2) := dX11_ownerOf_all3.2.2.2.2.2.2.2.2.2.2.2
theorem dX11_ownerOf_all4 : decode cX11_ownerOf 84 = .ok (.ldc 139, 2) ∧ decode cX11_ownerOf 86 = .ok (.if_icmp .eq 54, 3) ∧ decode cX11_ownerOf 89 = .ok (.aload_n 0, 1) ∧ decode cX11_ownerOf 90 = .ok (.getfield 63, 3) ∧ decode cX11_ownerOf 93 = .ok (.iload 10, 2) ∧ decode cX11_ownerOf 95 = .ok (.iaload, 1) ∧ decode cX11_ownerOf 96 = .ok (.aload_n 0, 1) ∧ decode cX11_ownerOf 97 = .ok (.getfield 63, 3) ∧ decode cX11_ownerOf 100 = .ok (.iload 9, 2) ∧ decode cX11_ownerOf 102 = .ok (.iaload, 1) ∧ decode cX11_ownerOf 103 = .ok (.if_icmp .lt 37, 3) ∧ decode cX11_ownerOf 106 = .ok (.aload_n 0, 1) := by decide +kernel
theorem dX11_ownerOf_84 : decode cX11_ownerOf 84 = .ok (.ldc 139, 2) := dX11_ownerOf_all4.1
theorem dX11_ownerOf_86 : decode cX11_ownerOf 86 = .ok (.if_icmp .eq 54, 3) := dX11_ownerOf_all4.2.1
theorem dX11_ownerOf_89 : decode cX11_ownerOf 89 = .ok (.aload_n 0, 1) := dX11_ownerOf_all4.2.2.1
theorem dX11_ownerOf_90 : decode cX11_ownerOf 90 = .ok (.getfield 63, 3) := dX11_ownerOf_all4.2.2.2.1
theorem dX11_ownerOf_93 : decode cX11_ownerOf 93 = .ok (.iload 10, 2) := dX11_ownerOf_all4.2.2.2.2.1
theorem dX11_ownerOf_95 : decode cX11_ownerOf 95 = .ok (.iaload, 1) := dX11_ownerOf_all4.2.2.2.2.2.1
theorem dX11_ownerOf_96 : decode cX11_ownerOf 96 = .ok (.aload_n 0, 1) := dX11_ownerOf_all4.2.2.2.2.2.2.1
theorem dX11_ownerOf_97 : decode cX11_ownerOf 97 = .ok (.getfield 63, 3) := dX11_ownerOf_all4.2.2.2.2.2.2.2.1
theorem dX11_ownerOf_100 : decode cX11_ownerOf 100 = .ok (.iload 9, 2) := dX11_ownerOf_all4.2.2.2.2.2.2.2.2.1
theorem dX11_ownerOf_102 : decode cX11_ownerOf 102 = .ok (.iaload, 1) := dX11_ownerOf_all4.2.2.2.2.2.2.2.2.2.1
theorem dX11_ownerOf_103 : decode cX11_ownerOf 103 = .ok (.if_icmp .lt 37, 3) := dX11_ownerOf_all4.2.2.2.2.2.2.2.2.2.2.1
theorem dX11_ownerOf_106 : decode cX11_ownerOf 106 = .ok (.aload_n 0, 1) := dX11_ownerOf_all4.2.2.2.2.2.2.2.2.2.2.2
theorem dX11_ownerOf_all5 : decode cX11_ownerOf 107 = .ok (.getfield 63, 3) ∧ decode cX11_ownerOf 110 = .ok (.iload 10, 2) ∧ decode cX11_ownerOf 112 = .ok (.iaload, 1) ∧ decode cX11_ownerOf 113 = .ok (.aload_n 0, 1) ∧ decode cX11_ownerOf 114 = .ok (.getfield 63, 3) ∧ decode cX11_ownerOf 117 = .ok (.iload 9, 2) ∧ decode cX11_ownerOf 119 = .ok (.iaload, 1) ∧ decode cX11_ownerOf 120 = .ok (.if_icmp .ne 24, 3) ∧ decode cX11_ownerOf 123 = .ok (.aload_n 0, 1) ∧ decode cX11_ownerOf 124 = .ok (.getfield 66, 3) ∧ decode cX11_ownerOf 127 = .ok (.iload 10, 2) ∧ decode cX11_ownerOf 129 = .ok (.iaload, 1) := by decide +kernel
theorem dX11_ownerOf_107 : decode cX11_ownerOf 107 = .ok (.getfield 63, 3) := dX11_ownerOf_all5.1
theorem dX11_ownerOf_110 : decode cX11_ownerOf 110 = .ok (.iload 10, 2) := dX11_ownerOf_all5.2.1
theorem dX11_ownerOf_112 : decode cX11_ownerOf 112 = .ok (.iaload, 1) := dX11_ownerOf_all5.2.2.1
theorem dX11_ownerOf_113 : decode cX11_ownerOf 113 = .ok (.aload_n 0, 1) := dX11_ownerOf_all5.2.2.2.1
theorem dX11_ownerOf_114 : decode cX11_ownerOf 114 = .ok (.getfield 63, 3) := dX11_ownerOf_all5.2.2.2.2.1
theorem dX11_ownerOf_117 : decode cX11_ownerOf 117 = .ok (.iload 9, 2) := dX11_ownerOf_all5.2.2.2.2.2.1
theorem dX11_ownerOf_119 : decode cX11_ownerOf 119 = .ok (.iaload, 1) := dX11_ownerOf_all5.2.2.2.2.2.2.1
theorem dX11_ownerOf_120 : decode cX11_ownerOf 120 = .ok (.if_icmp .ne 24, 3) := dX11_ownerOf_all5.2.2.2.2.2.2.2.1
theorem dX11_ownerOf_123 : decode cX11_ownerOf 123 = .ok (.aload_n 0, 1) := dX11_ownerOf_all5.2.2.2.2.2.2.2.2.1
theorem dX11_ownerOf_124 : decode cX11_ownerOf 124 = .ok (.getfield 66, 3) := dX11_ownerOf_all5.2.2.2.2.2.2.2.2.2.1
theorem dX11_ownerOf_127 : decode cX11_ownerOf 127 = .ok (.iload 10, 2) := dX11_ownerOf_all5.2.2.2.2.2.2.2.2.2.2.1
theorem dX11_ownerOf_129 : decode cX11_ownerOf 129 = .ok (.iaload, 1) := dX11_ownerOf_all5.2.2.2.2.2.2.2.2.2.2.2
theorem dX11_ownerOf_all6 : decode cX11_ownerOf 130 = .ok (.aload_n 0, 1) ∧ decode cX11_ownerOf 131 = .ok (.getfield 66, 3) ∧ decode cX11_ownerOf 134 = .ok (.iload 9, 2) ∧ decode cX11_ownerOf 136 = .ok (.iaload, 1) ∧ decode cX11_ownerOf 137 = .ok (.if_icmp .ge 7, 3) ∧ decode cX11_ownerOf 140 = .ok (.iconst 1, 1) ∧ decode cX11_ownerOf 141 = .ok (.goto 4, 3) ∧ decode cX11_ownerOf 144 = .ok (.iconst 0, 1) ∧ decode cX11_ownerOf 145 = .ok (.istore 11, 2) ∧ decode cX11_ownerOf 147 = .ok (.iload 11, 2) ∧ decode cX11_ownerOf 149 = .ok (.ifCond .eq 8, 3) ∧ decode cX11_ownerOf 152 = .ok (.iload 10, 2) := by decide +kernel
theorem dX11_ownerOf_130 : decode cX11_ownerOf 130 = .ok (.aload_n 0, 1) := dX11_ownerOf_all6.1
theorem dX11_ownerOf_131 : decode cX11_ownerOf 131 = .ok (.getfield 66, 3) := dX11_ownerOf_all6.2.1
theorem dX11_ownerOf_134 : decode cX11_ownerOf 134 = .ok (.iload 9, 2) := dX11_ownerOf_all6.2.2.1
theorem dX11_ownerOf_136 : decode cX11_ownerOf 136 = .ok (.iaload, 1) := dX11_ownerOf_all6.2.2.2.1
theorem dX11_ownerOf_137 : decode cX11_ownerOf 137 = .ok (.if_icmp .ge 7, 3) := dX11_ownerOf_all6.2.2.2.2.1
theorem dX11_ownerOf_140 : decode cX11_ownerOf 140 = .ok (.iconst 1, 1) := dX11_ownerOf_all6.2.2.2.2.2.1
theorem dX11_ownerOf_141 : decode cX11_ownerOf 141 = .ok (.goto 4, 3) := dX11_ownerOf_all6.2.2.2.2.2.2.1
theorem dX11_ownerOf_144 : decode cX11_ownerOf 144 = .ok (.iconst 0, 1) := dX11_ownerOf_all6.2.2.2.2.2.2.2.1
theorem dX11_ownerOf_145 : decode cX11_ownerOf 145 = .ok (.istore 11, 2) := dX11_ownerOf_all6.2.2.2.2.2.2.2.2.1
theorem dX11_ownerOf_147 : decode cX11_ownerOf 147 = .ok (.iload 11, 2) := dX11_ownerOf_all6.2.2.2.2.2.2.2.2.2.1
theorem dX11_ownerOf_149 : decode cX11_ownerOf 149 = .ok (.ifCond .eq 8, 3) := dX11_ownerOf_all6.2.2.2.2.2.2.2.2.2.2.1
theorem dX11_ownerOf_152 : decode cX11_ownerOf 152 = .ok (.iload 10, 2) := dX11_ownerOf_all6.2.2.2.2.2.2.2.2.2.2.2
theorem dX11_ownerOf_all7 : decode cX11_ownerOf 154 = .ok (.goto 5, 3) ∧ decode cX11_ownerOf 157 = .ok (.iload 9, 2) ∧ decode cX11_ownerOf 159 = .ok (.istore 9, 2) ∧ decode cX11_ownerOf 161 = .ok (.iinc 10 1, 3) ∧ decode cX11_ownerOf 164 = .ok (.goto (-125), 3) ∧ decode cX11_ownerOf 167 = .ok (.iload 9, 2) ∧ decode cX11_ownerOf 169 = .ok (.ldc 139, 2) ∧ decode cX11_ownerOf 171 = .ok (.if_icmp .eq 7, 3) ∧ decode cX11_ownerOf 174 = .ok (.iconst 1, 1) ∧ decode cX11_ownerOf 175 = .ok (.goto 4, 3) ∧ decode cX11_ownerOf 178 = .ok (.iconst 0, 1) ∧ decode cX11_ownerOf 179 = .ok (.istore 8, 2) := by decide +kernel
theorem dX11_ownerOf_154 : decode cX11_ownerOf 154 = .ok (.goto 5, 3) := dX11_ownerOf_all7.1
theorem dX11_ownerOf_157 : decode cX11_ownerOf 157 = .ok (.iload 9, 2) := dX11_ownerOf_all7.2.1
theorem dX11_ownerOf_159 : decode cX11_ownerOf 159 = .ok (.istore 9, 2) := dX11_ownerOf_all7.2.2.1
theorem dX11_ownerOf_161 : decode cX11_ownerOf 161 = .ok (.iinc 10 1, 3) := dX11_ownerOf_all7.2.2.2.1
theorem dX11_ownerOf_164 : decode cX11_ownerOf 164 = .ok (.goto (-125), 3) := dX11_ownerOf_all7.2.2.2.2.1
theorem dX11_ownerOf_167 : decode cX11_ownerOf 167 = .ok (.iload 9, 2) := dX11_ownerOf_all7.2.2.2.2.2.1
theorem dX11_ownerOf_169 : decode cX11_ownerOf 169 = .ok (.ldc 139, 2) := dX11_ownerOf_all7.2.2.2.2.2.2.1
theorem dX11_ownerOf_171 : decode cX11_ownerOf 171 = .ok (.if_icmp .eq 7, 3) := dX11_ownerOf_all7.2.2.2.2.2.2.2.1
theorem dX11_ownerOf_174 : decode cX11_ownerOf 174 = .ok (.iconst 1, 1) := dX11_ownerOf_all7.2.2.2.2.2.2.2.2.1
theorem dX11_ownerOf_175 : decode cX11_ownerOf 175 = .ok (.goto 4, 3) := dX11_ownerOf_all7.2.2.2.2.2.2.2.2.2.1
theorem dX11_ownerOf_178 : decode cX11_ownerOf 178 = .ok (.iconst 0, 1) := dX11_ownerOf_all7.2.2.2.2.2.2.2.2.2.2.1
theorem dX11_ownerOf_179 : decode cX11_ownerOf 179 = .ok (.istore 8, 2) := dX11_ownerOf_all7.2.2.2.2.2.2.2.2.2.2.2
theorem dX11_ownerOf_all8 : decode cX11_ownerOf 181 = .ok (.iload 8, 2) ∧ decode cX11_ownerOf 183 = .ok (.ifCond .eq 66, 3) ∧ decode cX11_ownerOf 186 = .ok (.lload 6, 2) ∧ decode cX11_ownerOf 188 = .ok (.lconst 1, 1) ∧ decode cX11_ownerOf 189 = .ok (.iload 9, 2) ∧ decode cX11_ownerOf 191 = .ok (.lshl, 1) ∧ decode cX11_ownerOf 192 = .ok (.lor, 1) ∧ decode cX11_ownerOf 193 = .ok (.lstore 6, 2) ∧ decode cX11_ownerOf 195 = .ok (.aload_n 0, 1) ∧ decode cX11_ownerOf 196 = .ok (.getfield 57, 3) ∧ decode cX11_ownerOf 199 = .ok (.iload 9, 2) ∧ decode cX11_ownerOf 201 = .ok (.iaload, 1) := by decide +kernel
theorem dX11_ownerOf_181 : decode cX11_ownerOf 181 = .ok (.iload 8, 2) := dX11_ownerOf_all8.1
theorem dX11_ownerOf_183 : decode cX11_ownerOf 183 = .ok (.ifCond .eq 66, 3) := dX11_ownerOf_all8.2.1
theorem dX11_ownerOf_186 : decode cX11_ownerOf 186 = .ok (.lload 6, 2) := dX11_ownerOf_all8.2.2.1
theorem dX11_ownerOf_188 : decode cX11_ownerOf 188 = .ok (.lconst 1, 1) := dX11_ownerOf_all8.2.2.2.1
theorem dX11_ownerOf_189 : decode cX11_ownerOf 189 = .ok (.iload 9, 2) := dX11_ownerOf_all8.2.2.2.2.1
theorem dX11_ownerOf_191 : decode cX11_ownerOf 191 = .ok (.lshl, 1) := dX11_ownerOf_all8.2.2.2.2.2.1
theorem dX11_ownerOf_192 : decode cX11_ownerOf 192 = .ok (.lor, 1) := dX11_ownerOf_all8.2.2.2.2.2.2.1
theorem dX11_ownerOf_193 : decode cX11_ownerOf 193 = .ok (.lstore 6, 2) := dX11_ownerOf_all8.2.2.2.2.2.2.2.1
theorem dX11_ownerOf_195 : decode cX11_ownerOf 195 = .ok (.aload_n 0, 1) := dX11_ownerOf_all8.2.2.2.2.2.2.2.2.1
theorem dX11_ownerOf_196 : decode cX11_ownerOf 196 = .ok (.getfield 57, 3) := dX11_ownerOf_all8.2.2.2.2.2.2.2.2.2.1
theorem dX11_ownerOf_199 : decode cX11_ownerOf 199 = .ok (.iload 9, 2) := dX11_ownerOf_all8.2.2.2.2.2.2.2.2.2.2.1
theorem dX11_ownerOf_201 : decode cX11_ownerOf 201 = .ok (.iaload, 1) := dX11_ownerOf_all8.2.2.2.2.2.2.2.2.2.2.2
theorem dX11_ownerOf_all9 : decode cX11_ownerOf 202 = .ok (.iload 4, 2) ∧ decode cX11_ownerOf 204 = .ok (.if_icmp .ne 35, 3) ∧ decode cX11_ownerOf 207 = .ok (.aload_n 0, 1) ∧ decode cX11_ownerOf 208 = .ok (.getfield 60, 3) ∧ decode cX11_ownerOf 211 = .ok (.iload 9, 2) ∧ decode cX11_ownerOf 213 = .ok (.iaload, 1) ∧ decode cX11_ownerOf 214 = .ok (.istore 4, 2) ∧ decode cX11_ownerOf 216 = .ok (.aload_n 0, 1) ∧ decode cX11_ownerOf 217 = .ok (.getfield 63, 3) ∧ decode cX11_ownerOf 220 = .ok (.iload 9, 2) ∧ decode cX11_ownerOf 222 = .ok (.iaload, 1) ∧ decode cX11_ownerOf 223 = .ok (.iload_n 2, 1) := by decide +kernel
theorem dX11_ownerOf_202 : decode cX11_ownerOf 202 = .ok (.iload 4, 2) := dX11_ownerOf_all9.1
theorem dX11_ownerOf_204 : decode cX11_ownerOf 204 = .ok (.if_icmp .ne 35, 3) := dX11_ownerOf_all9.2.1
theorem dX11_ownerOf_207 : decode cX11_ownerOf 207 = .ok (.aload_n 0, 1) := dX11_ownerOf_all9.2.2.1
theorem dX11_ownerOf_208 : decode cX11_ownerOf 208 = .ok (.getfield 60, 3) := dX11_ownerOf_all9.2.2.2.1
theorem dX11_ownerOf_211 : decode cX11_ownerOf 211 = .ok (.iload 9, 2) := dX11_ownerOf_all9.2.2.2.2.1
theorem dX11_ownerOf_213 : decode cX11_ownerOf 213 = .ok (.iaload, 1) := dX11_ownerOf_all9.2.2.2.2.2.1
theorem dX11_ownerOf_214 : decode cX11_ownerOf 214 = .ok (.istore 4, 2) := dX11_ownerOf_all9.2.2.2.2.2.2.1
theorem dX11_ownerOf_216 : decode cX11_ownerOf 216 = .ok (.aload_n 0, 1) := dX11_ownerOf_all9.2.2.2.2.2.2.2.1
theorem dX11_ownerOf_217 : decode cX11_ownerOf 217 = .ok (.getfield 63, 3) := dX11_ownerOf_all9.2.2.2.2.2.2.2.2.1
theorem dX11_ownerOf_220 : decode cX11_ownerOf 220 = .ok (.iload 9, 2) := dX11_ownerOf_all9.2.2.2.2.2.2.2.2.2.1
theorem dX11_ownerOf_222 : decode cX11_ownerOf 222 = .ok (.iaload, 1) := dX11_ownerOf_all9.2.2.2.2.2.2.2.2.2.2.1
theorem dX11_ownerOf_223 : decode cX11_ownerOf 223 = .ok (.iload_n 2, 1) := dX11_ownerOf_all9.2.2.2.2.2.2.2.2.2.2.2
theorem dX11_ownerOf_all10 : decode cX11_ownerOf 224 = .ok (.if_icmp .gt 8, 3) ∧ decode cX11_ownerOf 227 = .ok (.iload 4, 2) ∧ decode cX11_ownerOf 229 = .ok (.goto 5, 3) ∧ decode cX11_ownerOf 232 = .ok (.iload 5, 2) ∧ decode cX11_ownerOf 234 = .ok (.istore 5, 2) ∧ decode cX11_ownerOf 236 = .ok (.goto 13, 3) ∧ decode cX11_ownerOf 239 = .ok (.aload_n 0, 1) ∧ decode cX11_ownerOf 240 = .ok (.dup, 1) ∧ decode cX11_ownerOf 241 = .ok (.getfield 225, 3) ∧ decode cX11_ownerOf 244 = .ok (.iconst 1, 1) ∧ decode cX11_ownerOf 245 = .ok (.iadd, 1) ∧ decode cX11_ownerOf 246 = .ok (.putfield 225, 3) := by decide +kernel
theorem dX11_ownerOf_224 : decode cX11_ownerOf 224 = .ok (.if_icmp .gt 8, 3) := dX11_ownerOf_all10.1
theorem dX11_ownerOf_227 : decode cX11_ownerOf 227 = .ok (.iload 4, 2) := dX11_ownerOf_all10.2.1
theorem dX11_ownerOf_229 : decode cX11_ownerOf 229 = .ok (.goto 5, 3) := dX11_ownerOf_all10.2.2.1
theorem dX11_ownerOf_232 : decode cX11_ownerOf 232 = .ok (.iload 5, 2) := dX11_ownerOf_all10.2.2.2.1
theorem dX11_ownerOf_234 : decode cX11_ownerOf 234 = .ok (.istore 5, 2) := dX11_ownerOf_all10.2.2.2.2.1
theorem dX11_ownerOf_236 : decode cX11_ownerOf 236 = .ok (.goto 13, 3) := dX11_ownerOf_all10.2.2.2.2.2.1
theorem dX11_ownerOf_239 : decode cX11_ownerOf 239 = .ok (.aload_n 0, 1) := dX11_ownerOf_all10.2.2.2.2.2.2.1
theorem dX11_ownerOf_240 : decode cX11_ownerOf 240 = .ok (.dup, 1) := dX11_ownerOf_all10.2.2.2.2.2.2.2.1
theorem dX11_ownerOf_241 : decode cX11_ownerOf 241 = .ok (.getfield 225, 3) := dX11_ownerOf_all10.2.2.2.2.2.2.2.2.1
theorem dX11_ownerOf_244 : decode cX11_ownerOf 244 = .ok (.iconst 1, 1) := dX11_ownerOf_all10.2.2.2.2.2.2.2.2.2.1
theorem dX11_ownerOf_245 : decode cX11_ownerOf 245 = .ok (.iadd, 1) := dX11_ownerOf_all10.2.2.2.2.2.2.2.2.2.2.1
theorem dX11_ownerOf_246 : decode cX11_ownerOf 246 = .ok (.putfield 225, 3) := dX11_ownerOf_all10.2.2.2.2.2.2.2.2.2.2.2
theorem dX11_ownerOf_all11 : decode cX11_ownerOf 249 = .ok (.goto (-222), 3) ∧ decode cX11_ownerOf 252 = .ok (.iload 5, 2) ∧ decode cX11_ownerOf 254 = .ok (.ireturn, 1) := by decide +kernel
theorem dX11_ownerOf_249 : decode cX11_ownerOf 249 = .ok (.goto (-222), 3) := dX11_ownerOf_all11.1
theorem dX11_ownerOf_252 : decode cX11_ownerOf 252 = .ok (.iload 5, 2) := dX11_ownerOf_all11.2.1
theorem dX11_ownerOf_254 : decode cX11_ownerOf 254 = .ok (.ireturn, 1) := dX11_ownerOf_all11.2.2
theorem ggX11_owner_X11_isCrate : GoodIn wsX11_owner wsX11_isCrate := goodIn_s (fun _ h => wm_t (wm_r (wm_l (wm_r h)))) Gd_X11_isCrate
theorem gX11_owner_X11_isCrate : GoodIn wsX11_owner (wsV RX11 219 RX11 yX11_isCrate wsX11_isCrate) := goodIn_V (own := RX11) (idx := 219) (C := RX11) (y := yX11_isCrate) (wm_t (wm_l (wm_i 2 rfl))) (wm_t (wm_l (wm_i 3 rfl))) (wm_t (wm_l (wm_i 4 rfl))) (wm_t (wm_l (wm_i 5 rfl))) ggX11_owner_X11_isCrate
theorem ggX11_owner_X11_isDay : GoodIn wsX11_owner wsX11_isDay := goodIn_s (fun _ h => wm_t (wm_r (wm_r (wm_l h)))) Gd_X11_isDay
theorem gX11_owner_X11_isDay : GoodIn wsX11_owner (va_wsS RX11 178 yX11_isDay wsX11_isDay) := goodIn_S (own := RX11) (idx := 178) (y := yX11_isDay) (wm_t (wm_l (wm_i 6 rfl))) (wm_t (wm_l (wm_i 7 rfl))) (wm_t (wm_l (wm_i 5 rfl))) ggX11_owner_X11_isDay
theorem ggX11_owner_X11_ownerOf : GoodIn wsX11_owner wsX11_ownerOf := goodIn_s (fun _ h => wm_t (wm_r (wm_r (wm_r h)))) Gd_X11_ownerOf
theorem gX11_owner_X11_ownerOf : GoodIn wsX11_owner (wsV RX11 228 RX11 yX11_ownerOf wsX11_ownerOf) := goodIn_V (own := RX11) (idx := 228) (C := RX11) (y := yX11_ownerOf) (wm_t (wm_l (wm_i 8 rfl))) (wm_t (wm_l (wm_i 9 rfl))) (wm_t (wm_l (wm_i 10 rfl))) (wm_t (wm_l (wm_i 5 rfl))) ggX11_owner_X11_ownerOf
theorem dX11_owner_all0 : decode cX11_owner 0 = .ok (.aload_n 0, 1) ∧ decode cX11_owner 1 = .ok (.iconst 0, 1) ∧ decode cX11_owner 2 = .ok (.putfield 1, 3) ∧ decode cX11_owner 5 = .ok (.aload_n 0, 1) ∧ decode cX11_owner 6 = .ok (.iload_n 1, 1) ∧ decode cX11_owner 7 = .ok (.invokevirtual 219, 3) ∧ decode cX11_owner 10 = .ok (.ifCond .eq 17, 3) ∧ decode cX11_owner 13 = .ok (.iload_n 2, 1) ∧ decode cX11_owner 14 = .ok (.invokestatic 178, 3) ∧ decode cX11_owner 17 = .ok (.ifCond .eq 10, 3) ∧ decode cX11_owner 20 = .ok (.iload_n 3, 1) ∧ decode cX11_owner 21 = .ok (.invokestatic 178, 3) := by decide +kernel
theorem dX11_owner_0 : decode cX11_owner 0 = .ok (.aload_n 0, 1) := dX11_owner_all0.1
theorem dX11_owner_1 : decode cX11_owner 1 = .ok (.iconst 0, 1) := dX11_owner_all0.2.1
theorem dX11_owner_2 : decode cX11_owner 2 = .ok (.putfield 1, 3) := dX11_owner_all0.2.2.1
theorem dX11_owner_5 : decode cX11_owner 5 = .ok (.aload_n 0, 1) := dX11_owner_all0.2.2.2.1
theorem dX11_owner_6 : decode cX11_owner 6 = .ok (.iload_n 1, 1) := dX11_owner_all0.2.2.2.2.1
theorem dX11_owner_7 : decode cX11_owner 7 = .ok (.invokevirtual 219, 3) := dX11_owner_all0.2.2.2.2.2.1
theorem dX11_owner_10 : decode cX11_owner 10 = .ok (.ifCond .eq 17, 3) := dX11_owner_all0.2.2.2.2.2.2.1
theorem dX11_owner_13 : decode cX11_owner 13 = .ok (.iload_n 2, 1) := dX11_owner_all0.2.2.2.2.2.2.2.1
theorem dX11_owner_14 : decode cX11_owner 14 = .ok (.invokestatic 178, 3) := dX11_owner_all0.2.2.2.2.2.2.2.2.1
theorem dX11_owner_17 : decode cX11_owner 17 = .ok (.ifCond .eq 10, 3) := dX11_owner_all0.2.2.2.2.2.2.2.2.2.1
theorem dX11_owner_20 : decode cX11_owner 20 = .ok (.iload_n 3, 1) := dX11_owner_all0.2.2.2.2.2.2.2.2.2.2.1
theorem dX11_owner_21 : decode cX11_owner 21 = .ok (.invokestatic 178, 3) := dX11_owner_all0.2.2.2.2.2.2.2.2.2.2.2
theorem dX11_owner_all1 : decode cX11_owner 24 = .ok (.ifCond .ne 8, 3) ∧ decode cX11_owner 27 = .ok (.ldc 157, 2) ∧ decode cX11_owner 29 = .ok (.goto 10, 3) ∧ decode cX11_owner 32 = .ok (.aload_n 0, 1) ∧ decode cX11_owner 33 = .ok (.iload_n 1, 1) ∧ decode cX11_owner 34 = .ok (.iload_n 2, 1) ∧ decode cX11_owner 35 = .ok (.iload_n 3, 1) ∧ decode cX11_owner 36 = .ok (.invokevirtual 228, 3) ∧ decode cX11_owner 39 = .ok (.ireturn, 1) := by decide +kernel
theorem dX11_owner_24 : decode cX11_owner 24 = .ok (.ifCond .ne 8, 3) := dX11_owner_all1.1
theorem dX11_owner_27 : decode cX11_owner 27 = .ok (.ldc 157, 2) := dX11_owner_all1.2.1
theorem dX11_owner_29 : decode cX11_owner 29 = .ok (.goto 10, 3) := dX11_owner_all1.2.2.1
theorem dX11_owner_32 : decode cX11_owner 32 = .ok (.aload_n 0, 1) := dX11_owner_all1.2.2.2.1
theorem dX11_owner_33 : decode cX11_owner 33 = .ok (.iload_n 1, 1) := dX11_owner_all1.2.2.2.2.1
theorem dX11_owner_34 : decode cX11_owner 34 = .ok (.iload_n 2, 1) := dX11_owner_all1.2.2.2.2.2.1
theorem dX11_owner_35 : decode cX11_owner 35 = .ok (.iload_n 3, 1) := dX11_owner_all1.2.2.2.2.2.2.1
theorem dX11_owner_36 : decode cX11_owner 36 = .ok (.invokevirtual 228, 3) := dX11_owner_all1.2.2.2.2.2.2.2.1
theorem dX11_owner_39 : decode cX11_owner 39 = .ok (.ireturn, 1) := dX11_owner_all1.2.2.2.2.2.2.2.2
theorem ggX11_quarrels_X11_isCrate : GoodIn wsX11_quarrels wsX11_isCrate := goodIn_s (fun _ h => wm_t (wm_r (wm_l (wm_r h)))) Gd_X11_isCrate
theorem gX11_quarrels_X11_isCrate : GoodIn wsX11_quarrels (wsV RX11 219 RX11 yX11_isCrate wsX11_isCrate) := goodIn_V (own := RX11) (idx := 219) (C := RX11) (y := yX11_isCrate) (wm_t (wm_l (wm_i 3 rfl))) (wm_t (wm_l (wm_i 4 rfl))) (wm_t (wm_l (wm_i 5 rfl))) (wm_t (wm_l (wm_i 6 rfl))) ggX11_quarrels_X11_isCrate
theorem ggX11_quarrels_X11_isDay : GoodIn wsX11_quarrels wsX11_isDay := goodIn_s (fun _ h => wm_t (wm_r (wm_r (wm_l h)))) Gd_X11_isDay
theorem gX11_quarrels_X11_isDay : GoodIn wsX11_quarrels (va_wsS RX11 178 yX11_isDay wsX11_isDay) := goodIn_S (own := RX11) (idx := 178) (y := yX11_isDay) (wm_t (wm_l (wm_i 7 rfl))) (wm_t (wm_l (wm_i 8 rfl))) (wm_t (wm_l (wm_i 6 rfl))) ggX11_quarrels_X11_isDay
theorem ggX11_quarrels_X11_ownerOf : GoodIn wsX11_quarrels wsX11_ownerOf := goodIn_s (fun _ h => wm_t (wm_r (wm_r (wm_r h)))) Gd_X11_ownerOf
theorem gX11_quarrels_X11_ownerOf : GoodIn wsX11_quarrels (wsV RX11 228 RX11 yX11_ownerOf wsX11_ownerOf) := goodIn_V (own := RX11) (idx := 228) (C := RX11) (y := yX11_ownerOf) (wm_t (wm_l (wm_i 9 rfl))) (wm_t (wm_l (wm_i 10 rfl))) (wm_t (wm_l (wm_i 11 rfl))) (wm_t (wm_l (wm_i 6 rfl))) ggX11_quarrels_X11_ownerOf
theorem dX11_quarrels_all0 : decode cX11_quarrels 0 = .ok (.aload_n 0, 1) ∧ decode cX11_quarrels 1 = .ok (.iconst 0, 1) ∧ decode cX11_quarrels 2 = .ok (.putfield 1, 3) ∧ decode cX11_quarrels 5 = .ok (.aload_n 0, 1) ∧ decode cX11_quarrels 6 = .ok (.iload_n 1, 1) ∧ decode cX11_quarrels 7 = .ok (.invokevirtual 219, 3) ∧ decode cX11_quarrels 10 = .ok (.ifCond .eq 10, 3) ∧ decode cX11_quarrels 13 = .ok (.iload_n 2, 1) ∧ decode cX11_quarrels 14 = .ok (.invokestatic 178, 3) ∧ decode cX11_quarrels 17 = .ok (.ifCond .ne 6, 3) ∧ decode cX11_quarrels 20 = .ok (.ldc 157, 2) ∧ decode cX11_quarrels 22 = .ok (.ireturn, 1) := by decide +kernel
theorem dX11_quarrels_0 : decode cX11_quarrels 0 = .ok (.aload_n 0, 1) := dX11_quarrels_all0.1
theorem dX11_quarrels_1 : decode cX11_quarrels 1 = .ok (.iconst 0, 1) := dX11_quarrels_all0.2.1
theorem dX11_quarrels_2 : decode cX11_quarrels 2 = .ok (.putfield 1, 3) := dX11_quarrels_all0.2.2.1
theorem dX11_quarrels_5 : decode cX11_quarrels 5 = .ok (.aload_n 0, 1) := dX11_quarrels_all0.2.2.2.1
theorem dX11_quarrels_6 : decode cX11_quarrels 6 = .ok (.iload_n 1, 1) := dX11_quarrels_all0.2.2.2.2.1
theorem dX11_quarrels_7 : decode cX11_quarrels 7 = .ok (.invokevirtual 219, 3) := dX11_quarrels_all0.2.2.2.2.2.1
theorem dX11_quarrels_10 : decode cX11_quarrels 10 = .ok (.ifCond .eq 10, 3) := dX11_quarrels_all0.2.2.2.2.2.2.1
theorem dX11_quarrels_13 : decode cX11_quarrels 13 = .ok (.iload_n 2, 1) := dX11_quarrels_all0.2.2.2.2.2.2.2.1
theorem dX11_quarrels_14 : decode cX11_quarrels 14 = .ok (.invokestatic 178, 3) := dX11_quarrels_all0.2.2.2.2.2.2.2.2.1
theorem dX11_quarrels_17 : decode cX11_quarrels 17 = .ok (.ifCond .ne 6, 3) := dX11_quarrels_all0.2.2.2.2.2.2.2.2.2.1
theorem dX11_quarrels_20 : decode cX11_quarrels 20 = .ok (.ldc 157, 2) := dX11_quarrels_all0.2.2.2.2.2.2.2.2.2.2.1
theorem dX11_quarrels_22 : decode cX11_quarrels 22 = .ok (.ireturn, 1) := dX11_quarrels_all0.2.2.2.2.2.2.2.2.2.2.2
theorem dX11_quarrels_all1 : decode cX11_quarrels 23 = .ok (.aload_n 0, 1) ∧ decode cX11_quarrels 24 = .ok (.iload_n 1, 1) ∧ decode cX11_quarrels 25 = .ok (.iconst 0, 1) ∧ decode cX11_quarrels 26 = .ok (.iload_n 2, 1) ∧ decode cX11_quarrels 27 = .ok (.invokevirtual 228, 3) ∧ decode cX11_quarrels 30 = .ok (.istore_n 3, 1) ∧ decode cX11_quarrels 31 = .ok (.aload_n 0, 1) ∧ decode cX11_quarrels 32 = .ok (.getfield 225, 3) ∧ decode cX11_quarrels 35 = .ok (.ireturn, 1) := by decide +kernel
theorem dX11_quarrels_23 : decode cX11_quarrels 23 = .ok (.aload_n 0, 1) := dX11_quarrels_all1.1
theorem dX11_quarrels_24 : decode cX11_quarrels 24 = .ok (.iload_n 1, 1) := dX11_quarrels_all1.2.1
theorem dX11_quarrels_25 : decode cX11_quarrels 25 = .ok (.iconst 0, 1) := dX11_quarrels_all1.2.2.1
theorem dX11_quarrels_26 : decode cX11_quarrels 26 = .ok (.iload_n 2, 1) := dX11_quarrels_all1.2.2.2.1
theorem dX11_quarrels_27 : decode cX11_quarrels 27 = .ok (.invokevirtual 228, 3) := dX11_quarrels_all1.2.2.2.2.1
theorem dX11_quarrels_30 : decode cX11_quarrels 30 = .ok (.istore_n 3, 1) := dX11_quarrels_all1.2.2.2.2.2.1
theorem dX11_quarrels_31 : decode cX11_quarrels 31 = .ok (.aload_n 0, 1) := dX11_quarrels_all1.2.2.2.2.2.2.1
theorem dX11_quarrels_32 : decode cX11_quarrels 32 = .ok (.getfield 225, 3) := dX11_quarrels_all1.2.2.2.2.2.2.2.1
theorem dX11_quarrels_35 : decode cX11_quarrels 35 = .ok (.ireturn, 1) := dX11_quarrels_all1.2.2.2.2.2.2.2.2

/-- the paper that comes next, as the reference finds it -/
def nxV (pk pd pe : Nat → Int32) (k n : Int32) (met : Int64) : Nat → Int32
  | 0 => -1000000
  | m + 1 => if (pk m).toInt = k.toInt ∧ (pe m).toInt ≤ n.toInt ∧ btL met m = false ∧ ((nxV pk pd pe k n met m).toInt = -1000000 ∨ (pd m).toInt < (pd (nxV pk pd pe k n met m).toNatClampNeg).toInt ∨ ((pd m).toInt = (pd (nxV pk pd pe k n met m).toNatClampNeg).toInt ∧ (pe m).toInt < (pe (nxV pk pd pe k n met m).toNatClampNeg).toInt)) then nI m else nxV pk pd pe k n met m
theorem nxV_s (pk pd pe : Nat → Int32) (k n : Int32) (met : Int64) (m : Nat) : nxV pk pd pe k n met (m + 1) = if (pk m).toInt = k.toInt ∧ (pe m).toInt ≤ n.toInt ∧ btL met m = false ∧ ((nxV pk pd pe k n met m).toInt = -1000000 ∨ (pd m).toInt < (pd (nxV pk pd pe k n met m).toNatClampNeg).toInt ∨ ((pd m).toInt = (pd (nxV pk pd pe k n met m).toNatClampNeg).toInt ∧ (pe m).toInt < (pe (nxV pk pd pe k n met m).toNatClampNeg).toInt)) then nI m else nxV pk pd pe k n met m := rfl
/-- the papers known, one after the other: the owner on the day, and how many quarrel -/
def ooV (pk pf po pd pe : Nat → Int32) (pn : Nat) (k d n : Int32) : Nat → Int64 → Int32 → Int32 → Int32 → Int32 × Int32
  | 0, _, _, t, q => (t, q)
  | f + 1, met, w, t, q => if (nxV pk pd pe k n met pn).toInt = -1000000 then (t, q) else if (pf (nxV pk pd pe k n met pn).toNatClampNeg).toInt = w.toInt then ooV pk pf po pd pe pn k d n f (met ||| ((1 : Int64) <<< ((nxV pk pd pe k n met pn).toInt64 &&& 63))) (po (nxV pk pd pe k n met pn).toNatClampNeg) (if (pd (nxV pk pd pe k n met pn).toNatClampNeg).toInt ≤ d.toInt then po (nxV pk pd pe k n met pn).toNatClampNeg else t) q else ooV pk pf po pd pe pn k d n f (met ||| ((1 : Int64) <<< ((nxV pk pd pe k n met pn).toInt64 &&& 63))) w t (q + 1)
theorem ooV_s (pk pf po pd pe : Nat → Int32) (pn : Nat) (k d n : Int32) (f : Nat) (met : Int64) (w t q : Int32) : ooV pk pf po pd pe pn k d n (f + 1) met w t q = if (nxV pk pd pe k n met pn).toInt = -1000000 then (t, q) else if (pf (nxV pk pd pe k n met pn).toNatClampNeg).toInt = w.toInt then ooV pk pf po pd pe pn k d n f (met ||| ((1 : Int64) <<< ((nxV pk pd pe k n met pn).toInt64 &&& 63))) (po (nxV pk pd pe k n met pn).toNatClampNeg) (if (pd (nxV pk pd pe k n met pn).toNatClampNeg).toInt ≤ d.toInt then po (nxV pk pd pe k n met pn).toNatClampNeg else t) q else ooV pk pf po pd pe pn k d n f (met ||| ((1 : Int64) <<< ((nxV pk pd pe k n met pn).toInt64 &&& 63))) w t (q + 1) := rfl
theorem nbL_0 : nbL 0 40 = 0 := by decide +kernel
def sm_owner (cn pn : Int32) (fo pk pf po pd pe : Nat → Int32) (k d n : Int32) : Int32 := if 0 ≤ k.toInt ∧ k.toInt < cn.toInt ∧ 0 ≤ d.toInt ∧ d.toInt < 10000 ∧ 0 ≤ n.toInt ∧ n.toInt < 10000 then (ooV pk pf po pd pe pn.toNatClampNeg k d n 41 0 (fo k.toNatClampNeg) (fo k.toNatClampNeg) 0).1 else -1000001
def sm_quarrels (cn pn : Int32) (fo pk pf po pd pe : Nat → Int32) (k n : Int32) : Int32 := if 0 ≤ k.toInt ∧ k.toInt < cn.toInt ∧ 0 ≤ n.toInt ∧ n.toInt < 10000 then (ooV pk pf po pd pe pn.toNatClampNeg k 0 n 41 0 (fo k.toNatClampNeg) (fo k.toNatClampNeg) 0).2 else -1000001

set_option maxHeartbeats 4000000 in
set_option maxRecDepth 100000 in
theorem ct_X11_ownerOf (l : Launch) (D : va_G) (cI cY cJ cQ : ClassId) (sz : Nat) (md : Nat → Nat) (sd : Int32) (mth mst hn cn pn mq gn mln mnn ln mlt msz mcu mtk mfr mti mfa mfb an un lc td mtn : Int32) (fo pk pf po pd pe : Nat → Int32) (k : Int32) (d : Int32) (n : Int32)  (h1 : 0 ≤ k.toInt) (h2 : k.toInt < 12) (h3 : 0 ≤ pn.toInt) (h4 : pn.toInt ≤ 40)  : Met l yX11_ownerOf wsX11_ownerOf ({ frames := 0, cells := 0, slots := 0, locals := 0 }) (cPre D (ty4 cI cY cJ cQ) [(moC md sd mth mst hn cn pn mq gn mln mnn ln mlt msz mcu mtk mfr mti mfa mfb an un lc td mtn), (aI cI (md 16) 12 fo), (aI cI (md 19) 40 pk), (aI cI (md 20) 40 pf), (aI cI (md 21) 40 po), (aI cI (md 22) 40 pd), (aI cI (md 23) 40 pe)] sz [.ref (md 64), .int k, .int d, .int n]) (va_Qi (fun (r : Int32) (u : Int32) => (r, u) = ooV pk pf po pd pe pn.toNatClampNeg k d n 41 0 (fo k.toNatClampNeg) (fo k.toNatClampNeg) 0) (cB D (ty4 cI cY cJ cQ) (fun (u : Int32) => [(moC md sd mth mst hn cn pn u gn mln mnn ln mlt msz mcu mtk mfr mti mfa mfb an un lc td mtn), (aI cI (md 16) 12 fo), (aI cI (md 19) 40 pk), (aI cI (md 20) 40 pf), (aI cI (md 21) 40 po), (aI cI (md 22) 40 pd), (aI cI (md 23) 40 pe)]) (va_A [(moC md sd mth mst hn cn pn mq gn mln mnn ln mlt msz mcu mtk mfr mti mfa mfb an un lc td mtn), (aI cI (md 16) 12 fo), (aI cI (md 19) 40 pk), (aI cI (md 20) 40 pf), (aI cI (md 21) 40 po), (aI cI (md 22) 40 pd), (aI cI (md 23) 40 pe)] sz)) (va_A [(moC md sd mth mst hn cn pn mq gn mln mnn ln mlt msz mcu mtk mfr mti mfa mfb an un lc td mtn), (aI cI (md 16) 12 fo), (aI cI (md 19) 40 pk), (aI cI (md 20) 40 pf), (aI cI (md 21) 40 po), (aI cI (md 22) 40 pd), (aI cI (md 23) 40 pe)] sz)) 0 0 (va_A [(moC md sd mth mst hn cn pn mq gn mln mnn ln mlt msz mcu mtk mfr mti mfa mfb an un lc td mtn), (aI cI (md 16) 12 fo), (aI cI (md 19) 40 pk), (aI cI (md 20) 40 pf), (aI cI (md 21) 40 po), (aI cI (md 22) 40 pd), (aI cI (md 23) 40 pe)] sz) := by
  refine Met.ofW (cc := cX11_ownerOf) (maxL := 12) (ret := (some .int)) (by decide) rfl ?_
  intro p e s m args below meth c s₁ B hml hv
  obtain ⟨rfl, hsz, hP, hK, hD0, hN⟩ := hv
  have hx := B.exec
  have hb := B.bytes
  have hr := B.returns
  have hts := atoms_spec (ws := wsX11_ownerOf) B.pre
  have hown : s.vm.findClass RX11 = some m.cls := findClass_of_methodNamed B.named
  have hlocks := B.notSynchronized
  subst hsz
  have hD := hD0.self (sz := s.heap.size)
  generalize hAe : va_A [(moC md sd mth mst hn cn pn mq gn mln mnn ln mlt msz mcu mtk mfr mti mfa mfb an un lc td mtn), (aI cI (md 16) 12 fo), (aI cI (md 19) 40 pk), (aI cI (md 20) 40 pf), (aI cI (md 21) 40 po), (aI cI (md 22) 40 pd), (aI cI (md 23) 40 pe)] s.heap.size = A at hD ⊢
  have hA : ∀ q : Nat, s.heap.size ≤ q → A q := fun q h => by rw [← hAe]; exact Or.inr h
  have hS : va_S A s.heap s.heap [] := va_S.rf
  have hP : va_P D vwCl [(moC md sd mth mst hn cn pn mq gn mln mnn ln mlt msz mcu mtk mfr mti mfa mfb an un lc td mtn), (aI cI (md 16) 12 fo), (aI cI (md 19) 40 pk), (aI cI (md 20) 40 pf), (aI cI (md 21) 40 po), (aI cI (md 22) 40 pd), (aI cI (md 23) 40 pe)] s.heap := hP
  have hl := lv_entry ([.ref (md 64), .int k, .int d, .int n]) (n := 12) (Nat.le_of_ble_eq_true rfl)
  rw [lg_entry_eq]
  generalize (lg_sl ([.ref (md 64), .int k, .int d, .int n]) ++ List.replicate (12 - (lg_sl ([.ref (md 64), .int k, .int d, .int n])).length) Slot.unset).toArray = ls at hl ⊢
  have hl : lv_has ls 12 [(0, .ref (md 64)), (1, .int k), (2, .int d), (3, .int n)] := hl
  have km1000000 : (-1000000 : Int32).toInt = -1000000 := by decide
  have k0 : (0 : Int32).toInt = 0 := by decide
  have k1 : (1 : Int32).toInt = 1 := by decide
  have kl0 : (0 : Int64).toInt = 0 := by decide
  refine lv_aload_n hx hb dX11_ownerOf_0 rfl (lv_at hl 0 rfl) ?_
  refine va_get (D := D) (ci := 11) (v := .ref (md 16)) (C := RX11) (T := TX11) (N := 64) hx hb hts inX11_ownerOf_X11 hown hK hP 0 rfl rfl 16 (by decide) (hts (Cond.fieldLink RX11 48 "PortRoomsModel" "first" "[I") (wm_t (wm_l (wm_i 0 rfl)))) (fun _ h9 => h9) rfl dX11_ownerOf_1 ?_
  refine lv_iload_n hx hb dX11_ownerOf_4 rfl (lv_at hl 1 rfl) ?_
  refine va_iald hx hb hK hP 1 0 rfl rfl (i_in (by omega) (by omega)) dX11_ownerOf_5 ?_
  refine lv_topi (fun v1 ev1 => ?_)
  have tlv1 : v1.toInt = (fo k.toNatClampNeg).toInt := by rw [ev1]
  refine lv_istore (lv' := [(4, .int v1), (0, .ref (md 64)), (1, .int k), (2, .int d), (3, .int n)]) hx hb dX11_ownerOf_6 hl (by decide) rfl (fun ls hl => ?_)
  refine lv_aload_n hx hb dX11_ownerOf_8 rfl (lv_at hl 1 rfl) ?_
  refine va_get (D := D) (ci := 11) (v := .ref (md 16)) (C := RX11) (T := TX11) (N := 64) hx hb hts inX11_ownerOf_X11 hown hK hP 0 rfl rfl 16 (by decide) (hts (Cond.fieldLink RX11 48 "PortRoomsModel" "first" "[I") (wm_t (wm_l (wm_i 0 rfl)))) (fun _ h9 => h9) rfl dX11_ownerOf_9 ?_
  refine lv_iload_n hx hb dX11_ownerOf_12 rfl (lv_at hl 2 rfl) ?_
  refine va_iald hx hb hK hP 1 0 rfl rfl (i_in (by omega) (by omega)) dX11_ownerOf_13 ?_
  refine lv_topi (fun v2 ev2 => ?_)
  have tlv2 : v2.toInt = (fo k.toNatClampNeg).toInt := by rw [ev2]
  refine lv_istore (lv' := [(5, .int v2), (4, .int v1), (0, .ref (md 64)), (1, .int k), (2, .int d), (3, .int n)]) hx hb dX11_ownerOf_14 hl (by decide) rfl (fun ls hl => ?_)
  refine lv_lconst (v := 0) hx hb dX11_ownerOf_16 (by decide) ?_
  refine lv_lstore (lv' := [(6, .long 0), (5, .int v2), (4, .int v1), (0, .ref (md 64)), (1, .int k), (2, .int d), (3, .int n)]) hx hb dX11_ownerOf_17 hl (by decide) rfl (fun ls hl => ?_)
  refine lv_aload_n hx hb dX11_ownerOf_19 rfl (lv_at hl 3 rfl) ?_
  refine lv_iconst (v := 0) hx hb dX11_ownerOf_20 (by decide) ?_
  refine va_put (D := D) (ci := 11) (v := .int 0) (ty := .int) (C := RX11) (T := TX11) (N := 64) hx hb hts inX11_ownerOf_X11 tyX11 tyX11_ok nmX11 hown hK hP hD hS 0 rfl rfl 24 (by decide) (hts (Cond.fieldLink RX11 225 "PortRoomsModel" "quarrelling" "I") (wm_t (wm_l (wm_i 1 rfl)))) (fun _ h9 => h9) rfl (tyX11_ok 24 (by decide)) rfl rfl (Nat.le_of_ble_eq_true rfl) dX11_ownerOf_21 (fun H locs => ?_)
  clear hP hD hS
  intro hP hD hS
  replace hP : va_P D vwCl [(moC md sd mth mst hn cn pn (0) gn mln mnn ln mlt msz mcu mtk mfr mti mfa mfb an un lc td mtn), (aI cI (md 16) 12 fo), (aI cI (md 19) 40 pk), (aI cI (md 20) 40 pf), (aI cI (md 21) 40 po), (aI cI (md 22) 40 pd), (aI cI (md 23) 40 pe)] H := hP
  replace hD : va_D A [(moC md sd mth mst hn cn pn (0) gn mln mnn ln mlt msz mcu mtk mfr mti mfa mfb an un lc td mtn), (aI cI (md 16) 12 fo), (aI cI (md 19) 40 pk), (aI cI (md 20) 40 pf), (aI cI (md 21) 40 po), (aI cI (md 22) 40 pd), (aI cI (md 23) 40 pe)] := hD
  refine lv_iconst (v := 1) hx hb dX11_ownerOf_24 (by decide) ?_
  refine lv_istore (lv' := [(8, .int 1), (6, .long 0), (5, .int v2), (4, .int v1), (0, .ref (md 64)), (1, .int k), (2, .int d), (3, .int n)]) hx hb dX11_ownerOf_25 hl (by decide) rfl (fun ls hl => ?_)
  refine st_loop 27 (fun _ => []) (fun (z : Int32 × Int32 × Int64 × Int32 × Int32) (ls : Array Slot) (H : Heap) (locs : List Loc) => match z with | (q27_4, q27_5, q27_6, q27_8, mqq) => (q27_8.toInt = 0 ∨ q27_8.toInt = 1) ∧ ((q27_8.toInt = 1 → ooV pk pf po pd pe pn.toNatClampNeg k d n (41 - nbL q27_6 40) q27_6 q27_4 q27_5 mqq = ooV pk pf po pd pe pn.toNatClampNeg k d n 41 0 (fo k.toNatClampNeg) (fo k.toNatClampNeg) 0) ∧ (q27_8.toInt = 0 → (q27_5, mqq) = ooV pk pf po pd pe pn.toNatClampNeg k d n 41 0 (fo k.toNatClampNeg) (fo k.toNatClampNeg) 0)) ∧ lv_has ls 12 [(0, .ref (md 64)), (1, .int k), (2, .int d), (3, .int n), (4, .int q27_4), (5, .int q27_5), (6, .long q27_6), (8, .int q27_8)] ∧ va_P D vwCl [(moC md sd mth mst hn cn pn mqq gn mln mnn ln mlt msz mcu mtk mfr mti mfa mfb an un lc td mtn), (aI cI (md 16) 12 fo), (aI cI (md 19) 40 pk), (aI cI (md 20) 40 pf), (aI cI (md 21) 40 po), (aI cI (md 22) 40 pd), (aI cI (md 23) 40 pe)] H ∧ va_D A [(moC md sd mth mst hn cn pn mqq gn mln mnn ln mlt msz mcu mtk mfr mti mfa mfb an un lc td mtn), (aI cI (md 16) 12 fo), (aI cI (md 19) 40 pk), (aI cI (md 20) 40 pf), (aI cI (md 21) 40 po), (aI cI (md 22) 40 pd), (aI cI (md 23) 40 pe)] ∧ va_S A s.heap H locs) (fun (z : Int32 × Int32 × Int64 × Int32 × Int32) => match z with | (q27_4, q27_5, q27_6, q27_8, mqq) => 40 - (nbL q27_6 40 : Int) + q27_8.toInt) ?_ ?_ (v1, v2, (0 : Int64), (1 : Int32), (0 : Int32)) ⟨(by omega), (by exact ⟨fun _ => by rw [nbL_0, ev1, ev2], fun h9 => absurd h9 (by decide)⟩), lv_sub hl [4, 5, 6, 7, 3, 2, 1, 0] rfl, hP, hD, hS⟩
  · rintro ⟨q27_4, q27_5, q27_6, q27_8, mqq⟩ ls H locs ⟨g3, g4, hl, hP, hD, hS⟩
    show (0 : Int) ≤ 40 - (nbL q27_6 40 : Int) + q27_8.toInt
    have := nbL_le q27_6 40; omega
  · rintro n7 ih5 ⟨q27_4, q27_5, q27_6, q27_8, mqq⟩ ls H locs ⟨g3, g4, hl, hP, hD, hS⟩ hm6
    have hm6 : 40 - (nbL q27_6 40 : Int) + q27_8.toInt < (n7 : Int) + 1 := hm6
    replace hl : lv_has ls 12 [(0, .ref (md 64)), (1, .int k), (2, .int d), (3, .int n), (4, .int q27_4), (5, .int q27_5), (6, .long q27_6), (8, .int q27_8)] := hl
    replace hP : va_P D vwCl [(moC md sd mth mst hn cn pn mqq gn mln mnn ln mlt msz mcu mtk mfr mti mfa mfb an un lc td mtn), (aI cI (md 16) 12 fo), (aI cI (md 19) 40 pk), (aI cI (md 20) 40 pf), (aI cI (md 21) 40 po), (aI cI (md 22) 40 pd), (aI cI (md 23) 40 pe)] H := hP
    replace hD : va_D A [(moC md sd mth mst hn cn pn mqq gn mln mnn ln mlt msz mcu mtk mfr mti mfa mfb an un lc td mtn), (aI cI (md 16) 12 fo), (aI cI (md 19) 40 pk), (aI cI (md 20) 40 pf), (aI cI (md 21) 40 po), (aI cI (md 22) 40 pd), (aI cI (md 23) 40 pe)] := hD
    show W _ _ _ _ _ _ _ _ _ _ _ _ _ _ _ (F0 m 27 ls [])
    refine lv_iload hx hb dX11_ownerOf_27 (lv_at hl 7 rfl) ?_
    refine lv_if_eq (tgt := 252) hx hb dX11_ownerOf_29 (by decide) (fun c8 => ?_) (fun c8 => ?_)
    · skip
      have f9 := i_eq c8
      refine lv_iload hx hb dX11_ownerOf_252 (lv_at hl 5 rfl) ?_
      have hP9 := hP
      have hD9 := hD
      exact W.iret (v := q27_5) hx hb hr (fun t ht hW => ⟨⟨q27_5, mqq, rfl, (g4.2 (by omega)), by rw [ht]; exact hP9, va_K.moved hW.alike hK, hD9⟩, hS.F ht⟩) hS.2.2 dX11_ownerOf_254
    · skip
      have f10 := i_ne c8
      refine lv_ldc hx hb hown (hts (Cond.constant RX11 139 (-1000000)) (wm_t (wm_l (wm_i 2 rfl)))) dX11_ownerOf_32 ?_
      refine lv_istore (lv' := [(9, .int (-1000000)), (0, .ref (md 64)), (1, .int k), (2, .int d), (3, .int n), (4, .int q27_4), (5, .int q27_5), (6, .long q27_6), (8, .int q27_8)]) hx hb dX11_ownerOf_34 hl (by decide) rfl (fun ls hl => ?_)
      refine lv_iconst (v := 0) hx hb dX11_ownerOf_36 (by decide) ?_
      refine lv_istore (lv' := [(10, .int 0), (9, .int (-1000000)), (0, .ref (md 64)), (1, .int k), (2, .int d), (3, .int n), (4, .int q27_4), (5, .int q27_5), (6, .long q27_6), (8, .int q27_8)]) hx hb dX11_ownerOf_37 hl (by decide) rfl (fun ls hl => ?_)
      refine st_loop 39 (fun _ => []) (fun (z : Int32 × Int32) (ls : Array Slot) (H : Heap) (locs : List Loc) => match z with | (q39_9, q39_10) => (0 ≤ q39_10.toInt) ∧ (q39_10.toInt ≤ pn.toInt) ∧ (q39_9.toInt = -1000000 ∨ (0 ≤ q39_9.toInt ∧ q39_9.toInt < pn.toInt)) ∧ (0 ≤ q39_9.toInt → btL q27_6 q39_9.toNatClampNeg = false) ∧ (q39_9 = nxV pk pd pe k n q27_6 q39_10.toNatClampNeg) ∧ lv_has ls 12 [(0, .ref (md 64)), (1, .int k), (2, .int d), (3, .int n), (4, .int q27_4), (5, .int q27_5), (6, .long q27_6), (8, .int q27_8), (9, .int q39_9), (10, .int q39_10)] ∧ va_P D vwCl [(moC md sd mth mst hn cn pn mqq gn mln mnn ln mlt msz mcu mtk mfr mti mfa mfb an un lc td mtn), (aI cI (md 16) 12 fo), (aI cI (md 19) 40 pk), (aI cI (md 20) 40 pf), (aI cI (md 21) 40 po), (aI cI (md 22) 40 pd), (aI cI (md 23) 40 pe)] H ∧ va_D A [(moC md sd mth mst hn cn pn mqq gn mln mnn ln mlt msz mcu mtk mfr mti mfa mfb an un lc td mtn), (aI cI (md 16) 12 fo), (aI cI (md 19) 40 pk), (aI cI (md 20) 40 pf), (aI cI (md 21) 40 po), (aI cI (md 22) 40 pd), (aI cI (md 23) 40 pe)] ∧ va_S A s.heap H locs) (fun (z : Int32 × Int32) => match z with | (q39_9, q39_10) => pn.toInt - q39_10.toInt) ?_ ?_ (((-1000000) : Int32), (0 : Int32)) ⟨(by omega), (by omega), (by omega), (by intro h9; exfalso; omega), (by rfl), lv_sub hl [2, 3, 4, 5, 6, 7, 8, 9, 1, 0] rfl, hP, hD, hS⟩
      · rintro ⟨q39_9, q39_10⟩ ls H locs ⟨g11, g12, g13, g14, g15, hl, hP, hD, hS⟩
        show (0 : Int) ≤ pn.toInt - q39_10.toInt
        omega
      · rintro n18 ih16 ⟨q39_9, q39_10⟩ ls H locs ⟨g11, g12, g13, g14, g15, hl, hP, hD, hS⟩ hm17
        have hm17 : pn.toInt - q39_10.toInt < (n18 : Int) + 1 := hm17
        replace hl : lv_has ls 12 [(0, .ref (md 64)), (1, .int k), (2, .int d), (3, .int n), (4, .int q27_4), (5, .int q27_5), (6, .long q27_6), (8, .int q27_8), (9, .int q39_9), (10, .int q39_10)] := hl
        replace hP : va_P D vwCl [(moC md sd mth mst hn cn pn mqq gn mln mnn ln mlt msz mcu mtk mfr mti mfa mfb an un lc td mtn), (aI cI (md 16) 12 fo), (aI cI (md 19) 40 pk), (aI cI (md 20) 40 pf), (aI cI (md 21) 40 po), (aI cI (md 22) 40 pd), (aI cI (md 23) 40 pe)] H := hP
        replace hD : va_D A [(moC md sd mth mst hn cn pn mqq gn mln mnn ln mlt msz mcu mtk mfr mti mfa mfb an un lc td mtn), (aI cI (md 16) 12 fo), (aI cI (md 19) 40 pk), (aI cI (md 20) 40 pf), (aI cI (md 21) 40 po), (aI cI (md 22) 40 pd), (aI cI (md 23) 40 pe)] := hD
        show W _ _ _ _ _ _ _ _ _ _ _ _ _ _ _ (F0 m 39 ls [])
        refine lv_iload hx hb dX11_ownerOf_39 (lv_at hl 9 rfl) ?_
        refine lv_aload_n hx hb dX11_ownerOf_41 rfl (lv_at hl 0 rfl) ?_
        refine va_get (D := D) (ci := 11) (v := .int pn) (C := RX11) (T := TX11) (N := 64) hx hb hts inX11_ownerOf_X11 hown hK hP 0 rfl rfl 18 (by decide) (hts (Cond.fieldLink RX11 222 "PortRoomsModel" "papers" "I") (wm_t (wm_l (wm_i 3 rfl)))) (fun _ h9 => h9) rfl dX11_ownerOf_42 ?_
        refine lv_icmp_ge (tgt := 167) hx hb dX11_ownerOf_45 (by decide) (fun c19 => ?_) (fun c19 => ?_)
        · skip
          have f20 := i_le c19
          refine lv_iload hx hb dX11_ownerOf_167 (lv_at hl 8 rfl) ?_
          refine lv_ldc hx hb hown (hts (Cond.constant RX11 139 (-1000000)) (wm_t (wm_l (wm_i 2 rfl)))) dX11_ownerOf_169 ?_
          refine lv_icmp_eq (tgt := 178) hx hb dX11_ownerOf_171 (by decide) (fun c21 => ?_) (fun c21 => ?_)
          · skip
            have f22 := i_eq c21
            refine lv_iconst (v := 0) hx hb dX11_ownerOf_178 (by decide) ?_
            refine lv_istore (lv' := [(8, .int 0), (0, .ref (md 64)), (1, .int k), (2, .int d), (3, .int n), (4, .int q27_4), (5, .int q27_5), (6, .long q27_6), (9, .int q39_9), (10, .int q39_10)]) hx hb dX11_ownerOf_179 hl (by decide) rfl (fun ls hl => ?_)
            refine lv_iload hx hb dX11_ownerOf_181 (lv_at hl 0 rfl) ?_
            refine lv_if_eq (tgt := 249) hx hb dX11_ownerOf_183 (by decide) (fun _ => ?_) (fun c => absurd (by decide) c)
            refine lv_goto (tgt := 27) hx hb dX11_ownerOf_249 (by decide) ?_
            have hle8 := nbL_le q27_6 40
            have ha9 := g4.1 (by omega)
            rw [show 41 - nbL q27_6 40 = (40 - nbL q27_6 40) + 1 by omega, ooV_s] at ha9
            have ce8 := i_cl (x := q39_10) (by omega)
            have ce9 := i_cl (x := pn) (by omega)
            have ee9 : q39_10.toNatClampNeg = pn.toNatClampNeg := by omega
            have hz9 := g15
            rw [ee9] at hz9
            rw [← hz9] at ha9
            exact ih5 (q27_4, q27_5, q27_6, (0 : Int32), mqq) ls H locs ⟨(by omega), (by exact ⟨fun h9 => absurd h9 (by decide), fun _ => by rw [if_pos (by omega)] at ha9; exact ha9⟩), lv_sub hl [1, 2, 3, 4, 5, 6, 7, 0] rfl, hP.sub [0, 1, 2, 3, 4, 5, 6] rfl, hD.sub [0, 1, 2, 3, 4, 5, 6] (by decide +kernel) rfl, hS⟩ (by show 40 - (nbL q27_6 40 : Int) + (0 : Int32).toInt < _; omega)
          · skip
            have f23 := i_ne c21
            refine lv_iconst (v := 1) hx hb dX11_ownerOf_174 (by decide) ?_
            refine lv_goto (tgt := 179) hx hb dX11_ownerOf_175 (by decide) ?_
            refine lv_istore (lv' := [(8, .int 1), (0, .ref (md 64)), (1, .int k), (2, .int d), (3, .int n), (4, .int q27_4), (5, .int q27_5), (6, .long q27_6), (9, .int q39_9), (10, .int q39_10)]) hx hb dX11_ownerOf_179 hl (by decide) rfl (fun ls hl => ?_)
            refine lv_iload hx hb dX11_ownerOf_181 (lv_at hl 0 rfl) ?_
            refine lv_if_eq (tgt := 249) hx hb dX11_ownerOf_183 (by decide) (fun c => absurd c (by decide)) (fun _ => ?_)
            refine lv_lload hx hb dX11_ownerOf_186 (lv_at hl 7 rfl) ?_
            refine lv_lconst (v := 1) hx hb dX11_ownerOf_188 (by decide) ?_
            refine lv_iload hx hb dX11_ownerOf_189 (lv_at hl 8 rfl) ?_
            refine lv_lshl hx hb dX11_ownerOf_191 rfl ?_
            refine lv_topl (fun z24 ez24 => ?_)
            refine lv_lor hx hb dX11_ownerOf_192 ?_
            refine lv_topl (fun z25 ez25 => ?_)
            refine lv_lstore (lv' := [(6, .long z25), (8, .int 1), (0, .ref (md 64)), (1, .int k), (2, .int d), (3, .int n), (4, .int q27_4), (5, .int q27_5), (9, .int q39_9), (10, .int q39_10)]) hx hb dX11_ownerOf_193 hl (by decide) rfl (fun ls hl => ?_)
            refine lv_aload_n hx hb dX11_ownerOf_195 rfl (lv_at hl 2 rfl) ?_
            refine va_get (D := D) (ci := 11) (v := .ref (md 20)) (C := RX11) (T := TX11) (N := 64) hx hb hts inX11_ownerOf_X11 hown hK hP 0 rfl rfl 20 (by decide) (hts (Cond.fieldLink RX11 57 "PortRoomsModel" "paperFrom" "[I") (wm_t (wm_l (wm_i 7 rfl)))) (fun _ h9 => h9) rfl dX11_ownerOf_196 ?_
            refine lv_iload hx hb dX11_ownerOf_199 (lv_at hl 8 rfl) ?_
            refine va_iald hx hb hK hP 3 0 rfl rfl (i_in (by omega) (by omega)) dX11_ownerOf_201 ?_
            refine lv_topi (fun v26 ev26 => ?_)
            have tlv26 : v26.toInt = (pf q39_9.toNatClampNeg).toInt := by rw [ev26]
            refine lv_iload hx hb dX11_ownerOf_202 (lv_at hl 6 rfl) ?_
            refine lv_icmp_ne (tgt := 239) hx hb dX11_ownerOf_204 (by decide) (fun c27 => ?_) (fun c27 => ?_)
            · skip
              have f28 := i_ne c27
              refine lv_aload_n hx hb dX11_ownerOf_239 rfl (lv_at hl 2 rfl) ?_
              refine lv_dup hx hb dX11_ownerOf_240 rfl ?_
              refine va_get (D := D) (ci := 11) (v := .int mqq) (C := RX11) (T := TX11) (N := 64) hx hb hts inX11_ownerOf_X11 hown hK hP 0 rfl rfl 24 (by decide) (hts (Cond.fieldLink RX11 225 "PortRoomsModel" "quarrelling" "I") (wm_t (wm_l (wm_i 1 rfl)))) (fun _ h9 => h9) rfl dX11_ownerOf_241 ?_
              refine lv_iconst (v := 1) hx hb dX11_ownerOf_244 (by decide) ?_
              refine lv_iadd hx hb dX11_ownerOf_245 ?_
              refine lv_topi (fun v29 ev29 => ?_)
              refine va_put (D := D) (ci := 11) (v := .int v29) (ty := .int) (C := RX11) (T := TX11) (N := 64) hx hb hts inX11_ownerOf_X11 tyX11 tyX11_ok nmX11 hown hK hP hD hS 0 rfl rfl 24 (by decide) (hts (Cond.fieldLink RX11 225 "PortRoomsModel" "quarrelling" "I") (wm_t (wm_l (wm_i 1 rfl)))) (fun _ h9 => h9) rfl (tyX11_ok 24 (by decide)) rfl rfl (Nat.le_of_ble_eq_true rfl) dX11_ownerOf_246 (fun H locs => ?_)
              clear hP hD hS
              intro hP hD hS
              replace hP : va_P D vwCl [(moC md sd mth mst hn cn pn v29 gn mln mnn ln mlt msz mcu mtk mfr mti mfa mfb an un lc td mtn), (aI cI (md 16) 12 fo), (aI cI (md 19) 40 pk), (aI cI (md 20) 40 pf), (aI cI (md 21) 40 po), (aI cI (md 22) 40 pd), (aI cI (md 23) 40 pe)] H := hP
              replace hD : va_D A [(moC md sd mth mst hn cn pn v29 gn mln mnn ln mlt msz mcu mtk mfr mti mfa mfb an un lc td mtn), (aI cI (md 16) 12 fo), (aI cI (md 19) 40 pk), (aI cI (md 20) 40 pf), (aI cI (md 21) 40 po), (aI cI (md 22) 40 pd), (aI cI (md 23) 40 pe)] := hD
              refine lv_goto (tgt := 27) hx hb dX11_ownerOf_249 (by decide) ?_
              have hle8 := nbL_le q27_6 40
              have ha9 := g4.1 (by omega)
              rw [show 41 - nbL q27_6 40 = (40 - nbL q27_6 40) + 1 by omega, ooV_s] at ha9
              have ce8 := i_cl (x := q39_10) (by omega)
              have ce9 := i_cl (x := pn) (by omega)
              have ee9 : q39_10.toNatClampNeg = pn.toNatClampNeg := by omega
              have hz9 := g15
              rw [ee9] at hz9
              rw [← hz9] at ha9
              have hn9 := nbL_set (x := q27_6) (c := q39_9) (by omega) (by omega) (g14 (by omega))
              rw [← ez24, ← ez25] at hn9
              have hle9 := nbL_le z25 40
              rw [if_neg (by omega)] at ha9
              rw [← ez24, ← ez25] at ha9
              have hfu9 : 41 - nbL z25 40 = 40 - nbL q27_6 40 := by omega
              exact ih5 (q27_4, q27_5, z25, (1 : Int32), v29) ls H locs ⟨(by omega), (by exact ⟨fun _ => by rw [if_neg (by omega)] at ha9; rw [hfu9, ev29]; exact ha9, fun h9 => absurd h9 (by decide)⟩), lv_sub hl [2, 3, 4, 5, 6, 7, 0, 1] rfl, hP.sub [0, 1, 2, 3, 4, 5, 6] rfl, hD.sub [0, 1, 2, 3, 4, 5, 6] (by decide +kernel) rfl, hS⟩ (by show 40 - (nbL z25 40 : Int) + (1 : Int32).toInt < _; omega)
            · skip
              have f30 := i_eq c27
              refine lv_aload_n hx hb dX11_ownerOf_207 rfl (lv_at hl 2 rfl) ?_
              refine va_get (D := D) (ci := 11) (v := .ref (md 21)) (C := RX11) (T := TX11) (N := 64) hx hb hts inX11_ownerOf_X11 hown hK hP 0 rfl rfl 21 (by decide) (hts (Cond.fieldLink RX11 60 "PortRoomsModel" "paperTo" "[I") (wm_t (wm_l (wm_i 8 rfl)))) (fun _ h9 => h9) rfl dX11_ownerOf_208 ?_
              refine lv_iload hx hb dX11_ownerOf_211 (lv_at hl 8 rfl) ?_
              refine va_iald hx hb hK hP 4 0 rfl rfl (i_in (by omega) (by omega)) dX11_ownerOf_213 ?_
              refine lv_topi (fun v31 ev31 => ?_)
              have tlv31 : v31.toInt = (po q39_9.toNatClampNeg).toInt := by rw [ev31]
              refine lv_istore (lv' := [(4, .int v31), (6, .long z25), (8, .int 1), (0, .ref (md 64)), (1, .int k), (2, .int d), (3, .int n), (5, .int q27_5), (9, .int q39_9), (10, .int q39_10)]) hx hb dX11_ownerOf_214 hl (by decide) rfl (fun ls hl => ?_)
              refine lv_aload_n hx hb dX11_ownerOf_216 rfl (lv_at hl 3 rfl) ?_
              refine va_get (D := D) (ci := 11) (v := .ref (md 22)) (C := RX11) (T := TX11) (N := 64) hx hb hts inX11_ownerOf_X11 hown hK hP 0 rfl rfl 22 (by decide) (hts (Cond.fieldLink RX11 63 "PortRoomsModel" "paperSaid" "[I") (wm_t (wm_l (wm_i 6 rfl)))) (fun _ h9 => h9) rfl dX11_ownerOf_217 ?_
              refine lv_iload hx hb dX11_ownerOf_220 (lv_at hl 8 rfl) ?_
              refine va_iald hx hb hK hP 5 0 rfl rfl (i_in (by omega) (by omega)) dX11_ownerOf_222 ?_
              refine lv_topi (fun v32 ev32 => ?_)
              have tlv32 : v32.toInt = (pd q39_9.toNatClampNeg).toInt := by rw [ev32]
              refine lv_iload_n hx hb dX11_ownerOf_223 rfl (lv_at hl 5 rfl) ?_
              refine lv_icmp_gt (tgt := 232) hx hb dX11_ownerOf_224 (by decide) (fun c33 => ?_) (fun c33 => ?_)
              · skip
                have f34 := i_lt c33
                refine lv_iload hx hb dX11_ownerOf_232 (lv_at hl 7 rfl) ?_
                refine lv_istore (lv' := [(5, .int q27_5), (4, .int v31), (6, .long z25), (8, .int 1), (0, .ref (md 64)), (1, .int k), (2, .int d), (3, .int n), (9, .int q39_9), (10, .int q39_10)]) hx hb dX11_ownerOf_234 hl (by decide) rfl (fun ls hl => ?_)
                refine lv_goto (tgt := 249) hx hb dX11_ownerOf_236 (by decide) ?_
                refine lv_goto (tgt := 27) hx hb dX11_ownerOf_249 (by decide) ?_
                have hle8 := nbL_le q27_6 40
                have ha9 := g4.1 (by omega)
                rw [show 41 - nbL q27_6 40 = (40 - nbL q27_6 40) + 1 by omega, ooV_s] at ha9
                have ce8 := i_cl (x := q39_10) (by omega)
                have ce9 := i_cl (x := pn) (by omega)
                have ee9 : q39_10.toNatClampNeg = pn.toNatClampNeg := by omega
                have hz9 := g15
                rw [ee9] at hz9
                rw [← hz9] at ha9
                have hn9 := nbL_set (x := q27_6) (c := q39_9) (by omega) (by omega) (g14 (by omega))
                rw [← ez24, ← ez25] at hn9
                have hle9 := nbL_le z25 40
                rw [if_neg (by omega)] at ha9
                rw [← ez24, ← ez25] at ha9
                have hfu9 : 41 - nbL z25 40 = 40 - nbL q27_6 40 := by omega
                exact ih5 (v31, q27_5, z25, (1 : Int32), mqq) ls H locs ⟨(by omega), (by exact ⟨fun _ => by rw [if_pos (by omega), if_neg (by omega)] at ha9; rw [hfu9, ev31]; exact ha9, fun h9 => absurd h9 (by decide)⟩), lv_sub hl [4, 5, 6, 7, 1, 0, 2, 3] rfl, hP.sub [0, 1, 2, 3, 4, 5, 6] rfl, hD.sub [0, 1, 2, 3, 4, 5, 6] (by decide +kernel) rfl, hS⟩ (by show 40 - (nbL z25 40 : Int) + (1 : Int32).toInt < _; omega)
              · skip
                have f35 := i_nlt c33
                refine lv_iload hx hb dX11_ownerOf_227 (lv_at hl 0 rfl) ?_
                refine lv_goto (tgt := 234) hx hb dX11_ownerOf_229 (by decide) ?_
                refine lv_istore (lv' := [(5, .int v31), (4, .int v31), (6, .long z25), (8, .int 1), (0, .ref (md 64)), (1, .int k), (2, .int d), (3, .int n), (9, .int q39_9), (10, .int q39_10)]) hx hb dX11_ownerOf_234 hl (by decide) rfl (fun ls hl => ?_)
                refine lv_goto (tgt := 249) hx hb dX11_ownerOf_236 (by decide) ?_
                refine lv_goto (tgt := 27) hx hb dX11_ownerOf_249 (by decide) ?_
                have hle8 := nbL_le q27_6 40
                have ha9 := g4.1 (by omega)
                rw [show 41 - nbL q27_6 40 = (40 - nbL q27_6 40) + 1 by omega, ooV_s] at ha9
                have ce8 := i_cl (x := q39_10) (by omega)
                have ce9 := i_cl (x := pn) (by omega)
                have ee9 : q39_10.toNatClampNeg = pn.toNatClampNeg := by omega
                have hz9 := g15
                rw [ee9] at hz9
                rw [← hz9] at ha9
                have hn9 := nbL_set (x := q27_6) (c := q39_9) (by omega) (by omega) (g14 (by omega))
                rw [← ez24, ← ez25] at hn9
                have hle9 := nbL_le z25 40
                rw [if_neg (by omega)] at ha9
                rw [← ez24, ← ez25] at ha9
                have hfu9 : 41 - nbL z25 40 = 40 - nbL q27_6 40 := by omega
                exact ih5 (v31, v31, z25, (1 : Int32), mqq) ls H locs ⟨(by omega), (by exact ⟨fun _ => by rw [if_pos (by omega), if_pos (by omega)] at ha9; rw [hfu9, ev31]; exact ha9, fun h9 => absurd h9 (by decide)⟩), lv_sub hl [4, 5, 6, 7, 1, 0, 2, 3] rfl, hP.sub [0, 1, 2, 3, 4, 5, 6] rfl, hD.sub [0, 1, 2, 3, 4, 5, 6] (by decide +kernel) rfl, hS⟩ (by show 40 - (nbL z25 40 : Int) + (1 : Int32).toInt < _; omega)
        · skip
          have f36 := i_nle c19
          refine lv_aload_n hx hb dX11_ownerOf_48 rfl (lv_at hl 0 rfl) ?_
          refine va_get (D := D) (ci := 11) (v := .ref (md 19)) (C := RX11) (T := TX11) (N := 64) hx hb hts inX11_ownerOf_X11 hown hK hP 0 rfl rfl 19 (by decide) (hts (Cond.fieldLink RX11 54 "PortRoomsModel" "paperCrate" "[I") (wm_t (wm_l (wm_i 4 rfl)))) (fun _ h9 => h9) rfl dX11_ownerOf_49 ?_
          refine lv_iload hx hb dX11_ownerOf_52 (lv_at hl 9 rfl) ?_
          refine va_iald hx hb hK hP 2 0 rfl rfl (i_in (by omega) (by omega)) dX11_ownerOf_54 ?_
          refine lv_topi (fun v37 ev37 => ?_)
          have tlv37 : v37.toInt = (pk q39_10.toNatClampNeg).toInt := by rw [ev37]
          refine lv_iload_n hx hb dX11_ownerOf_55 rfl (lv_at hl 1 rfl) ?_
          refine lv_icmp_ne (tgt := 161) hx hb dX11_ownerOf_56 (by decide) (fun c38 => ?_) (fun c38 => ?_)
          · skip
            have f39 := i_ne c38
            obtain ⟨v40, ev40⟩ : ∃ y : Int32, y = q39_10 + 1 := ⟨_, rfl⟩
            try have tv40 : v40.toInt = q39_10.toInt + 1 := by rw [ev40]; exact (i_add (x := q39_10) (y := (1 : Int32)) (by rw [k1]; omega) (by rw [k1]; omega)).trans (by rw [k1])
            refine lv_iinc (v := v40) (lv' := [(10, .int v40), (0, .ref (md 64)), (1, .int k), (2, .int d), (3, .int n), (4, .int q27_4), (5, .int q27_5), (6, .long q27_6), (8, .int q27_8), (9, .int q39_9)]) hx hb dX11_ownerOf_161 hl (k := 9) rfl (by rw [ev40]; rfl) (by decide) rfl (fun ls hl => ?_)
            refine lv_goto (tgt := 39) hx hb dX11_ownerOf_164 (by decide) ?_
            have clk8 := i_cl (x := q39_10) (by omega)
            have clk9 := i_cl (x := v40) (by omega)
            have ek9 : v40.toNatClampNeg = q39_10.toNatClampNeg + 1 := by omega
            have nk9 : nI q39_10.toNatClampNeg = q39_10 := i_nI (by omega)
            exact ih16 (q39_9, v40) ls H locs ⟨(by omega), (by omega), (by omega), (by first | exact g14 | exact fun _ => (by assumption)), (by rw [ek9, nxV_s, nk9, ← g15]; split <;> first | rfl | (exfalso; omega) | (rename_i z9; exact absurd z9.2.2.1 hb9) | (rename_i z9; exact absurd ⟨by omega, by omega, hb9, by omega⟩ z9)), lv_sub hl [1, 2, 3, 4, 5, 6, 7, 8, 9, 0] rfl, hP.sub [0, 1, 2, 3, 4, 5, 6] rfl, hD.sub [0, 1, 2, 3, 4, 5, 6] (by decide +kernel) rfl, hS⟩ (by show pn.toInt - v40.toInt < _; omega)
          · skip
            have f41 := i_eq c38
            refine lv_aload_n hx hb dX11_ownerOf_59 rfl (lv_at hl 0 rfl) ?_
            refine va_get (D := D) (ci := 11) (v := .ref (md 23)) (C := RX11) (T := TX11) (N := 64) hx hb hts inX11_ownerOf_X11 hown hK hP 0 rfl rfl 23 (by decide) (hts (Cond.fieldLink RX11 66 "PortRoomsModel" "paperFiled" "[I") (wm_t (wm_l (wm_i 5 rfl)))) (fun _ h9 => h9) rfl dX11_ownerOf_60 ?_
            refine lv_iload hx hb dX11_ownerOf_63 (lv_at hl 9 rfl) ?_
            refine va_iald hx hb hK hP 6 0 rfl rfl (i_in (by omega) (by omega)) dX11_ownerOf_65 ?_
            refine lv_topi (fun v42 ev42 => ?_)
            have tlv42 : v42.toInt = (pe q39_10.toNatClampNeg).toInt := by rw [ev42]
            refine lv_iload_n hx hb dX11_ownerOf_66 rfl (lv_at hl 3 rfl) ?_
            refine lv_icmp_gt (tgt := 161) hx hb dX11_ownerOf_67 (by decide) (fun c43 => ?_) (fun c43 => ?_)
            · skip
              have f44 := i_lt c43
              obtain ⟨v45, ev45⟩ : ∃ y : Int32, y = q39_10 + 1 := ⟨_, rfl⟩
              try have tv45 : v45.toInt = q39_10.toInt + 1 := by rw [ev45]; exact (i_add (x := q39_10) (y := (1 : Int32)) (by rw [k1]; omega) (by rw [k1]; omega)).trans (by rw [k1])
              refine lv_iinc (v := v45) (lv' := [(10, .int v45), (0, .ref (md 64)), (1, .int k), (2, .int d), (3, .int n), (4, .int q27_4), (5, .int q27_5), (6, .long q27_6), (8, .int q27_8), (9, .int q39_9)]) hx hb dX11_ownerOf_161 hl (k := 9) rfl (by rw [ev45]; rfl) (by decide) rfl (fun ls hl => ?_)
              refine lv_goto (tgt := 39) hx hb dX11_ownerOf_164 (by decide) ?_
              have clk8 := i_cl (x := q39_10) (by omega)
              have clk9 := i_cl (x := v45) (by omega)
              have ek9 : v45.toNatClampNeg = q39_10.toNatClampNeg + 1 := by omega
              have nk9 : nI q39_10.toNatClampNeg = q39_10 := i_nI (by omega)
              exact ih16 (q39_9, v45) ls H locs ⟨(by omega), (by omega), (by omega), (by first | exact g14 | exact fun _ => (by assumption)), (by rw [ek9, nxV_s, nk9, ← g15]; split <;> first | rfl | (exfalso; omega) | (rename_i z9; exact absurd z9.2.2.1 hb9) | (rename_i z9; exact absurd ⟨by omega, by omega, hb9, by omega⟩ z9)), lv_sub hl [1, 2, 3, 4, 5, 6, 7, 8, 9, 0] rfl, hP.sub [0, 1, 2, 3, 4, 5, 6] rfl, hD.sub [0, 1, 2, 3, 4, 5, 6] (by decide +kernel) rfl, hS⟩ (by show pn.toInt - v45.toInt < _; omega)
            · skip
              have f46 := i_nlt c43
              refine lv_lload hx hb dX11_ownerOf_70 (lv_at hl 6 rfl) ?_
              refine lv_iload hx hb dX11_ownerOf_72 (lv_at hl 9 rfl) ?_
              refine lv_lshr hx hb dX11_ownerOf_74 rfl ?_
              refine lv_topl (fun z47 ez47 => ?_)
              refine lv_lconst (v := 1) hx hb dX11_ownerOf_75 (by decide) ?_
              refine lv_land hx hb dX11_ownerOf_76 ?_
              refine lv_topl (fun z48 ez48 => ?_)
              refine lv_lconst (v := 0) hx hb dX11_ownerOf_77 (by decide) ?_
              refine W.lcmp hx hb dX11_ownerOf_78 ?_
              refine lv_topi (fun v49 ev49 => ?_)
              refine lv_if_ne (tgt := 161) hx hb dX11_ownerOf_79 (by decide) (fun c50 => ?_) (fun c50 => ?_)
              · skip
                have f51 := lc_ne ev49 c50
                obtain ⟨v52, ev52⟩ : ∃ y : Int32, y = q39_10 + 1 := ⟨_, rfl⟩
                try have tv52 : v52.toInt = q39_10.toInt + 1 := by rw [ev52]; exact (i_add (x := q39_10) (y := (1 : Int32)) (by rw [k1]; omega) (by rw [k1]; omega)).trans (by rw [k1])
                refine lv_iinc (v := v52) (lv' := [(10, .int v52), (0, .ref (md 64)), (1, .int k), (2, .int d), (3, .int n), (4, .int q27_4), (5, .int q27_5), (6, .long q27_6), (8, .int q27_8), (9, .int q39_9)]) hx hb dX11_ownerOf_161 hl (k := 9) rfl (by rw [ev52]; rfl) (by decide) rfl (fun ls hl => ?_)
                refine lv_goto (tgt := 39) hx hb dX11_ownerOf_164 (by decide) ?_
                have clk8 := i_cl (x := q39_10) (by omega)
                have clk9 := i_cl (x := v52) (by omega)
                have ek9 : v52.toNatClampNeg = q39_10.toNatClampNeg + 1 := by omega
                have nk9 : nI q39_10.toNatClampNeg = q39_10 := i_nI (by omega)
                have hb9 : ¬ btL q27_6 q39_10.toNatClampNeg = false := fun h9 => by have z0 := (btL_bit (x := q27_6) (c := q39_10) (by omega) (by omega)).mpr h9; rw [← ez47, ← ez48] at z0; rw [z0] at f51; exact f51 rfl
                exact ih16 (q39_9, v52) ls H locs ⟨(by omega), (by omega), (by omega), (by first | exact g14 | exact fun _ => (by assumption)), (by rw [ek9, nxV_s, nk9, ← g15]; split <;> first | rfl | (exfalso; omega) | (rename_i z9; exact absurd z9.2.2.1 hb9) | (rename_i z9; exact absurd ⟨by omega, by omega, hb9, by omega⟩ z9)), lv_sub hl [1, 2, 3, 4, 5, 6, 7, 8, 9, 0] rfl, hP.sub [0, 1, 2, 3, 4, 5, 6] rfl, hD.sub [0, 1, 2, 3, 4, 5, 6] (by decide +kernel) rfl, hS⟩ (by show pn.toInt - v52.toInt < _; omega)
              · skip
                have f53 := lc_eq ev49 c50
                have hz9 : z48 = 0 := Int64.toInt_inj.mp (by assumption)
                have hb9 := (btL_bit (x := q27_6) (c := q39_10) (by omega) (by omega)).mp (by rw [← ez47, ← ez48]; exact hz9)
                refine lv_iload hx hb dX11_ownerOf_82 (lv_at hl 8 rfl) ?_
                refine lv_ldc hx hb hown (hts (Cond.constant RX11 139 (-1000000)) (wm_t (wm_l (wm_i 2 rfl)))) dX11_ownerOf_84 ?_
                refine lv_icmp_eq (tgt := 140) hx hb dX11_ownerOf_86 (by decide) (fun c54 => ?_) (fun c54 => ?_)
                · skip
                  have f55 := i_eq c54
                  refine lv_iconst (v := 1) hx hb dX11_ownerOf_140 (by decide) ?_
                  refine lv_goto (tgt := 145) hx hb dX11_ownerOf_141 (by decide) ?_
                  refine lv_istore (lv' := [(11, .int 1), (0, .ref (md 64)), (1, .int k), (2, .int d), (3, .int n), (4, .int q27_4), (5, .int q27_5), (6, .long q27_6), (8, .int q27_8), (9, .int q39_9), (10, .int q39_10)]) hx hb dX11_ownerOf_145 hl (by decide) rfl (fun ls hl => ?_)
                  refine lv_iload hx hb dX11_ownerOf_147 (lv_at hl 0 rfl) ?_
                  refine lv_if_eq (tgt := 157) hx hb dX11_ownerOf_149 (by decide) (fun c => absurd c (by decide)) (fun _ => ?_)
                  refine lv_iload hx hb dX11_ownerOf_152 (lv_at hl 10 rfl) ?_
                  refine lv_goto (tgt := 159) hx hb dX11_ownerOf_154 (by decide) ?_
                  refine lv_istore (lv' := [(9, .int q39_10), (11, .int 1), (0, .ref (md 64)), (1, .int k), (2, .int d), (3, .int n), (4, .int q27_4), (5, .int q27_5), (6, .long q27_6), (8, .int q27_8), (10, .int q39_10)]) hx hb dX11_ownerOf_159 hl (by decide) rfl (fun ls hl => ?_)
                  obtain ⟨v56, ev56⟩ : ∃ y : Int32, y = q39_10 + 1 := ⟨_, rfl⟩
                  try have tv56 : v56.toInt = q39_10.toInt + 1 := by rw [ev56]; exact (i_add (x := q39_10) (y := (1 : Int32)) (by rw [k1]; omega) (by rw [k1]; omega)).trans (by rw [k1])
                  refine lv_iinc (v := v56) (lv' := [(10, .int v56), (9, .int q39_10), (11, .int 1), (0, .ref (md 64)), (1, .int k), (2, .int d), (3, .int n), (4, .int q27_4), (5, .int q27_5), (6, .long q27_6), (8, .int q27_8)]) hx hb dX11_ownerOf_161 hl (k := 10) rfl (by rw [ev56]; rfl) (by decide) rfl (fun ls hl => ?_)
                  refine lv_goto (tgt := 39) hx hb dX11_ownerOf_164 (by decide) ?_
                  have clk8 := i_cl (x := q39_10) (by omega)
                  have clk9 := i_cl (x := v56) (by omega)
                  have ek9 : v56.toNatClampNeg = q39_10.toNatClampNeg + 1 := by omega
                  have nk9 : nI q39_10.toNatClampNeg = q39_10 := i_nI (by omega)
                  exact ih16 (q39_10, v56) ls H locs ⟨(by omega), (by omega), (by omega), (by first | exact g14 | exact fun _ => (by assumption)), (by rw [ek9, nxV_s, nk9, ← g15]; split <;> first | rfl | (exfalso; omega) | (rename_i z9; exact absurd z9.2.2.1 hb9) | (rename_i z9; exact absurd ⟨by omega, by omega, hb9, by omega⟩ z9)), lv_sub hl [3, 4, 5, 6, 7, 8, 9, 10, 1, 0] rfl, hP.sub [0, 1, 2, 3, 4, 5, 6] rfl, hD.sub [0, 1, 2, 3, 4, 5, 6] (by decide +kernel) rfl, hS⟩ (by show pn.toInt - v56.toInt < _; omega)
                · skip
                  have f57 := i_ne c54
                  refine lv_aload_n hx hb dX11_ownerOf_89 rfl (lv_at hl 0 rfl) ?_
                  refine va_get (D := D) (ci := 11) (v := .ref (md 22)) (C := RX11) (T := TX11) (N := 64) hx hb hts inX11_ownerOf_X11 hown hK hP 0 rfl rfl 22 (by decide) (hts (Cond.fieldLink RX11 63 "PortRoomsModel" "paperSaid" "[I") (wm_t (wm_l (wm_i 6 rfl)))) (fun _ h9 => h9) rfl dX11_ownerOf_90 ?_
                  refine lv_iload hx hb dX11_ownerOf_93 (lv_at hl 9 rfl) ?_
                  refine va_iald hx hb hK hP 5 0 rfl rfl (i_in (by omega) (by omega)) dX11_ownerOf_95 ?_
                  refine lv_topi (fun v58 ev58 => ?_)
                  have tlv58 : v58.toInt = (pd q39_10.toNatClampNeg).toInt := by rw [ev58]
                  refine lv_aload_n hx hb dX11_ownerOf_96 rfl (lv_at hl 0 rfl) ?_
                  refine va_get (D := D) (ci := 11) (v := .ref (md 22)) (C := RX11) (T := TX11) (N := 64) hx hb hts inX11_ownerOf_X11 hown hK hP 0 rfl rfl 22 (by decide) (hts (Cond.fieldLink RX11 63 "PortRoomsModel" "paperSaid" "[I") (wm_t (wm_l (wm_i 6 rfl)))) (fun _ h9 => h9) rfl dX11_ownerOf_97 ?_
                  refine lv_iload hx hb dX11_ownerOf_100 (lv_at hl 8 rfl) ?_
                  refine va_iald hx hb hK hP 5 0 rfl rfl (i_in (by omega) (by omega)) dX11_ownerOf_102 ?_
                  refine lv_topi (fun v59 ev59 => ?_)
                  have tlv59 : v59.toInt = (pd q39_9.toNatClampNeg).toInt := by rw [ev59]
                  refine lv_icmp_lt (tgt := 140) hx hb dX11_ownerOf_103 (by decide) (fun c60 => ?_) (fun c60 => ?_)
                  · skip
                    have f61 := i_lt c60
                    refine lv_iconst (v := 1) hx hb dX11_ownerOf_140 (by decide) ?_
                    refine lv_goto (tgt := 145) hx hb dX11_ownerOf_141 (by decide) ?_
                    refine lv_istore (lv' := [(11, .int 1), (0, .ref (md 64)), (1, .int k), (2, .int d), (3, .int n), (4, .int q27_4), (5, .int q27_5), (6, .long q27_6), (8, .int q27_8), (9, .int q39_9), (10, .int q39_10)]) hx hb dX11_ownerOf_145 hl (by decide) rfl (fun ls hl => ?_)
                    refine lv_iload hx hb dX11_ownerOf_147 (lv_at hl 0 rfl) ?_
                    refine lv_if_eq (tgt := 157) hx hb dX11_ownerOf_149 (by decide) (fun c => absurd c (by decide)) (fun _ => ?_)
                    refine lv_iload hx hb dX11_ownerOf_152 (lv_at hl 10 rfl) ?_
                    refine lv_goto (tgt := 159) hx hb dX11_ownerOf_154 (by decide) ?_
                    refine lv_istore (lv' := [(9, .int q39_10), (11, .int 1), (0, .ref (md 64)), (1, .int k), (2, .int d), (3, .int n), (4, .int q27_4), (5, .int q27_5), (6, .long q27_6), (8, .int q27_8), (10, .int q39_10)]) hx hb dX11_ownerOf_159 hl (by decide) rfl (fun ls hl => ?_)
                    obtain ⟨v62, ev62⟩ : ∃ y : Int32, y = q39_10 + 1 := ⟨_, rfl⟩
                    try have tv62 : v62.toInt = q39_10.toInt + 1 := by rw [ev62]; exact (i_add (x := q39_10) (y := (1 : Int32)) (by rw [k1]; omega) (by rw [k1]; omega)).trans (by rw [k1])
                    refine lv_iinc (v := v62) (lv' := [(10, .int v62), (9, .int q39_10), (11, .int 1), (0, .ref (md 64)), (1, .int k), (2, .int d), (3, .int n), (4, .int q27_4), (5, .int q27_5), (6, .long q27_6), (8, .int q27_8)]) hx hb dX11_ownerOf_161 hl (k := 10) rfl (by rw [ev62]; rfl) (by decide) rfl (fun ls hl => ?_)
                    refine lv_goto (tgt := 39) hx hb dX11_ownerOf_164 (by decide) ?_
                    have clk8 := i_cl (x := q39_10) (by omega)
                    have clk9 := i_cl (x := v62) (by omega)
                    have ek9 : v62.toNatClampNeg = q39_10.toNatClampNeg + 1 := by omega
                    have nk9 : nI q39_10.toNatClampNeg = q39_10 := i_nI (by omega)
                    exact ih16 (q39_10, v62) ls H locs ⟨(by omega), (by omega), (by omega), (by first | exact g14 | exact fun _ => (by assumption)), (by rw [ek9, nxV_s, nk9, ← g15]; split <;> first | rfl | (exfalso; omega) | (rename_i z9; exact absurd z9.2.2.1 hb9) | (rename_i z9; exact absurd ⟨by omega, by omega, hb9, by omega⟩ z9)), lv_sub hl [3, 4, 5, 6, 7, 8, 9, 10, 1, 0] rfl, hP.sub [0, 1, 2, 3, 4, 5, 6] rfl, hD.sub [0, 1, 2, 3, 4, 5, 6] (by decide +kernel) rfl, hS⟩ (by show pn.toInt - v62.toInt < _; omega)
                  · skip
                    have f63 := i_nlt c60
                    refine lv_aload_n hx hb dX11_ownerOf_106 rfl (lv_at hl 0 rfl) ?_
                    refine va_get (D := D) (ci := 11) (v := .ref (md 22)) (C := RX11) (T := TX11) (N := 64) hx hb hts inX11_ownerOf_X11 hown hK hP 0 rfl rfl 22 (by decide) (hts (Cond.fieldLink RX11 63 "PortRoomsModel" "paperSaid" "[I") (wm_t (wm_l (wm_i 6 rfl)))) (fun _ h9 => h9) rfl dX11_ownerOf_107 ?_
                    refine lv_iload hx hb dX11_ownerOf_110 (lv_at hl 9 rfl) ?_
                    refine va_iald hx hb hK hP 5 0 rfl rfl (i_in (by omega) (by omega)) dX11_ownerOf_112 ?_
                    refine lv_topi (fun v64 ev64 => ?_)
                    have tlv64 : v64.toInt = (pd q39_10.toNatClampNeg).toInt := by rw [ev64]
                    refine lv_aload_n hx hb dX11_ownerOf_113 rfl (lv_at hl 0 rfl) ?_
                    refine va_get (D := D) (ci := 11) (v := .ref (md 22)) (C := RX11) (T := TX11) (N := 64) hx hb hts inX11_ownerOf_X11 hown hK hP 0 rfl rfl 22 (by decide) (hts (Cond.fieldLink RX11 63 "PortRoomsModel" "paperSaid" "[I") (wm_t (wm_l (wm_i 6 rfl)))) (fun _ h9 => h9) rfl dX11_ownerOf_114 ?_
                    refine lv_iload hx hb dX11_ownerOf_117 (lv_at hl 8 rfl) ?_
                    refine va_iald hx hb hK hP 5 0 rfl rfl (i_in (by omega) (by omega)) dX11_ownerOf_119 ?_
                    refine lv_topi (fun v65 ev65 => ?_)
                    have tlv65 : v65.toInt = (pd q39_9.toNatClampNeg).toInt := by rw [ev65]
                    refine lv_icmp_ne (tgt := 144) hx hb dX11_ownerOf_120 (by decide) (fun c66 => ?_) (fun c66 => ?_)
                    · skip
                      have f67 := i_ne c66
                      refine lv_iconst (v := 0) hx hb dX11_ownerOf_144 (by decide) ?_
                      refine lv_istore (lv' := [(11, .int 0), (0, .ref (md 64)), (1, .int k), (2, .int d), (3, .int n), (4, .int q27_4), (5, .int q27_5), (6, .long q27_6), (8, .int q27_8), (9, .int q39_9), (10, .int q39_10)]) hx hb dX11_ownerOf_145 hl (by decide) rfl (fun ls hl => ?_)
                      refine lv_iload hx hb dX11_ownerOf_147 (lv_at hl 0 rfl) ?_
                      refine lv_if_eq (tgt := 157) hx hb dX11_ownerOf_149 (by decide) (fun _ => ?_) (fun c => absurd (by decide) c)
                      refine lv_iload hx hb dX11_ownerOf_157 (lv_at hl 9 rfl) ?_
                      refine lv_istore (lv' := [(9, .int q39_9), (11, .int 0), (0, .ref (md 64)), (1, .int k), (2, .int d), (3, .int n), (4, .int q27_4), (5, .int q27_5), (6, .long q27_6), (8, .int q27_8), (10, .int q39_10)]) hx hb dX11_ownerOf_159 hl (by decide) rfl (fun ls hl => ?_)
                      obtain ⟨v68, ev68⟩ : ∃ y : Int32, y = q39_10 + 1 := ⟨_, rfl⟩
                      try have tv68 : v68.toInt = q39_10.toInt + 1 := by rw [ev68]; exact (i_add (x := q39_10) (y := (1 : Int32)) (by rw [k1]; omega) (by rw [k1]; omega)).trans (by rw [k1])
                      refine lv_iinc (v := v68) (lv' := [(10, .int v68), (9, .int q39_9), (11, .int 0), (0, .ref (md 64)), (1, .int k), (2, .int d), (3, .int n), (4, .int q27_4), (5, .int q27_5), (6, .long q27_6), (8, .int q27_8)]) hx hb dX11_ownerOf_161 hl (k := 10) rfl (by rw [ev68]; rfl) (by decide) rfl (fun ls hl => ?_)
                      refine lv_goto (tgt := 39) hx hb dX11_ownerOf_164 (by decide) ?_
                      have clk8 := i_cl (x := q39_10) (by omega)
                      have clk9 := i_cl (x := v68) (by omega)
                      have ek9 : v68.toNatClampNeg = q39_10.toNatClampNeg + 1 := by omega
                      have nk9 : nI q39_10.toNatClampNeg = q39_10 := i_nI (by omega)
                      exact ih16 (q39_9, v68) ls H locs ⟨(by omega), (by omega), (by omega), (by first | exact g14 | exact fun _ => (by assumption)), (by rw [ek9, nxV_s, nk9, ← g15]; split <;> first | rfl | (exfalso; omega) | (rename_i z9; exact absurd z9.2.2.1 hb9) | (rename_i z9; exact absurd ⟨by omega, by omega, hb9, by omega⟩ z9)), lv_sub hl [3, 4, 5, 6, 7, 8, 9, 10, 1, 0] rfl, hP.sub [0, 1, 2, 3, 4, 5, 6] rfl, hD.sub [0, 1, 2, 3, 4, 5, 6] (by decide +kernel) rfl, hS⟩ (by show pn.toInt - v68.toInt < _; omega)
                    · skip
                      have f69 := i_eq c66
                      refine lv_aload_n hx hb dX11_ownerOf_123 rfl (lv_at hl 0 rfl) ?_
                      refine va_get (D := D) (ci := 11) (v := .ref (md 23)) (C := RX11) (T := TX11) (N := 64) hx hb hts inX11_ownerOf_X11 hown hK hP 0 rfl rfl 23 (by decide) (hts (Cond.fieldLink RX11 66 "PortRoomsModel" "paperFiled" "[I") (wm_t (wm_l (wm_i 5 rfl)))) (fun _ h9 => h9) rfl dX11_ownerOf_124 ?_
                      refine lv_iload hx hb dX11_ownerOf_127 (lv_at hl 9 rfl) ?_
                      refine va_iald hx hb hK hP 6 0 rfl rfl (i_in (by omega) (by omega)) dX11_ownerOf_129 ?_
                      refine lv_topi (fun v70 ev70 => ?_)
                      have tlv70 : v70.toInt = (pe q39_10.toNatClampNeg).toInt := by rw [ev70]
                      refine lv_aload_n hx hb dX11_ownerOf_130 rfl (lv_at hl 0 rfl) ?_
                      refine va_get (D := D) (ci := 11) (v := .ref (md 23)) (C := RX11) (T := TX11) (N := 64) hx hb hts inX11_ownerOf_X11 hown hK hP 0 rfl rfl 23 (by decide) (hts (Cond.fieldLink RX11 66 "PortRoomsModel" "paperFiled" "[I") (wm_t (wm_l (wm_i 5 rfl)))) (fun _ h9 => h9) rfl dX11_ownerOf_131 ?_
                      refine lv_iload hx hb dX11_ownerOf_134 (lv_at hl 8 rfl) ?_
                      refine va_iald hx hb hK hP 6 0 rfl rfl (i_in (by omega) (by omega)) dX11_ownerOf_136 ?_
                      refine lv_topi (fun v71 ev71 => ?_)
                      have tlv71 : v71.toInt = (pe q39_9.toNatClampNeg).toInt := by rw [ev71]
                      refine lv_icmp_ge (tgt := 144) hx hb dX11_ownerOf_137 (by decide) (fun c72 => ?_) (fun c72 => ?_)
                      · skip
                        have f73 := i_le c72
                        refine lv_iconst (v := 0) hx hb dX11_ownerOf_144 (by decide) ?_
                        refine lv_istore (lv' := [(11, .int 0), (0, .ref (md 64)), (1, .int k), (2, .int d), (3, .int n), (4, .int q27_4), (5, .int q27_5), (6, .long q27_6), (8, .int q27_8), (9, .int q39_9), (10, .int q39_10)]) hx hb dX11_ownerOf_145 hl (by decide) rfl (fun ls hl => ?_)
                        refine lv_iload hx hb dX11_ownerOf_147 (lv_at hl 0 rfl) ?_
                        refine lv_if_eq (tgt := 157) hx hb dX11_ownerOf_149 (by decide) (fun _ => ?_) (fun c => absurd (by decide) c)
                        refine lv_iload hx hb dX11_ownerOf_157 (lv_at hl 9 rfl) ?_
                        refine lv_istore (lv' := [(9, .int q39_9), (11, .int 0), (0, .ref (md 64)), (1, .int k), (2, .int d), (3, .int n), (4, .int q27_4), (5, .int q27_5), (6, .long q27_6), (8, .int q27_8), (10, .int q39_10)]) hx hb dX11_ownerOf_159 hl (by decide) rfl (fun ls hl => ?_)
                        obtain ⟨v74, ev74⟩ : ∃ y : Int32, y = q39_10 + 1 := ⟨_, rfl⟩
                        try have tv74 : v74.toInt = q39_10.toInt + 1 := by rw [ev74]; exact (i_add (x := q39_10) (y := (1 : Int32)) (by rw [k1]; omega) (by rw [k1]; omega)).trans (by rw [k1])
                        refine lv_iinc (v := v74) (lv' := [(10, .int v74), (9, .int q39_9), (11, .int 0), (0, .ref (md 64)), (1, .int k), (2, .int d), (3, .int n), (4, .int q27_4), (5, .int q27_5), (6, .long q27_6), (8, .int q27_8)]) hx hb dX11_ownerOf_161 hl (k := 10) rfl (by rw [ev74]; rfl) (by decide) rfl (fun ls hl => ?_)
                        refine lv_goto (tgt := 39) hx hb dX11_ownerOf_164 (by decide) ?_
                        have clk8 := i_cl (x := q39_10) (by omega)
                        have clk9 := i_cl (x := v74) (by omega)
                        have ek9 : v74.toNatClampNeg = q39_10.toNatClampNeg + 1 := by omega
                        have nk9 : nI q39_10.toNatClampNeg = q39_10 := i_nI (by omega)
                        exact ih16 (q39_9, v74) ls H locs ⟨(by omega), (by omega), (by omega), (by first | exact g14 | exact fun _ => (by assumption)), (by rw [ek9, nxV_s, nk9, ← g15]; split <;> first | rfl | (exfalso; omega) | (rename_i z9; exact absurd z9.2.2.1 hb9) | (rename_i z9; exact absurd ⟨by omega, by omega, hb9, by omega⟩ z9)), lv_sub hl [3, 4, 5, 6, 7, 8, 9, 10, 1, 0] rfl, hP.sub [0, 1, 2, 3, 4, 5, 6] rfl, hD.sub [0, 1, 2, 3, 4, 5, 6] (by decide +kernel) rfl, hS⟩ (by show pn.toInt - v74.toInt < _; omega)
                      · skip
                        have f75 := i_nle c72
                        refine lv_iconst (v := 1) hx hb dX11_ownerOf_140 (by decide) ?_
                        refine lv_goto (tgt := 145) hx hb dX11_ownerOf_141 (by decide) ?_
                        refine lv_istore (lv' := [(11, .int 1), (0, .ref (md 64)), (1, .int k), (2, .int d), (3, .int n), (4, .int q27_4), (5, .int q27_5), (6, .long q27_6), (8, .int q27_8), (9, .int q39_9), (10, .int q39_10)]) hx hb dX11_ownerOf_145 hl (by decide) rfl (fun ls hl => ?_)
                        refine lv_iload hx hb dX11_ownerOf_147 (lv_at hl 0 rfl) ?_
                        refine lv_if_eq (tgt := 157) hx hb dX11_ownerOf_149 (by decide) (fun c => absurd c (by decide)) (fun _ => ?_)
                        refine lv_iload hx hb dX11_ownerOf_152 (lv_at hl 10 rfl) ?_
                        refine lv_goto (tgt := 159) hx hb dX11_ownerOf_154 (by decide) ?_
                        refine lv_istore (lv' := [(9, .int q39_10), (11, .int 1), (0, .ref (md 64)), (1, .int k), (2, .int d), (3, .int n), (4, .int q27_4), (5, .int q27_5), (6, .long q27_6), (8, .int q27_8), (10, .int q39_10)]) hx hb dX11_ownerOf_159 hl (by decide) rfl (fun ls hl => ?_)
                        obtain ⟨v76, ev76⟩ : ∃ y : Int32, y = q39_10 + 1 := ⟨_, rfl⟩
                        try have tv76 : v76.toInt = q39_10.toInt + 1 := by rw [ev76]; exact (i_add (x := q39_10) (y := (1 : Int32)) (by rw [k1]; omega) (by rw [k1]; omega)).trans (by rw [k1])
                        refine lv_iinc (v := v76) (lv' := [(10, .int v76), (9, .int q39_10), (11, .int 1), (0, .ref (md 64)), (1, .int k), (2, .int d), (3, .int n), (4, .int q27_4), (5, .int q27_5), (6, .long q27_6), (8, .int q27_8)]) hx hb dX11_ownerOf_161 hl (k := 10) rfl (by rw [ev76]; rfl) (by decide) rfl (fun ls hl => ?_)
                        refine lv_goto (tgt := 39) hx hb dX11_ownerOf_164 (by decide) ?_
                        have clk8 := i_cl (x := q39_10) (by omega)
                        have clk9 := i_cl (x := v76) (by omega)
                        have ek9 : v76.toNatClampNeg = q39_10.toNatClampNeg + 1 := by omega
                        have nk9 : nI q39_10.toNatClampNeg = q39_10 := i_nI (by omega)
                        exact ih16 (q39_10, v76) ls H locs ⟨(by omega), (by omega), (by omega), (by first | exact g14 | exact fun _ => (by assumption)), (by rw [ek9, nxV_s, nk9, ← g15]; split <;> first | rfl | (exfalso; omega) | (rename_i z9; exact absurd z9.2.2.1 hb9) | (rename_i z9; exact absurd ⟨by omega, by omega, hb9, by omega⟩ z9)), lv_sub hl [3, 4, 5, 6, 7, 8, 9, 10, 1, 0] rfl, hP.sub [0, 1, 2, 3, 4, 5, 6] rfl, hD.sub [0, 1, 2, 3, 4, 5, 6] (by decide +kernel) rfl, hS⟩ (by show pn.toInt - v76.toInt < _; omega)

set_option maxHeartbeats 4000000 in
set_option maxRecDepth 100000 in
theorem ct_X11_owner (l : Launch) (D : va_G) (cI cY cJ cQ : ClassId) (sz : Nat) (md : Nat → Nat) (sd : Int32) (mth mst hn cn pn mq gn mln mnn ln mlt msz mcu mtk mfr mti mfa mfb an un lc td mtn : Int32) (fo pk pf po pd pe : Nat → Int32) (k : Int32) (d : Int32) (n : Int32)  (h1 : 0 ≤ cn.toInt) (h2 : cn.toInt ≤ 12) (h3 : 0 ≤ pn.toInt) (h4 : pn.toInt ≤ 40)  : Met l yX11_owner wsX11_owner ({ frames := 2, cells := 0, slots := 0, locals := 46 }) (cPre D (ty4 cI cY cJ cQ) [(moC md sd mth mst hn cn pn mq gn mln mnn ln mlt msz mcu mtk mfr mti mfa mfb an un lc td mtn), (aI cI (md 16) 12 fo), (aI cI (md 19) 40 pk), (aI cI (md 20) 40 pf), (aI cI (md 21) 40 po), (aI cI (md 22) 40 pd), (aI cI (md 23) 40 pe)] sz [.ref (md 64), .int k, .int d, .int n]) (va_Qi (fun (r : Int32) (u : Int32) => r = sm_owner cn pn fo pk pf po pd pe k d n) (cB D (ty4 cI cY cJ cQ) (fun (u : Int32) => [(moC md sd 0 mst hn cn pn u gn mln mnn ln mlt msz mcu mtk mfr mti mfa mfb an un lc td mtn), (aI cI (md 16) 12 fo), (aI cI (md 19) 40 pk), (aI cI (md 20) 40 pf), (aI cI (md 21) 40 po), (aI cI (md 22) 40 pd), (aI cI (md 23) 40 pe)]) (va_A [(moC md sd mth mst hn cn pn mq gn mln mnn ln mlt msz mcu mtk mfr mti mfa mfb an un lc td mtn), (aI cI (md 16) 12 fo), (aI cI (md 19) 40 pk), (aI cI (md 20) 40 pf), (aI cI (md 21) 40 po), (aI cI (md 22) 40 pd), (aI cI (md 23) 40 pe)] sz)) (va_A [(moC md sd mth mst hn cn pn mq gn mln mnn ln mlt msz mcu mtk mfr mti mfa mfb an un lc td mtn), (aI cI (md 16) 12 fo), (aI cI (md 19) 40 pk), (aI cI (md 20) 40 pf), (aI cI (md 21) 40 po), (aI cI (md 22) 40 pd), (aI cI (md 23) 40 pe)] sz)) 0 0 (va_A [(moC md sd mth mst hn cn pn mq gn mln mnn ln mlt msz mcu mtk mfr mti mfa mfb an un lc td mtn), (aI cI (md 16) 12 fo), (aI cI (md 19) 40 pk), (aI cI (md 20) 40 pf), (aI cI (md 21) 40 po), (aI cI (md 22) 40 pd), (aI cI (md 23) 40 pe)] sz) := by
  refine Met.ofW (cc := cX11_owner) (maxL := 4) (ret := (some .int)) (by decide) rfl ?_
  intro p e s m args below meth c s₁ B hml hv
  obtain ⟨rfl, hsz, hP, hK, hD0, hN⟩ := hv
  have hx := B.exec
  have hb := B.bytes
  have hr := B.returns
  have hts := atoms_spec (ws := wsX11_owner) B.pre
  have hown : s.vm.findClass RX11 = some m.cls := findClass_of_methodNamed B.named
  have hlocks := B.notSynchronized
  subst hsz
  have hD := hD0.self (sz := s.heap.size)
  generalize hAe : va_A [(moC md sd mth mst hn cn pn mq gn mln mnn ln mlt msz mcu mtk mfr mti mfa mfb an un lc td mtn), (aI cI (md 16) 12 fo), (aI cI (md 19) 40 pk), (aI cI (md 20) 40 pf), (aI cI (md 21) 40 po), (aI cI (md 22) 40 pd), (aI cI (md 23) 40 pe)] s.heap.size = A at hD ⊢
  have hA : ∀ q : Nat, s.heap.size ≤ q → A q := fun q h => by rw [← hAe]; exact Or.inr h
  have hS : va_S A s.heap s.heap [] := va_S.rf
  have hP : va_P D vwCl [(moC md sd mth mst hn cn pn mq gn mln mnn ln mlt msz mcu mtk mfr mti mfa mfb an un lc td mtn), (aI cI (md 16) 12 fo), (aI cI (md 19) 40 pk), (aI cI (md 20) 40 pf), (aI cI (md 21) 40 po), (aI cI (md 22) 40 pd), (aI cI (md 23) 40 pe)] s.heap := hP
  have hl := lv_entry ([.ref (md 64), .int k, .int d, .int n]) (n := 4) (Nat.le_of_ble_eq_true rfl)
  rw [lg_entry_eq]
  generalize (lg_sl ([.ref (md 64), .int k, .int d, .int n]) ++ List.replicate (4 - (lg_sl ([.ref (md 64), .int k, .int d, .int n])).length) Slot.unset).toArray = ls at hl ⊢
  have hl : lv_has ls 4 [(0, .ref (md 64)), (1, .int k), (2, .int d), (3, .int n)] := hl
  have k0 : (0 : Int32).toInt = 0 := by decide
  refine lv_aload_n hx hb dX11_owner_0 rfl (lv_at hl 0 rfl) ?_
  refine lv_iconst (v := 0) hx hb dX11_owner_1 (by decide) ?_
  refine va_put (D := D) (ci := 11) (v := .int 0) (ty := .int) (C := RX11) (T := TX11) (N := 64) hx hb hts inX11_owner_X11 tyX11 tyX11_ok nmX11 hown hK hP hD hS 0 rfl rfl 0 (by decide) (hts (Cond.fieldLink RX11 1 "PortRoomsModel" "thrown" "I") (wm_t (wm_l (wm_i 0 rfl)))) (fun _ h9 => h9) rfl (tyX11_ok 0 (by decide)) rfl rfl (Nat.le_of_ble_eq_true rfl) dX11_owner_2 (fun H locs => ?_)
  clear hP hD hS
  intro hP hD hS
  replace hP : va_P D vwCl [(moC md sd (0) mst hn cn pn mq gn mln mnn ln mlt msz mcu mtk mfr mti mfa mfb an un lc td mtn), (aI cI (md 16) 12 fo), (aI cI (md 19) 40 pk), (aI cI (md 20) 40 pf), (aI cI (md 21) 40 po), (aI cI (md 22) 40 pd), (aI cI (md 23) 40 pe)] H := hP
  replace hD : va_D A [(moC md sd (0) mst hn cn pn mq gn mln mnn ln mlt msz mcu mtk mfr mti mfa mfb an un lc td mtn), (aI cI (md 16) 12 fo), (aI cI (md 19) 40 pk), (aI cI (md 20) 40 pf), (aI cI (md 21) 40 po), (aI cI (md 22) 40 pd), (aI cI (md 23) 40 pe)] := hD
  refine lv_aload_n hx hb dX11_owner_5 rfl (lv_at hl 0 rfl) ?_
  refine lv_iload_n hx hb dX11_owner_6 rfl (lv_at hl 1 rfl) ?_
  refine st_i1 (va_runV (C := RX11) (As := [.int k]) (rest := []) ⟨hx, hb, hml, hown, hts⟩ (ct_X11_isCrate l D cI cY cJ cQ _ md sd 0 mst hn cn pn mq gn mln mnn ln mlt msz mcu mtk mfr mti mfa mfb an un lc td mtn k h1 h2) (cwV 1 hts gX11_owner_X11_isCrate rfl rfl rfl ⟨rfl, cdX11_isCrate⟩ ⟨Nat.le_of_ble_eq_true rfl, Nat.le_of_ble_eq_true rfl⟩) (cPreV (hP.sub [0] rfl) hK (hD.sub [0] (by decide +kernel) rfl) hN (ci := 11) (q0 := 0) rfl rfl) rfl rfl hl.1 rfl (lv_room (Nat.le_of_ble_eq_true rfl)) dX11_owner_7 ⟨Nat.le_of_ble_eq_true rfl, Nat.le_of_ble_eq_true rfl⟩) hP hD hS hA [0] rfl (fun _ => rfl) (fun r3 u1 H locs hw2 => ?_)
  clear hP hS
  intro hP hS
  replace hw2 : r3 = if 0 ≤ k.toInt ∧ k.toInt < cn.toInt then 1 else 0 := hw2
  refine lv_if_eq (tgt := 27) hx hb dX11_owner_10 (by decide) (fun c4 => ?_) (fun c4 => ?_)
  · skip
    have f5 := bo_f hw2 c4
    refine lv_ldc hx hb hown (hts (Cond.constant RX11 157 (-1000001)) (wm_t (wm_l (wm_i 1 rfl)))) dX11_owner_27 ?_
    refine lv_goto (tgt := 39) hx hb dX11_owner_29 (by decide) ?_
    have hP9 := hP
    have hD9 := hD
    exact W.iret (v := (-1000001)) hx hb hr (fun t ht hW => ⟨⟨(-1000001), mq, rfl, (by unfold sm_owner; rw [if_neg (by omega)]), by rw [ht]; exact hP9, va_K.moved hW.alike hK, hD9⟩, hS.F ht⟩) hS.2.2 dX11_owner_39
  · skip
    have f6 := bo_t hw2 c4
    refine lv_iload_n hx hb dX11_owner_13 rfl (lv_at hl 2 rfl) ?_
    refine st_i1 (va_runS (As := [.int d]) (rest := []) ⟨hx, hb, hml, hown, hts⟩ (ct_X11_isDay l D cI cY cJ cQ _ d) (va_cwS 1 hts gX11_owner_X11_isDay rfl rfl rfl cdX11_isDay ⟨Nat.le_of_ble_eq_true rfl, Nat.le_of_ble_eq_true rfl⟩) (cPreS (hP.sub [] rfl) hK (hD.sub [] (by decide +kernel) rfl) hN) rfl rfl hl.1 rfl (lv_room (Nat.le_of_ble_eq_true rfl)) dX11_owner_14 ⟨Nat.le_of_ble_eq_true rfl, Nat.le_of_ble_eq_true rfl⟩) hP hD hS hA [] rfl (fun _ => rfl) (fun r9 u7 H locs hw8 => ?_)
    clear hP hS
    intro hP hS
    replace hw8 : r9 = if 0 ≤ d.toInt ∧ d.toInt ≤ 9999 then 1 else 0 := hw8
    refine lv_if_eq (tgt := 27) hx hb dX11_owner_17 (by decide) (fun c10 => ?_) (fun c10 => ?_)
    · skip
      have f11 := bo_f hw8 c10
      refine lv_ldc hx hb hown (hts (Cond.constant RX11 157 (-1000001)) (wm_t (wm_l (wm_i 1 rfl)))) dX11_owner_27 ?_
      refine lv_goto (tgt := 39) hx hb dX11_owner_29 (by decide) ?_
      have hP9 := hP
      have hD9 := hD
      exact W.iret (v := (-1000001)) hx hb hr (fun t ht hW => ⟨⟨(-1000001), mq, rfl, (by unfold sm_owner; rw [if_neg (by omega)]), by rw [ht]; exact hP9, va_K.moved hW.alike hK, hD9⟩, hS.F ht⟩) hS.2.2 dX11_owner_39
    · skip
      have f12 := bo_t hw8 c10
      refine lv_iload_n hx hb dX11_owner_20 rfl (lv_at hl 3 rfl) ?_
      refine st_i1 (va_runS (As := [.int n]) (rest := []) ⟨hx, hb, hml, hown, hts⟩ (ct_X11_isDay l D cI cY cJ cQ _ n) (va_cwS 1 hts gX11_owner_X11_isDay rfl rfl rfl cdX11_isDay ⟨Nat.le_of_ble_eq_true rfl, Nat.le_of_ble_eq_true rfl⟩) (cPreS (hP.sub [] rfl) hK (hD.sub [] (by decide +kernel) rfl) hN) rfl rfl hl.1 rfl (lv_room (Nat.le_of_ble_eq_true rfl)) dX11_owner_21 ⟨Nat.le_of_ble_eq_true rfl, Nat.le_of_ble_eq_true rfl⟩) hP hD hS hA [] rfl (fun _ => rfl) (fun r15 u13 H locs hw14 => ?_)
      clear hP hS
      intro hP hS
      replace hw14 : r15 = if 0 ≤ n.toInt ∧ n.toInt ≤ 9999 then 1 else 0 := hw14
      refine lv_if_ne (tgt := 32) hx hb dX11_owner_24 (by decide) (fun c16 => ?_) (fun c16 => ?_)
      · skip
        have f17 := bo_t hw14 c16
        refine lv_aload_n hx hb dX11_owner_32 rfl (lv_at hl 0 rfl) ?_
        refine lv_iload_n hx hb dX11_owner_33 rfl (lv_at hl 1 rfl) ?_
        refine lv_iload_n hx hb dX11_owner_34 rfl (lv_at hl 2 rfl) ?_
        refine lv_iload_n hx hb dX11_owner_35 rfl (lv_at hl 3 rfl) ?_
        refine st_i (wr := []) (va_runV (C := RX11) (As := [.int k, .int d, .int n]) (rest := []) ⟨hx, hb, hml, hown, hts⟩ (ct_X11_ownerOf l D cI cY cJ cQ _ md sd 0 mst hn cn pn mq gn mln mnn ln mlt msz mcu mtk mfr mti mfa mfb an un lc td mtn fo pk pf po pd pe k d n (by omega) (by omega) h3 h4) (cwV 3 hts gX11_owner_X11_ownerOf rfl rfl rfl ⟨rfl, cdX11_ownerOf⟩ ⟨Nat.le_of_ble_eq_true rfl, Nat.le_of_ble_eq_true rfl⟩) (cPreV (hP.sub [0, 1, 2, 3, 4, 5, 6] rfl) hK (hD.sub [0, 1, 2, 3, 4, 5, 6] (by decide +kernel) rfl) hN (ci := 11) (q0 := 0) rfl rfl) rfl rfl hl.1 rfl (lv_room (Nat.le_of_ble_eq_true rfl)) dX11_owner_36 ⟨Nat.le_of_ble_eq_true rfl, Nat.le_of_ble_eq_true rfl⟩) hP hD hS hA [0, 1, 2, 3, 4, 5, 6] [] rfl rfl (by decide +kernel) (by decide +kernel) (fun r20 u18 H locs hw19 => ?_)
        clear hP hD hS
        intro hP hD hS
        replace hw19 : (r20, u18) = ooV pk pf po pd pe pn.toNatClampNeg k d n 41 0 (fo k.toNatClampNeg) (fo k.toNatClampNeg) 0 := hw19
        replace hP : va_P D vwCl [(moC md sd (0) mst hn cn pn u18 gn mln mnn ln mlt msz mcu mtk mfr mti mfa mfb an un lc td mtn), (aI cI (md 16) 12 fo), (aI cI (md 19) 40 pk), (aI cI (md 20) 40 pf), (aI cI (md 21) 40 po), (aI cI (md 22) 40 pd), (aI cI (md 23) 40 pe)] H := hP
        replace hD : va_D A [(moC md sd (0) mst hn cn pn u18 gn mln mnn ln mlt msz mcu mtk mfr mti mfa mfb an un lc td mtn), (aI cI (md 16) 12 fo), (aI cI (md 19) 40 pk), (aI cI (md 20) 40 pf), (aI cI (md 21) 40 po), (aI cI (md 22) 40 pd), (aI cI (md 23) 40 pe)] := hD
        have hP9 := hP
        have hD9 := hD
        exact W.iret (v := r20) hx hb hr (fun t ht hW => ⟨⟨r20, u18, rfl, (by unfold sm_owner; rw [if_pos (by omega), ← hw19]), by rw [ht]; exact hP9, va_K.moved hW.alike hK, hD9⟩, hS.F ht⟩) hS.2.2 dX11_owner_39
      · skip
        have f21 := bo_f hw14 c16
        refine lv_ldc hx hb hown (hts (Cond.constant RX11 157 (-1000001)) (wm_t (wm_l (wm_i 1 rfl)))) dX11_owner_27 ?_
        refine lv_goto (tgt := 39) hx hb dX11_owner_29 (by decide) ?_
        have hP9 := hP
        have hD9 := hD
        exact W.iret (v := (-1000001)) hx hb hr (fun t ht hW => ⟨⟨(-1000001), mq, rfl, (by unfold sm_owner; rw [if_neg (by omega)]), by rw [ht]; exact hP9, va_K.moved hW.alike hK, hD9⟩, hS.F ht⟩) hS.2.2 dX11_owner_39

set_option maxHeartbeats 4000000 in
set_option maxRecDepth 100000 in
theorem ct_X11_quarrels (l : Launch) (D : va_G) (cI cY cJ cQ : ClassId) (sz : Nat) (md : Nat → Nat) (sd : Int32) (mth mst hn cn pn mq gn mln mnn ln mlt msz mcu mtk mfr mti mfa mfb an un lc td mtn : Int32) (fo pk pf po pd pe : Nat → Int32) (k : Int32) (n : Int32)  (h1 : 0 ≤ cn.toInt) (h2 : cn.toInt ≤ 12) (h3 : 0 ≤ pn.toInt) (h4 : pn.toInt ≤ 40)  : Met l yX11_quarrels wsX11_quarrels ({ frames := 2, cells := 0, slots := 0, locals := 46 }) (cPre D (ty4 cI cY cJ cQ) [(moC md sd mth mst hn cn pn mq gn mln mnn ln mlt msz mcu mtk mfr mti mfa mfb an un lc td mtn), (aI cI (md 16) 12 fo), (aI cI (md 19) 40 pk), (aI cI (md 20) 40 pf), (aI cI (md 21) 40 po), (aI cI (md 22) 40 pd), (aI cI (md 23) 40 pe)] sz [.ref (md 64), .int k, .int n]) (va_Qi (fun (r : Int32) (u : Int32) => r = sm_quarrels cn pn fo pk pf po pd pe k n) (cB D (ty4 cI cY cJ cQ) (fun (u : Int32) => [(moC md sd 0 mst hn cn pn u gn mln mnn ln mlt msz mcu mtk mfr mti mfa mfb an un lc td mtn), (aI cI (md 16) 12 fo), (aI cI (md 19) 40 pk), (aI cI (md 20) 40 pf), (aI cI (md 21) 40 po), (aI cI (md 22) 40 pd), (aI cI (md 23) 40 pe)]) (va_A [(moC md sd mth mst hn cn pn mq gn mln mnn ln mlt msz mcu mtk mfr mti mfa mfb an un lc td mtn), (aI cI (md 16) 12 fo), (aI cI (md 19) 40 pk), (aI cI (md 20) 40 pf), (aI cI (md 21) 40 po), (aI cI (md 22) 40 pd), (aI cI (md 23) 40 pe)] sz)) (va_A [(moC md sd mth mst hn cn pn mq gn mln mnn ln mlt msz mcu mtk mfr mti mfa mfb an un lc td mtn), (aI cI (md 16) 12 fo), (aI cI (md 19) 40 pk), (aI cI (md 20) 40 pf), (aI cI (md 21) 40 po), (aI cI (md 22) 40 pd), (aI cI (md 23) 40 pe)] sz)) 0 0 (va_A [(moC md sd mth mst hn cn pn mq gn mln mnn ln mlt msz mcu mtk mfr mti mfa mfb an un lc td mtn), (aI cI (md 16) 12 fo), (aI cI (md 19) 40 pk), (aI cI (md 20) 40 pf), (aI cI (md 21) 40 po), (aI cI (md 22) 40 pd), (aI cI (md 23) 40 pe)] sz) := by
  refine Met.ofW (cc := cX11_quarrels) (maxL := 4) (ret := (some .int)) (by decide) rfl ?_
  intro p e s m args below meth c s₁ B hml hv
  obtain ⟨rfl, hsz, hP, hK, hD0, hN⟩ := hv
  have hx := B.exec
  have hb := B.bytes
  have hr := B.returns
  have hts := atoms_spec (ws := wsX11_quarrels) B.pre
  have hown : s.vm.findClass RX11 = some m.cls := findClass_of_methodNamed B.named
  have hlocks := B.notSynchronized
  subst hsz
  have hD := hD0.self (sz := s.heap.size)
  generalize hAe : va_A [(moC md sd mth mst hn cn pn mq gn mln mnn ln mlt msz mcu mtk mfr mti mfa mfb an un lc td mtn), (aI cI (md 16) 12 fo), (aI cI (md 19) 40 pk), (aI cI (md 20) 40 pf), (aI cI (md 21) 40 po), (aI cI (md 22) 40 pd), (aI cI (md 23) 40 pe)] s.heap.size = A at hD ⊢
  have hA : ∀ q : Nat, s.heap.size ≤ q → A q := fun q h => by rw [← hAe]; exact Or.inr h
  have hS : va_S A s.heap s.heap [] := va_S.rf
  have hP : va_P D vwCl [(moC md sd mth mst hn cn pn mq gn mln mnn ln mlt msz mcu mtk mfr mti mfa mfb an un lc td mtn), (aI cI (md 16) 12 fo), (aI cI (md 19) 40 pk), (aI cI (md 20) 40 pf), (aI cI (md 21) 40 po), (aI cI (md 22) 40 pd), (aI cI (md 23) 40 pe)] s.heap := hP
  have hl := lv_entry ([.ref (md 64), .int k, .int n]) (n := 4) (Nat.le_of_ble_eq_true rfl)
  rw [lg_entry_eq]
  generalize (lg_sl ([.ref (md 64), .int k, .int n]) ++ List.replicate (4 - (lg_sl ([.ref (md 64), .int k, .int n])).length) Slot.unset).toArray = ls at hl ⊢
  have hl : lv_has ls 4 [(0, .ref (md 64)), (1, .int k), (2, .int n)] := hl
  have k0 : (0 : Int32).toInt = 0 := by decide
  refine lv_aload_n hx hb dX11_quarrels_0 rfl (lv_at hl 0 rfl) ?_
  refine lv_iconst (v := 0) hx hb dX11_quarrels_1 (by decide) ?_
  refine va_put (D := D) (ci := 11) (v := .int 0) (ty := .int) (C := RX11) (T := TX11) (N := 64) hx hb hts inX11_quarrels_X11 tyX11 tyX11_ok nmX11 hown hK hP hD hS 0 rfl rfl 0 (by decide) (hts (Cond.fieldLink RX11 1 "PortRoomsModel" "thrown" "I") (wm_t (wm_l (wm_i 0 rfl)))) (fun _ h9 => h9) rfl (tyX11_ok 0 (by decide)) rfl rfl (Nat.le_of_ble_eq_true rfl) dX11_quarrels_2 (fun H locs => ?_)
  clear hP hD hS
  intro hP hD hS
  replace hP : va_P D vwCl [(moC md sd (0) mst hn cn pn mq gn mln mnn ln mlt msz mcu mtk mfr mti mfa mfb an un lc td mtn), (aI cI (md 16) 12 fo), (aI cI (md 19) 40 pk), (aI cI (md 20) 40 pf), (aI cI (md 21) 40 po), (aI cI (md 22) 40 pd), (aI cI (md 23) 40 pe)] H := hP
  replace hD : va_D A [(moC md sd (0) mst hn cn pn mq gn mln mnn ln mlt msz mcu mtk mfr mti mfa mfb an un lc td mtn), (aI cI (md 16) 12 fo), (aI cI (md 19) 40 pk), (aI cI (md 20) 40 pf), (aI cI (md 21) 40 po), (aI cI (md 22) 40 pd), (aI cI (md 23) 40 pe)] := hD
  refine lv_aload_n hx hb dX11_quarrels_5 rfl (lv_at hl 0 rfl) ?_
  refine lv_iload_n hx hb dX11_quarrels_6 rfl (lv_at hl 1 rfl) ?_
  refine st_i1 (va_runV (C := RX11) (As := [.int k]) (rest := []) ⟨hx, hb, hml, hown, hts⟩ (ct_X11_isCrate l D cI cY cJ cQ _ md sd 0 mst hn cn pn mq gn mln mnn ln mlt msz mcu mtk mfr mti mfa mfb an un lc td mtn k h1 h2) (cwV 1 hts gX11_quarrels_X11_isCrate rfl rfl rfl ⟨rfl, cdX11_isCrate⟩ ⟨Nat.le_of_ble_eq_true rfl, Nat.le_of_ble_eq_true rfl⟩) (cPreV (hP.sub [0] rfl) hK (hD.sub [0] (by decide +kernel) rfl) hN (ci := 11) (q0 := 0) rfl rfl) rfl rfl hl.1 rfl (lv_room (Nat.le_of_ble_eq_true rfl)) dX11_quarrels_7 ⟨Nat.le_of_ble_eq_true rfl, Nat.le_of_ble_eq_true rfl⟩) hP hD hS hA [0] rfl (fun _ => rfl) (fun r3 u1 H locs hw2 => ?_)
  clear hP hS
  intro hP hS
  replace hw2 : r3 = if 0 ≤ k.toInt ∧ k.toInt < cn.toInt then 1 else 0 := hw2
  refine lv_if_eq (tgt := 20) hx hb dX11_quarrels_10 (by decide) (fun c4 => ?_) (fun c4 => ?_)
  · skip
    have f5 := bo_f hw2 c4
    refine lv_ldc hx hb hown (hts (Cond.constant RX11 157 (-1000001)) (wm_t (wm_l (wm_i 1 rfl)))) dX11_quarrels_20 ?_
    have hP9 := hP
    have hD9 := hD
    exact W.iret (v := (-1000001)) hx hb hr (fun t ht hW => ⟨⟨(-1000001), mq, rfl, (by unfold sm_quarrels; rw [if_neg (by omega)]), by rw [ht]; exact hP9, va_K.moved hW.alike hK, hD9⟩, hS.F ht⟩) hS.2.2 dX11_quarrels_22
  · skip
    have f6 := bo_t hw2 c4
    refine lv_iload_n hx hb dX11_quarrels_13 rfl (lv_at hl 2 rfl) ?_
    refine st_i1 (va_runS (As := [.int n]) (rest := []) ⟨hx, hb, hml, hown, hts⟩ (ct_X11_isDay l D cI cY cJ cQ _ n) (va_cwS 1 hts gX11_quarrels_X11_isDay rfl rfl rfl cdX11_isDay ⟨Nat.le_of_ble_eq_true rfl, Nat.le_of_ble_eq_true rfl⟩) (cPreS (hP.sub [] rfl) hK (hD.sub [] (by decide +kernel) rfl) hN) rfl rfl hl.1 rfl (lv_room (Nat.le_of_ble_eq_true rfl)) dX11_quarrels_14 ⟨Nat.le_of_ble_eq_true rfl, Nat.le_of_ble_eq_true rfl⟩) hP hD hS hA [] rfl (fun _ => rfl) (fun r9 u7 H locs hw8 => ?_)
    clear hP hS
    intro hP hS
    replace hw8 : r9 = if 0 ≤ n.toInt ∧ n.toInt ≤ 9999 then 1 else 0 := hw8
    refine lv_if_ne (tgt := 23) hx hb dX11_quarrels_17 (by decide) (fun c10 => ?_) (fun c10 => ?_)
    · skip
      have f11 := bo_t hw8 c10
      refine lv_aload_n hx hb dX11_quarrels_23 rfl (lv_at hl 0 rfl) ?_
      refine lv_iload_n hx hb dX11_quarrels_24 rfl (lv_at hl 1 rfl) ?_
      refine lv_iconst (v := 0) hx hb dX11_quarrels_25 (by decide) ?_
      refine lv_iload_n hx hb dX11_quarrels_26 rfl (lv_at hl 2 rfl) ?_
      refine st_i (wr := []) (va_runV (C := RX11) (As := [.int k, .int 0, .int n]) (rest := []) ⟨hx, hb, hml, hown, hts⟩ (ct_X11_ownerOf l D cI cY cJ cQ _ md sd 0 mst hn cn pn mq gn mln mnn ln mlt msz mcu mtk mfr mti mfa mfb an un lc td mtn fo pk pf po pd pe k (0 : Int32) n (by omega) (by omega) h3 h4) (cwV 3 hts gX11_quarrels_X11_ownerOf rfl rfl rfl ⟨rfl, cdX11_ownerOf⟩ ⟨Nat.le_of_ble_eq_true rfl, Nat.le_of_ble_eq_true rfl⟩) (cPreV (hP.sub [0, 1, 2, 3, 4, 5, 6] rfl) hK (hD.sub [0, 1, 2, 3, 4, 5, 6] (by decide +kernel) rfl) hN (ci := 11) (q0 := 0) rfl rfl) rfl rfl hl.1 rfl (lv_room (Nat.le_of_ble_eq_true rfl)) dX11_quarrels_27 ⟨Nat.le_of_ble_eq_true rfl, Nat.le_of_ble_eq_true rfl⟩) hP hD hS hA [0, 1, 2, 3, 4, 5, 6] [] rfl rfl (by decide +kernel) (by decide +kernel) (fun r14 u12 H locs hw13 => ?_)
      clear hP hD hS
      intro hP hD hS
      replace hw13 : (r14, u12) = ooV pk pf po pd pe pn.toNatClampNeg k (0 : Int32) n 41 0 (fo k.toNatClampNeg) (fo k.toNatClampNeg) 0 := hw13
      replace hP : va_P D vwCl [(moC md sd (0) mst hn cn pn u12 gn mln mnn ln mlt msz mcu mtk mfr mti mfa mfb an un lc td mtn), (aI cI (md 16) 12 fo), (aI cI (md 19) 40 pk), (aI cI (md 20) 40 pf), (aI cI (md 21) 40 po), (aI cI (md 22) 40 pd), (aI cI (md 23) 40 pe)] H := hP
      replace hD : va_D A [(moC md sd (0) mst hn cn pn u12 gn mln mnn ln mlt msz mcu mtk mfr mti mfa mfb an un lc td mtn), (aI cI (md 16) 12 fo), (aI cI (md 19) 40 pk), (aI cI (md 20) 40 pf), (aI cI (md 21) 40 po), (aI cI (md 22) 40 pd), (aI cI (md 23) 40 pe)] := hD
      refine lv_istore_n (lv' := [(3, .int r14), (0, .ref (md 64)), (1, .int k), (2, .int n)]) hx hb dX11_quarrels_30 rfl hl (by decide) rfl (fun ls hl => ?_)
      refine lv_aload_n hx hb dX11_quarrels_31 rfl (lv_at hl 1 rfl) ?_
      refine va_get (D := D) (ci := 11) (v := .int u12) (C := RX11) (T := TX11) (N := 64) hx hb hts inX11_quarrels_X11 hown hK hP 0 rfl rfl 24 (by decide) (hts (Cond.fieldLink RX11 225 "PortRoomsModel" "quarrelling" "I") (wm_t (wm_l (wm_i 2 rfl)))) (fun _ h9 => h9) rfl dX11_quarrels_32 ?_
      have hP9 := hP
      have hD9 := hD
      exact W.iret (v := u12) hx hb hr (fun t ht hW => ⟨⟨u12, u12, rfl, (by unfold sm_quarrels; rw [if_pos (by omega), ← hw13]), by rw [ht]; exact hP9, va_K.moved hW.alike hK, hD9⟩, hS.F ht⟩) hS.2.2 dX11_quarrels_35
    · skip
      have f15 := bo_f hw8 c10
      refine lv_ldc hx hb hown (hts (Cond.constant RX11 157 (-1000001)) (wm_t (wm_l (wm_i 1 rfl)))) dX11_quarrels_20 ?_
      have hP9 := hP
      have hD9 := hD
      exact W.iret (v := (-1000001)) hx hb hr (fun t ht hW => ⟨⟨(-1000001), mq, rfl, (by unfold sm_quarrels; rw [if_neg (by omega)]), by rw [ht]; exact hP9, va_K.moved hW.alike hK, hD9⟩, hS.F ht⟩) hS.2.2 dX11_quarrels_22
end

section
theorem cdX11_keyOf : yX11_keyOf.cls ≠ "java/lang/invoke/MethodHandle" ∧ yX11_keyOf.cls ≠ "java/lang/invoke/VarHandle" ∧ (parseMethodDescriptor yX11_keyOf.desc).map (fun d => d.parameters.length) = some 2 := by decide +kernel
theorem Gd_X11_keyOf : gdA wsX11_keyOf := gd_cons (by decide +kernel) (gd_app (gd_all (ws := wsX11_keyOf_o1) (by decide +kernel)) Gd_X110)
theorem inX11_keyOf_X11 : ∀ w ∈ u_ws RX11 TX11 64, w ∈ wsX11_keyOf := fun _ h => (List.mem_cons_of_mem _ (List.mem_append_right _ h))
theorem inX11_rank_X11 : ∀ w ∈ u_ws RX11 TX11 64, w ∈ wsX11_rank := fun _ h => (List.mem_cons_of_mem _ (List.mem_append_right _ (List.mem_append_left _ (List.mem_append_left _ (List.mem_append_left _ h)))))
theorem dX11_keyOf_all0 : decode cX11_keyOf 0 = .ok (.iload_n 2, 1) ∧ decode cX11_keyOf 1 = .ok (.ifCond .ne 12, 3) ∧ decode cX11_keyOf 4 = .ok (.aload_n 0, 1) ∧ decode cX11_keyOf 5 = .ok (.getfield 78, 3) ∧ decode cX11_keyOf 8 = .ok (.iload_n 1, 1) ∧ decode cX11_keyOf 9 = .ok (.iaload, 1) ∧ decode cX11_keyOf 10 = .ok (.goto 39, 3) ∧ decode cX11_keyOf 13 = .ok (.iload_n 2, 1) ∧ decode cX11_keyOf 14 = .ok (.iconst 1, 1) ∧ decode cX11_keyOf 15 = .ok (.if_icmp .ne 12, 3) ∧ decode cX11_keyOf 18 = .ok (.aload_n 0, 1) ∧ decode cX11_keyOf 19 = .ok (.getfield 75, 3) := by decide +kernel
theorem dX11_keyOf_0 : decode cX11_keyOf 0 = .ok (.iload_n 2, 1) := dX11_keyOf_all0.1
theorem dX11_keyOf_1 : decode cX11_keyOf 1 = .ok (.ifCond .ne 12, 3) := dX11_keyOf_all0.2.1
theorem dX11_keyOf_4 : decode cX11_keyOf 4 = .ok (.aload_n 0, 1) := dX11_keyOf_all0.2.2.1
theorem dX11_keyOf_5 : decode cX11_keyOf 5 = .ok (.getfield 78, 3) := dX11_keyOf_all0.2.2.2.1
theorem dX11_keyOf_8 : decode cX11_keyOf 8 = .ok (.iload_n 1, 1) := dX11_keyOf_all0.2.2.2.2.1
theorem dX11_keyOf_9 : decode cX11_keyOf 9 = .ok (.iaload, 1) := dX11_keyOf_all0.2.2.2.2.2.1
theorem dX11_keyOf_10 : decode cX11_keyOf 10 = .ok (.goto 39, 3) := dX11_keyOf_all0.2.2.2.2.2.2.1
theorem dX11_keyOf_13 : decode cX11_keyOf 13 = .ok (.iload_n 2, 1) := dX11_keyOf_all0.2.2.2.2.2.2.2.1
theorem dX11_keyOf_14 : decode cX11_keyOf 14 = .ok (.iconst 1, 1) := dX11_keyOf_all0.2.2.2.2.2.2.2.2.1
theorem dX11_keyOf_15 : decode cX11_keyOf 15 = .ok (.if_icmp .ne 12, 3) := dX11_keyOf_all0.2.2.2.2.2.2.2.2.2.1
theorem dX11_keyOf_18 : decode cX11_keyOf 18 = .ok (.aload_n 0, 1) := dX11_keyOf_all0.2.2.2.2.2.2.2.2.2.2.1
theorem dX11_keyOf_19 : decode cX11_keyOf 19 = .ok (.getfield 75, 3) := dX11_keyOf_all0.2.2.2.2.2.2.2.2.2.2.2
theorem dX11_keyOf_all1 : decode cX11_keyOf 22 = .ok (.iload_n 1, 1) ∧ decode cX11_keyOf 23 = .ok (.iaload, 1) ∧ decode cX11_keyOf 24 = .ok (.goto 25, 3) ∧ decode cX11_keyOf 27 = .ok (.iload_n 2, 1) ∧ decode cX11_keyOf 28 = .ok (.iconst 2, 1) ∧ decode cX11_keyOf 29 = .ok (.if_icmp .ne 13, 3) ∧ decode cX11_keyOf 32 = .ok (.aload_n 0, 1) ∧ decode cX11_keyOf 33 = .ok (.getfield 72, 3) ∧ decode cX11_keyOf 36 = .ok (.iload_n 1, 1) ∧ decode cX11_keyOf 37 = .ok (.iaload, 1) ∧ decode cX11_keyOf 38 = .ok (.ineg, 1) ∧ decode cX11_keyOf 39 = .ok (.goto 10, 3) := by decide +kernel
theorem dX11_keyOf_22 : decode cX11_keyOf 22 = .ok (.iload_n 1, 1) := dX11_keyOf_all1.1
theorem dX11_keyOf_23 : decode cX11_keyOf 23 = .ok (.iaload, 1) := dX11_keyOf_all1.2.1
theorem dX11_keyOf_24 : decode cX11_keyOf 24 = .ok (.goto 25, 3) := dX11_keyOf_all1.2.2.1
theorem dX11_keyOf_27 : decode cX11_keyOf 27 = .ok (.iload_n 2, 1) := dX11_keyOf_all1.2.2.2.1
theorem dX11_keyOf_28 : decode cX11_keyOf 28 = .ok (.iconst 2, 1) := dX11_keyOf_all1.2.2.2.2.1
theorem dX11_keyOf_29 : decode cX11_keyOf 29 = .ok (.if_icmp .ne 13, 3) := dX11_keyOf_all1.2.2.2.2.2.1
theorem dX11_keyOf_32 : decode cX11_keyOf 32 = .ok (.aload_n 0, 1) := dX11_keyOf_all1.2.2.2.2.2.2.1
theorem dX11_keyOf_33 : decode cX11_keyOf 33 = .ok (.getfield 72, 3) := dX11_keyOf_all1.2.2.2.2.2.2.2.1
theorem dX11_keyOf_36 : decode cX11_keyOf 36 = .ok (.iload_n 1, 1) := dX11_keyOf_all1.2.2.2.2.2.2.2.2.1
theorem dX11_keyOf_37 : decode cX11_keyOf 37 = .ok (.iaload, 1) := dX11_keyOf_all1.2.2.2.2.2.2.2.2.2.1
theorem dX11_keyOf_38 : decode cX11_keyOf 38 = .ok (.ineg, 1) := dX11_keyOf_all1.2.2.2.2.2.2.2.2.2.2.1
theorem dX11_keyOf_39 : decode cX11_keyOf 39 = .ok (.goto 10, 3) := dX11_keyOf_all1.2.2.2.2.2.2.2.2.2.2.2
theorem dX11_keyOf_all2 : decode cX11_keyOf 42 = .ok (.aload_n 0, 1) ∧ decode cX11_keyOf 43 = .ok (.getfield 78, 3) ∧ decode cX11_keyOf 46 = .ok (.iload_n 1, 1) ∧ decode cX11_keyOf 47 = .ok (.iaload, 1) ∧ decode cX11_keyOf 48 = .ok (.ineg, 1) ∧ decode cX11_keyOf 49 = .ok (.ireturn, 1) := by decide +kernel
theorem dX11_keyOf_42 : decode cX11_keyOf 42 = .ok (.aload_n 0, 1) := dX11_keyOf_all2.1
theorem dX11_keyOf_43 : decode cX11_keyOf 43 = .ok (.getfield 78, 3) := dX11_keyOf_all2.2.1
theorem dX11_keyOf_46 : decode cX11_keyOf 46 = .ok (.iload_n 1, 1) := dX11_keyOf_all2.2.2.1
theorem dX11_keyOf_47 : decode cX11_keyOf 47 = .ok (.iaload, 1) := dX11_keyOf_all2.2.2.2.1
theorem dX11_keyOf_48 : decode cX11_keyOf 48 = .ok (.ineg, 1) := dX11_keyOf_all2.2.2.2.2.1
theorem dX11_keyOf_49 : decode cX11_keyOf 49 = .ok (.ireturn, 1) := dX11_keyOf_all2.2.2.2.2.2
theorem ggX11_rank_X11_isCrate : GoodIn wsX11_rank wsX11_isCrate := goodIn_s (fun _ h => wm_t (wm_r (wm_l (wm_l (wm_r h))))) Gd_X11_isCrate
theorem gX11_rank_X11_isCrate : GoodIn wsX11_rank (wsV RX11 219 RX11 yX11_isCrate wsX11_isCrate) := goodIn_V (own := RX11) (idx := 219) (C := RX11) (y := yX11_isCrate) (wm_t (wm_l (wm_i 9 rfl))) (wm_t (wm_l (wm_i 10 rfl))) (wm_t (wm_l (wm_i 11 rfl))) (wm_t (wm_l (wm_i 12 rfl))) ggX11_rank_X11_isCrate
theorem ggX11_rank_X11_isDay : GoodIn wsX11_rank wsX11_isDay := goodIn_s (fun _ h => wm_t (wm_r (wm_l (wm_r h)))) Gd_X11_isDay
theorem gX11_rank_X11_isDay : GoodIn wsX11_rank (va_wsS RX11 178 yX11_isDay wsX11_isDay) := goodIn_S (own := RX11) (idx := 178) (y := yX11_isDay) (wm_t (wm_l (wm_i 15 rfl))) (wm_t (wm_l (wm_i 16 rfl))) (wm_t (wm_l (wm_i 12 rfl))) ggX11_rank_X11_isDay
theorem ggX11_rank_X11_in : GoodIn wsX11_rank wsX11_in := goodIn_s (fun _ h => wm_t (wm_r (wm_r (wm_l h)))) Gd_X11_in
theorem gX11_rank_X11_in : GoodIn wsX11_rank (va_wsS RX11 147 yX11_in wsX11_in) := goodIn_S (own := RX11) (idx := 147) (y := yX11_in) (wm_t (wm_l (wm_i 13 rfl))) (wm_t (wm_l (wm_i 14 rfl))) (wm_t (wm_l (wm_i 12 rfl))) ggX11_rank_X11_in
theorem ggX11_rank_X11_keyOf : GoodIn wsX11_rank wsX11_keyOf := goodIn_s (fun _ h => wm_t (wm_r (wm_r (wm_r h)))) Gd_X11_keyOf
theorem gX11_rank_X11_keyOf : GoodIn wsX11_rank (wsV RX11 236 RX11 yX11_keyOf wsX11_keyOf) := goodIn_V (own := RX11) (idx := 236) (C := RX11) (y := yX11_keyOf) (wm_t (wm_l (wm_i 17 rfl))) (wm_t (wm_l (wm_i 18 rfl))) (wm_t (wm_l (wm_i 19 rfl))) (wm_t (wm_l (wm_i 12 rfl))) ggX11_rank_X11_keyOf
theorem dX11_rank_all0 : decode cX11_rank 0 = .ok (.aload_n 0, 1) ∧ decode cX11_rank 1 = .ok (.iconst 0, 1) ∧ decode cX11_rank 2 = .ok (.putfield 1, 3) ∧ decode cX11_rank 5 = .ok (.aload_n 0, 1) ∧ decode cX11_rank 6 = .ok (.iload_n 1, 1) ∧ decode cX11_rank 7 = .ok (.invokevirtual 219, 3) ∧ decode cX11_rank 10 = .ok (.ifCond .eq 33, 3) ∧ decode cX11_rank 13 = .ok (.iload_n 2, 1) ∧ decode cX11_rank 14 = .ok (.invokestatic 178, 3) ∧ decode cX11_rank 17 = .ok (.ifCond .eq 26, 3) ∧ decode cX11_rank 20 = .ok (.iload_n 3, 1) ∧ decode cX11_rank 21 = .ok (.i2l, 1) := by decide +kernel
theorem dX11_rank_0 : decode cX11_rank 0 = .ok (.aload_n 0, 1) := dX11_rank_all0.1
theorem dX11_rank_1 : decode cX11_rank 1 = .ok (.iconst 0, 1) := dX11_rank_all0.2.1
theorem dX11_rank_2 : decode cX11_rank 2 = .ok (.putfield 1, 3) := dX11_rank_all0.2.2.1
theorem dX11_rank_5 : decode cX11_rank 5 = .ok (.aload_n 0, 1) := dX11_rank_all0.2.2.2.1
theorem dX11_rank_6 : decode cX11_rank 6 = .ok (.iload_n 1, 1) := dX11_rank_all0.2.2.2.2.1
theorem dX11_rank_7 : decode cX11_rank 7 = .ok (.invokevirtual 219, 3) := dX11_rank_all0.2.2.2.2.2.1
theorem dX11_rank_10 : decode cX11_rank 10 = .ok (.ifCond .eq 33, 3) := dX11_rank_all0.2.2.2.2.2.2.1
theorem dX11_rank_13 : decode cX11_rank 13 = .ok (.iload_n 2, 1) := dX11_rank_all0.2.2.2.2.2.2.2.1
theorem dX11_rank_14 : decode cX11_rank 14 = .ok (.invokestatic 178, 3) := dX11_rank_all0.2.2.2.2.2.2.2.2.1
theorem dX11_rank_17 : decode cX11_rank 17 = .ok (.ifCond .eq 26, 3) := dX11_rank_all0.2.2.2.2.2.2.2.2.2.1
theorem dX11_rank_20 : decode cX11_rank 20 = .ok (.iload_n 3, 1) := dX11_rank_all0.2.2.2.2.2.2.2.2.2.2.1
theorem dX11_rank_21 : decode cX11_rank 21 = .ok (.i2l, 1) := dX11_rank_all0.2.2.2.2.2.2.2.2.2.2.2
theorem dX11_rank_all1 : decode cX11_rank 22 = .ok (.lconst 0, 1) ∧ decode cX11_rank 23 = .ok (.ldc2_w 234, 3) ∧ decode cX11_rank 26 = .ok (.invokestatic 147, 3) ∧ decode cX11_rank 29 = .ok (.ifCond .eq 14, 3) ∧ decode cX11_rank 32 = .ok (.iload 5, 2) ∧ decode cX11_rank 34 = .ok (.i2l, 1) ∧ decode cX11_rank 35 = .ok (.lconst 0, 1) ∧ decode cX11_rank 36 = .ok (.lconst 1, 1) ∧ decode cX11_rank 37 = .ok (.invokestatic 147, 3) ∧ decode cX11_rank 40 = .ok (.ifCond .ne 6, 3) ∧ decode cX11_rank 43 = .ok (.ldc 157, 2) ∧ decode cX11_rank 45 = .ok (.ireturn, 1) := by decide +kernel
theorem dX11_rank_22 : decode cX11_rank 22 = .ok (.lconst 0, 1) := dX11_rank_all1.1
theorem dX11_rank_23 : decode cX11_rank 23 = .ok (.ldc2_w 234, 3) := dX11_rank_all1.2.1
theorem dX11_rank_26 : decode cX11_rank 26 = .ok (.invokestatic 147, 3) := dX11_rank_all1.2.2.1
theorem dX11_rank_29 : decode cX11_rank 29 = .ok (.ifCond .eq 14, 3) := dX11_rank_all1.2.2.2.1
theorem dX11_rank_32 : decode cX11_rank 32 = .ok (.iload 5, 2) := dX11_rank_all1.2.2.2.2.1
theorem dX11_rank_34 : decode cX11_rank 34 = .ok (.i2l, 1) := dX11_rank_all1.2.2.2.2.2.1
theorem dX11_rank_35 : decode cX11_rank 35 = .ok (.lconst 0, 1) := dX11_rank_all1.2.2.2.2.2.2.1
theorem dX11_rank_36 : decode cX11_rank 36 = .ok (.lconst 1, 1) := dX11_rank_all1.2.2.2.2.2.2.2.1
theorem dX11_rank_37 : decode cX11_rank 37 = .ok (.invokestatic 147, 3) := dX11_rank_all1.2.2.2.2.2.2.2.2.1
theorem dX11_rank_40 : decode cX11_rank 40 = .ok (.ifCond .ne 6, 3) := dX11_rank_all1.2.2.2.2.2.2.2.2.2.1
theorem dX11_rank_43 : decode cX11_rank 43 = .ok (.ldc 157, 2) := dX11_rank_all1.2.2.2.2.2.2.2.2.2.2.1
theorem dX11_rank_45 : decode cX11_rank 45 = .ok (.ireturn, 1) := dX11_rank_all1.2.2.2.2.2.2.2.2.2.2.2
theorem dX11_rank_all2 : decode cX11_rank 46 = .ok (.lconst 0, 1) ∧ decode cX11_rank 47 = .ok (.lstore 6, 2) ∧ decode cX11_rank 49 = .ok (.aload_n 0, 1) ∧ decode cX11_rank 50 = .ok (.getfield 51, 3) ∧ decode cX11_rank 53 = .ok (.iload_n 1, 1) ∧ decode cX11_rank 54 = .ok (.iaload, 1) ∧ decode cX11_rank 55 = .ok (.istore 8, 2) ∧ decode cX11_rank 57 = .ok (.iconst 0, 1) ∧ decode cX11_rank 58 = .ok (.istore 9, 2) ∧ decode cX11_rank 60 = .ok (.iload 9, 2) ∧ decode cX11_rank 62 = .ok (.iload 4, 2) ∧ decode cX11_rank 64 = .ok (.if_icmp .gt 182, 3) := by decide +kernel
theorem dX11_rank_46 : decode cX11_rank 46 = .ok (.lconst 0, 1) := dX11_rank_all2.1
theorem dX11_rank_47 : decode cX11_rank 47 = .ok (.lstore 6, 2) := dX11_rank_all2.2.1
theorem dX11_rank_49 : decode cX11_rank 49 = .ok (.aload_n 0, 1) := dX11_rank_all2.2.2.1
theorem dX11_rank_50 : decode cX11_rank 50 = .ok (.getfield 51, 3) := dX11_rank_all2.2.2.2.1
theorem dX11_rank_53 : decode cX11_rank 53 = .ok (.iload_n 1, 1) := dX11_rank_all2.2.2.2.2.1
theorem dX11_rank_54 : decode cX11_rank 54 = .ok (.iaload, 1) := dX11_rank_all2.2.2.2.2.2.1
theorem dX11_rank_55 : decode cX11_rank 55 = .ok (.istore 8, 2) := dX11_rank_all2.2.2.2.2.2.2.1
theorem dX11_rank_57 : decode cX11_rank 57 = .ok (.iconst 0, 1) := dX11_rank_all2.2.2.2.2.2.2.2.1
theorem dX11_rank_58 : decode cX11_rank 58 = .ok (.istore 9, 2) := dX11_rank_all2.2.2.2.2.2.2.2.2.1
theorem dX11_rank_60 : decode cX11_rank 60 = .ok (.iload 9, 2) := dX11_rank_all2.2.2.2.2.2.2.2.2.2.1
theorem dX11_rank_62 : decode cX11_rank 62 = .ok (.iload 4, 2) := dX11_rank_all2.2.2.2.2.2.2.2.2.2.2.1
theorem dX11_rank_64 : decode cX11_rank 64 = .ok (.if_icmp .gt 182, 3) := dX11_rank_all2.2.2.2.2.2.2.2.2.2.2.2
theorem dX11_rank_all3 : decode cX11_rank 67 = .ok (.ldc 139, 2) ∧ decode cX11_rank 69 = .ok (.istore 10, 2) ∧ decode cX11_rank 71 = .ok (.iconst 0, 1) ∧ decode cX11_rank 72 = .ok (.istore 11, 2) ∧ decode cX11_rank 74 = .ok (.iload 11, 2) ∧ decode cX11_rank 76 = .ok (.aload_n 0, 1) ∧ decode cX11_rank 77 = .ok (.getfield 231, 3) ∧ decode cX11_rank 80 = .ok (.if_icmp .ge 88, 3) ∧ decode cX11_rank 83 = .ok (.aload_n 0, 1) ∧ decode cX11_rank 84 = .ok (.getfield 69, 3) ∧ decode cX11_rank 87 = .ok (.iload 11, 2) ∧ decode cX11_rank 89 = .ok (.iaload, 1) := by decide +kernel
theorem dX11_rank_67 : decode cX11_rank 67 = .ok (.ldc 139, 2) := dX11_rank_all3.1
theorem dX11_rank_69 : decode cX11_rank 69 = .ok (.istore 10, 2) := dX11_rank_all3.2.1
theorem dX11_rank_71 : decode cX11_rank 71 = .ok (.iconst 0, 1) := dX11_rank_all3.2.2.1
theorem dX11_rank_72 : decode cX11_rank 72 = .ok (.istore 11, 2) := dX11_rank_all3.2.2.2.1
theorem dX11_rank_74 : decode cX11_rank 74 = .ok (.iload 11, 2) := dX11_rank_all3.2.2.2.2.1
theorem dX11_rank_76 : decode cX11_rank 76 = .ok (.aload_n 0, 1) := dX11_rank_all3.2.2.2.2.2.1
theorem dX11_rank_77 : decode cX11_rank 77 = .ok (.getfield 231, 3) := dX11_rank_all3.2.2.2.2.2.2.1
theorem dX11_rank_80 : decode cX11_rank 80 = .ok (.if_icmp .ge 88, 3) := dX11_rank_all3.2.2.2.2.2.2.2.1
theorem dX11_rank_83 : decode cX11_rank 83 = .ok (.aload_n 0, 1) := dX11_rank_all3.2.2.2.2.2.2.2.2.1
theorem dX11_rank_84 : decode cX11_rank 84 = .ok (.getfield 69, 3) := dX11_rank_all3.2.2.2.2.2.2.2.2.2.1
theorem dX11_rank_87 : decode cX11_rank 87 = .ok (.iload 11, 2) := dX11_rank_all3.2.2.2.2.2.2.2.2.2.2.1
theorem dX11_rank_89 : decode cX11_rank 89 = .ok (.iaload, 1) := dX11_rank_all3.2.2.2.2.2.2.2.2.2.2.2
theorem dX11_rank_all4 : decode cX11_rank 90 = .ok (.iload_n 1, 1) ∧ decode cX11_rank 91 = .ok (.if_icmp .ne 30, 3) ∧ decode cX11_rank 94 = .ok (.aload_n 0, 1) ∧ decode cX11_rank 95 = .ok (.getfield 78, 3) ∧ decode cX11_rank 98 = .ok (.iload 11, 2) ∧ decode cX11_rank 100 = .ok (.iaload, 1) ∧ decode cX11_rank 101 = .ok (.iload_n 2, 1) ∧ decode cX11_rank 102 = .ok (.if_icmp .gt 19, 3) ∧ decode cX11_rank 105 = .ok (.lload 6, 2) ∧ decode cX11_rank 107 = .ok (.iload 11, 2) ∧ decode cX11_rank 109 = .ok (.lshr, 1) ∧ decode cX11_rank 110 = .ok (.lconst 1, 1) := by decide +kernel
theorem dX11_rank_90 : decode cX11_rank 90 = .ok (.iload_n 1, 1) := dX11_rank_all4.1
theorem dX11_rank_91 : decode cX11_rank 91 = .ok (.if_icmp .ne 30, 3) := dX11_rank_all4.2.1
theorem dX11_rank_94 : decode cX11_rank 94 = .ok (.aload_n 0, 1) := dX11_rank_all4.2.2.1
theorem dX11_rank_95 : decode cX11_rank 95 = .ok (.getfield 78, 3) := dX11_rank_all4.2.2.2.1
theorem dX11_rank_98 : decode cX11_rank 98 = .ok (.iload 11, 2) := dX11_rank_all4.2.2.2.2.1
theorem dX11_rank_100 : decode cX11_rank 100 = .ok (.iaload, 1) := dX11_rank_all4.2.2.2.2.2.1
theorem dX11_rank_101 : decode cX11_rank 101 = .ok (.iload_n 2, 1) := dX11_rank_all4.2.2.2.2.2.2.1
theorem dX11_rank_102 : decode cX11_rank 102 = .ok (.if_icmp .gt 19, 3) := dX11_rank_all4.2.2.2.2.2.2.2.1
theorem dX11_rank_105 : decode cX11_rank 105 = .ok (.lload 6, 2) := dX11_rank_all4.2.2.2.2.2.2.2.2.1
theorem dX11_rank_107 : decode cX11_rank 107 = .ok (.iload 11, 2) := dX11_rank_all4.2.2.2.2.2.2.2.2.2.1
theorem dX11_rank_109 : decode cX11_rank 109 = .ok (.lshr, 1) := dX11_rank_all4.2.2.2.2.2.2.2.2.2.2.1
theorem dX11_rank_110 : decode cX11_rank 110 = .ok (.lconst 1, 1) := dX11_rank_all4.2.2.2.2.2.2.2.2.2.2.2
theorem dX11_rank_all5 : decode cX11_rank 111 = .ok (.land, 1) ∧ decode cX11_rank 112 = .ok (.lconst 0, 1) ∧ decode cX11_rank 113 = .ok (.lcmp, 1) ∧ decode cX11_rank 114 = .ok (.ifCond .ne 7, 3) ∧ decode cX11_rank 117 = .ok (.iconst 1, 1) ∧ decode cX11_rank 118 = .ok (.goto 4, 3) ∧ decode cX11_rank 121 = .ok (.iconst 0, 1) ∧ decode cX11_rank 122 = .ok (.istore 12, 2) ∧ decode cX11_rank 124 = .ok (.iload 12, 2) ∧ decode cX11_rank 126 = .ok (.ifCond .eq 32, 3) ∧ decode cX11_rank 129 = .ok (.iload 10, 2) ∧ decode cX11_rank 131 = .ok (.ldc 139, 2) := by decide +kernel
theorem dX11_rank_111 : decode cX11_rank 111 = .ok (.land, 1) := dX11_rank_all5.1
theorem dX11_rank_112 : decode cX11_rank 112 = .ok (.lconst 0, 1) := dX11_rank_all5.2.1
theorem dX11_rank_113 : decode cX11_rank 113 = .ok (.lcmp, 1) := dX11_rank_all5.2.2.1
theorem dX11_rank_114 : decode cX11_rank 114 = .ok (.ifCond .ne 7, 3) := dX11_rank_all5.2.2.2.1
theorem dX11_rank_117 : decode cX11_rank 117 = .ok (.iconst 1, 1) := dX11_rank_all5.2.2.2.2.1
theorem dX11_rank_118 : decode cX11_rank 118 = .ok (.goto 4, 3) := dX11_rank_all5.2.2.2.2.2.1
theorem dX11_rank_121 : decode cX11_rank 121 = .ok (.iconst 0, 1) := dX11_rank_all5.2.2.2.2.2.2.1
theorem dX11_rank_122 : decode cX11_rank 122 = .ok (.istore 12, 2) := dX11_rank_all5.2.2.2.2.2.2.2.1
theorem dX11_rank_124 : decode cX11_rank 124 = .ok (.iload 12, 2) := dX11_rank_all5.2.2.2.2.2.2.2.2.1
theorem dX11_rank_126 : decode cX11_rank 126 = .ok (.ifCond .eq 32, 3) := dX11_rank_all5.2.2.2.2.2.2.2.2.2.1
theorem dX11_rank_129 : decode cX11_rank 129 = .ok (.iload 10, 2) := dX11_rank_all5.2.2.2.2.2.2.2.2.2.2.1
theorem dX11_rank_131 : decode cX11_rank 131 = .ok (.ldc 139, 2) := dX11_rank_all5.2.2.2.2.2.2.2.2.2.2.2
theorem dX11_rank_all6 : decode cX11_rank 133 = .ok (.if_icmp .eq 20, 3) ∧ decode cX11_rank 136 = .ok (.aload_n 0, 1) ∧ decode cX11_rank 137 = .ok (.iload 11, 2) ∧ decode cX11_rank 139 = .ok (.iload_n 3, 1) ∧ decode cX11_rank 140 = .ok (.invokevirtual 236, 3) ∧ decode cX11_rank 143 = .ok (.aload_n 0, 1) ∧ decode cX11_rank 144 = .ok (.iload 10, 2) ∧ decode cX11_rank 146 = .ok (.iload_n 3, 1) ∧ decode cX11_rank 147 = .ok (.invokevirtual 236, 3) ∧ decode cX11_rank 150 = .ok (.if_icmp .ge 8, 3) ∧ decode cX11_rank 153 = .ok (.iload 11, 2) ∧ decode cX11_rank 155 = .ok (.goto 5, 3) := by decide +kernel
theorem dX11_rank_133 : decode cX11_rank 133 = .ok (.if_icmp .eq 20, 3) := dX11_rank_all6.1
theorem dX11_rank_136 : decode cX11_rank 136 = .ok (.aload_n 0, 1) := dX11_rank_all6.2.1
theorem dX11_rank_137 : decode cX11_rank 137 = .ok (.iload 11, 2) := dX11_rank_all6.2.2.1
theorem dX11_rank_139 : decode cX11_rank 139 = .ok (.iload_n 3, 1) := dX11_rank_all6.2.2.2.1
theorem dX11_rank_140 : decode cX11_rank 140 = .ok (.invokevirtual 236, 3) := dX11_rank_all6.2.2.2.2.1
theorem dX11_rank_143 : decode cX11_rank 143 = .ok (.aload_n 0, 1) := dX11_rank_all6.2.2.2.2.2.1
theorem dX11_rank_144 : decode cX11_rank 144 = .ok (.iload 10, 2) := dX11_rank_all6.2.2.2.2.2.2.1
theorem dX11_rank_146 : decode cX11_rank 146 = .ok (.iload_n 3, 1) := dX11_rank_all6.2.2.2.2.2.2.2.1
theorem dX11_rank_147 : decode cX11_rank 147 = .ok (.invokevirtual 236, 3) := dX11_rank_all6.2.2.2.2.2.2.2.2.1
theorem dX11_rank_150 : decode cX11_rank 150 = .ok (.if_icmp .ge 8, 3) := dX11_rank_all6.2.2.2.2.2.2.2.2.2.1
theorem dX11_rank_153 : decode cX11_rank 153 = .ok (.iload 11, 2) := dX11_rank_all6.2.2.2.2.2.2.2.2.2.2.1
theorem dX11_rank_155 : decode cX11_rank 155 = .ok (.goto 5, 3) := dX11_rank_all6.2.2.2.2.2.2.2.2.2.2.2
theorem dX11_rank_all7 : decode cX11_rank 158 = .ok (.iload 10, 2) ∧ decode cX11_rank 160 = .ok (.istore 10, 2) ∧ decode cX11_rank 162 = .ok (.iinc 11 1, 3) ∧ decode cX11_rank 165 = .ok (.goto (-91), 3) ∧ decode cX11_rank 168 = .ok (.iload 10, 2) ∧ decode cX11_rank 170 = .ok (.ldc 139, 2) ∧ decode cX11_rank 172 = .ok (.if_icmp .ne 6, 3) ∧ decode cX11_rank 175 = .ok (.ldc 139, 2) ∧ decode cX11_rank 177 = .ok (.ireturn, 1) ∧ decode cX11_rank 178 = .ok (.lload 6, 2) ∧ decode cX11_rank 180 = .ok (.lconst 1, 1) ∧ decode cX11_rank 181 = .ok (.iload 10, 2) := by decide +kernel
theorem dX11_rank_158 : decode cX11_rank 158 = .ok (.iload 10, 2) := dX11_rank_all7.1
theorem dX11_rank_160 : decode cX11_rank 160 = .ok (.istore 10, 2) := dX11_rank_all7.2.1
theorem dX11_rank_162 : decode cX11_rank 162 = .ok (.iinc 11 1, 3) := dX11_rank_all7.2.2.1
theorem dX11_rank_165 : decode cX11_rank 165 = .ok (.goto (-91), 3) := dX11_rank_all7.2.2.2.1
theorem dX11_rank_168 : decode cX11_rank 168 = .ok (.iload 10, 2) := dX11_rank_all7.2.2.2.2.1
theorem dX11_rank_170 : decode cX11_rank 170 = .ok (.ldc 139, 2) := dX11_rank_all7.2.2.2.2.2.1
theorem dX11_rank_172 : decode cX11_rank 172 = .ok (.if_icmp .ne 6, 3) := dX11_rank_all7.2.2.2.2.2.2.1
theorem dX11_rank_175 : decode cX11_rank 175 = .ok (.ldc 139, 2) := dX11_rank_all7.2.2.2.2.2.2.2.1
theorem dX11_rank_177 : decode cX11_rank 177 = .ok (.ireturn, 1) := dX11_rank_all7.2.2.2.2.2.2.2.2.1
theorem dX11_rank_178 : decode cX11_rank 178 = .ok (.lload 6, 2) := dX11_rank_all7.2.2.2.2.2.2.2.2.2.1
theorem dX11_rank_180 : decode cX11_rank 180 = .ok (.lconst 1, 1) := dX11_rank_all7.2.2.2.2.2.2.2.2.2.2.1
theorem dX11_rank_181 : decode cX11_rank 181 = .ok (.iload 10, 2) := dX11_rank_all7.2.2.2.2.2.2.2.2.2.2.2
theorem dX11_rank_all8 : decode cX11_rank 183 = .ok (.lshl, 1) ∧ decode cX11_rank 184 = .ok (.lor, 1) ∧ decode cX11_rank 185 = .ok (.lstore 6, 2) ∧ decode cX11_rank 187 = .ok (.aload_n 0, 1) ∧ decode cX11_rank 188 = .ok (.getfield 72, 3) ∧ decode cX11_rank 191 = .ok (.iload 10, 2) ∧ decode cX11_rank 193 = .ok (.iaload, 1) ∧ decode cX11_rank 194 = .ok (.iload 8, 2) ∧ decode cX11_rank 196 = .ok (.if_icmp .ge 13, 3) ∧ decode cX11_rank 199 = .ok (.aload_n 0, 1) ∧ decode cX11_rank 200 = .ok (.getfield 72, 3) ∧ decode cX11_rank 203 = .ok (.iload 10, 2) := by decide +kernel
theorem dX11_rank_183 : decode cX11_rank 183 = .ok (.lshl, 1) := dX11_rank_all8.1
theorem dX11_rank_184 : decode cX11_rank 184 = .ok (.lor, 1) := dX11_rank_all8.2.1
theorem dX11_rank_185 : decode cX11_rank 185 = .ok (.lstore 6, 2) := dX11_rank_all8.2.2.1
theorem dX11_rank_187 : decode cX11_rank 187 = .ok (.aload_n 0, 1) := dX11_rank_all8.2.2.2.1
theorem dX11_rank_188 : decode cX11_rank 188 = .ok (.getfield 72, 3) := dX11_rank_all8.2.2.2.2.1
theorem dX11_rank_191 : decode cX11_rank 191 = .ok (.iload 10, 2) := dX11_rank_all8.2.2.2.2.2.1
theorem dX11_rank_193 : decode cX11_rank 193 = .ok (.iaload, 1) := dX11_rank_all8.2.2.2.2.2.2.1
theorem dX11_rank_194 : decode cX11_rank 194 = .ok (.iload 8, 2) := dX11_rank_all8.2.2.2.2.2.2.2.1
theorem dX11_rank_196 : decode cX11_rank 196 = .ok (.if_icmp .ge 13, 3) := dX11_rank_all8.2.2.2.2.2.2.2.2.1
theorem dX11_rank_199 : decode cX11_rank 199 = .ok (.aload_n 0, 1) := dX11_rank_all8.2.2.2.2.2.2.2.2.2.1
theorem dX11_rank_200 : decode cX11_rank 200 = .ok (.getfield 72, 3) := dX11_rank_all8.2.2.2.2.2.2.2.2.2.2.1
theorem dX11_rank_203 : decode cX11_rank 203 = .ok (.iload 10, 2) := dX11_rank_all8.2.2.2.2.2.2.2.2.2.2.2
theorem dX11_rank_all9 : decode cX11_rank 205 = .ok (.iaload, 1) ∧ decode cX11_rank 206 = .ok (.goto 5, 3) ∧ decode cX11_rank 209 = .ok (.iload 8, 2) ∧ decode cX11_rank 211 = .ok (.istore 11, 2) ∧ decode cX11_rank 213 = .ok (.iload 8, 2) ∧ decode cX11_rank 215 = .ok (.iload 11, 2) ∧ decode cX11_rank 217 = .ok (.isub, 1) ∧ decode cX11_rank 218 = .ok (.istore 8, 2) ∧ decode cX11_rank 220 = .ok (.iload 9, 2) ∧ decode cX11_rank 222 = .ok (.iload 4, 2) ∧ decode cX11_rank 224 = .ok (.if_icmp .ne 16, 3) ∧ decode cX11_rank 227 = .ok (.iload 5, 2) := by decide +kernel
theorem dX11_rank_205 : decode cX11_rank 205 = .ok (.iaload, 1) := dX11_rank_all9.1
theorem dX11_rank_206 : decode cX11_rank 206 = .ok (.goto 5, 3) := dX11_rank_all9.2.1
theorem dX11_rank_209 : decode cX11_rank 209 = .ok (.iload 8, 2) := dX11_rank_all9.2.2.1
theorem dX11_rank_211 : decode cX11_rank 211 = .ok (.istore 11, 2) := dX11_rank_all9.2.2.2.1
theorem dX11_rank_213 : decode cX11_rank 213 = .ok (.iload 8, 2) := dX11_rank_all9.2.2.2.2.1
theorem dX11_rank_215 : decode cX11_rank 215 = .ok (.iload 11, 2) := dX11_rank_all9.2.2.2.2.2.1
theorem dX11_rank_217 : decode cX11_rank 217 = .ok (.isub, 1) := dX11_rank_all9.2.2.2.2.2.2.1
theorem dX11_rank_218 : decode cX11_rank 218 = .ok (.istore 8, 2) := dX11_rank_all9.2.2.2.2.2.2.2.1
theorem dX11_rank_220 : decode cX11_rank 220 = .ok (.iload 9, 2) := dX11_rank_all9.2.2.2.2.2.2.2.2.1
theorem dX11_rank_222 : decode cX11_rank 222 = .ok (.iload 4, 2) := dX11_rank_all9.2.2.2.2.2.2.2.2.2.1
theorem dX11_rank_224 : decode cX11_rank 224 = .ok (.if_icmp .ne 16, 3) := dX11_rank_all9.2.2.2.2.2.2.2.2.2.2.1
theorem dX11_rank_227 : decode cX11_rank 227 = .ok (.iload 5, 2) := dX11_rank_all9.2.2.2.2.2.2.2.2.2.2.2
theorem dX11_rank_all10 : decode cX11_rank 229 = .ok (.ifCond .ne 8, 3) ∧ decode cX11_rank 232 = .ok (.iload 10, 2) ∧ decode cX11_rank 234 = .ok (.goto 5, 3) ∧ decode cX11_rank 237 = .ok (.iload 11, 2) ∧ decode cX11_rank 239 = .ok (.ireturn, 1) ∧ decode cX11_rank 240 = .ok (.iinc 9 1, 3) ∧ decode cX11_rank 243 = .ok (.goto (-183), 3) ∧ decode cX11_rank 246 = .ok (.ldc 139, 2) ∧ decode cX11_rank 248 = .ok (.ireturn, 1) := by decide +kernel
theorem dX11_rank_229 : decode cX11_rank 229 = .ok (.ifCond .ne 8, 3) := dX11_rank_all10.1
theorem dX11_rank_232 : decode cX11_rank 232 = .ok (.iload 10, 2) := dX11_rank_all10.2.1
theorem dX11_rank_234 : decode cX11_rank 234 = .ok (.goto 5, 3) := dX11_rank_all10.2.2.1
theorem dX11_rank_237 : decode cX11_rank 237 = .ok (.iload 11, 2) := dX11_rank_all10.2.2.2.1
theorem dX11_rank_239 : decode cX11_rank 239 = .ok (.ireturn, 1) := dX11_rank_all10.2.2.2.2.1
theorem dX11_rank_240 : decode cX11_rank 240 = .ok (.iinc 9 1, 3) := dX11_rank_all10.2.2.2.2.2.1
theorem dX11_rank_243 : decode cX11_rank 243 = .ok (.goto (-183), 3) := dX11_rank_all10.2.2.2.2.2.2.1
theorem dX11_rank_246 : decode cX11_rank 246 = .ok (.ldc 139, 2) := dX11_rank_all10.2.2.2.2.2.2.2.1
theorem dX11_rank_248 : decode cX11_rank 248 = .ok (.ireturn, 1) := dX11_rank_all10.2.2.2.2.2.2.2.2
set_option maxHeartbeats 4000000 in
set_option maxRecDepth 100000 in
theorem ct_X11_keyOf (l : Launch) (D : va_G) (cI cY cJ cQ : ClassId) (sz : Nat) (md : Nat → Nat) (sd : Int32) (mth mst hn cn pn mq gn mln mnn ln mlt msz mcu mtk mfr mti mfa mfb an un lc td mtn : Int32) (gk gs gd ge : Nat → Int32) (k : Int32) (z9 : Int32)  (h1 : 0 ≤ k.toInt) (h2 : k.toInt < 40)  : Met l yX11_keyOf wsX11_keyOf ({ frames := 0, cells := 0, slots := 0, locals := 0 }) (cPre D (ty4 cI cY cJ cQ) [(moC md sd mth mst hn cn pn mq gn mln mnn ln mlt msz mcu mtk mfr mti mfa mfb an un lc td mtn), (aI cI (md 26) 40 gk), (aI cI (md 27) 40 gs), (aI cI (md 28) 40 gd), (aI cI (md 29) 40 ge)] sz [.ref (md 64), .int k, .int z9]) (va_Qi (fun (r : Int32) (u : Unit) => True) (cB D (ty4 cI cY cJ cQ) (fun (u : Unit) => [(moC md sd mth mst hn cn pn mq gn mln mnn ln mlt msz mcu mtk mfr mti mfa mfb an un lc td mtn), (aI cI (md 26) 40 gk), (aI cI (md 27) 40 gs), (aI cI (md 28) 40 gd), (aI cI (md 29) 40 ge)]) (va_A [(moC md sd mth mst hn cn pn mq gn mln mnn ln mlt msz mcu mtk mfr mti mfa mfb an un lc td mtn), (aI cI (md 26) 40 gk), (aI cI (md 27) 40 gs), (aI cI (md 28) 40 gd), (aI cI (md 29) 40 ge)] sz)) (va_A [(moC md sd mth mst hn cn pn mq gn mln mnn ln mlt msz mcu mtk mfr mti mfa mfb an un lc td mtn), (aI cI (md 26) 40 gk), (aI cI (md 27) 40 gs), (aI cI (md 28) 40 gd), (aI cI (md 29) 40 ge)] sz)) 0 0 (va_A [(moC md sd mth mst hn cn pn mq gn mln mnn ln mlt msz mcu mtk mfr mti mfa mfb an un lc td mtn), (aI cI (md 26) 40 gk), (aI cI (md 27) 40 gs), (aI cI (md 28) 40 gd), (aI cI (md 29) 40 ge)] sz) := by
  refine Met.ofW (cc := cX11_keyOf) (maxL := 3) (ret := (some .int)) (by decide) rfl ?_
  intro p e s m args below meth c s₁ B hml hv
  obtain ⟨rfl, hsz, hP, hK, hD0, hN⟩ := hv
  have hx := B.exec
  have hb := B.bytes
  have hr := B.returns
  have hts := atoms_spec (ws := wsX11_keyOf) B.pre
  have hown : s.vm.findClass RX11 = some m.cls := findClass_of_methodNamed B.named
  have hlocks := B.notSynchronized
  subst hsz
  have hD := hD0.self (sz := s.heap.size)
  generalize hAe : va_A [(moC md sd mth mst hn cn pn mq gn mln mnn ln mlt msz mcu mtk mfr mti mfa mfb an un lc td mtn), (aI cI (md 26) 40 gk), (aI cI (md 27) 40 gs), (aI cI (md 28) 40 gd), (aI cI (md 29) 40 ge)] s.heap.size = A at hD ⊢
  have hA : ∀ q : Nat, s.heap.size ≤ q → A q := fun q h => by rw [← hAe]; exact Or.inr h
  have hS : va_S A s.heap s.heap [] := va_S.rf
  have hP : va_P D vwCl [(moC md sd mth mst hn cn pn mq gn mln mnn ln mlt msz mcu mtk mfr mti mfa mfb an un lc td mtn), (aI cI (md 26) 40 gk), (aI cI (md 27) 40 gs), (aI cI (md 28) 40 gd), (aI cI (md 29) 40 ge)] s.heap := hP
  have hl := lv_entry ([.ref (md 64), .int k, .int z9]) (n := 3) (Nat.le_of_ble_eq_true rfl)
  rw [lg_entry_eq]
  generalize (lg_sl ([.ref (md 64), .int k, .int z9]) ++ List.replicate (3 - (lg_sl ([.ref (md 64), .int k, .int z9])).length) Slot.unset).toArray = ls at hl ⊢
  have hl : lv_has ls 3 [(0, .ref (md 64)), (1, .int k), (2, .int z9)] := hl
  have k0 : (0 : Int32).toInt = 0 := by decide
  have k1 : (1 : Int32).toInt = 1 := by decide
  have k2 : (2 : Int32).toInt = 2 := by decide
  refine lv_iload_n hx hb dX11_keyOf_0 rfl (lv_at hl 2 rfl) ?_
  refine lv_if_ne (tgt := 13) hx hb dX11_keyOf_1 (by decide) (fun c1 => ?_) (fun c1 => ?_)
  · skip
    have f2 := i_ne c1
    refine lv_iload_n hx hb dX11_keyOf_13 rfl (lv_at hl 2 rfl) ?_
    refine lv_iconst (v := 1) hx hb dX11_keyOf_14 (by decide) ?_
    refine lv_icmp_ne (tgt := 27) hx hb dX11_keyOf_15 (by decide) (fun c3 => ?_) (fun c3 => ?_)
    · skip
      have f4 := i_ne c3
      refine lv_iload_n hx hb dX11_keyOf_27 rfl (lv_at hl 2 rfl) ?_
      refine lv_iconst (v := 2) hx hb dX11_keyOf_28 (by decide) ?_
      refine lv_icmp_ne (tgt := 42) hx hb dX11_keyOf_29 (by decide) (fun c5 => ?_) (fun c5 => ?_)
      · skip
        have f6 := i_ne c5
        refine lv_aload_n hx hb dX11_keyOf_42 rfl (lv_at hl 0 rfl) ?_
        refine va_get (D := D) (ci := 11) (v := .ref (md 29)) (C := RX11) (T := TX11) (N := 64) hx hb hts inX11_keyOf_X11 hown hK hP 0 rfl rfl 29 (by decide) (hts (Cond.fieldLink RX11 78 "PortRoomsModel" "pledgeFiled" "[I") (wm_t (wm_l (wm_i 0 rfl)))) (fun _ h9 => h9) rfl dX11_keyOf_43 ?_
        refine lv_iload_n hx hb dX11_keyOf_46 rfl (lv_at hl 1 rfl) ?_
        refine va_iald hx hb hK hP 4 0 rfl rfl (i_in (by omega) (by omega)) dX11_keyOf_47 ?_
        refine lv_topi (fun v7 ev7 => ?_)
        refine lv_ineg hx hb dX11_keyOf_48 ?_
        refine lv_topi (fun v8 ev8 => ?_)
        have hP9 := hP
        have hD9 := hD
        exact W.iret (v := v8) hx hb hr (fun t ht hW => ⟨⟨v8, (), rfl, trivial, by rw [ht]; exact hP9, va_K.moved hW.alike hK, hD9⟩, hS.F ht⟩) hS.2.2 dX11_keyOf_49
      · skip
        have f9 := i_eq c5
        refine lv_aload_n hx hb dX11_keyOf_32 rfl (lv_at hl 0 rfl) ?_
        refine va_get (D := D) (ci := 11) (v := .ref (md 27)) (C := RX11) (T := TX11) (N := 64) hx hb hts inX11_keyOf_X11 hown hK hP 0 rfl rfl 27 (by decide) (hts (Cond.fieldLink RX11 72 "PortRoomsModel" "pledgeSum" "[I") (wm_t (wm_l (wm_i 2 rfl)))) (fun _ h9 => h9) rfl dX11_keyOf_33 ?_
        refine lv_iload_n hx hb dX11_keyOf_36 rfl (lv_at hl 1 rfl) ?_
        refine va_iald hx hb hK hP 2 0 rfl rfl (i_in (by omega) (by omega)) dX11_keyOf_37 ?_
        refine lv_topi (fun v10 ev10 => ?_)
        refine lv_ineg hx hb dX11_keyOf_38 ?_
        refine lv_topi (fun v11 ev11 => ?_)
        refine lv_goto (tgt := 49) hx hb dX11_keyOf_39 (by decide) ?_
        have hP9 := hP
        have hD9 := hD
        exact W.iret (v := v11) hx hb hr (fun t ht hW => ⟨⟨v11, (), rfl, trivial, by rw [ht]; exact hP9, va_K.moved hW.alike hK, hD9⟩, hS.F ht⟩) hS.2.2 dX11_keyOf_49
    · skip
      have f12 := i_eq c3
      refine lv_aload_n hx hb dX11_keyOf_18 rfl (lv_at hl 0 rfl) ?_
      refine va_get (D := D) (ci := 11) (v := .ref (md 28)) (C := RX11) (T := TX11) (N := 64) hx hb hts inX11_keyOf_X11 hown hK hP 0 rfl rfl 28 (by decide) (hts (Cond.fieldLink RX11 75 "PortRoomsModel" "pledgeSaid" "[I") (wm_t (wm_l (wm_i 1 rfl)))) (fun _ h9 => h9) rfl dX11_keyOf_19 ?_
      refine lv_iload_n hx hb dX11_keyOf_22 rfl (lv_at hl 1 rfl) ?_
      refine va_iald hx hb hK hP 3 0 rfl rfl (i_in (by omega) (by omega)) dX11_keyOf_23 ?_
      refine lv_topi (fun v13 ev13 => ?_)
      refine lv_goto (tgt := 49) hx hb dX11_keyOf_24 (by decide) ?_
      have hP9 := hP
      have hD9 := hD
      exact W.iret (v := v13) hx hb hr (fun t ht hW => ⟨⟨v13, (), rfl, trivial, by rw [ht]; exact hP9, va_K.moved hW.alike hK, hD9⟩, hS.F ht⟩) hS.2.2 dX11_keyOf_49
  · skip
    have f14 := i_eq c1
    refine lv_aload_n hx hb dX11_keyOf_4 rfl (lv_at hl 0 rfl) ?_
    refine va_get (D := D) (ci := 11) (v := .ref (md 29)) (C := RX11) (T := TX11) (N := 64) hx hb hts inX11_keyOf_X11 hown hK hP 0 rfl rfl 29 (by decide) (hts (Cond.fieldLink RX11 78 "PortRoomsModel" "pledgeFiled" "[I") (wm_t (wm_l (wm_i 0 rfl)))) (fun _ h9 => h9) rfl dX11_keyOf_5 ?_
    refine lv_iload_n hx hb dX11_keyOf_8 rfl (lv_at hl 1 rfl) ?_
    refine va_iald hx hb hK hP 4 0 rfl rfl (i_in (by omega) (by omega)) dX11_keyOf_9 ?_
    refine lv_topi (fun v15 ev15 => ?_)
    refine lv_goto (tgt := 49) hx hb dX11_keyOf_10 (by decide) ?_
    have hP9 := hP
    have hD9 := hD
    exact W.iret (v := v15) hx hb hr (fun t ht hW => ⟨⟨v15, (), rfl, trivial, by rw [ht]; exact hP9, va_K.moved hW.alike hK, hD9⟩, hS.F ht⟩) hS.2.2 dX11_keyOf_49

set_option maxHeartbeats 4000000 in
set_option maxRecDepth 100000 in
theorem ct_X11_rank (l : Launch) (D : va_G) (cI cY cJ cQ : ClassId) (sz : Nat) (md : Nat → Nat) (sd : Int32) (mth mst hn cn pn mq gn mln mnn ln mlt msz mcu mtk mfr mti mfa mfb an un lc td mtn : Int32) (wo gk gs gd ge : Nat → Int32) (k : Int32) (d : Int32) (zl : Int32) (i : Int32) (w : Int32)  (h1 : 0 ≤ cn.toInt) (h2 : cn.toInt ≤ 12) (h3 : 0 ≤ gn.toInt) (h4 : gn.toInt ≤ 40)  : Met l yX11_rank wsX11_rank ({ frames := 2, cells := 0, slots := 0, locals := 46 }) (cPre D (ty4 cI cY cJ cQ) [(moC md sd mth mst hn cn pn mq gn mln mnn ln mlt msz mcu mtk mfr mti mfa mfb an un lc td mtn), (aI cI (md 17) 12 wo), (aI cI (md 26) 40 gk), (aI cI (md 27) 40 gs), (aI cI (md 28) 40 gd), (aI cI (md 29) 40 ge)] sz [.ref (md 64), .int k, .int d, .int zl, .int i, .int w]) (va_Qi (fun (r : Int32) (u : Unit) => True) (cB D (ty4 cI cY cJ cQ) (fun (u : Unit) => [(moC md sd 0 mst hn cn pn mq gn mln mnn ln mlt msz mcu mtk mfr mti mfa mfb an un lc td mtn), (aI cI (md 17) 12 wo), (aI cI (md 26) 40 gk), (aI cI (md 27) 40 gs), (aI cI (md 28) 40 gd), (aI cI (md 29) 40 ge)]) (va_A [(moC md sd mth mst hn cn pn mq gn mln mnn ln mlt msz mcu mtk mfr mti mfa mfb an un lc td mtn), (aI cI (md 17) 12 wo), (aI cI (md 26) 40 gk), (aI cI (md 27) 40 gs), (aI cI (md 28) 40 gd), (aI cI (md 29) 40 ge)] sz)) (va_A [(moC md sd mth mst hn cn pn mq gn mln mnn ln mlt msz mcu mtk mfr mti mfa mfb an un lc td mtn), (aI cI (md 17) 12 wo), (aI cI (md 26) 40 gk), (aI cI (md 27) 40 gs), (aI cI (md 28) 40 gd), (aI cI (md 29) 40 ge)] sz)) 0 0 (va_A [(moC md sd mth mst hn cn pn mq gn mln mnn ln mlt msz mcu mtk mfr mti mfa mfb an un lc td mtn), (aI cI (md 17) 12 wo), (aI cI (md 26) 40 gk), (aI cI (md 27) 40 gs), (aI cI (md 28) 40 gd), (aI cI (md 29) 40 ge)] sz) := by
  refine Met.ofW (cc := cX11_rank) (maxL := 13) (ret := (some .int)) (by decide) rfl ?_
  intro p e s m args below meth c s₁ B hml hv
  obtain ⟨rfl, hsz, hP, hK, hD0, hN⟩ := hv
  have hx := B.exec
  have hb := B.bytes
  have hr := B.returns
  have hts := atoms_spec (ws := wsX11_rank) B.pre
  have hown : s.vm.findClass RX11 = some m.cls := findClass_of_methodNamed B.named
  have hlocks := B.notSynchronized
  subst hsz
  have hD := hD0.self (sz := s.heap.size)
  generalize hAe : va_A [(moC md sd mth mst hn cn pn mq gn mln mnn ln mlt msz mcu mtk mfr mti mfa mfb an un lc td mtn), (aI cI (md 17) 12 wo), (aI cI (md 26) 40 gk), (aI cI (md 27) 40 gs), (aI cI (md 28) 40 gd), (aI cI (md 29) 40 ge)] s.heap.size = A at hD ⊢
  have hA : ∀ q : Nat, s.heap.size ≤ q → A q := fun q h => by rw [← hAe]; exact Or.inr h
  have hS : va_S A s.heap s.heap [] := va_S.rf
  have hP : va_P D vwCl [(moC md sd mth mst hn cn pn mq gn mln mnn ln mlt msz mcu mtk mfr mti mfa mfb an un lc td mtn), (aI cI (md 17) 12 wo), (aI cI (md 26) 40 gk), (aI cI (md 27) 40 gs), (aI cI (md 28) 40 gd), (aI cI (md 29) 40 ge)] s.heap := hP
  have hl := lv_entry ([.ref (md 64), .int k, .int d, .int zl, .int i, .int w]) (n := 13) (Nat.le_of_ble_eq_true rfl)
  rw [lg_entry_eq]
  generalize (lg_sl ([.ref (md 64), .int k, .int d, .int zl, .int i, .int w]) ++ List.replicate (13 - (lg_sl ([.ref (md 64), .int k, .int d, .int zl, .int i, .int w])).length) Slot.unset).toArray = ls at hl ⊢
  have hl : lv_has ls 13 [(0, .ref (md 64)), (1, .int k), (2, .int d), (3, .int zl), (4, .int i), (5, .int w)] := hl
  have km1000000 : (-1000000 : Int32).toInt = -1000000 := by decide
  have k0 : (0 : Int32).toInt = 0 := by decide
  have k1 : (1 : Int32).toInt = 1 := by decide
  have kl0 : (0 : Int64).toInt = 0 := by decide
  have kl1 : (1 : Int64).toInt = 1 := by decide
  have kl3 : (3 : Int64).toInt = 3 := by decide
  refine lv_aload_n hx hb dX11_rank_0 rfl (lv_at hl 0 rfl) ?_
  refine lv_iconst (v := 0) hx hb dX11_rank_1 (by decide) ?_
  refine va_put (D := D) (ci := 11) (v := .int 0) (ty := .int) (C := RX11) (T := TX11) (N := 64) hx hb hts inX11_rank_X11 tyX11 tyX11_ok nmX11 hown hK hP hD hS 0 rfl rfl 0 (by decide) (hts (Cond.fieldLink RX11 1 "PortRoomsModel" "thrown" "I") (wm_t (wm_l (wm_i 0 rfl)))) (fun _ h9 => h9) rfl (tyX11_ok 0 (by decide)) rfl rfl (Nat.le_of_ble_eq_true rfl) dX11_rank_2 (fun H locs => ?_)
  clear hP hD hS
  intro hP hD hS
  replace hP : va_P D vwCl [(moC md sd (0) mst hn cn pn mq gn mln mnn ln mlt msz mcu mtk mfr mti mfa mfb an un lc td mtn), (aI cI (md 17) 12 wo), (aI cI (md 26) 40 gk), (aI cI (md 27) 40 gs), (aI cI (md 28) 40 gd), (aI cI (md 29) 40 ge)] H := hP
  replace hD : va_D A [(moC md sd (0) mst hn cn pn mq gn mln mnn ln mlt msz mcu mtk mfr mti mfa mfb an un lc td mtn), (aI cI (md 17) 12 wo), (aI cI (md 26) 40 gk), (aI cI (md 27) 40 gs), (aI cI (md 28) 40 gd), (aI cI (md 29) 40 ge)] := hD
  refine lv_aload_n hx hb dX11_rank_5 rfl (lv_at hl 0 rfl) ?_
  refine lv_iload_n hx hb dX11_rank_6 rfl (lv_at hl 1 rfl) ?_
  refine st_i1 (va_runV (C := RX11) (As := [.int k]) (rest := []) ⟨hx, hb, hml, hown, hts⟩ (ct_X11_isCrate l D cI cY cJ cQ _ md sd 0 mst hn cn pn mq gn mln mnn ln mlt msz mcu mtk mfr mti mfa mfb an un lc td mtn k h1 h2) (cwV 1 hts gX11_rank_X11_isCrate rfl rfl rfl ⟨rfl, cdX11_isCrate⟩ ⟨Nat.le_of_ble_eq_true rfl, Nat.le_of_ble_eq_true rfl⟩) (cPreV (hP.sub [0] rfl) hK (hD.sub [0] (by decide +kernel) rfl) hN (ci := 11) (q0 := 0) rfl rfl) rfl rfl hl.1 rfl (lv_room (Nat.le_of_ble_eq_true rfl)) dX11_rank_7 ⟨Nat.le_of_ble_eq_true rfl, Nat.le_of_ble_eq_true rfl⟩) hP hD hS hA [0] rfl (fun _ => rfl) (fun r3 u1 H locs hw2 => ?_)
  clear hP hS
  intro hP hS
  replace hw2 : r3 = if 0 ≤ k.toInt ∧ k.toInt < cn.toInt then 1 else 0 := hw2
  refine lv_if_eq (tgt := 43) hx hb dX11_rank_10 (by decide) (fun c4 => ?_) (fun c4 => ?_)
  · skip
    have f5 := bo_f hw2 c4
    refine lv_ldc hx hb hown (hts (Cond.constant RX11 157 (-1000001)) (wm_t (wm_l (wm_i 2 rfl)))) dX11_rank_43 ?_
    have hP9 := hP
    have hD9 := hD
    exact W.iret (v := (-1000001)) hx hb hr (fun t ht hW => ⟨⟨(-1000001), (), rfl, trivial, by rw [ht]; exact hP9, va_K.moved hW.alike hK, hD9⟩, hS.F ht⟩) hS.2.2 dX11_rank_45
  · skip
    have f6 := bo_t hw2 c4
    refine lv_iload_n hx hb dX11_rank_13 rfl (lv_at hl 2 rfl) ?_
    refine st_i1 (va_runS (As := [.int d]) (rest := []) ⟨hx, hb, hml, hown, hts⟩ (ct_X11_isDay l D cI cY cJ cQ _ d) (va_cwS 1 hts gX11_rank_X11_isDay rfl rfl rfl cdX11_isDay ⟨Nat.le_of_ble_eq_true rfl, Nat.le_of_ble_eq_true rfl⟩) (cPreS (hP.sub [] rfl) hK (hD.sub [] (by decide +kernel) rfl) hN) rfl rfl hl.1 rfl (lv_room (Nat.le_of_ble_eq_true rfl)) dX11_rank_14 ⟨Nat.le_of_ble_eq_true rfl, Nat.le_of_ble_eq_true rfl⟩) hP hD hS hA [] rfl (fun _ => rfl) (fun r9 u7 H locs hw8 => ?_)
    clear hP hS
    intro hP hS
    replace hw8 : r9 = if 0 ≤ d.toInt ∧ d.toInt ≤ 9999 then 1 else 0 := hw8
    refine lv_if_eq (tgt := 43) hx hb dX11_rank_17 (by decide) (fun c10 => ?_) (fun c10 => ?_)
    · skip
      have f11 := bo_f hw8 c10
      refine lv_ldc hx hb hown (hts (Cond.constant RX11 157 (-1000001)) (wm_t (wm_l (wm_i 2 rfl)))) dX11_rank_43 ?_
      have hP9 := hP
      have hD9 := hD
      exact W.iret (v := (-1000001)) hx hb hr (fun t ht hW => ⟨⟨(-1000001), (), rfl, trivial, by rw [ht]; exact hP9, va_K.moved hW.alike hK, hD9⟩, hS.F ht⟩) hS.2.2 dX11_rank_45
    · skip
      have f12 := bo_t hw8 c10
      refine lv_iload_n hx hb dX11_rank_20 rfl (lv_at hl 3 rfl) ?_
      refine lv_i2l hx hb dX11_rank_21 rfl ?_
      have w13 := i_w zl
      have w14 := i_rng zl
      refine lv_lconst (v := 0) hx hb dX11_rank_22 (by decide) ?_
      refine lv_ldc2 hx hb hown (hts (Cond.constantLong RX11 234 (3)) (wm_t (wm_l (wm_i 1 rfl)))) dX11_rank_23 ?_
      refine st_i1 (va_runS (As := [.long (zl.toInt64), .long 0, .long 3]) (rest := []) ⟨hx, hb, hml, hown, hts⟩ (ct_X11_in l D cI cY cJ cQ _ zl.toInt64 (0 : Int64) (3 : Int64)) (va_cwS 3 hts gX11_rank_X11_in rfl rfl rfl cdX11_in ⟨Nat.le_of_ble_eq_true rfl, Nat.le_of_ble_eq_true rfl⟩) (cPreS (hP.sub [] rfl) hK (hD.sub [] (by decide +kernel) rfl) hN) rfl rfl hl.1 rfl (lv_room (Nat.le_of_ble_eq_true rfl)) dX11_rank_26 ⟨Nat.le_of_ble_eq_true rfl, Nat.le_of_ble_eq_true rfl⟩) hP hD hS hA [] rfl (fun _ => rfl) (fun r17 u15 H locs hw16 => ?_)
      clear hP hS
      intro hP hS
      replace hw16 : r17 = if (0 : Int64).toInt ≤ zl.toInt64.toInt ∧ zl.toInt64.toInt ≤ (3 : Int64).toInt then 1 else 0 := hw16
      refine lv_if_eq (tgt := 43) hx hb dX11_rank_29 (by decide) (fun c18 => ?_) (fun c18 => ?_)
      · skip
        have f19 := bo_f hw16 c18
        refine lv_ldc hx hb hown (hts (Cond.constant RX11 157 (-1000001)) (wm_t (wm_l (wm_i 2 rfl)))) dX11_rank_43 ?_
        have hP9 := hP
        have hD9 := hD
        exact W.iret (v := (-1000001)) hx hb hr (fun t ht hW => ⟨⟨(-1000001), (), rfl, trivial, by rw [ht]; exact hP9, va_K.moved hW.alike hK, hD9⟩, hS.F ht⟩) hS.2.2 dX11_rank_45
      · skip
        have f20 := bo_t hw16 c18
        refine lv_iload hx hb dX11_rank_32 (lv_at hl 5 rfl) ?_
        refine lv_i2l hx hb dX11_rank_34 rfl ?_
        have w21 := i_w w
        have w22 := i_rng w
        refine lv_lconst (v := 0) hx hb dX11_rank_35 (by decide) ?_
        refine lv_lconst (v := 1) hx hb dX11_rank_36 (by decide) ?_
        refine st_i1 (va_runS (As := [.long (w.toInt64), .long 0, .long 1]) (rest := []) ⟨hx, hb, hml, hown, hts⟩ (ct_X11_in l D cI cY cJ cQ _ w.toInt64 (0 : Int64) (1 : Int64)) (va_cwS 3 hts gX11_rank_X11_in rfl rfl rfl cdX11_in ⟨Nat.le_of_ble_eq_true rfl, Nat.le_of_ble_eq_true rfl⟩) (cPreS (hP.sub [] rfl) hK (hD.sub [] (by decide +kernel) rfl) hN) rfl rfl hl.1 rfl (lv_room (Nat.le_of_ble_eq_true rfl)) dX11_rank_37 ⟨Nat.le_of_ble_eq_true rfl, Nat.le_of_ble_eq_true rfl⟩) hP hD hS hA [] rfl (fun _ => rfl) (fun r25 u23 H locs hw24 => ?_)
        clear hP hS
        intro hP hS
        replace hw24 : r25 = if (0 : Int64).toInt ≤ w.toInt64.toInt ∧ w.toInt64.toInt ≤ (1 : Int64).toInt then 1 else 0 := hw24
        refine lv_if_ne (tgt := 46) hx hb dX11_rank_40 (by decide) (fun c26 => ?_) (fun c26 => ?_)
        · skip
          have f27 := bo_t hw24 c26
          refine lv_lconst (v := 0) hx hb dX11_rank_46 (by decide) ?_
          refine lv_lstore (lv' := [(6, .long 0), (0, .ref (md 64)), (1, .int k), (2, .int d), (3, .int zl), (4, .int i), (5, .int w)]) hx hb dX11_rank_47 hl (by decide) rfl (fun ls hl => ?_)
          refine lv_aload_n hx hb dX11_rank_49 rfl (lv_at hl 1 rfl) ?_
          refine va_get (D := D) (ci := 11) (v := .ref (md 17)) (C := RX11) (T := TX11) (N := 64) hx hb hts inX11_rank_X11 hown hK hP 0 rfl rfl 17 (by decide) (hts (Cond.fieldLink RX11 51 "PortRoomsModel" "worth" "[I") (wm_t (wm_l (wm_i 3 rfl)))) (fun _ h9 => h9) rfl dX11_rank_50 ?_
          refine lv_iload_n hx hb dX11_rank_53 rfl (lv_at hl 2 rfl) ?_
          refine va_iald hx hb hK hP 1 0 rfl rfl (i_in (by omega) (by omega)) dX11_rank_54 ?_
          refine lv_topi (fun v28 ev28 => ?_)
          refine lv_istore (lv' := [(8, .int v28), (6, .long 0), (0, .ref (md 64)), (1, .int k), (2, .int d), (3, .int zl), (4, .int i), (5, .int w)]) hx hb dX11_rank_55 hl (by decide) rfl (fun ls hl => ?_)
          refine lv_iconst (v := 0) hx hb dX11_rank_57 (by decide) ?_
          refine lv_istore (lv' := [(9, .int 0), (8, .int v28), (6, .long 0), (0, .ref (md 64)), (1, .int k), (2, .int d), (3, .int zl), (4, .int i), (5, .int w)]) hx hb dX11_rank_58 hl (by decide) rfl (fun ls hl => ?_)
          refine st_loop 60 (fun _ => []) (fun (z : Int64 × Int32 × Int32) (ls : Array Slot) (H : Heap) (locs : List Loc) => match z with | (q60_6, q60_8, q60_9) => lv_has ls 13 [(0, .ref (md 64)), (1, .int k), (2, .int d), (3, .int zl), (4, .int i), (5, .int w), (6, .long q60_6), (8, .int q60_8), (9, .int q60_9)] ∧ va_P D vwCl [(moC md sd (0) mst hn cn pn mq gn mln mnn ln mlt msz mcu mtk mfr mti mfa mfb an un lc td mtn), (aI cI (md 17) 12 wo), (aI cI (md 26) 40 gk), (aI cI (md 27) 40 gs), (aI cI (md 28) 40 gd), (aI cI (md 29) 40 ge)] H ∧ va_D A [(moC md sd (0) mst hn cn pn mq gn mln mnn ln mlt msz mcu mtk mfr mti mfa mfb an un lc td mtn), (aI cI (md 17) 12 wo), (aI cI (md 26) 40 gk), (aI cI (md 27) 40 gs), (aI cI (md 28) 40 gd), (aI cI (md 29) 40 ge)] ∧ va_S A s.heap H locs) (fun (z : Int64 × Int32 × Int32) => match z with | (q60_6, q60_8, q60_9) => 40 - (nbL q60_6 40 : Int)) ?_ ?_ ((0 : Int64), v28, (0 : Int32)) ⟨lv_sub hl [3, 4, 5, 6, 7, 8, 2, 1, 0] rfl, hP, hD, hS⟩
          · rintro ⟨q60_6, q60_8, q60_9⟩ ls H locs ⟨hl, hP, hD, hS⟩
            show (0 : Int) ≤ 40 - (nbL q60_6 40 : Int)
            have := nbL_le q60_6 40; omega
          · rintro n31 ih29 ⟨q60_6, q60_8, q60_9⟩ ls H locs ⟨hl, hP, hD, hS⟩ hm30
            have hm30 : 40 - (nbL q60_6 40 : Int) < (n31 : Int) + 1 := hm30
            replace hl : lv_has ls 13 [(0, .ref (md 64)), (1, .int k), (2, .int d), (3, .int zl), (4, .int i), (5, .int w), (6, .long q60_6), (8, .int q60_8), (9, .int q60_9)] := hl
            replace hP : va_P D vwCl [(moC md sd (0) mst hn cn pn mq gn mln mnn ln mlt msz mcu mtk mfr mti mfa mfb an un lc td mtn), (aI cI (md 17) 12 wo), (aI cI (md 26) 40 gk), (aI cI (md 27) 40 gs), (aI cI (md 28) 40 gd), (aI cI (md 29) 40 ge)] H := hP
            replace hD : va_D A [(moC md sd (0) mst hn cn pn mq gn mln mnn ln mlt msz mcu mtk mfr mti mfa mfb an un lc td mtn), (aI cI (md 17) 12 wo), (aI cI (md 26) 40 gk), (aI cI (md 27) 40 gs), (aI cI (md 28) 40 gd), (aI cI (md 29) 40 ge)] := hD
            show W _ _ _ _ _ _ _ _ _ _ _ _ _ _ _ (F0 m 60 ls [])
            refine lv_iload hx hb dX11_rank_60 (lv_at hl 8 rfl) ?_
            refine lv_iload hx hb dX11_rank_62 (lv_at hl 4 rfl) ?_
            refine lv_icmp_gt (tgt := 246) hx hb dX11_rank_64 (by decide) (fun c32 => ?_) (fun c32 => ?_)
            · skip
              have f33 := i_lt c32
              refine lv_ldc hx hb hown (hts (Cond.constant RX11 139 (-1000000)) (wm_t (wm_l (wm_i 4 rfl)))) dX11_rank_246 ?_
              have hP9 := hP
              have hD9 := hD
              exact W.iret (v := (-1000000)) hx hb hr (fun t ht hW => ⟨⟨(-1000000), (), rfl, trivial, by rw [ht]; exact hP9, va_K.moved hW.alike hK, hD9⟩, hS.F ht⟩) hS.2.2 dX11_rank_248
            · skip
              have f34 := i_nlt c32
              refine lv_ldc hx hb hown (hts (Cond.constant RX11 139 (-1000000)) (wm_t (wm_l (wm_i 4 rfl)))) dX11_rank_67 ?_
              refine lv_istore (lv' := [(10, .int (-1000000)), (0, .ref (md 64)), (1, .int k), (2, .int d), (3, .int zl), (4, .int i), (5, .int w), (6, .long q60_6), (8, .int q60_8), (9, .int q60_9)]) hx hb dX11_rank_69 hl (by decide) rfl (fun ls hl => ?_)
              refine lv_iconst (v := 0) hx hb dX11_rank_71 (by decide) ?_
              refine lv_istore (lv' := [(11, .int 0), (10, .int (-1000000)), (0, .ref (md 64)), (1, .int k), (2, .int d), (3, .int zl), (4, .int i), (5, .int w), (6, .long q60_6), (8, .int q60_8), (9, .int q60_9)]) hx hb dX11_rank_72 hl (by decide) rfl (fun ls hl => ?_)
              refine st_loop 74 (fun _ => []) (fun (z : Int32 × Int32) (ls : Array Slot) (H : Heap) (locs : List Loc) => match z with | (q74_10, q74_11) => (0 ≤ q74_11.toInt) ∧ (q74_11.toInt ≤ gn.toInt) ∧ (q74_10.toInt = -1000000 ∨ (0 ≤ q74_10.toInt ∧ q74_10.toInt < gn.toInt)) ∧ (0 ≤ q74_10.toInt → btL q60_6 q74_10.toNatClampNeg = false) ∧ lv_has ls 13 [(0, .ref (md 64)), (1, .int k), (2, .int d), (3, .int zl), (4, .int i), (5, .int w), (6, .long q60_6), (8, .int q60_8), (9, .int q60_9), (10, .int q74_10), (11, .int q74_11)] ∧ va_P D vwCl [(moC md sd (0) mst hn cn pn mq gn mln mnn ln mlt msz mcu mtk mfr mti mfa mfb an un lc td mtn), (aI cI (md 17) 12 wo), (aI cI (md 26) 40 gk), (aI cI (md 27) 40 gs), (aI cI (md 28) 40 gd), (aI cI (md 29) 40 ge)] H ∧ va_D A [(moC md sd (0) mst hn cn pn mq gn mln mnn ln mlt msz mcu mtk mfr mti mfa mfb an un lc td mtn), (aI cI (md 17) 12 wo), (aI cI (md 26) 40 gk), (aI cI (md 27) 40 gs), (aI cI (md 28) 40 gd), (aI cI (md 29) 40 ge)] ∧ va_S A s.heap H locs) (fun (z : Int32 × Int32) => match z with | (q74_10, q74_11) => gn.toInt - q74_11.toInt) ?_ ?_ (((-1000000) : Int32), (0 : Int32)) ⟨(by omega), (by omega), (by omega), (by intro h9; exfalso; omega), lv_sub hl [2, 3, 4, 5, 6, 7, 8, 9, 10, 1, 0] rfl, hP, hD, hS⟩
              · rintro ⟨q74_10, q74_11⟩ ls H locs ⟨g35, g36, g37, g38, hl, hP, hD, hS⟩
                show (0 : Int) ≤ gn.toInt - q74_11.toInt
                omega
              · rintro n41 ih39 ⟨q74_10, q74_11⟩ ls H locs ⟨g35, g36, g37, g38, hl, hP, hD, hS⟩ hm40
                have hm40 : gn.toInt - q74_11.toInt < (n41 : Int) + 1 := hm40
                replace hl : lv_has ls 13 [(0, .ref (md 64)), (1, .int k), (2, .int d), (3, .int zl), (4, .int i), (5, .int w), (6, .long q60_6), (8, .int q60_8), (9, .int q60_9), (10, .int q74_10), (11, .int q74_11)] := hl
                replace hP : va_P D vwCl [(moC md sd (0) mst hn cn pn mq gn mln mnn ln mlt msz mcu mtk mfr mti mfa mfb an un lc td mtn), (aI cI (md 17) 12 wo), (aI cI (md 26) 40 gk), (aI cI (md 27) 40 gs), (aI cI (md 28) 40 gd), (aI cI (md 29) 40 ge)] H := hP
                replace hD : va_D A [(moC md sd (0) mst hn cn pn mq gn mln mnn ln mlt msz mcu mtk mfr mti mfa mfb an un lc td mtn), (aI cI (md 17) 12 wo), (aI cI (md 26) 40 gk), (aI cI (md 27) 40 gs), (aI cI (md 28) 40 gd), (aI cI (md 29) 40 ge)] := hD
                show W _ _ _ _ _ _ _ _ _ _ _ _ _ _ _ (F0 m 74 ls [])
                refine lv_iload hx hb dX11_rank_74 (lv_at hl 10 rfl) ?_
                refine lv_aload_n hx hb dX11_rank_76 rfl (lv_at hl 0 rfl) ?_
                refine va_get (D := D) (ci := 11) (v := .int gn) (C := RX11) (T := TX11) (N := 64) hx hb hts inX11_rank_X11 hown hK hP 0 rfl rfl 25 (by decide) (hts (Cond.fieldLink RX11 231 "PortRoomsModel" "pledges" "I") (wm_t (wm_l (wm_i 5 rfl)))) (fun _ h9 => h9) rfl dX11_rank_77 ?_
                refine lv_icmp_ge (tgt := 168) hx hb dX11_rank_80 (by decide) (fun c42 => ?_) (fun c42 => ?_)
                · skip
                  have f43 := i_le c42
                  refine lv_iload hx hb dX11_rank_168 (lv_at hl 9 rfl) ?_
                  refine lv_ldc hx hb hown (hts (Cond.constant RX11 139 (-1000000)) (wm_t (wm_l (wm_i 4 rfl)))) dX11_rank_170 ?_
                  refine lv_icmp_ne (tgt := 178) hx hb dX11_rank_172 (by decide) (fun c44 => ?_) (fun c44 => ?_)
                  · skip
                    have f45 := i_ne c44
                    refine lv_lload hx hb dX11_rank_178 (lv_at hl 6 rfl) ?_
                    refine lv_lconst (v := 1) hx hb dX11_rank_180 (by decide) ?_
                    refine lv_iload hx hb dX11_rank_181 (lv_at hl 9 rfl) ?_
                    refine lv_lshl hx hb dX11_rank_183 rfl ?_
                    refine lv_topl (fun z46 ez46 => ?_)
                    refine lv_lor hx hb dX11_rank_184 ?_
                    refine lv_topl (fun z47 ez47 => ?_)
                    refine lv_lstore (lv' := [(6, .long z47), (0, .ref (md 64)), (1, .int k), (2, .int d), (3, .int zl), (4, .int i), (5, .int w), (8, .int q60_8), (9, .int q60_9), (10, .int q74_10), (11, .int q74_11)]) hx hb dX11_rank_185 hl (by decide) rfl (fun ls hl => ?_)
                    refine lv_aload_n hx hb dX11_rank_187 rfl (lv_at hl 1 rfl) ?_
                    refine va_get (D := D) (ci := 11) (v := .ref (md 27)) (C := RX11) (T := TX11) (N := 64) hx hb hts inX11_rank_X11 hown hK hP 0 rfl rfl 27 (by decide) (hts (Cond.fieldLink RX11 72 "PortRoomsModel" "pledgeSum" "[I") (wm_t (wm_l (wm_i 8 rfl)))) (fun _ h9 => h9) rfl dX11_rank_188 ?_
                    refine lv_iload hx hb dX11_rank_191 (lv_at hl 9 rfl) ?_
                    refine va_iald hx hb hK hP 3 0 rfl rfl (i_in (by omega) (by omega)) dX11_rank_193 ?_
                    refine lv_topi (fun v48 ev48 => ?_)
                    refine lv_iload hx hb dX11_rank_194 (lv_at hl 7 rfl) ?_
                    refine lv_icmp_ge (tgt := 209) hx hb dX11_rank_196 (by decide) (fun c49 => ?_) (fun c49 => ?_)
                    · skip
                      have f50 := i_le c49
                      refine lv_iload hx hb dX11_rank_209 (lv_at hl 7 rfl) ?_
                      refine lv_istore (lv' := [(11, .int q60_8), (6, .long z47), (0, .ref (md 64)), (1, .int k), (2, .int d), (3, .int zl), (4, .int i), (5, .int w), (8, .int q60_8), (9, .int q60_9), (10, .int q74_10)]) hx hb dX11_rank_211 hl (by decide) rfl (fun ls hl => ?_)
                      refine lv_iload hx hb dX11_rank_213 (lv_at hl 8 rfl) ?_
                      refine lv_iload hx hb dX11_rank_215 (lv_at hl 0 rfl) ?_
                      refine lv_isub hx hb dX11_rank_217 ?_
                      refine lv_topi (fun v51 ev51 => ?_)
                      refine lv_istore (lv' := [(8, .int v51), (11, .int q60_8), (6, .long z47), (0, .ref (md 64)), (1, .int k), (2, .int d), (3, .int zl), (4, .int i), (5, .int w), (9, .int q60_9), (10, .int q74_10)]) hx hb dX11_rank_218 hl (by decide) rfl (fun ls hl => ?_)
                      refine lv_iload hx hb dX11_rank_220 (lv_at hl 9 rfl) ?_
                      refine lv_iload hx hb dX11_rank_222 (lv_at hl 7 rfl) ?_
                      refine lv_icmp_ne (tgt := 240) hx hb dX11_rank_224 (by decide) (fun c52 => ?_) (fun c52 => ?_)
                      · skip
                        have f53 := i_ne c52
                        obtain ⟨v54, ev54⟩ : ∃ y : Int32, y = q60_9 + 1 := ⟨_, rfl⟩
                        refine lv_iinc (v := v54) (lv' := [(9, .int v54), (8, .int v51), (11, .int q60_8), (6, .long z47), (0, .ref (md 64)), (1, .int k), (2, .int d), (3, .int zl), (4, .int i), (5, .int w), (10, .int q74_10)]) hx hb dX11_rank_240 hl (k := 9) rfl (by rw [ev54]; rfl) (by decide) rfl (fun ls hl => ?_)
                        refine lv_goto (tgt := 60) hx hb dX11_rank_243 (by decide) ?_
                        have hn9 := nbL_set (x := q60_6) (c := q74_10) (by omega) (by omega) (g38 (by omega))
                        rw [← ez46, ← ez47] at hn9
                        have hle9 := nbL_le z47 40
                        exact ih29 (z47, v51, v54) ls H locs ⟨lv_sub hl [4, 5, 6, 7, 8, 9, 3, 1, 0] rfl, hP.sub [0, 1, 2, 3, 4, 5] rfl, hD.sub [0, 1, 2, 3, 4, 5] (by decide +kernel) rfl, hS⟩ (by show 40 - (nbL z47 40 : Int) < _; omega)
                      · skip
                        have f55 := i_eq c52
                        refine lv_iload hx hb dX11_rank_227 (lv_at hl 8 rfl) ?_
                        refine lv_if_ne (tgt := 237) hx hb dX11_rank_229 (by decide) (fun c56 => ?_) (fun c56 => ?_)
                        · skip
                          have f57 := i_ne c56
                          refine lv_iload hx hb dX11_rank_237 (lv_at hl 1 rfl) ?_
                          have hP9 := hP
                          have hD9 := hD
                          exact W.iret (v := q60_8) hx hb hr (fun t ht hW => ⟨⟨q60_8, (), rfl, trivial, by rw [ht]; exact hP9, va_K.moved hW.alike hK, hD9⟩, hS.F ht⟩) hS.2.2 dX11_rank_239
                        · skip
                          have f58 := i_eq c56
                          refine lv_iload hx hb dX11_rank_232 (lv_at hl 10 rfl) ?_
                          refine lv_goto (tgt := 239) hx hb dX11_rank_234 (by decide) ?_
                          have hP9 := hP
                          have hD9 := hD
                          exact W.iret (v := q74_10) hx hb hr (fun t ht hW => ⟨⟨q74_10, (), rfl, trivial, by rw [ht]; exact hP9, va_K.moved hW.alike hK, hD9⟩, hS.F ht⟩) hS.2.2 dX11_rank_239
                    · skip
                      have f59 := i_nle c49
                      refine lv_aload_n hx hb dX11_rank_199 rfl (lv_at hl 1 rfl) ?_
                      refine va_get (D := D) (ci := 11) (v := .ref (md 27)) (C := RX11) (T := TX11) (N := 64) hx hb hts inX11_rank_X11 hown hK hP 0 rfl rfl 27 (by decide) (hts (Cond.fieldLink RX11 72 "PortRoomsModel" "pledgeSum" "[I") (wm_t (wm_l (wm_i 8 rfl)))) (fun _ h9 => h9) rfl dX11_rank_200 ?_
                      refine lv_iload hx hb dX11_rank_203 (lv_at hl 9 rfl) ?_
                      refine va_iald hx hb hK hP 3 0 rfl rfl (i_in (by omega) (by omega)) dX11_rank_205 ?_
                      refine lv_topi (fun v60 ev60 => ?_)
                      refine lv_goto (tgt := 211) hx hb dX11_rank_206 (by decide) ?_
                      refine lv_istore (lv' := [(11, .int v60), (6, .long z47), (0, .ref (md 64)), (1, .int k), (2, .int d), (3, .int zl), (4, .int i), (5, .int w), (8, .int q60_8), (9, .int q60_9), (10, .int q74_10)]) hx hb dX11_rank_211 hl (by decide) rfl (fun ls hl => ?_)
                      refine lv_iload hx hb dX11_rank_213 (lv_at hl 8 rfl) ?_
                      refine lv_iload hx hb dX11_rank_215 (lv_at hl 0 rfl) ?_
                      refine lv_isub hx hb dX11_rank_217 ?_
                      refine lv_topi (fun v61 ev61 => ?_)
                      refine lv_istore (lv' := [(8, .int v61), (11, .int v60), (6, .long z47), (0, .ref (md 64)), (1, .int k), (2, .int d), (3, .int zl), (4, .int i), (5, .int w), (9, .int q60_9), (10, .int q74_10)]) hx hb dX11_rank_218 hl (by decide) rfl (fun ls hl => ?_)
                      refine lv_iload hx hb dX11_rank_220 (lv_at hl 9 rfl) ?_
                      refine lv_iload hx hb dX11_rank_222 (lv_at hl 7 rfl) ?_
                      refine lv_icmp_ne (tgt := 240) hx hb dX11_rank_224 (by decide) (fun c62 => ?_) (fun c62 => ?_)
                      · skip
                        have f63 := i_ne c62
                        obtain ⟨v64, ev64⟩ : ∃ y : Int32, y = q60_9 + 1 := ⟨_, rfl⟩
                        refine lv_iinc (v := v64) (lv' := [(9, .int v64), (8, .int v61), (11, .int v60), (6, .long z47), (0, .ref (md 64)), (1, .int k), (2, .int d), (3, .int zl), (4, .int i), (5, .int w), (10, .int q74_10)]) hx hb dX11_rank_240 hl (k := 9) rfl (by rw [ev64]; rfl) (by decide) rfl (fun ls hl => ?_)
                        refine lv_goto (tgt := 60) hx hb dX11_rank_243 (by decide) ?_
                        have hn9 := nbL_set (x := q60_6) (c := q74_10) (by omega) (by omega) (g38 (by omega))
                        rw [← ez46, ← ez47] at hn9
                        have hle9 := nbL_le z47 40
                        exact ih29 (z47, v61, v64) ls H locs ⟨lv_sub hl [4, 5, 6, 7, 8, 9, 3, 1, 0] rfl, hP.sub [0, 1, 2, 3, 4, 5] rfl, hD.sub [0, 1, 2, 3, 4, 5] (by decide +kernel) rfl, hS⟩ (by show 40 - (nbL z47 40 : Int) < _; omega)
                      · skip
                        have f65 := i_eq c62
                        refine lv_iload hx hb dX11_rank_227 (lv_at hl 8 rfl) ?_
                        refine lv_if_ne (tgt := 237) hx hb dX11_rank_229 (by decide) (fun c66 => ?_) (fun c66 => ?_)
                        · skip
                          have f67 := i_ne c66
                          refine lv_iload hx hb dX11_rank_237 (lv_at hl 1 rfl) ?_
                          have hP9 := hP
                          have hD9 := hD
                          exact W.iret (v := v60) hx hb hr (fun t ht hW => ⟨⟨v60, (), rfl, trivial, by rw [ht]; exact hP9, va_K.moved hW.alike hK, hD9⟩, hS.F ht⟩) hS.2.2 dX11_rank_239
                        · skip
                          have f68 := i_eq c66
                          refine lv_iload hx hb dX11_rank_232 (lv_at hl 10 rfl) ?_
                          refine lv_goto (tgt := 239) hx hb dX11_rank_234 (by decide) ?_
                          have hP9 := hP
                          have hD9 := hD
                          exact W.iret (v := q74_10) hx hb hr (fun t ht hW => ⟨⟨q74_10, (), rfl, trivial, by rw [ht]; exact hP9, va_K.moved hW.alike hK, hD9⟩, hS.F ht⟩) hS.2.2 dX11_rank_239
                  · skip
                    have f69 := i_eq c44
                    refine lv_ldc hx hb hown (hts (Cond.constant RX11 139 (-1000000)) (wm_t (wm_l (wm_i 4 rfl)))) dX11_rank_175 ?_
                    have hP9 := hP
                    have hD9 := hD
                    exact W.iret (v := (-1000000)) hx hb hr (fun t ht hW => ⟨⟨(-1000000), (), rfl, trivial, by rw [ht]; exact hP9, va_K.moved hW.alike hK, hD9⟩, hS.F ht⟩) hS.2.2 dX11_rank_177
                · skip
                  have f70 := i_nle c42
                  refine lv_aload_n hx hb dX11_rank_83 rfl (lv_at hl 0 rfl) ?_
                  refine va_get (D := D) (ci := 11) (v := .ref (md 26)) (C := RX11) (T := TX11) (N := 64) hx hb hts inX11_rank_X11 hown hK hP 0 rfl rfl 26 (by decide) (hts (Cond.fieldLink RX11 69 "PortRoomsModel" "pledgeCrate" "[I") (wm_t (wm_l (wm_i 6 rfl)))) (fun _ h9 => h9) rfl dX11_rank_84 ?_
                  refine lv_iload hx hb dX11_rank_87 (lv_at hl 10 rfl) ?_
                  refine va_iald hx hb hK hP 2 0 rfl rfl (i_in (by omega) (by omega)) dX11_rank_89 ?_
                  refine lv_topi (fun v71 ev71 => ?_)
                  refine lv_iload_n hx hb dX11_rank_90 rfl (lv_at hl 1 rfl) ?_
                  refine lv_icmp_ne (tgt := 121) hx hb dX11_rank_91 (by decide) (fun c72 => ?_) (fun c72 => ?_)
                  · skip
                    have f73 := i_ne c72
                    refine lv_iconst (v := 0) hx hb dX11_rank_121 (by decide) ?_
                    refine lv_istore (lv' := [(12, .int 0), (0, .ref (md 64)), (1, .int k), (2, .int d), (3, .int zl), (4, .int i), (5, .int w), (6, .long q60_6), (8, .int q60_8), (9, .int q60_9), (10, .int q74_10), (11, .int q74_11)]) hx hb dX11_rank_122 hl (by decide) rfl (fun ls hl => ?_)
                    refine lv_iload hx hb dX11_rank_124 (lv_at hl 0 rfl) ?_
                    refine lv_if_eq (tgt := 158) hx hb dX11_rank_126 (by decide) (fun _ => ?_) (fun c => absurd (by decide) c)
                    refine lv_iload hx hb dX11_rank_158 (lv_at hl 10 rfl) ?_
                    refine lv_istore (lv' := [(10, .int q74_10), (12, .int 0), (0, .ref (md 64)), (1, .int k), (2, .int d), (3, .int zl), (4, .int i), (5, .int w), (6, .long q60_6), (8, .int q60_8), (9, .int q60_9), (11, .int q74_11)]) hx hb dX11_rank_160 hl (by decide) rfl (fun ls hl => ?_)
                    obtain ⟨v74, ev74⟩ : ∃ y : Int32, y = q74_11 + 1 := ⟨_, rfl⟩
                    try have tv74 : v74.toInt = q74_11.toInt + 1 := by rw [ev74]; exact (i_add (x := q74_11) (y := (1 : Int32)) (by rw [k1]; omega) (by rw [k1]; omega)).trans (by rw [k1])
                    refine lv_iinc (v := v74) (lv' := [(11, .int v74), (10, .int q74_10), (12, .int 0), (0, .ref (md 64)), (1, .int k), (2, .int d), (3, .int zl), (4, .int i), (5, .int w), (6, .long q60_6), (8, .int q60_8), (9, .int q60_9)]) hx hb dX11_rank_162 hl (k := 11) rfl (by rw [ev74]; rfl) (by decide) rfl (fun ls hl => ?_)
                    refine lv_goto (tgt := 74) hx hb dX11_rank_165 (by decide) ?_
                    exact ih39 (q74_10, v74) ls H locs ⟨(by omega), (by omega), (by omega), (by first | exact g38 | exact fun _ => (by assumption)), lv_sub hl [3, 4, 5, 6, 7, 8, 9, 10, 11, 1, 0] rfl, hP.sub [0, 1, 2, 3, 4, 5] rfl, hD.sub [0, 1, 2, 3, 4, 5] (by decide +kernel) rfl, hS⟩ (by show gn.toInt - v74.toInt < _; omega)
                  · skip
                    have f75 := i_eq c72
                    refine lv_aload_n hx hb dX11_rank_94 rfl (lv_at hl 0 rfl) ?_
                    refine va_get (D := D) (ci := 11) (v := .ref (md 29)) (C := RX11) (T := TX11) (N := 64) hx hb hts inX11_rank_X11 hown hK hP 0 rfl rfl 29 (by decide) (hts (Cond.fieldLink RX11 78 "PortRoomsModel" "pledgeFiled" "[I") (wm_t (wm_l (wm_i 7 rfl)))) (fun _ h9 => h9) rfl dX11_rank_95 ?_
                    refine lv_iload hx hb dX11_rank_98 (lv_at hl 10 rfl) ?_
                    refine va_iald hx hb hK hP 5 0 rfl rfl (i_in (by omega) (by omega)) dX11_rank_100 ?_
                    refine lv_topi (fun v76 ev76 => ?_)
                    refine lv_iload_n hx hb dX11_rank_101 rfl (lv_at hl 2 rfl) ?_
                    refine lv_icmp_gt (tgt := 121) hx hb dX11_rank_102 (by decide) (fun c77 => ?_) (fun c77 => ?_)
                    · skip
                      have f78 := i_lt c77
                      refine lv_iconst (v := 0) hx hb dX11_rank_121 (by decide) ?_
                      refine lv_istore (lv' := [(12, .int 0), (0, .ref (md 64)), (1, .int k), (2, .int d), (3, .int zl), (4, .int i), (5, .int w), (6, .long q60_6), (8, .int q60_8), (9, .int q60_9), (10, .int q74_10), (11, .int q74_11)]) hx hb dX11_rank_122 hl (by decide) rfl (fun ls hl => ?_)
                      refine lv_iload hx hb dX11_rank_124 (lv_at hl 0 rfl) ?_
                      refine lv_if_eq (tgt := 158) hx hb dX11_rank_126 (by decide) (fun _ => ?_) (fun c => absurd (by decide) c)
                      refine lv_iload hx hb dX11_rank_158 (lv_at hl 10 rfl) ?_
                      refine lv_istore (lv' := [(10, .int q74_10), (12, .int 0), (0, .ref (md 64)), (1, .int k), (2, .int d), (3, .int zl), (4, .int i), (5, .int w), (6, .long q60_6), (8, .int q60_8), (9, .int q60_9), (11, .int q74_11)]) hx hb dX11_rank_160 hl (by decide) rfl (fun ls hl => ?_)
                      obtain ⟨v79, ev79⟩ : ∃ y : Int32, y = q74_11 + 1 := ⟨_, rfl⟩
                      try have tv79 : v79.toInt = q74_11.toInt + 1 := by rw [ev79]; exact (i_add (x := q74_11) (y := (1 : Int32)) (by rw [k1]; omega) (by rw [k1]; omega)).trans (by rw [k1])
                      refine lv_iinc (v := v79) (lv' := [(11, .int v79), (10, .int q74_10), (12, .int 0), (0, .ref (md 64)), (1, .int k), (2, .int d), (3, .int zl), (4, .int i), (5, .int w), (6, .long q60_6), (8, .int q60_8), (9, .int q60_9)]) hx hb dX11_rank_162 hl (k := 11) rfl (by rw [ev79]; rfl) (by decide) rfl (fun ls hl => ?_)
                      refine lv_goto (tgt := 74) hx hb dX11_rank_165 (by decide) ?_
                      exact ih39 (q74_10, v79) ls H locs ⟨(by omega), (by omega), (by omega), (by first | exact g38 | exact fun _ => (by assumption)), lv_sub hl [3, 4, 5, 6, 7, 8, 9, 10, 11, 1, 0] rfl, hP.sub [0, 1, 2, 3, 4, 5] rfl, hD.sub [0, 1, 2, 3, 4, 5] (by decide +kernel) rfl, hS⟩ (by show gn.toInt - v79.toInt < _; omega)
                    · skip
                      have f80 := i_nlt c77
                      refine lv_lload hx hb dX11_rank_105 (lv_at hl 6 rfl) ?_
                      refine lv_iload hx hb dX11_rank_107 (lv_at hl 10 rfl) ?_
                      refine lv_lshr hx hb dX11_rank_109 rfl ?_
                      refine lv_topl (fun z81 ez81 => ?_)
                      refine lv_lconst (v := 1) hx hb dX11_rank_110 (by decide) ?_
                      refine lv_land hx hb dX11_rank_111 ?_
                      refine lv_topl (fun z82 ez82 => ?_)
                      refine lv_lconst (v := 0) hx hb dX11_rank_112 (by decide) ?_
                      refine W.lcmp hx hb dX11_rank_113 ?_
                      refine lv_topi (fun v83 ev83 => ?_)
                      refine lv_if_ne (tgt := 121) hx hb dX11_rank_114 (by decide) (fun c84 => ?_) (fun c84 => ?_)
                      · skip
                        have f85 := lc_ne ev83 c84
                        refine lv_iconst (v := 0) hx hb dX11_rank_121 (by decide) ?_
                        refine lv_istore (lv' := [(12, .int 0), (0, .ref (md 64)), (1, .int k), (2, .int d), (3, .int zl), (4, .int i), (5, .int w), (6, .long q60_6), (8, .int q60_8), (9, .int q60_9), (10, .int q74_10), (11, .int q74_11)]) hx hb dX11_rank_122 hl (by decide) rfl (fun ls hl => ?_)
                        refine lv_iload hx hb dX11_rank_124 (lv_at hl 0 rfl) ?_
                        refine lv_if_eq (tgt := 158) hx hb dX11_rank_126 (by decide) (fun _ => ?_) (fun c => absurd (by decide) c)
                        refine lv_iload hx hb dX11_rank_158 (lv_at hl 10 rfl) ?_
                        refine lv_istore (lv' := [(10, .int q74_10), (12, .int 0), (0, .ref (md 64)), (1, .int k), (2, .int d), (3, .int zl), (4, .int i), (5, .int w), (6, .long q60_6), (8, .int q60_8), (9, .int q60_9), (11, .int q74_11)]) hx hb dX11_rank_160 hl (by decide) rfl (fun ls hl => ?_)
                        obtain ⟨v86, ev86⟩ : ∃ y : Int32, y = q74_11 + 1 := ⟨_, rfl⟩
                        try have tv86 : v86.toInt = q74_11.toInt + 1 := by rw [ev86]; exact (i_add (x := q74_11) (y := (1 : Int32)) (by rw [k1]; omega) (by rw [k1]; omega)).trans (by rw [k1])
                        refine lv_iinc (v := v86) (lv' := [(11, .int v86), (10, .int q74_10), (12, .int 0), (0, .ref (md 64)), (1, .int k), (2, .int d), (3, .int zl), (4, .int i), (5, .int w), (6, .long q60_6), (8, .int q60_8), (9, .int q60_9)]) hx hb dX11_rank_162 hl (k := 11) rfl (by rw [ev86]; rfl) (by decide) rfl (fun ls hl => ?_)
                        refine lv_goto (tgt := 74) hx hb dX11_rank_165 (by decide) ?_
                        exact ih39 (q74_10, v86) ls H locs ⟨(by omega), (by omega), (by omega), (by first | exact g38 | exact fun _ => (by assumption)), lv_sub hl [3, 4, 5, 6, 7, 8, 9, 10, 11, 1, 0] rfl, hP.sub [0, 1, 2, 3, 4, 5] rfl, hD.sub [0, 1, 2, 3, 4, 5] (by decide +kernel) rfl, hS⟩ (by show gn.toInt - v86.toInt < _; omega)
                      · skip
                        have f87 := lc_eq ev83 c84
                        have hz9 : z82 = 0 := Int64.toInt_inj.mp (by assumption)
                        have hb9 := (btL_bit (x := q60_6) (c := q74_11) (by omega) (by omega)).mp (by rw [← ez81, ← ez82]; exact hz9)
                        refine lv_iconst (v := 1) hx hb dX11_rank_117 (by decide) ?_
                        refine lv_goto (tgt := 122) hx hb dX11_rank_118 (by decide) ?_
                        refine lv_istore (lv' := [(12, .int 1), (0, .ref (md 64)), (1, .int k), (2, .int d), (3, .int zl), (4, .int i), (5, .int w), (6, .long q60_6), (8, .int q60_8), (9, .int q60_9), (10, .int q74_10), (11, .int q74_11)]) hx hb dX11_rank_122 hl (by decide) rfl (fun ls hl => ?_)
                        refine lv_iload hx hb dX11_rank_124 (lv_at hl 0 rfl) ?_
                        refine lv_if_eq (tgt := 158) hx hb dX11_rank_126 (by decide) (fun c => absurd c (by decide)) (fun _ => ?_)
                        refine lv_iload hx hb dX11_rank_129 (lv_at hl 10 rfl) ?_
                        refine lv_ldc hx hb hown (hts (Cond.constant RX11 139 (-1000000)) (wm_t (wm_l (wm_i 4 rfl)))) dX11_rank_131 ?_
                        refine lv_icmp_eq (tgt := 153) hx hb dX11_rank_133 (by decide) (fun c88 => ?_) (fun c88 => ?_)
                        · skip
                          have f89 := i_eq c88
                          refine lv_iload hx hb dX11_rank_153 (lv_at hl 11 rfl) ?_
                          refine lv_goto (tgt := 160) hx hb dX11_rank_155 (by decide) ?_
                          refine lv_istore (lv' := [(10, .int q74_11), (12, .int 1), (0, .ref (md 64)), (1, .int k), (2, .int d), (3, .int zl), (4, .int i), (5, .int w), (6, .long q60_6), (8, .int q60_8), (9, .int q60_9), (11, .int q74_11)]) hx hb dX11_rank_160 hl (by decide) rfl (fun ls hl => ?_)
                          obtain ⟨v90, ev90⟩ : ∃ y : Int32, y = q74_11 + 1 := ⟨_, rfl⟩
                          try have tv90 : v90.toInt = q74_11.toInt + 1 := by rw [ev90]; exact (i_add (x := q74_11) (y := (1 : Int32)) (by rw [k1]; omega) (by rw [k1]; omega)).trans (by rw [k1])
                          refine lv_iinc (v := v90) (lv' := [(11, .int v90), (10, .int q74_11), (12, .int 1), (0, .ref (md 64)), (1, .int k), (2, .int d), (3, .int zl), (4, .int i), (5, .int w), (6, .long q60_6), (8, .int q60_8), (9, .int q60_9)]) hx hb dX11_rank_162 hl (k := 11) rfl (by rw [ev90]; rfl) (by decide) rfl (fun ls hl => ?_)
                          refine lv_goto (tgt := 74) hx hb dX11_rank_165 (by decide) ?_
                          exact ih39 (q74_11, v90) ls H locs ⟨(by omega), (by omega), (by omega), (by first | exact g38 | exact fun _ => (by assumption)), lv_sub hl [3, 4, 5, 6, 7, 8, 9, 10, 11, 1, 0] rfl, hP.sub [0, 1, 2, 3, 4, 5] rfl, hD.sub [0, 1, 2, 3, 4, 5] (by decide +kernel) rfl, hS⟩ (by show gn.toInt - v90.toInt < _; omega)
                        · skip
                          have f91 := i_ne c88
                          refine lv_aload_n hx hb dX11_rank_136 rfl (lv_at hl 1 rfl) ?_
                          refine lv_iload hx hb dX11_rank_137 (lv_at hl 11 rfl) ?_
                          refine lv_iload_n hx hb dX11_rank_139 rfl (lv_at hl 4 rfl) ?_
                          refine st_i1 (va_runV (C := RX11) (As := [.int q74_11, .int zl]) (rest := []) ⟨hx, hb, hml, hown, hts⟩ (ct_X11_keyOf l D cI cY cJ cQ _ md sd 0 mst hn cn pn mq gn mln mnn ln mlt msz mcu mtk mfr mti mfa mfb an un lc td mtn gk gs gd ge q74_11 zl (by omega) (by omega)) (cwV 2 hts gX11_rank_X11_keyOf rfl rfl rfl ⟨rfl, cdX11_keyOf⟩ ⟨Nat.le_of_ble_eq_true rfl, Nat.le_of_ble_eq_true rfl⟩) (cPreV (hP.sub [0, 2, 3, 4, 5] rfl) hK (hD.sub [0, 2, 3, 4, 5] (by decide +kernel) rfl) hN (ci := 11) (q0 := 0) rfl rfl) rfl rfl hl.1 rfl (lv_room (Nat.le_of_ble_eq_true rfl)) dX11_rank_140 ⟨Nat.le_of_ble_eq_true rfl, Nat.le_of_ble_eq_true rfl⟩) hP hD hS hA [0, 2, 3, 4, 5] rfl (fun _ => rfl) (fun r94 u92 H locs hw93 => ?_)
                          clear hP hS
                          intro hP hS
                          replace hw93 : True := hw93
                          refine lv_aload_n hx hb dX11_rank_143 rfl (lv_at hl 1 rfl) ?_
                          refine lv_iload hx hb dX11_rank_144 (lv_at hl 10 rfl) ?_
                          refine lv_iload_n hx hb dX11_rank_146 rfl (lv_at hl 4 rfl) ?_
                          refine st_i1 (va_runV (C := RX11) (As := [.int q74_10, .int zl]) (rest := [.int r94]) ⟨hx, hb, hml, hown, hts⟩ (ct_X11_keyOf l D cI cY cJ cQ _ md sd 0 mst hn cn pn mq gn mln mnn ln mlt msz mcu mtk mfr mti mfa mfb an un lc td mtn gk gs gd ge q74_10 zl (by omega) (by omega)) (cwV 2 hts gX11_rank_X11_keyOf rfl rfl rfl ⟨rfl, cdX11_keyOf⟩ ⟨Nat.le_of_ble_eq_true rfl, Nat.le_of_ble_eq_true rfl⟩) (cPreV (hP.sub [0, 2, 3, 4, 5] rfl) hK (hD.sub [0, 2, 3, 4, 5] (by decide +kernel) rfl) hN (ci := 11) (q0 := 0) rfl rfl) rfl rfl hl.1 rfl (lv_room (Nat.le_of_ble_eq_true rfl)) dX11_rank_147 ⟨Nat.le_of_ble_eq_true rfl, Nat.le_of_ble_eq_true rfl⟩) hP hD hS hA [0, 2, 3, 4, 5] rfl (fun _ => rfl) (fun r97 u95 H locs hw96 => ?_)
                          clear hP hS
                          intro hP hS
                          replace hw96 : True := hw96
                          refine lv_icmp_ge (tgt := 158) hx hb dX11_rank_150 (by decide) (fun c98 => ?_) (fun c98 => ?_)
                          · skip
                            have f99 := i_le c98
                            refine lv_iload hx hb dX11_rank_158 (lv_at hl 10 rfl) ?_
                            refine lv_istore (lv' := [(10, .int q74_10), (12, .int 1), (0, .ref (md 64)), (1, .int k), (2, .int d), (3, .int zl), (4, .int i), (5, .int w), (6, .long q60_6), (8, .int q60_8), (9, .int q60_9), (11, .int q74_11)]) hx hb dX11_rank_160 hl (by decide) rfl (fun ls hl => ?_)
                            obtain ⟨v100, ev100⟩ : ∃ y : Int32, y = q74_11 + 1 := ⟨_, rfl⟩
                            try have tv100 : v100.toInt = q74_11.toInt + 1 := by rw [ev100]; exact (i_add (x := q74_11) (y := (1 : Int32)) (by rw [k1]; omega) (by rw [k1]; omega)).trans (by rw [k1])
                            refine lv_iinc (v := v100) (lv' := [(11, .int v100), (10, .int q74_10), (12, .int 1), (0, .ref (md 64)), (1, .int k), (2, .int d), (3, .int zl), (4, .int i), (5, .int w), (6, .long q60_6), (8, .int q60_8), (9, .int q60_9)]) hx hb dX11_rank_162 hl (k := 11) rfl (by rw [ev100]; rfl) (by decide) rfl (fun ls hl => ?_)
                            refine lv_goto (tgt := 74) hx hb dX11_rank_165 (by decide) ?_
                            exact ih39 (q74_10, v100) ls H locs ⟨(by omega), (by omega), (by omega), (by first | exact g38 | exact fun _ => (by assumption)), lv_sub hl [3, 4, 5, 6, 7, 8, 9, 10, 11, 1, 0] rfl, hP.sub [0, 1, 2, 3, 4, 5] rfl, hD.sub [0, 1, 2, 3, 4, 5] (by decide +kernel) rfl, hS⟩ (by show gn.toInt - v100.toInt < _; omega)
                          · skip
                            have f101 := i_nle c98
                            refine lv_iload hx hb dX11_rank_153 (lv_at hl 11 rfl) ?_
                            refine lv_goto (tgt := 160) hx hb dX11_rank_155 (by decide) ?_
                            refine lv_istore (lv' := [(10, .int q74_11), (12, .int 1), (0, .ref (md 64)), (1, .int k), (2, .int d), (3, .int zl), (4, .int i), (5, .int w), (6, .long q60_6), (8, .int q60_8), (9, .int q60_9), (11, .int q74_11)]) hx hb dX11_rank_160 hl (by decide) rfl (fun ls hl => ?_)
                            obtain ⟨v102, ev102⟩ : ∃ y : Int32, y = q74_11 + 1 := ⟨_, rfl⟩
                            try have tv102 : v102.toInt = q74_11.toInt + 1 := by rw [ev102]; exact (i_add (x := q74_11) (y := (1 : Int32)) (by rw [k1]; omega) (by rw [k1]; omega)).trans (by rw [k1])
                            refine lv_iinc (v := v102) (lv' := [(11, .int v102), (10, .int q74_11), (12, .int 1), (0, .ref (md 64)), (1, .int k), (2, .int d), (3, .int zl), (4, .int i), (5, .int w), (6, .long q60_6), (8, .int q60_8), (9, .int q60_9)]) hx hb dX11_rank_162 hl (k := 11) rfl (by rw [ev102]; rfl) (by decide) rfl (fun ls hl => ?_)
                            refine lv_goto (tgt := 74) hx hb dX11_rank_165 (by decide) ?_
                            exact ih39 (q74_11, v102) ls H locs ⟨(by omega), (by omega), (by omega), (by first | exact g38 | exact fun _ => (by assumption)), lv_sub hl [3, 4, 5, 6, 7, 8, 9, 10, 11, 1, 0] rfl, hP.sub [0, 1, 2, 3, 4, 5] rfl, hD.sub [0, 1, 2, 3, 4, 5] (by decide +kernel) rfl, hS⟩ (by show gn.toInt - v102.toInt < _; omega)
        · skip
          have f103 := bo_f hw24 c26
          refine lv_ldc hx hb hown (hts (Cond.constant RX11 157 (-1000001)) (wm_t (wm_l (wm_i 2 rfl)))) dX11_rank_43 ?_
          have hP9 := hP
          have hD9 := hD
          exact W.iret (v := (-1000001)) hx hb hr (fun t ht hW => ⟨⟨(-1000001), (), rfl, trivial, by rw [ht]; exact hP9, va_K.moved hW.alike hK, hD9⟩, hS.F ht⟩) hS.2.2 dX11_rank_45
end
