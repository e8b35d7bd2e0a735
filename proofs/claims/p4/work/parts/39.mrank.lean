theorem cdX11_keyOf : yX11_keyOf.cls ≠ "java/lang/invoke/MethodHandle" ∧ yX11_keyOf.cls ≠ "java/lang/invoke/VarHandle" ∧ (parseMethodDescriptor yX11_keyOf.desc).map (fun d => d.parameters.length) = some 2 := by decide +kernel
theorem Gd_X11_keyOf : gdA wsX11_keyOf := gd_cons (by decide +kernel) (gd_app (gd_all (ws := wsX11_keyOf_o1) (by decide +kernel)) Gd_X110)
theorem inX11_keyOf_X11 : ∀ w ∈ u_ws RX11 TX11 64, w ∈ wsX11_keyOf := fun _ h => (List.mem_cons_of_mem _ (List.mem_append_right _ h))
theorem inX11_rank_X11 : ∀ w ∈ u_ws RX11 TX11 64, w ∈ wsX11_rank := fun _ h => (List.mem_cons_of_mem _ (List.mem_append_right _ (List.mem_append_left _ (List.mem_append_left _ (List.mem_append_left _ h)))))
theorem dX11_keyOf_all0 : decode cX11_keyOf 0 = .ok (.iload_n 2, 1) ∧ decode cX11_keyOf 1 = .ok (.ifCond .ne 12, 3) ∧ decode cX11_keyOf 4 = .ok (.aload_n 0, 1) ∧ decode cX11_keyOf 5 = .ok (.getfield 78, 3) ∧ decode cX11_keyOf 8 = .ok (.iload_n 1, 1) ∧ decode cX11_keyOf 9 = .ok (.iaload, 1) ∧ decode cX11_keyOf 10 = .ok (.goto 39, 3) ∧ decode cX11_keyOf 13 = .ok (.iload_n 2, 1) ∧ decode cX11_keyOf 14 = .ok (.iconst 1, 1) ∧ decode cX11_keyOf 15 = .ok (.if_icmp .ne 12, 3) ∧ decode cX11_keyOf 18 = .ok (.aload_n 0, 1) ∧ decode cX11_keyOf 19 = .ok (.getfield 75, 3) := by decide +kernel
theorem dX11_keyOf_0 : decode cX11_keyOf 0 = .ok (.iload_n 2, 1) := dX11_keyOf_all0.1
theorem dX11_keyOf_1 : decode cX11_keyOf 1 = .ok (.ifCond .ne 12, 3) := dX11_keyOf_all0.2.1
theorem dX11_keyOf_4 : decode cX11_keyOf 4 = .ok (.aload_n 0, 1) := dX11_keyOf_all0.2.2.1
theorem dX11_keyOf_5 : decode cX11_keyOf 5 = .ok (.getfield 78, 3) := dX11_keyOf_all0.2.2.2.1
theorem dX11_keyOf_8 : decode cX11_keyOf 8 = .ok (.iload_n 1, 1) := dX11_keyOf_all0.2.2.2.2.1
theorem dX11_keyOf_9 : decode cX11_keyOf 9 = .ok (.iaload, 1) := dX11_keyOf_all0.2.2.2.2.2.1
theorem dX11_keyOf_10 : decode cX11_keyOf 10 = .ok (.goto 39, 3) := dX11_keyOf_all0.2.2.2.2.2.2.1
theorem dX11_keyOf_13 : decode cX11_keyOf 13 = .ok (.iload_n 2, 1) := dX11_keyOf_all0.2.2.2.2.2.2.2.1
theorem dX11_keyOf_14 : decode cX11_keyOf 14 = .ok (.iconst 1, 1) := dX11_keyOf_all0.2.2.2.2.2.2.2.2.1
theorem dX11_keyOf_15 : decode cX11_keyOf 15 = .ok (.if_icmp .ne 12, 3) := dX11_keyOf_all0.2.2.2.2.2.2.2.2.2.1
theorem dX11_keyOf_18 : decode cX11_keyOf 18 = .ok (.aload_n 0, 1) := dX11_keyOf_all0.2.2.2.2.2.2.2.2.2.2.1
theorem dX11_keyOf_19 : decode cX11_keyOf 19 = .ok (.getfield 75, 3) := dX11_keyOf_all0.2.2.2.2.2.2.2.2.2.2.2
theorem dX11_keyOf_all1 : decode cX11_keyOf 22 = .ok (.iload_n 1, 1) ∧ decode cX11_keyOf 23 = .ok (.iaload, 1) ∧ decode cX11_keyOf 24 = .ok (.goto 25, 3) ∧ decode cX11_keyOf 27 = .ok (.iload_n 2, 1) ∧ decode cX11_keyOf 28 = .ok (.iconst 2, 1) ∧ decode cX11_keyOf 29 = .ok (.if_icmp .ne 13, 3) ∧ decode cX11_keyOf 32 = .ok (.aload_n 0, 1) ∧ decode cX11_keyOf 33 = .ok (.getfield 72, 3) ∧ decode cX11_keyOf 36 = .ok (.iload_n 1, 1) ∧ decode cX11_keyOf 37 = .ok (.iaload, 1) ∧ decode cX11_keyOf 38 = .ok (.ineg, 1) ∧ decode cX11_keyOf 39 = .ok (.goto 10, 3) := by decide +kernel
theorem dX11_keyOf_22 : decode cX11_keyOf 22 = .ok (.iload_n 1, 1) := dX11_keyOf_all1.1
theorem dX11_keyOf_23 : decode cX11_keyOf 23 = .ok (.iaload, 1) := dX11_keyOf_all1.2.1
theorem dX11_keyOf_24 : decode cX11_keyOf 24 = .ok (.goto 25, 3) := dX11_keyOf_all1.2.2.1
theorem dX11_keyOf_27 : decode cX11_keyOf 27 = .ok (.iload_n 2, 1) := dX11_keyOf_all1.2.2.2.1
theorem dX11_keyOf_28 : decode cX11_keyOf 28 = .ok (.iconst 2, 1) := dX11_keyOf_all1.2.2.2.2.1
theorem dX11_keyOf_29 : decode cX11_keyOf 29 = .ok (.if_icmp .ne 13, 3) := dX11_keyOf_all1.2.2.2.2.2.1
theorem dX11_keyOf_32 : decode cX11_keyOf 32 = .ok (.aload_n 0, 1) := dX11_keyOf_all1.2.2.2.2.2.2.1
theorem dX11_keyOf_33 : decode cX11_keyOf 33 = .ok (.getfield 72, 3) := dX11_keyOf_all1.2.2.2.2.2.2.2.1
theorem dX11_keyOf_36 : decode cX11_keyOf 36 = .ok (.iload_n 1, 1) := dX11_keyOf_all1.2.2.2.2.2.2.2.2.1
theorem dX11_keyOf_37 : decode cX11_keyOf 37 = .ok (.iaload, 1) := dX11_keyOf_all1.2.2.2.2.2.2.2.2.2.1
theorem dX11_keyOf_38 : decode cX11_keyOf 38 = .ok (.ineg, 1) := dX11_keyOf_all1.2.2.2.2.2.2.2.2.2.2.1
theorem dX11_keyOf_39 : decode cX11_keyOf 39 = .ok (.goto 10, 3) := dX11_keyOf_all1.2.2.2.2.2.2.2.2.2.2.2
theorem dX11_keyOf_all2 : decode cX11_keyOf 42 = .ok (.aload_n 0, 1) ∧ decode cX11_keyOf 43 = .ok (.getfield 78, 3) ∧ decode cX11_keyOf 46 = .ok (.iload_n 1, 1) ∧ decode cX11_keyOf 47 = .ok (.iaload, 1) ∧ decode cX11_keyOf 48 = .ok (.ineg, 1) ∧ decode cX11_keyOf 49 = .ok (.ireturn, 1) := by decide +kernel
theorem dX11_keyOf_42 : decode cX11_keyOf 42 = .ok (.aload_n 0, 1) := dX11_keyOf_all2.1
theorem dX11_keyOf_43 : decode cX11_keyOf 43 = .ok (.getfield 78, 3) := dX11_keyOf_all2.2.1
theorem dX11_keyOf_46 : decode cX11_keyOf 46 = .ok (.iload_n 1, 1) := dX11_keyOf_all2.2.2.1
theorem dX11_keyOf_47 : decode cX11_keyOf 47 = .ok (.iaload, 1) := dX11_keyOf_all2.2.2.2.1
theorem dX11_keyOf_48 : decode cX11_keyOf 48 = .ok (.ineg, 1) := dX11_keyOf_all2.2.2.2.2.1
theorem dX11_keyOf_49 : decode cX11_keyOf 49 = .ok (.ireturn, 1) := dX11_keyOf_all2.2.2.2.2.2
theorem ggX11_rank_X11_isCrate : GoodIn wsX11_rank wsX11_isCrate := goodIn_s (fun _ h => wm_t (wm_r (wm_l (wm_l (wm_r h))))) Gd_X11_isCrate
theorem gX11_rank_X11_isCrate : GoodIn wsX11_rank (wsV RX11 219 RX11 yX11_isCrate wsX11_isCrate) := goodIn_V (own := RX11) (idx := 219) (C := RX11) (y := yX11_isCrate) (wm_t (wm_l (wm_i 9 rfl))) (wm_t (wm_l (wm_i 10 rfl))) (wm_t (wm_l (wm_i 11 rfl))) (wm_t (wm_l (wm_i 12 rfl))) ggX11_rank_X11_isCrate
theorem ggX11_rank_X11_isDay : GoodIn wsX11_rank wsX11_isDay := goodIn_s (fun _ h => wm_t (wm_r (wm_l (wm_r h)))) Gd_X11_isDay
theorem gX11_rank_X11_isDay : GoodIn wsX11_rank (va_wsS RX11 178 yX11_isDay wsX11_isDay) := goodIn_S (own := RX11) (idx := 178) (y := yX11_isDay) (wm_t (wm_l (wm_i 15 rfl))) (wm_t (wm_l (wm_i 16 rfl))) (wm_t (wm_l (wm_i 12 rfl))) ggX11_rank_X11_isDay
theorem ggX11_rank_X11_in : GoodIn wsX11_rank wsX11_in := goodIn_s (fun _ h => wm_t (wm_r (wm_r (wm_l h)))) Gd_X11_in
theorem gX11_rank_X11_in : GoodIn wsX11_rank (va_wsS RX11 147 yX11_in wsX11_in) := goodIn_S (own := RX11) (idx := 147) (y := yX11_in) (wm_t (wm_l (wm_i 13 rfl))) (wm_t (wm_l (wm_i 14 rfl))) (wm_t (wm_l (wm_i 12 rfl))) ggX11_rank_X11_in
theorem ggX11_rank_X11_keyOf : GoodIn wsX11_rank wsX11_keyOf := goodIn_s (fun _ h => wm_t (wm_r (wm_r (wm_r h)))) Gd_X11_keyOf
theorem gX11_rank_X11_keyOf : GoodIn wsX11_rank (wsV RX11 236 RX11 yX11_keyOf wsX11_keyOf) := goodIn_V (own := RX11) (idx := 236) (C := RX11) (y := yX11_keyOf) (wm_t (wm_l (wm_i 17 rfl))) (wm_t (wm_l (wm_i 18 rfl))) (wm_t (wm_l (wm_i 19 rfl))) (wm_t (wm_l (wm_i 12 rfl))) ggX11_rank_X11_keyOf
theorem dX11_rank_all0 : decode cX11_rank 0 = .ok (.aload_n 0, 1) ∧ decode cX11_rank 1 = .ok (.iconst 0, 1) ∧ decode cX11_rank 2 = .ok (.putfield 1, 3) ∧ decode cX11_rank 5 = .ok (.aload_n 0, 1) ∧ decode cX11_rank 6 = .ok (.iload_n 1, 1) ∧ decode cX11_rank 7 = .ok (.invokevirtual 219, 3) ∧ decode cX11_rank 10 = .ok (.ifCond .eq 33, 3) ∧ decode cX11_rank 13 = .ok (.iload_n 2, 1) ∧ decode cX11_rank 14 = .ok (.invokestatic 178, 3) ∧ decode cX11_rank 17 = .ok (.ifCond .eq 26, 3) ∧ decode cX11_rank 20 = .ok (.iload_n 3, 1) ∧ decode cX11_rank 21 = .ok (.i2l, 1) := by decide +kernel
theorem dX11_rank_0 : decode cX11_rank 0 = .ok (.aload_n 0, 1) := dX11_rank_all0.1
theorem dX11_rank_1 : decode cX11_rank 1 = .ok (.iconst 0, 1) := dX11_rank_all0.2.1
theorem dX11_rank_2 : decode cX11_rank 2 = .ok (.putfield 1, 3) := dX11_rank_all0.2.2.1
theorem dX11_rank_5 : decode cX11_rank 5 = .ok (.aload_n 0, 1) := dX11_rank_all0.2.2.2.1
theorem dX11_rank_6 : decode cX11_rank 6 = .ok (.iload_n 1, 1) := dX11_rank_all0.2.2.2.2.1
theorem dX11_rank_7 : decode cX11_rank 7 = .ok (.invokevirtual 219, 3) := dX11_rank_all0.2.2.2.2.2.1
theorem dX11_rank_10 : decode cX11_rank 10 = .ok (.ifCond .eq 33, 3) := dX11_rank_all0.2.2.2.2.2.2.1
theorem dX11_rank_13 : decode cX11_rank 13 = .ok (.iload_n 2, 1) := dX11_rank_all0.2.2.2.2.2.2.2.1
theorem dX11_rank_14 : decode cX11_rank 14 = .ok (.invokestatic 178, 3) := dX11_rank_all0.2.2.2.2.2.2.2.2.1
theorem dX11_rank_17 : decode cX11_rank 17 = .ok (.ifCond .eq 26, 3) := dX11_rank_all0.2.2.2.2.2.2.2.2.2.1
theorem dX11_rank_20 : decode cX11_rank 20 = .ok (.iload_n 3, 1) := dX11_rank_all0.2.2.2.2.2.2.2.2.2.2.1
theorem dX11_rank_21 : decode cX11_rank 21 = .ok (.i2l, 1) := dX11_rank_all0.2.2.2.2.2.2.2.2.2.2.2
theorem dX11_rank_all1 : decode cX11_rank 22 = .ok (.lconst 0, 1) ∧ decode cX11_rank 23 = .ok (.ldc2_w 234, 3) ∧ decode cX11_rank 26 = .ok (.invokestatic 147, 3) ∧ decode cX11_rank 29 = .ok (.ifCond .eq 14, 3) ∧ decode cX11_rank 32 = .ok (.iload 5, 2) ∧ decode cX11_rank 34 = .ok (.i2l, 1) ∧ decode cX11_rank 35 = .ok (.lconst 0, 1) ∧ decode cX11_rank 36 = .ok (.lconst 1, 1) ∧ decode cX11_rank 37 = .ok (.invokestatic 147, 3) ∧ decode cX11_rank 40 = .ok (.ifCond .ne 6, 3) ∧ decode cX11_rank 43 = .ok (.ldc 157, 2) ∧ decode cX11_rank 45 = .ok (.ireturn, 1) := by decide +kernel
theorem dX11_rank_22 : decode cX11_rank 22 = .ok (.lconst 0, 1) := dX11_rank_all1.1
theorem dX11_rank_23 : decode cX11_rank 23 = .ok (.ldc2_w 234, 3) := dX11_rank_all1.2.1
theorem dX11_rank_26 : decode cX11_rank 26 = .ok (.invokestatic 147, 3) := dX11_rank_all1.2.2.1
theorem dX11_rank_29 : decode cX11_rank 29 = .ok (.ifCond .eq 14, 3) := dX11_rank_all1.2.2.2.1
theorem dX11_rank_32 : decode cX11_rank 32 = .ok (.iload 5, 2) := dX11_rank_all1.2.2.2.2.1
theorem dX11_rank_34 : decode cX11_rank 34 = .ok (.i2l, 1) := dX11_rank_all1.2.2.2.2.2.1
theorem dX11_rank_35 : decode cX11_rank 35 = .ok (.lconst 0, 1) := dX11_rank_all1.2.2.2.2.2.2.1
theorem dX11_rank_36 : decode cX11_rank 36 = .ok (.lconst 1, 1) := dX11_rank_all1.2.2.2.2.2.2.2.1
theorem dX11_rank_37 : decode cX11_rank 37 = .ok (.invokestatic 147, 3) := dX11_rank_all1.2.2.2.2.2.2.2.2.1
theorem dX11_rank_40 : decode cX11_rank 40 = .ok (.ifCond .ne 6, 3) := dX11_rank_all1.2.2.2.2.2.2.2.2.2.1
theorem dX11_rank_43 : decode cX11_rank 43 = .ok (.ldc 157, 2) := dX11_rank_all1.2.2.2.2.2.2.2.2.2.2.1
theorem dX11_rank_45 : decode cX11_rank 45 = .ok (.ireturn, 1) := dX11_rank_all1.2.2.2.2.2.2.2.2.2.2.2
theorem dX11_rank_all2 : decode cX11_rank 46 = .ok (.lconst 0, 1) ∧ decode cX11_rank 47 = .ok (.lstore 6, 2) ∧ decode cX11_rank 49 = .ok (.aload_n 0, 1) ∧ decode cX11_rank 50 = .ok (.getfield 51, 3) ∧ decode cX11_rank 53 = .ok (.iload_n 1, 1) ∧ decode cX11_rank 54 = .ok (.iaload, 1) ∧ decode cX11_rank 55 = .ok (.istore 8, 2) ∧ decode cX11_rank 57 = .ok (.iconst 0, 1) ∧ decode cX11_rank 58 = .ok (.istore 9, 2) ∧ decode cX11_rank 60 = .ok (.iload 9, 2) ∧ decode cX11_rank 62 = .ok (.iload 4, 2) ∧ decode cX11_rank 64 = .ok (.if_icmp .gt 182, 3) := by decide +kernel
theorem dX11_rank_46 : decode cX11_rank 46 = .ok (.lconst 0, 1) := dX11_rank_all2.1
theorem dX11_rank_47 : decode cX11_rank 47 = .ok (.lstore 6, 2) := dX11_rank_all2.2.1
theorem dX11_rank_49 : decode cX11_rank 49 = .ok (.aload_n 0, 1) := dX11_rank_all2.2.2.1
theorem dX11_rank_50 : decode cX11_rank 50 = .ok (.getfield 51, 3) := dX11_rank_all2.2.2.2.1
theorem dX11_rank_53 : decode cX11_rank 53 = .ok (.iload_n 1, 1) := dX11_rank_all2.2.2.2.2.1
theorem dX11_rank_54 : decode cX11_rank 54 = .ok (.iaload, 1) := dX11_rank_all2.2.2.2.2.2.1
theorem dX11_rank_55 : decode cX11_rank 55 = .ok (.istore 8, 2) := dX11_rank_all2.2.2.2.2.2.2.1
theorem dX11_rank_57 : decode cX11_rank 57 = .ok (.iconst 0, 1) := dX11_rank_all2.2.2.2.2.2.2.2.1
theorem dX11_rank_58 : decode cX11_rank 58 = .ok (.istore 9, 2) := dX11_rank_all2.2.2.2.2.2.2.2.2.1
theorem dX11_rank_60 : decode cX11_rank 60 = .ok (.iload 9, 2) := dX11_rank_all2.2.2.2.2.2.2.2.2.2.1
theorem dX11_rank_62 : decode cX11_rank 62 = .ok (.iload 4, 2) := dX11_rank_all2.2.2.2.2.2.2.2.2.2.2.1
theorem dX11_rank_64 : decode cX11_rank 64 = .ok (.if_icmp .gt 182, 3) := dX11_rank_all2.2.2.2.2.2.2.2.2.2.2.2
theorem dX11_rank_all3 : decode cX11_rank 67 = .ok (.ldc 139, 2) ∧ decode cX11_rank 69 = .ok (.istore 10, 2) ∧ decode cX11_rank 71 = .ok (.iconst 0, 1) ∧ decode cX11_rank 72 = .ok (.istore 11, 2) ∧ decode cX11_rank 74 = .ok (.iload 11, 2) ∧ decode cX11_rank 76 = .ok (.aload_n 0, 1) ∧ decode cX11_rank 77 = .ok (.getfield 231, 3) ∧ decode cX11_rank 80 = .ok (.if_icmp .ge 88, 3) ∧ decode cX11_rank 83 = .ok (.aload_n 0, 1) ∧ decode cX11_rank 84 = .ok (.getfield 69, 3) ∧ decode cX11_rank 87 = .ok (.iload 11, 2) ∧ decode cX11_rank 89 = .ok (.iaload, 1) := by decide +kernel
theorem dX11_rank_67 : decode cX11_rank 67 = .ok (.ldc 139, 2) := dX11_rank_all3.1
theorem dX11_rank_69 : decode cX11_rank 69 = .ok (.istore 10, 2) := dX11_rank_all3.2.1
theorem dX11_rank_71 : decode cX11_rank 71 = .ok (.iconst 0, 1) := dX11_rank_all3.2.2.1
theorem dX11_rank_72 : decode cX11_rank 72 = .ok (.istore 11, 2) := dX11_rank_all3.2.2.2.1
theorem dX11_rank_74 : decode cX11_rank 74 = .ok (.iload 11, 2) := dX11_rank_all3.2.2.2.2.1
theorem dX11_rank_76 : decode cX11_rank 76 = .ok (.aload_n 0, 1) := dX11_rank_all3.2.2.2.2.2.1
theorem dX11_rank_77 : decode cX11_rank 77 = .ok (.getfield 231, 3) := dX11_rank_all3.2.2.2.2.2.2.1
theorem dX11_rank_80 : decode cX11_rank 80 = .ok (.if_icmp .ge 88, 3) := dX11_rank_all3.2.2.2.2.2.2.2.1
theorem dX11_rank_83 : decode cX11_rank 83 = .ok (.aload_n 0, 1) := dX11_rank_all3.2.2.2.2.2.2.2.2.1
theorem dX11_rank_84 : decode cX11_rank 84 = .ok (.getfield 69, 3) := dX11_rank_all3.2.2.2.2.2.2.2.2.2.1
theorem dX11_rank_87 : decode cX11_rank 87 = .ok (.iload 11, 2) := dX11_rank_all3.2.2.2.2.2.2.2.2.2.2.1
theorem dX11_rank_89 : decode cX11_rank 89 = .ok (.iaload, 1) := dX11_rank_all3.2.2.2.2.2.2.2.2.2.2.2
theorem dX11_rank_all4 : decode cX11_rank 90 = .ok (.iload_n 1, 1) ∧ decode cX11_rank 91 = .ok (.if_icmp .ne 30, 3) ∧ decode cX11_rank 94 = .ok (.aload_n 0, 1) ∧ decode cX11_rank 95 = .ok (.getfield 78, 3) ∧ decode cX11_rank 98 = .ok (.iload 11, 2) ∧ decode cX11_rank 100 = .ok (.iaload, 1) ∧ decode cX11_rank 101 = .ok (.iload_n 2, 1) ∧ decode cX11_rank 102 = .ok (.if_icmp .gt 19, 3) ∧ decode cX11_rank 105 = .ok (.lload 6, 2) ∧ decode cX11_rank 107 = .ok (.iload 11, 2) ∧ decode cX11_rank 109 = .ok (.lshr, 1) ∧ decode cX11_rank 110 = .ok (.lconst 1, 1) := by decide +kernel
theorem dX11_rank_90 : decode cX11_rank 90 = .ok (.iload_n 1, 1) := dX11_rank_all4.1
theorem dX11_rank_91 : decode cX11_rank 91 = .ok (.if_icmp .ne 30, 3) := dX11_rank_all4.2.1
theorem dX11_rank_94 : decode cX11_rank 94 = .ok (.aload_n 0, 1) := dX11_rank_all4.2.2.1
theorem dX11_rank_95 : decode cX11_rank 95 = .ok (.getfield 78, 3) := dX11_rank_all4.2.2.2.1
theorem dX11_rank_98 : decode cX11_rank 98 = .ok (.iload 11, 2) := dX11_rank_all4.2.2.2.2.1
theorem dX11_rank_100 : decode cX11_rank 100 = .ok (.iaload, 1) := dX11_rank_all4.2.2.2.2.2.1
theorem dX11_rank_101 : decode cX11_rank 101 = .ok (.iload_n 2, 1) := dX11_rank_all4.2.2.2.2.2.2.1
theorem dX11_rank_102 : decode cX11_rank 102 = .ok (.if_icmp .gt 19, 3) := dX11_rank_all4.2.2.2.2.2.2.2.1
theorem dX11_rank_105 : decode cX11_rank 105 = .ok (.lload 6, 2) := dX11_rank_all4.2.2.2.2.2.2.2.2.1
theorem dX11_rank_107 : decode cX11_rank 107 = .ok (.iload 11, 2) := dX11_rank_all4.2.2.2.2.2.2.2.2.2.1
theorem dX11_rank_109 : decode cX11_rank 109 = .ok (.lshr, 1) := dX11_rank_all4.2.2.2.2.2.2.2.2.2.2.1
theorem dX11_rank_110 : decode cX11_rank 110 = .ok (.lconst 1, 1) := dX11_rank_all4.2.2.2.2.2.2.2.2.2.2.2
theorem dX11_rank_all5 : decode cX11_rank 111 = .ok (.land, 1) ∧ decode cX11_rank 112 = .ok (.lconst 0, 1) ∧ decode cX11_rank 113 = .ok (.lcmp, 1) ∧ decode cX11_rank 114 = .ok (.ifCond .ne 7, 3) ∧ decode cX11_rank 117 = .ok (.iconst 1, 1) ∧ decode cX11_rank 118 = .ok (.goto 4, 3) ∧ decode cX11_rank 121 = .ok (.iconst 0, 1) ∧ decode cX11_rank 122 = .ok (.istore 12, 2) ∧ decode cX11_rank 124 = .ok (.iload 12, 2) ∧ decode cX11_rank 126 = .ok (.ifCond .eq 32, 3) ∧ decode cX11_rank 129 = .ok (.iload 10, 2) ∧ decode cX11_rank 131 = .ok (.ldc 139, 2) := by decide +kernel
theorem dX11_rank_111 : decode cX11_rank 111 = .ok (.land, 1) := dX11_rank_all5.1
theorem dX11_rank_112 : decode cX11_rank 112 = .ok (.lconst 0, 1) := dX11_rank_all5.2.1
theorem dX11_rank_113 : decode cX11_rank 113 = .ok (.lcmp, 1) := dX11_rank_all5.2.2.1
theorem dX11_rank_114 : decode cX11_rank 114 = .ok (.ifCond .ne 7, 3) := dX11_rank_all5.2.2.2.1
theorem dX11_rank_117 : decode cX11_rank 117 = .ok (.iconst 1, 1) := dX11_rank_all5.2.2.2.2.1
theorem dX11_rank_118 : decode cX11_rank 118 = .ok (.goto 4, 3) := dX11_rank_all5.2.2.2.2.2.1
theorem dX11_rank_121 : decode cX11_rank 121 = .ok (.iconst 0, 1) := dX11_rank_all5.2.2.2.2.2.2.1
theorem dX11_rank_122 : decode cX11_rank 122 = .ok (.istore 12, 2) := dX11_rank_all5.2.2.2.2.2.2.2.1
theorem dX11_rank_124 : decode cX11_rank 124 = .ok (.iload 12, 2) := dX11_rank_all5.2.2.2.2.2.2.2.2.1
theorem dX11_rank_126 : decode cX11_rank 126 = .ok (.ifCond .eq 32, 3) := dX11_rank_all5.2.2.2.2.2.2.2.2.2.1
theorem dX11_rank_129 : decode cX11_rank 129 = .ok (.iload 10, 2) := dX11_rank_all5.2.2.2.2.2.2.2.2.2.2.1
theorem dX11_rank_131 : decode cX11_rank 131 = .ok (.ldc 139, 2) := dX11_rank_all5.2.2.2.2.2.2.2.2.2.2.2
theorem dX11_rank_all6 : decode cX11_rank 133 = .ok (.if_icmp .eq 20, 3) ∧ decode cX11_rank 136 = .ok (.aload_n 0, 1) ∧ decode cX11_rank 137 = .ok (.iload 11, 2) ∧ decode cX11_rank 139 = .ok (.iload_n 3, 1) ∧ decode cX11_rank 140 = .ok (.invokevirtual 236, 3) ∧ decode cX11_rank 143 = .ok (.aload_n 0, 1) ∧ decode cX11_rank 144 = .ok (.iload 10, 2) ∧ decode cX11_rank 146 = .ok (.iload_n 3, 1) ∧ decode cX11_rank 147 = .ok (.invokevirtual 236, 3) ∧ decode cX11_rank 150 = .ok (.if_icmp .ge 8, 3) ∧ decode cX11_rank 153 = .ok (.iload 11, 2) ∧ decode cX11_rank 155 = .ok (.goto 5, 3) := by decide +kernel
theorem dX11_rank_133 : decode cX11_rank 133 = .ok (.if_icmp .eq 20, 3) := dX11_rank_all6.1
theorem dX11_rank_136 : decode cX11_rank 136 = .ok (.aload_n 0, 1) := dX11_rank_all6.2.1
theorem dX11_rank_137 : decode cX11_rank 137 = .ok (.iload 11, 2) := dX11_rank_all6.2.2.1
theorem dX11_rank_139 : decode cX11_rank 139 = .ok (.iload_n 3, 1) := dX11_rank_all6.2.2.2.1
theorem dX11_rank_140 : decode cX11_rank 140 = .ok (.invokevirtual 236, 3) := dX11_rank_all6.2.2.2.2.1
theorem dX11_rank_143 : decode cX11_rank 143 = .ok (.aload_n 0, 1) := dX11_rank_all6.2.2.2.2.2.1
theorem dX11_rank_144 : decode cX11_rank 144 = .ok (.iload 10, 2) := dX11_rank_all6.2.2.2.2.2.2.1
theorem dX11_rank_146 : decode cX11_rank 146 = .ok (.iload_n 3, 1) := dX11_rank_all6.2.2.2.2.2.2.2.1
theorem dX11_rank_147 : decode cX11_rank 147 = .ok (.invokevirtual 236, 3) := dX11_rank_all6.2.2.2.2.2.2.2.2.1
theorem dX11_rank_150 : decode cX11_rank 150 = .ok (.if_icmp .ge 8, 3) := dX11_rank_all6.2.2.2.2.2.2.2.2.2.1
theorem dX11_rank_153 : decode cX11_rank 153 = .ok (.iload 11, 2) := dX11_rank_all6.2.2.2.2.2.2.2.2.2.2.1
theorem dX11_rank_155 : decode cX11_rank 155 = .ok (.goto 5, 3) := dX11_rank_all6.2.2.2.2.2.2.2.2.2.2.2
theorem dX11_rank_all7 : decode cX11_rank 158 = .ok (.iload 10, 2) ∧ decode cX11_rank 160 = .ok (.istore 10, 2) ∧ decode cX11_rank 162 = .ok (.iinc 11 1, 3) ∧ decode cX11_rank 165 = .ok (.goto (-91), 3) ∧ decode cX11_rank 168 = .ok (.iload 10, 2) ∧ decode cX11_rank 170 = .ok (.ldc 139, 2) ∧ decode cX11_rank 172 = .ok (.if_icmp .ne 6, 3) ∧ decode cX11_rank 175 = .ok (.ldc 139, 2) ∧ decode cX11_rank 177 = .ok (.ireturn, 1) ∧ decode cX11_rank 178 = .ok (.lload 6, 2) ∧ decode cX11_rank 180 = .ok (.lconst 1, 1) ∧ decode cX11_rank 181 = .ok (.iload 10, 2) := by decide +kernel
theorem dX11_rank_158 : decode cX11_rank 158 = .ok (.iload 10, 2) := dX11_rank_all7.1
theorem dX11_rank_160 : decode cX11_rank 160 = .ok (.istore 10, 2) := dX11_rank_all7.2.1
theorem dX11_rank_162 : decode cX11_rank 162 = .ok (.iinc 11 1, 3) := dX11_rank_all7.2.2.1
theorem dX11_rank_165 : decode cX11_rank 165 = .ok (.goto (-91), 3) := dX11_rank_all7.2.2.2.1
theorem dX11_rank_168 : decode cX11_rank 168 = .ok (.iload 10, 2) := dX11_rank_all7.2.2.2.2.1
theorem dX11_rank_170 : decode cX11_rank 170 = .ok (.ldc 139, 2) := dX11_rank_all7.2.2.2.2.2.1
theorem dX11_rank_172 : decode cX11_rank 172 = .ok (.if_icmp .ne 6, 3) := dX11_rank_all7.2.2.2.2.2.2.1
theorem dX11_rank_175 : decode cX11_rank 175 = .ok (.ldc 139, 2) := dX11_rank_all7.2.2.2.2.2.2.2.1
theorem dX11_rank_177 : decode cX11_rank 177 = .ok (.ireturn, 1) := dX11_rank_all7.2.2.2.2.2.2.2.2.1
theorem dX11_rank_178 : decode cX11_rank 178 = .ok (.lload 6, 2) := dX11_rank_all7.2.2.2.2.2.2.2.2.2.1
theorem dX11_rank_180 : decode cX11_rank 180 = .ok (.lconst 1, 1) := dX11_rank_all7.2.2.2.2.2.2.2.2.2.2.1
theorem dX11_rank_181 : decode cX11_rank 181 = .ok (.iload 10, 2) := dX11_rank_all7.2.2.2.2.2.2.2.2.2.2.2
theorem dX11_rank_all8 : decode cX11_rank 183 = .ok (.lshl, 1) ∧ decode cX11_rank 184 = .ok (.lor, 1) ∧ decode cX11_rank 185 = .ok (.lstore 6, 2) ∧ decode cX11_rank 187 = .ok (.aload_n 0, 1) ∧ decode cX11_rank 188 = .ok (.getfield 72, 3) ∧ decode cX11_rank 191 = .ok (.iload 10, 2) ∧ decode cX11_rank 193 = .ok (.iaload, 1) ∧ decode cX11_rank 194 = .ok (.iload 8, 2) ∧ decode cX11_rank 196 = .ok (.if_icmp .ge 13, 3) ∧ decode cX11_rank 199 = .ok (.aload_n 0, 1) ∧ decode cX11_rank 200 = .ok (.getfield 72, 3) ∧ decode cX11_rank 203 = .ok (.iload 10, 2) := by decide +kernel
theorem dX11_rank_183 : decode cX11_rank 183 = .ok (.lshl, 1) := dX11_rank_all8.1
theorem dX11_rank_184 : decode cX11_rank 184 = .ok (.lor, 1) := dX11_rank_all8.2.1
theorem dX11_rank_185 : decode cX11_rank 185 = .ok (.lstore 6, 2) := dX11_rank_all8.2.2.1
theorem dX11_rank_187 : decode cX11_rank 187 = .ok (.aload_n 0, 1) := dX11_rank_all8.2.2.2.1
theorem dX11_rank_188 : decode cX11_rank 188 = .ok (.getfield 72, 3) := dX11_rank_all8.2.2.2.2.1
theorem dX11_rank_191 : decode cX11_rank 191 = .ok (.iload 10, 2) := dX11_rank_all8.2.2.2.2.2.1
theorem dX11_rank_193 : decode cX11_rank 193 = .ok (.iaload, 1) := dX11_rank_all8.2.2.2.2.2.2.1
theorem dX11_rank_194 : decode cX11_rank 194 = .ok (.iload 8, 2) := dX11_rank_all8.2.2.2.2.2.2.2.1
theorem dX11_rank_196 : decode cX11_rank 196 = .ok (.if_icmp .ge 13, 3) := dX11_rank_all8.2.2.2.2.2.2.2.2.1
theorem dX11_rank_199 : decode cX11_rank 199 = .ok (.aload_n 0, 1) := dX11_rank_all8.2.2.2.2.2.2.2.2.2.1
theorem dX11_rank_200 : decode cX11_rank 200 = .ok (.getfield 72, 3) := dX11_rank_all8.2.2.2.2.2.2.2.2.2.2.1
theorem dX11_rank_203 : decode cX11_rank 203 = .ok (.iload 10, 2) := dX11_rank_all8.2.2.2.2.2.2.2.2.2.2.2
theorem dX11_rank_all9 : decode cX11_rank 205 = .ok (.iaload, 1) ∧ decode cX11_rank 206 = .ok (.goto 5, 3) ∧ decode cX11_rank 209 = .ok (.iload 8, 2) ∧ decode cX11_rank 211 = .ok (.istore 11, 2) ∧ decode cX11_rank 213 = .ok (.iload 8, 2) ∧ decode cX11_rank 215 = .ok (.iload 11, 2) ∧ decode cX11_rank 217 = .ok (.isub, 1) ∧ decode cX11_rank 218 = .ok (.istore 8, 2) ∧ decode cX11_rank 220 = .ok (.iload 9, 2) ∧ decode cX11_rank 222 = .ok (.iload 4, 2) ∧ decode cX11_rank 224 = .ok (.if_icmp .ne 16, 3) ∧ decode cX11_rank 227 = .ok (.iload 5, 2) := by decide +kernel
theorem dX11_rank_205 : decode cX11_rank 205 = .ok (.iaload, 1) := dX11_rank_all9.1
theorem dX11_rank_206 : decode cX11_rank 206 = .ok (.goto 5, 3) := dX11_rank_all9.2.1
theorem dX11_rank_209 : decode cX11_rank 209 = .ok (.iload 8, 2) := dX11_rank_all9.2.2.1
theorem dX11_rank_211 : decode cX11_rank 211 = .ok (.istore 11, 2) := dX11_rank_all9.2.2.2.1
theorem dX11_rank_213 : decode cX11_rank 213 = .ok (.iload 8, 2) := dX11_rank_all9.2.2.2.2.1
theorem dX11_rank_215 : decode cX11_rank 215 = .ok (.iload 11, 2) := dX11_rank_all9.2.2.2.2.2.1
theorem dX11_rank_217 : decode cX11_rank 217 = .ok (.isub, 1) := dX11_rank_all9.2.2.2.2.2.2.1
theorem dX11_rank_218 : decode cX11_rank 218 = .ok (.istore 8, 2) := dX11_rank_all9.2.2.2.2.2.2.2.1
theorem dX11_rank_220 : decode cX11_rank 220 = .ok (.iload 9, 2) := dX11_rank_all9.2.2.2.2.2.2.2.2.1
theorem dX11_rank_222 : decode cX11_rank 222 = .ok (.iload 4, 2) := dX11_rank_all9.2.2.2.2.2.2.2.2.2.1
theorem dX11_rank_224 : decode cX11_rank 224 = .ok (.if_icmp .ne 16, 3) := dX11_rank_all9.2.2.2.2.2.2.2.2.2.2.1
theorem dX11_rank_227 : decode cX11_rank 227 = .ok (.iload 5, 2) := dX11_rank_all9.2.2.2.2.2.2.2.2.2.2.2
theorem dX11_rank_all10 : decode cX11_rank 229 = .ok (.ifCond .ne 8, 3) ∧ decode cX11_rank 232 = .ok (.iload 10, 2) ∧ decode cX11_rank 234 = .ok (.goto 5, 3) ∧ decode cX11_rank 237 = .ok (.iload 11, 2) ∧ decode cX11_rank 239 = .ok (.ireturn, 1) ∧ decode cX11_rank 240 = .ok (.iinc 9 1, 3) ∧ decode cX11_rank 243 = .ok (.goto (-183), 3) ∧ decode cX11_rank 246 = .ok (.ldc 139, 2) ∧ decode cX11_rank 248 = .ok (.ireturn, 1) := by decide +kernel
theorem dX11_rank_229 : decode cX11_rank 229 = .ok (.ifCond .ne 8, 3) := dX11_rank_all10.1
theorem dX11_rank_232 : decode cX11_rank 232 = .ok (.iload 10, 2) := dX11_rank_all10.2.1
theorem dX11_rank_234 : decode cX11_rank 234 = .ok (.goto 5, 3) := dX11_rank_all10.2.2.1
theorem dX11_rank_237 : decode cX11_rank 237 = .ok (.iload 11, 2) := dX11_rank_all10.2.2.2.1
theorem dX11_rank_239 : decode cX11_rank 239 = .ok (.ireturn, 1) := dX11_rank_all10.2.2.2.2.1
theorem dX11_rank_240 : decode cX11_rank 240 = .ok (.iinc 9 1, 3) := dX11_rank_all10.2.2.2.2.2.1
theorem dX11_rank_243 : decode cX11_rank 243 = .ok (.goto (-183), 3) := dX11_rank_all10.2.2.2.2.2.2.1
theorem dX11_rank_246 : decode cX11_rank 246 = .ok (.ldc 139, 2) := dX11_rank_all10.2.2.2.2.2.2.2.1
theorem dX11_rank_248 : decode cX11_rank 248 = .ok (.ireturn, 1) := dX11_rank_all10.2.2.2.2.2.2.2.2
set_option maxHeartbeats 4000000 in
set_option maxRecDepth 100000 in
theorem ct_X11_keyOf (l : Launch) (D : va_G) (cI cY cJ cQ : ClassId) (sz : Nat) (md : Nat → Nat) (sd : Int32) (mth mst hn cn pn mq gn mln mnn ln mlt msz mcu mtk mfr mti mfa mfb an un lc td mtn : Int32) (gk gs gd ge : Nat → Int32) (k : Int32) (z9 : Int32)  (h1 : 0 ≤ k.toInt) (h2 : k.toInt < 40)  : Met l yX11_keyOf wsX11_keyOf ({ frames := 0, cells := 0, slots := 0, locals := 0 }) (cPre D (ty4 cI cY cJ cQ) [(moC md sd mth mst hn cn pn mq gn mln mnn ln mlt msz mcu mtk mfr mti mfa mfb an un lc td mtn), (aI cI (md 26) 40 gk), (aI cI (md 27) 40 gs), (aI cI (md 28) 40 gd), (aI cI (md 29) 40 ge)] sz [.ref (md 64), .int k, .int z9]) (va_Qi (fun (r : Int32) (u : Unit) => True) (cB D (ty4 cI cY cJ cQ) (fun (u : Unit) => [(moC md sd mth mst hn cn pn mq gn mln mnn ln mlt msz mcu mtk mfr mti mfa mfb an un lc td mtn), (aI cI (md 26) 40 gk), (aI cI (md 27) 40 gs), (aI cI (md 28) 40 gd), (aI cI (md 29) 40 ge)]) (va_A [(moC md sd mth mst hn cn pn mq gn mln mnn ln mlt msz mcu mtk mfr mti mfa mfb an un lc td mtn), (aI cI (md 26) 40 gk), (aI cI (md 27) 40 gs), (aI cI (md 28) 40 gd), (aI cI (md 29) 40 ge)] sz)) (va_A [(moC md sd mth mst hn cn pn mq gn mln mnn ln mlt msz mcu mtk mfr mti mfa mfb an un lc td mtn), (aI cI (md 26) 40 gk), (aI cI (md 27) 40 gs), (aI cI (md 28) 40 gd), (aI cI (md 29) 40 ge)] sz)) 0 0 (va_A [(moC md sd mth mst hn cn pn mq gn mln mnn ln mlt msz mcu mtk mfr mti mfa mfb an un lc td mtn), (aI cI (md 26) 40 gk), (aI cI (md 27) 40 gs), (aI cI (md 28) 40 gd), (aI cI (md 29) 40 ge)] sz) := by
  refine Met.ofW (cc := cX11_keyOf) (maxL := 3) (ret := (some .int)) (by decide) rfl ?_
  intro p e s m args below meth c s₁ B hml hv
  obtain ⟨rfl, hsz, hP, hK, hD0, hN⟩ := hv
  have hx := B.exec
  have hb := B.bytes
  have hr := B.returns
  have hts := atoms_spec (ws := wsX11_keyOf) B.pre
  have hown : s.vm.findClass RX11 = some m.cls := findClass_of_methodNamed B.named
  have hlocks := B.notSynchronized
  subst hsz
  have hD := hD0.self (sz := s.heap.size)
  generalize hAe : va_A [(moC md sd mth mst hn cn pn mq gn mln mnn ln mlt msz mcu mtk mfr mti mfa mfb an un lc td mtn), (aI cI (md 26) 40 gk), (aI cI (md 27) 40 gs), (aI cI (md 28) 40 gd), (aI cI (md 29) 40 ge)] s.heap.size = A at hD ⊢
  have hA : ∀ q : Nat, s.heap.size ≤ q → A q := fun q h => by rw [← hAe]; exact Or.inr h
  have hS : va_S A s.heap s.heap [] := va_S.rf
  have hP : va_P D vwCl [(moC md sd mth mst hn cn pn mq gn mln mnn ln mlt msz mcu mtk mfr mti mfa mfb an un lc td mtn), (aI cI (md 26) 40 gk), (aI cI (md 27) 40 gs), (aI cI (md 28) 40 gd), (aI cI (md 29) 40 ge)] s.heap := hP
  have hl := lv_entry ([.ref (md 64), .int k, .int z9]) (n := 3) (Nat.le_of_ble_eq_true rfl)
  rw [lg_entry_eq]
  generalize (lg_sl ([.ref (md 64), .int k, .int z9]) ++ List.replicate (3 - (lg_sl ([.ref (md 64), .int k, .int z9])).length) Slot.unset).toArray = ls at hl ⊢
  have hl : lv_has ls 3 [(0, .ref (md 64)), (1, .int k), (2, .int z9)] := hl
  have k0 : (0 : Int32).toInt = 0 := by decide
  have k1 : (1 : Int32).toInt = 1 := by decide
  have k2 : (2 : Int32).toInt = 2 := by decide
  refine lv_iload_n hx hb dX11_keyOf_0 rfl (lv_at hl 2 rfl) ?_
  refine lv_if_ne (tgt := 13) hx hb dX11_keyOf_1 (by decide) (fun c1 => ?_) (fun c1 => ?_)
  · skip
    have f2 := i_ne c1
    refine lv_iload_n hx hb dX11_keyOf_13 rfl (lv_at hl 2 rfl) ?_
    refine lv_iconst (v := 1) hx hb dX11_keyOf_14 (by decide) ?_
    refine lv_icmp_ne (tgt := 27) hx hb dX11_keyOf_15 (by decide) (fun c3 => ?_) (fun c3 => ?_)
    · skip
      have f4 := i_ne c3
      refine lv_iload_n hx hb dX11_keyOf_27 rfl (lv_at hl 2 rfl) ?_
      refine lv_iconst (v := 2) hx hb dX11_keyOf_28 (by decide) ?_
      refine lv_icmp_ne (tgt := 42) hx hb dX11_keyOf_29 (by decide) (fun c5 => ?_) (fun c5 => ?_)
      · skip
        have f6 := i_ne c5
        refine lv_aload_n hx hb dX11_keyOf_42 rfl (lv_at hl 0 rfl) ?_
        refine va_get (D := D) (ci := 11) (v := .ref (md 29)) (C := RX11) (T := TX11) (N := 64) hx hb hts inX11_keyOf_X11 hown hK hP 0 rfl rfl 29 (by decide) (hts (Cond.fieldLink RX11 78 "PortRoomsModel" "pledgeFiled" "[I") (wm_t (wm_l (wm_i 0 rfl)))) (fun _ h9 => h9) rfl dX11_keyOf_43 ?_
        refine lv_iload_n hx hb dX11_keyOf_46 rfl (lv_at hl 1 rfl) ?_
        refine va_iald hx hb hK hP 4 0 rfl rfl (i_in (by omega) (by omega)) dX11_keyOf_47 ?_
        refine lv_topi (fun v7 ev7 => ?_)
        refine lv_ineg hx hb dX11_keyOf_48 ?_
        refine lv_topi (fun v8 ev8 => ?_)
        have hP9 := hP
        have hD9 := hD
        exact W.iret (v := v8) hx hb hr (fun t ht hW => ⟨⟨v8, (), rfl, trivial, by rw [ht]; exact hP9, va_K.moved hW.alike hK, hD9⟩, hS.F ht⟩) hS.2.2 dX11_keyOf_49
      · skip
        have f9 := i_eq c5
        refine lv_aload_n hx hb dX11_keyOf_32 rfl (lv_at hl 0 rfl) ?_
        refine va_get (D := D) (ci := 11) (v := .ref (md 27)) (C := RX11) (T := TX11) (N := 64) hx hb hts inX11_keyOf_X11 hown hK hP 0 rfl rfl 27 (by decide) (hts (Cond.fieldLink RX11 72 "PortRoomsModel" "pledgeSum" "[I") (wm_t (wm_l (wm_i 2 rfl)))) (fun _ h9 => h9) rfl dX11_keyOf_33 ?_
        refine lv_iload_n hx hb dX11_keyOf_36 rfl (lv_at hl 1 rfl) ?_
        refine va_iald hx hb hK hP 2 0 rfl rfl (i_in (by omega) (by omega)) dX11_keyOf_37 ?_
        refine lv_topi (fun v10 ev10 => ?_)
        refine lv_ineg hx hb dX11_keyOf_38 ?_
        refine lv_topi (fun v11 ev11 => ?_)
        refine lv_goto (tgt := 49) hx hb dX11_keyOf_39 (by decide) ?_
        have hP9 := hP
        have hD9 := hD
        exact W.iret (v := v11) hx hb hr (fun t ht hW => ⟨⟨v11, (), rfl, trivial, by rw [ht]; exact hP9, va_K.moved hW.alike hK, hD9⟩, hS.F ht⟩) hS.2.2 dX11_keyOf_49
    · skip
      have f12 := i_eq c3
      refine lv_aload_n hx hb dX11_keyOf_18 rfl (lv_at hl 0 rfl) ?_
      refine va_get (D := D) (ci := 11) (v := .ref (md 28)) (C := RX11) (T := TX11) (N := 64) hx hb hts inX11_keyOf_X11 hown hK hP 0 rfl rfl 28 (by decide) (hts (Cond.fieldLink RX11 75 "PortRoomsModel" "pledgeSaid" "[I") (wm_t (wm_l (wm_i 1 rfl)))) (fun _ h9 => h9) rfl dX11_keyOf_19 ?_
      refine lv_iload_n hx hb dX11_keyOf_22 rfl (lv_at hl 1 rfl) ?_
      refine va_iald hx hb hK hP 3 0 rfl rfl (i_in (by omega) (by omega)) dX11_keyOf_23 ?_
      refine lv_topi (fun v13 ev13 => ?_)
      refine lv_goto (tgt := 49) hx hb dX11_keyOf_24 (by decide) ?_
      have hP9 := hP
      have hD9 := hD
      exact W.iret (v := v13) hx hb hr (fun t ht hW => ⟨⟨v13, (), rfl, trivial, by rw [ht]; exact hP9, va_K.moved hW.alike hK, hD9⟩, hS.F ht⟩) hS.2.2 dX11_keyOf_49
  · skip
    have f14 := i_eq c1
    refine lv_aload_n hx hb dX11_keyOf_4 rfl (lv_at hl 0 rfl) ?_
    refine va_get (D := D) (ci := 11) (v := .ref (md 29)) (C := RX11) (T := TX11) (N := 64) hx hb hts inX11_keyOf_X11 hown hK hP 0 rfl rfl 29 (by decide) (hts (Cond.fieldLink RX11 78 "PortRoomsModel" "pledgeFiled" "[I") (wm_t (wm_l (wm_i 0 rfl)))) (fun _ h9 => h9) rfl dX11_keyOf_5 ?_
    refine lv_iload_n hx hb dX11_keyOf_8 rfl (lv_at hl 1 rfl) ?_
    refine va_iald hx hb hK hP 4 0 rfl rfl (i_in (by omega) (by omega)) dX11_keyOf_9 ?_
    refine lv_topi (fun v15 ev15 => ?_)
    refine lv_goto (tgt := 49) hx hb dX11_keyOf_10 (by decide) ?_
    have hP9 := hP
    have hD9 := hD
    exact W.iret (v := v15) hx hb hr (fun t ht hW => ⟨⟨v15, (), rfl, trivial, by rw [ht]; exact hP9, va_K.moved hW.alike hK, hD9⟩, hS.F ht⟩) hS.2.2 dX11_keyOf_49

set_option maxHeartbeats 4000000 in
set_option maxRecDepth 100000 in
theorem ct_X11_rank (l : Launch) (D : va_G) (cI cY cJ cQ : ClassId) (sz : Nat) (md : Nat → Nat) (sd : Int32) (mth mst hn cn pn mq gn mln mnn ln mlt msz mcu mtk mfr mti mfa mfb an un lc td mtn : Int32) (wo gk gs gd ge : Nat → Int32) (k : Int32) (d : Int32) (zl : Int32) (i : Int32) (w : Int32)  (h1 : 0 ≤ cn.toInt) (h2 : cn.toInt ≤ 12) (h3 : 0 ≤ gn.toInt) (h4 : gn.toInt ≤ 40)  : Met l yX11_rank wsX11_rank ({ frames := 2, cells := 0, slots := 0, locals := 46 }) (cPre D (ty4 cI cY cJ cQ) [(moC md sd mth mst hn cn pn mq gn mln mnn ln mlt msz mcu mtk mfr mti mfa mfb an un lc td mtn), (aI cI (md 17) 12 wo), (aI cI (md 26) 40 gk), (aI cI (md 27) 40 gs), (aI cI (md 28) 40 gd), (aI cI (md 29) 40 ge)] sz [.ref (md 64), .int k, .int d, .int zl, .int i, .int w]) (va_Qi (fun (r : Int32) (u : Unit) => True) (cB D (ty4 cI cY cJ cQ) (fun (u : Unit) => [(moC md sd 0 mst hn cn pn mq gn mln mnn ln mlt msz mcu mtk mfr mti mfa mfb an un lc td mtn), (aI cI (md 17) 12 wo), (aI cI (md 26) 40 gk), (aI cI (md 27) 40 gs), (aI cI (md 28) 40 gd), (aI cI (md 29) 40 ge)]) (va_A [(moC md sd mth mst hn cn pn mq gn mln mnn ln mlt msz mcu mtk mfr mti mfa mfb an un lc td mtn), (aI cI (md 17) 12 wo), (aI cI (md 26) 40 gk), (aI cI (md 27) 40 gs), (aI cI (md 28) 40 gd), (aI cI (md 29) 40 ge)] sz)) (va_A [(moC md sd mth mst hn cn pn mq gn mln mnn ln mlt msz mcu mtk mfr mti mfa mfb an un lc td mtn), (aI cI (md 17) 12 wo), (aI cI (md 26) 40 gk), (aI cI (md 27) 40 gs), (aI cI (md 28) 40 gd), (aI cI (md 29) 40 ge)] sz)) 0 0 (va_A [(moC md sd mth mst hn cn pn mq gn mln mnn ln mlt msz mcu mtk mfr mti mfa mfb an un lc td mtn), (aI cI (md 17) 12 wo), (aI cI (md 26) 40 gk), (aI cI (md 27) 40 gs), (aI cI (md 28) 40 gd), (aI cI (md 29) 40 ge)] sz) := by
  refine Met.ofW (cc := cX11_rank) (maxL := 13) (ret := (some .int)) (by decide) rfl ?_
  intro p e s m args below meth c s₁ B hml hv
  obtain ⟨rfl, hsz, hP, hK, hD0, hN⟩ := hv
  have hx := B.exec
  have hb := B.bytes
  have hr := B.returns
  have hts := atoms_spec (ws := wsX11_rank) B.pre
  have hown : s.vm.findClass RX11 = some m.cls := findClass_of_methodNamed B.named
  have hlocks := B.notSynchronized
  subst hsz
  have hD := hD0.self (sz := s.heap.size)
  generalize hAe : va_A [(moC md sd mth mst hn cn pn mq gn mln mnn ln mlt msz mcu mtk mfr mti mfa mfb an un lc td mtn), (aI cI (md 17) 12 wo), (aI cI (md 26) 40 gk), (aI cI (md 27) 40 gs), (aI cI (md 28) 40 gd), (aI cI (md 29) 40 ge)] s.heap.size = A at hD ⊢
  have hA : ∀ q : Nat, s.heap.size ≤ q → A q := fun q h => by rw [← hAe]; exact Or.inr h
  have hS : va_S A s.heap s.heap [] := va_S.rf
  have hP : va_P D vwCl [(moC md sd mth mst hn cn pn mq gn mln mnn ln mlt msz mcu mtk mfr mti mfa mfb an un lc td mtn), (aI cI (md 17) 12 wo), (aI cI (md 26) 40 gk), (aI cI (md 27) 40 gs), (aI cI (md 28) 40 gd), (aI cI (md 29) 40 ge)] s.heap := hP
  have hl := lv_entry ([.ref (md 64), .int k, .int d, .int zl, .int i, .int w]) (n := 13) (Nat.le_of_ble_eq_true rfl)
  rw [lg_entry_eq]
  generalize (lg_sl ([.ref (md 64), .int k, .int d, .int zl, .int i, .int w]) ++ List.replicate (13 - (lg_sl ([.ref (md 64), .int k, .int d, .int zl, .int i, .int w])).length) Slot.unset).toArray = ls at hl ⊢
  have hl : lv_has ls 13 [(0, .ref (md 64)), (1, .int k), (2, .int d), (3, .int zl), (4, .int i), (5, .int w)] := hl
  have km1000000 : (-1000000 : Int32).toInt = -1000000 := by decide
  have k0 : (0 : Int32).toInt = 0 := by decide
  have k1 : (1 : Int32).toInt = 1 := by decide
  have kl0 : (0 : Int64).toInt = 0 := by decide
  have kl1 : (1 : Int64).toInt = 1 := by decide
  have kl3 : (3 : Int64).toInt = 3 := by decide
  refine lv_aload_n hx hb dX11_rank_0 rfl (lv_at hl 0 rfl) ?_
  refine lv_iconst (v := 0) hx hb dX11_rank_1 (by decide) ?_
  refine va_put (D := D) (ci := 11) (v := .int 0) (ty := .int) (C := RX11) (T := TX11) (N := 64) hx hb hts inX11_rank_X11 tyX11 tyX11_ok nmX11 hown hK hP hD hS 0 rfl rfl 0 (by decide) (hts (Cond.fieldLink RX11 1 "PortRoomsModel" "thrown" "I") (wm_t (wm_l (wm_i 0 rfl)))) (fun _ h9 => h9) rfl (tyX11_ok 0 (by decide)) rfl rfl (Nat.le_of_ble_eq_true rfl) dX11_rank_2 (fun H locs => ?_)
  clear hP hD hS
  intro hP hD hS
  replace hP : va_P D vwCl [(moC md sd (0) mst hn cn pn mq gn mln mnn ln mlt msz mcu mtk mfr mti mfa mfb an un lc td mtn), (aI cI (md 17) 12 wo), (aI cI (md 26) 40 gk), (aI cI (md 27) 40 gs), (aI cI (md 28) 40 gd), (aI cI (md 29) 40 ge)] H := hP
  replace hD : va_D A [(moC md sd (0) mst hn cn pn mq gn mln mnn ln mlt msz mcu mtk mfr mti mfa mfb an un lc td mtn), (aI cI (md 17) 12 wo), (aI cI (md 26) 40 gk), (aI cI (md 27) 40 gs), (aI cI (md 28) 40 gd), (aI cI (md 29) 40 ge)] := hD
  refine lv_aload_n hx hb dX11_rank_5 rfl (lv_at hl 0 rfl) ?_
  refine lv_iload_n hx hb dX11_rank_6 rfl (lv_at hl 1 rfl) ?_
  refine st_i1 (va_runV (C := RX11) (As := [.int k]) (rest := []) ⟨hx, hb, hml, hown, hts⟩ (ct_X11_isCrate l D cI cY cJ cQ _ md sd 0 mst hn cn pn mq gn mln mnn ln mlt msz mcu mtk mfr mti mfa mfb an un lc td mtn k h1 h2) (cwV 1 hts gX11_rank_X11_isCrate rfl rfl rfl ⟨rfl, cdX11_isCrate⟩ ⟨Nat.le_of_ble_eq_true rfl, Nat.le_of_ble_eq_true rfl⟩) (cPreV (hP.sub [0] rfl) hK (hD.sub [0] (by decide +kernel) rfl) hN (ci := 11) (q0 := 0) rfl rfl) rfl rfl hl.1 rfl (lv_room (Nat.le_of_ble_eq_true rfl)) dX11_rank_7 ⟨Nat.le_of_ble_eq_true rfl, Nat.le_of_ble_eq_true rfl⟩) hP hD hS hA [0] rfl (fun _ => rfl) (fun r3 u1 H locs hw2 => ?_)
  clear hP hS
  intro hP hS
  replace hw2 : r3 = if 0 ≤ k.toInt ∧ k.toInt < cn.toInt then 1 else 0 := hw2
  refine lv_if_eq (tgt := 43) hx hb dX11_rank_10 (by decide) (fun c4 => ?_) (fun c4 => ?_)
  · skip
    have f5 := bo_f hw2 c4
    refine lv_ldc hx hb hown (hts (Cond.constant RX11 157 (-1000001)) (wm_t (wm_l (wm_i 2 rfl)))) dX11_rank_43 ?_
    have hP9 := hP
    have hD9 := hD
    exact W.iret (v := (-1000001)) hx hb hr (fun t ht hW => ⟨⟨(-1000001), (), rfl, trivial, by rw [ht]; exact hP9, va_K.moved hW.alike hK, hD9⟩, hS.F ht⟩) hS.2.2 dX11_rank_45
  · skip
    have f6 := bo_t hw2 c4
    refine lv_iload_n hx hb dX11_rank_13 rfl (lv_at hl 2 rfl) ?_
    refine st_i1 (va_runS (As := [.int d]) (rest := []) ⟨hx, hb, hml, hown, hts⟩ (ct_X11_isDay l D cI cY cJ cQ _ d) (va_cwS 1 hts gX11_rank_X11_isDay rfl rfl rfl cdX11_isDay ⟨Nat.le_of_ble_eq_true rfl, Nat.le_of_ble_eq_true rfl⟩) (cPreS (hP.sub [] rfl) hK (hD.sub [] (by decide +kernel) rfl) hN) rfl rfl hl.1 rfl (lv_room (Nat.le_of_ble_eq_true rfl)) dX11_rank_14 ⟨Nat.le_of_ble_eq_true rfl, Nat.le_of_ble_eq_true rfl⟩) hP hD hS hA [] rfl (fun _ => rfl) (fun r9 u7 H locs hw8 => ?_)
    clear hP hS
    intro hP hS
    replace hw8 : r9 = if 0 ≤ d.toInt ∧ d.toInt ≤ 9999 then 1 else 0 := hw8
    refine lv_if_eq (tgt := 43) hx hb dX11_rank_17 (by decide) (fun c10 => ?_) (fun c10 => ?_)
    · skip
      have f11 := bo_f hw8 c10
      refine lv_ldc hx hb hown (hts (Cond.constant RX11 157 (-1000001)) (wm_t (wm_l (wm_i 2 rfl)))) dX11_rank_43 ?_
      have hP9 := hP
      have hD9 := hD
      exact W.iret (v := (-1000001)) hx hb hr (fun t ht hW => ⟨⟨(-1000001), (), rfl, trivial, by rw [ht]; exact hP9, va_K.moved hW.alike hK, hD9⟩, hS.F ht⟩) hS.2.2 dX11_rank_45
    · skip
      have f12 := bo_t hw8 c10
      refine lv_iload_n hx hb dX11_rank_20 rfl (lv_at hl 3 rfl) ?_
      refine lv_i2l hx hb dX11_rank_21 rfl ?_
      have w13 := i_w zl
      have w14 := i_rng zl
      refine lv_lconst (v := 0) hx hb dX11_rank_22 (by decide) ?_
      refine lv_ldc2 hx hb hown (hts (Cond.constantLong RX11 234 (3)) (wm_t (wm_l (wm_i 1 rfl)))) dX11_rank_23 ?_
      refine st_i1 (va_runS (As := [.long (zl.toInt64), .long 0, .long 3]) (rest := []) ⟨hx, hb, hml, hown, hts⟩ (ct_X11_in l D cI cY cJ cQ _ zl.toInt64 (0 : Int64) (3 : Int64)) (va_cwS 3 hts gX11_rank_X11_in rfl rfl rfl cdX11_in ⟨Nat.le_of_ble_eq_true rfl, Nat.le_of_ble_eq_true rfl⟩) (cPreS (hP.sub [] rfl) hK (hD.sub [] (by decide +kernel) rfl) hN) rfl rfl hl.1 rfl (lv_room (Nat.le_of_ble_eq_true rfl)) dX11_rank_26 ⟨Nat.le_of_ble_eq_true rfl, Nat.le_of_ble_eq_true rfl⟩) hP hD hS hA [] rfl (fun _ => rfl) (fun r17 u15 H locs hw16 => ?_)
      clear hP hS
      intro hP hS
      replace hw16 : r17 = if (0 : Int64).toInt ≤ zl.toInt64.toInt ∧ zl.toInt64.toInt ≤ (3 : Int64).toInt then 1 else 0 := hw16
      refine lv_if_eq (tgt := 43) hx hb dX11_rank_29 (by decide) (fun c18 => ?_) (fun c18 => ?_)
      · skip
        have f19 := bo_f hw16 c18
        refine lv_ldc hx hb hown (hts (Cond.constant RX11 157 (-1000001)) (wm_t (wm_l (wm_i 2 rfl)))) dX11_rank_43 ?_
        have hP9 := hP
        have hD9 := hD
        exact W.iret (v := (-1000001)) hx hb hr (fun t ht hW => ⟨⟨(-1000001), (), rfl, trivial, by rw [ht]; exact hP9, va_K.moved hW.alike hK, hD9⟩, hS.F ht⟩) hS.2.2 dX11_rank_45
      · skip
        have f20 := bo_t hw16 c18
        refine lv_iload hx hb dX11_rank_32 (lv_at hl 5 rfl) ?_
        refine lv_i2l hx hb dX11_rank_34 rfl ?_
        have w21 := i_w w
        have w22 := i_rng w
        refine lv_lconst (v := 0) hx hb dX11_rank_35 (by decide) ?_
        refine lv_lconst (v := 1) hx hb dX11_rank_36 (by decide) ?_
        refine st_i1 (va_runS (As := [.long (w.toInt64), .long 0, .long 1]) (rest := []) ⟨hx, hb, hml, hown, hts⟩ (ct_X11_in l D cI cY cJ cQ _ w.toInt64 (0 : Int64) (1 : Int64)) (va_cwS 3 hts gX11_rank_X11_in rfl rfl rfl cdX11_in ⟨Nat.le_of_ble_eq_true rfl, Nat.le_of_ble_eq_true rfl⟩) (cPreS (hP.sub [] rfl) hK (hD.sub [] (by decide +kernel) rfl) hN) rfl rfl hl.1 rfl (lv_room (Nat.le_of_ble_eq_true rfl)) dX11_rank_37 ⟨Nat.le_of_ble_eq_true rfl, Nat.le_of_ble_eq_true rfl⟩) hP hD hS hA [] rfl (fun _ => rfl) (fun r25 u23 H locs hw24 => ?_)
        clear hP hS
        intro hP hS
        replace hw24 : r25 = if (0 : Int64).toInt ≤ w.toInt64.toInt ∧ w.toInt64.toInt ≤ (1 : Int64).toInt then 1 else 0 := hw24
        refine lv_if_ne (tgt := 46) hx hb dX11_rank_40 (by decide) (fun c26 => ?_) (fun c26 => ?_)
        · skip
          have f27 := bo_t hw24 c26
          refine lv_lconst (v := 0) hx hb dX11_rank_46 (by decide) ?_
          refine lv_lstore (lv' := [(6, .long 0), (0, .ref (md 64)), (1, .int k), (2, .int d), (3, .int zl), (4, .int i), (5, .int w)]) hx hb dX11_rank_47 hl (by decide) rfl (fun ls hl => ?_)
          refine lv_aload_n hx hb dX11_rank_49 rfl (lv_at hl 1 rfl) ?_
          refine va_get (D := D) (ci := 11) (v := .ref (md 17)) (C := RX11) (T := TX11) (N := 64) hx hb hts inX11_rank_X11 hown hK hP 0 rfl rfl 17 (by decide) (hts (Cond.fieldLink RX11 51 "PortRoomsModel" "worth" "[I") (wm_t (wm_l (wm_i 3 rfl)))) (fun _ h9 => h9) rfl dX11_rank_50 ?_
          refine lv_iload_n hx hb dX11_rank_53 rfl (lv_at hl 2 rfl) ?_
          refine va_iald hx hb hK hP 1 0 rfl rfl (i_in (by omega) (by omega)) dX11_rank_54 ?_
          refine lv_topi (fun v28 ev28 => ?_)
          refine lv_istore (lv' := [(8, .int v28), (6, .long 0), (0, .ref (md 64)), (1, .int k), (2, .int d), (3, .int zl), (4, .int i), (5, .int w)]) hx hb dX11_rank_55 hl (by decide) rfl (fun ls hl => ?_)
          refine lv_iconst (v := 0) hx hb dX11_rank_57 (by decide) ?_
          refine lv_istore (lv' := [(9, .int 0), (8, .int v28), (6, .long 0), (0, .ref (md 64)), (1, .int k), (2, .int d), (3, .int zl), (4, .int i), (5, .int w)]) hx hb dX11_rank_58 hl (by decide) rfl (fun ls hl => ?_)
          refine st_loop 60 (fun _ => []) (fun (z : Int64 × Int32 × Int32) (ls : Array Slot) (H : Heap) (locs : List Loc) => match z with | (q60_6, q60_8, q60_9) => lv_has ls 13 [(0, .ref (md 64)), (1, .int k), (2, .int d), (3, .int zl), (4, .int i), (5, .int w), (6, .long q60_6), (8, .int q60_8), (9, .int q60_9)] ∧ va_P D vwCl [(moC md sd (0) mst hn cn pn mq gn mln mnn ln mlt msz mcu mtk mfr mti mfa mfb an un lc td mtn), (aI cI (md 17) 12 wo), (aI cI (md 26) 40 gk), (aI cI (md 27) 40 gs), (aI cI (md 28) 40 gd), (aI cI (md 29) 40 ge)] H ∧ va_D A [(moC md sd (0) mst hn cn pn mq gn mln mnn ln mlt msz mcu mtk mfr mti mfa mfb an un lc td mtn), (aI cI (md 17) 12 wo), (aI cI (md 26) 40 gk), (aI cI (md 27) 40 gs), (aI cI (md 28) 40 gd), (aI cI (md 29) 40 ge)] ∧ va_S A s.heap H locs) (fun (z : Int64 × Int32 × Int32) => match z with | (q60_6, q60_8, q60_9) => 40 - (nbL q60_6 40 : Int)) ?_ ?_ ((0 : Int64), v28, (0 : Int32)) ⟨lv_sub hl [3, 4, 5, 6, 7, 8, 2, 1, 0] rfl, hP, hD, hS⟩
          · rintro ⟨q60_6, q60_8, q60_9⟩ ls H locs ⟨hl, hP, hD, hS⟩
            show (0 : Int) ≤ 40 - (nbL q60_6 40 : Int)
            have := nbL_le q60_6 40; omega
          · rintro n31 ih29 ⟨q60_6, q60_8, q60_9⟩ ls H locs ⟨hl, hP, hD, hS⟩ hm30
            have hm30 : 40 - (nbL q60_6 40 : Int) < (n31 : Int) + 1 := hm30
            replace hl : lv_has ls 13 [(0, .ref (md 64)), (1, .int k), (2, .int d), (3, .int zl), (4, .int i), (5, .int w), (6, .long q60_6), (8, .int q60_8), (9, .int q60_9)] := hl
            replace hP : va_P D vwCl [(moC md sd (0) mst hn cn pn mq gn mln mnn ln mlt msz mcu mtk mfr mti mfa mfb an un lc td mtn), (aI cI (md 17) 12 wo), (aI cI (md 26) 40 gk), (aI cI (md 27) 40 gs), (aI cI (md 28) 40 gd), (aI cI (md 29) 40 ge)] H := hP
            replace hD : va_D A [(moC md sd (0) mst hn cn pn mq gn mln mnn ln mlt msz mcu mtk mfr mti mfa mfb an un lc td mtn), (aI cI (md 17) 12 wo), (aI cI (md 26) 40 gk), (aI cI (md 27) 40 gs), (aI cI (md 28) 40 gd), (aI cI (md 29) 40 ge)] := hD
            show W _ _ _ _ _ _ _ _ _ _ _ _ _ _ _ (F0 m 60 ls [])
            refine lv_iload hx hb dX11_rank_60 (lv_at hl 8 rfl) ?_
            refine lv_iload hx hb dX11_rank_62 (lv_at hl 4 rfl) ?_
            refine lv_icmp_gt (tgt := 246) hx hb dX11_rank_64 (by decide) (fun c32 => ?_) (fun c32 => ?_)
            · skip
              have f33 := i_lt c32
              refine lv_ldc hx hb hown (hts (Cond.constant RX11 139 (-1000000)) (wm_t (wm_l (wm_i 4 rfl)))) dX11_rank_246 ?_
              have hP9 := hP
              have hD9 := hD
              exact W.iret (v := (-1000000)) hx hb hr (fun t ht hW => ⟨⟨(-1000000), (), rfl, trivial, by rw [ht]; exact hP9, va_K.moved hW.alike hK, hD9⟩, hS.F ht⟩) hS.2.2 dX11_rank_248
            · skip
              have f34 := i_nlt c32
              refine lv_ldc hx hb hown (hts (Cond.constant RX11 139 (-1000000)) (wm_t (wm_l (wm_i 4 rfl)))) dX11_rank_67 ?_
              refine lv_istore (lv' := [(10, .int (-1000000)), (0, .ref (md 64)), (1, .int k), (2, .int d), (3, .int zl), (4, .int i), (5, .int w), (6, .long q60_6), (8, .int q60_8), (9, .int q60_9)]) hx hb dX11_rank_69 hl (by decide) rfl (fun ls hl => ?_)
              refine lv_iconst (v := 0) hx hb dX11_rank_71 (by decide) ?_
              refine lv_istore (lv' := [(11, .int 0), (10, .int (-1000000)), (0, .ref (md 64)), (1, .int k), (2, .int d), (3, .int zl), (4, .int i), (5, .int w), (6, .long q60_6), (8, .int q60_8), (9, .int q60_9)]) hx hb dX11_rank_72 hl (by decide) rfl (fun ls hl => ?_)
              refine st_loop 74 (fun _ => []) (fun (z : Int32 × Int32) (ls : Array Slot) (H : Heap) (locs : List Loc) => match z with | (q74_10, q74_11) => (0 ≤ q74_11.toInt) ∧ (q74_11.toInt ≤ gn.toInt) ∧ (q74_10.toInt = -1000000 ∨ (0 ≤ q74_10.toInt ∧ q74_10.toInt < gn.toInt)) ∧ (0 ≤ q74_10.toInt → btL q60_6 q74_10.toNatClampNeg = false) ∧ lv_has ls 13 [(0, .ref (md 64)), (1, .int k), (2, .int d), (3, .int zl), (4, .int i), (5, .int w), (6, .long q60_6), (8, .int q60_8), (9, .int q60_9), (10, .int q74_10), (11, .int q74_11)] ∧ va_P D vwCl [(moC md sd (0) mst hn cn pn mq gn mln mnn ln mlt msz mcu mtk mfr mti mfa mfb an un lc td mtn), (aI cI (md 17) 12 wo), (aI cI (md 26) 40 gk), (aI cI (md 27) 40 gs), (aI cI (md 28) 40 gd), (aI cI (md 29) 40 ge)] H ∧ va_D A [(moC md sd (0) mst hn cn pn mq gn mln mnn ln mlt msz mcu mtk mfr mti mfa mfb an un lc td mtn), (aI cI (md 17) 12 wo), (aI cI (md 26) 40 gk), (aI cI (md 27) 40 gs), (aI cI (md 28) 40 gd), (aI cI (md 29) 40 ge)] ∧ va_S A s.heap H locs) (fun (z : Int32 × Int32) => match z with | (q74_10, q74_11) => gn.toInt - q74_11.toInt) ?_ ?_ (((-1000000) : Int32), (0 : Int32)) ⟨(by omega), (by omega), (by omega), (by intro h9; exfalso; omega), lv_sub hl [2, 3, 4, 5, 6, 7, 8, 9, 10, 1, 0] rfl, hP, hD, hS⟩
              · rintro ⟨q74_10, q74_11⟩ ls H locs ⟨g35, g36, g37, g38, hl, hP, hD, hS⟩
                show (0 : Int) ≤ gn.toInt - q74_11.toInt
                omega
              · rintro n41 ih39 ⟨q74_10, q74_11⟩ ls H locs ⟨g35, g36, g37, g38, hl, hP, hD, hS⟩ hm40
                have hm40 : gn.toInt - q74_11.toInt < (n41 : Int) + 1 := hm40
                replace hl : lv_has ls 13 [(0, .ref (md 64)), (1, .int k), (2, .int d), (3, .int zl), (4, .int i), (5, .int w), (6, .long q60_6), (8, .int q60_8), (9, .int q60_9), (10, .int q74_10), (11, .int q74_11)] := hl
                replace hP : va_P D vwCl [(moC md sd (0) mst hn cn pn mq gn mln mnn ln mlt msz mcu mtk mfr mti mfa mfb an un lc td mtn), (aI cI (md 17) 12 wo), (aI cI (md 26) 40 gk), (aI cI (md 27) 40 gs), (aI cI (md 28) 40 gd), (aI cI (md 29) 40 ge)] H := hP
                replace hD : va_D A [(moC md sd (0) mst hn cn pn mq gn mln mnn ln mlt msz mcu mtk mfr mti mfa mfb an un lc td mtn), (aI cI (md 17) 12 wo), (aI cI (md 26) 40 gk), (aI cI (md 27) 40 gs), (aI cI (md 28) 40 gd), (aI cI (md 29) 40 ge)] := hD
                show W _ _ _ _ _ _ _ _ _ _ _ _ _ _ _ (F0 m 74 ls [])
                refine lv_iload hx hb dX11_rank_74 (lv_at hl 10 rfl) ?_
                refine lv_aload_n hx hb dX11_rank_76 rfl (lv_at hl 0 rfl) ?_
                refine va_get (D := D) (ci := 11) (v := .int gn) (C := RX11) (T := TX11) (N := 64) hx hb hts inX11_rank_X11 hown hK hP 0 rfl rfl 25 (by decide) (hts (Cond.fieldLink RX11 231 "PortRoomsModel" "pledges" "I") (wm_t (wm_l (wm_i 5 rfl)))) (fun _ h9 => h9) rfl dX11_rank_77 ?_
                refine lv_icmp_ge (tgt := 168) hx hb dX11_rank_80 (by decide) (fun c42 => ?_) (fun c42 => ?_)
                · skip
                  have f43 := i_le c42
                  refine lv_iload hx hb dX11_rank_168 (lv_at hl 9 rfl) ?_
                  refine lv_ldc hx hb hown (hts (Cond.constant RX11 139 (-1000000)) (wm_t (wm_l (wm_i 4 rfl)))) dX11_rank_170 ?_
                  refine lv_icmp_ne (tgt := 178) hx hb dX11_rank_172 (by decide) (fun c44 => ?_) (fun c44 => ?_)
                  · skip
                    have f45 := i_ne c44
                    refine lv_lload hx hb dX11_rank_178 (lv_at hl 6 rfl) ?_
                    refine lv_lconst (v := 1) hx hb dX11_rank_180 (by decide) ?_
                    refine lv_iload hx hb dX11_rank_181 (lv_at hl 9 rfl) ?_
                    refine lv_lshl hx hb dX11_rank_183 rfl ?_
                    refine lv_topl (fun z46 ez46 => ?_)
                    refine lv_lor hx hb dX11_rank_184 ?_
                    refine lv_topl (fun z47 ez47 => ?_)
                    refine lv_lstore (lv' := [(6, .long z47), (0, .ref (md 64)), (1, .int k), (2, .int d), (3, .int zl), (4, .int i), (5, .int w), (8, .int q60_8), (9, .int q60_9), (10, .int q74_10), (11, .int q74_11)]) hx hb dX11_rank_185 hl (by decide) rfl (fun ls hl => ?_)
                    refine lv_aload_n hx hb dX11_rank_187 rfl (lv_at hl 1 rfl) ?_
                    refine va_get (D := D) (ci := 11) (v := .ref (md 27)) (C := RX11) (T := TX11) (N := 64) hx hb hts inX11_rank_X11 hown hK hP 0 rfl rfl 27 (by decide) (hts (Cond.fieldLink RX11 72 "PortRoomsModel" "pledgeSum" "[I") (wm_t (wm_l (wm_i 8 rfl)))) (fun _ h9 => h9) rfl dX11_rank_188 ?_
                    refine lv_iload hx hb dX11_rank_191 (lv_at hl 9 rfl) ?_
                    refine va_iald hx hb hK hP 3 0 rfl rfl (i_in (by omega) (by omega)) dX11_rank_193 ?_
                    refine lv_topi (fun v48 ev48 => ?_)
                    refine lv_iload hx hb dX11_rank_194 (lv_at hl 7 rfl) ?_
                    refine lv_icmp_ge (tgt := 209) hx hb dX11_rank_196 (by decide) (fun c49 => ?_) (fun c49 => ?_)
                    · skip
                      have f50 := i_le c49
                      refine lv_iload hx hb dX11_rank_209 (lv_at hl 7 rfl) ?_
                      refine lv_istore (lv' := [(11, .int q60_8), (6, .long z47), (0, .ref (md 64)), (1, .int k), (2, .int d), (3, .int zl), (4, .int i), (5, .int w), (8, .int q60_8), (9, .int q60_9), (10, .int q74_10)]) hx hb dX11_rank_211 hl (by decide) rfl (fun ls hl => ?_)
                      refine lv_iload hx hb dX11_rank_213 (lv_at hl 8 rfl) ?_
                      refine lv_iload hx hb dX11_rank_215 (lv_at hl 0 rfl) ?_
                      refine lv_isub hx hb dX11_rank_217 ?_
                      refine lv_topi (fun v51 ev51 => ?_)
                      refine lv_istore (lv' := [(8, .int v51), (11, .int q60_8), (6, .long z47), (0, .ref (md 64)), (1, .int k), (2, .int d), (3, .int zl), (4, .int i), (5, .int w), (9, .int q60_9), (10, .int q74_10)]) hx hb dX11_rank_218 hl (by decide) rfl (fun ls hl => ?_)
                      refine lv_iload hx hb dX11_rank_220 (lv_at hl 9 rfl) ?_
                      refine lv_iload hx hb dX11_rank_222 (lv_at hl 7 rfl) ?_
                      refine lv_icmp_ne (tgt := 240) hx hb dX11_rank_224 (by decide) (fun c52 => ?_) (fun c52 => ?_)
                      · skip
                        have f53 := i_ne c52
                        obtain ⟨v54, ev54⟩ : ∃ y : Int32, y = q60_9 + 1 := ⟨_, rfl⟩
                        refine lv_iinc (v := v54) (lv' := [(9, .int v54), (8, .int v51), (11, .int q60_8), (6, .long z47), (0, .ref (md 64)), (1, .int k), (2, .int d), (3, .int zl), (4, .int i), (5, .int w), (10, .int q74_10)]) hx hb dX11_rank_240 hl (k := 9) rfl (by rw [ev54]; rfl) (by decide) rfl (fun ls hl => ?_)
                        refine lv_goto (tgt := 60) hx hb dX11_rank_243 (by decide) ?_
                        have hn9 := nbL_set (x := q60_6) (c := q74_10) (by omega) (by omega) (g38 (by omega))
                        rw [← ez46, ← ez47] at hn9
                        have hle9 := nbL_le z47 40
                        exact ih29 (z47, v51, v54) ls H locs ⟨lv_sub hl [4, 5, 6, 7, 8, 9, 3, 1, 0] rfl, hP.sub [0, 1, 2, 3, 4, 5] rfl, hD.sub [0, 1, 2, 3, 4, 5] (by decide +kernel) rfl, hS⟩ (by show 40 - (nbL z47 40 : Int) < _; omega)
                      · skip
                        have f55 := i_eq c52
                        refine lv_iload hx hb dX11_rank_227 (lv_at hl 8 rfl) ?_
                        refine lv_if_ne (tgt := 237) hx hb dX11_rank_229 (by decide) (fun c56 => ?_) (fun c56 => ?_)
                        · skip
                          have f57 := i_ne c56
                          refine lv_iload hx hb dX11_rank_237 (lv_at hl 1 rfl) ?_
                          have hP9 := hP
                          have hD9 := hD
                          exact W.iret (v := q60_8) hx hb hr (fun t ht hW => ⟨⟨q60_8, (), rfl, trivial, by rw [ht]; exact hP9, va_K.moved hW.alike hK, hD9⟩, hS.F ht⟩) hS.2.2 dX11_rank_239
                        · skip
                          have f58 := i_eq c56
                          refine lv_iload hx hb dX11_rank_232 (lv_at hl 10 rfl) ?_
                          refine lv_goto (tgt := 239) hx hb dX11_rank_234 (by decide) ?_
                          have hP9 := hP
                          have hD9 := hD
                          exact W.iret (v := q74_10) hx hb hr (fun t ht hW => ⟨⟨q74_10, (), rfl, trivial, by rw [ht]; exact hP9, va_K.moved hW.alike hK, hD9⟩, hS.F ht⟩) hS.2.2 dX11_rank_239
                    · skip
                      have f59 := i_nle c49
                      refine lv_aload_n hx hb dX11_rank_199 rfl (lv_at hl 1 rfl) ?_
                      refine va_get (D := D) (ci := 11) (v := .ref (md 27)) (C := RX11) (T := TX11) (N := 64) hx hb hts inX11_rank_X11 hown hK hP 0 rfl rfl 27 (by decide) (hts (Cond.fieldLink RX11 72 "PortRoomsModel" "pledgeSum" "[I") (wm_t (wm_l (wm_i 8 rfl)))) (fun _ h9 => h9) rfl dX11_rank_200 ?_
                      refine lv_iload hx hb dX11_rank_203 (lv_at hl 9 rfl) ?_
                      refine va_iald hx hb hK hP 3 0 rfl rfl (i_in (by omega) (by omega)) dX11_rank_205 ?_
                      refine lv_topi (fun v60 ev60 => ?_)
                      refine lv_goto (tgt := 211) hx hb dX11_rank_206 (by decide) ?_
                      refine lv_istore (lv' := [(11, .int v60), (6, .long z47), (0, .ref (md 64)), (1, .int k), (2, .int d), (3, .int zl), (4, .int i), (5, .int w), (8, .int q60_8), (9, .int q60_9), (10, .int q74_10)]) hx hb dX11_rank_211 hl (by decide) rfl (fun ls hl => ?_)
                      refine lv_iload hx hb dX11_rank_213 (lv_at hl 8 rfl) ?_
                      refine lv_iload hx hb dX11_rank_215 (lv_at hl 0 rfl) ?_
                      refine lv_isub hx hb dX11_rank_217 ?_
                      refine lv_topi (fun v61 ev61 => ?_)
                      refine lv_istore (lv' := [(8, .int v61), (11, .int v60), (6, .long z47), (0, .ref (md 64)), (1, .int k), (2, .int d), (3, .int zl), (4, .int i), (5, .int w), (9, .int q60_9), (10, .int q74_10)]) hx hb dX11_rank_218 hl (by decide) rfl (fun ls hl => ?_)
                      refine lv_iload hx hb dX11_rank_220 (lv_at hl 9 rfl) ?_
                      refine lv_iload hx hb dX11_rank_222 (lv_at hl 7 rfl) ?_
                      refine lv_icmp_ne (tgt := 240) hx hb dX11_rank_224 (by decide) (fun c62 => ?_) (fun c62 => ?_)
                      · skip
                        have f63 := i_ne c62
                        obtain ⟨v64, ev64⟩ : ∃ y : Int32, y = q60_9 + 1 := ⟨_, rfl⟩
                        refine lv_iinc (v := v64) (lv' := [(9, .int v64), (8, .int v61), (11, .int v60), (6, .long z47), (0, .ref (md 64)), (1, .int k), (2, .int d), (3, .int zl), (4, .int i), (5, .int w), (10, .int q74_10)]) hx hb dX11_rank_240 hl (k := 9) rfl (by rw [ev64]; rfl) (by decide) rfl (fun ls hl => ?_)
                        refine lv_goto (tgt := 60) hx hb dX11_rank_243 (by decide) ?_
                        have hn9 := nbL_set (x := q60_6) (c := q74_10) (by omega) (by omega) (g38 (by omega))
                        rw [← ez46, ← ez47] at hn9
                        have hle9 := nbL_le z47 40
                        exact ih29 (z47, v61, v64) ls H locs ⟨lv_sub hl [4, 5, 6, 7, 8, 9, 3, 1, 0] rfl, hP.sub [0, 1, 2, 3, 4, 5] rfl, hD.sub [0, 1, 2, 3, 4, 5] (by decide +kernel) rfl, hS⟩ (by show 40 - (nbL z47 40 : Int) < _; omega)
                      · skip
                        have f65 := i_eq c62
                        refine lv_iload hx hb dX11_rank_227 (lv_at hl 8 rfl) ?_
                        refine lv_if_ne (tgt := 237) hx hb dX11_rank_229 (by decide) (fun c66 => ?_) (fun c66 => ?_)
                        · skip
                          have f67 := i_ne c66
                          refine lv_iload hx hb dX11_rank_237 (lv_at hl 1 rfl) ?_
                          have hP9 := hP
                          have hD9 := hD
                          exact W.iret (v := v60) hx hb hr (fun t ht hW => ⟨⟨v60, (), rfl, trivial, by rw [ht]; exact hP9, va_K.moved hW.alike hK, hD9⟩, hS.F ht⟩) hS.2.2 dX11_rank_239
                        · skip
                          have f68 := i_eq c66
                          refine lv_iload hx hb dX11_rank_232 (lv_at hl 10 rfl) ?_
                          refine lv_goto (tgt := 239) hx hb dX11_rank_234 (by decide) ?_
                          have hP9 := hP
                          have hD9 := hD
                          exact W.iret (v := q74_10) hx hb hr (fun t ht hW => ⟨⟨q74_10, (), rfl, trivial, by rw [ht]; exact hP9, va_K.moved hW.alike hK, hD9⟩, hS.F ht⟩) hS.2.2 dX11_rank_239
                  · skip
                    have f69 := i_eq c44
                    refine lv_ldc hx hb hown (hts (Cond.constant RX11 139 (-1000000)) (wm_t (wm_l (wm_i 4 rfl)))) dX11_rank_175 ?_
                    have hP9 := hP
                    have hD9 := hD
                    exact W.iret (v := (-1000000)) hx hb hr (fun t ht hW => ⟨⟨(-1000000), (), rfl, trivial, by rw [ht]; exact hP9, va_K.moved hW.alike hK, hD9⟩, hS.F ht⟩) hS.2.2 dX11_rank_177
                · skip
                  have f70 := i_nle c42
                  refine lv_aload_n hx hb dX11_rank_83 rfl (lv_at hl 0 rfl) ?_
                  refine va_get (D := D) (ci := 11) (v := .ref (md 26)) (C := RX11) (T := TX11) (N := 64) hx hb hts inX11_rank_X11 hown hK hP 0 rfl rfl 26 (by decide) (hts (Cond.fieldLink RX11 69 "PortRoomsModel" "pledgeCrate" "[I") (wm_t (wm_l (wm_i 6 rfl)))) (fun _ h9 => h9) rfl dX11_rank_84 ?_
                  refine lv_iload hx hb dX11_rank_87 (lv_at hl 10 rfl) ?_
                  refine va_iald hx hb hK hP 2 0 rfl rfl (i_in (by omega) (by omega)) dX11_rank_89 ?_
                  refine lv_topi (fun v71 ev71 => ?_)
                  refine lv_iload_n hx hb dX11_rank_90 rfl (lv_at hl 1 rfl) ?_
                  refine lv_icmp_ne (tgt := 121) hx hb dX11_rank_91 (by decide) (fun c72 => ?_) (fun c72 => ?_)
                  · skip
                    have f73 := i_ne c72
                    refine lv_iconst (v := 0) hx hb dX11_rank_121 (by decide) ?_
                    refine lv_istore (lv' := [(12, .int 0), (0, .ref (md 64)), (1, .int k), (2, .int d), (3, .int zl), (4, .int i), (5, .int w), (6, .long q60_6), (8, .int q60_8), (9, .int q60_9), (10, .int q74_10), (11, .int q74_11)]) hx hb dX11_rank_122 hl (by decide) rfl (fun ls hl => ?_)
                    refine lv_iload hx hb dX11_rank_124 (lv_at hl 0 rfl) ?_
                    refine lv_if_eq (tgt := 158) hx hb dX11_rank_126 (by decide) (fun _ => ?_) (fun c => absurd (by decide) c)
                    refine lv_iload hx hb dX11_rank_158 (lv_at hl 10 rfl) ?_
                    refine lv_istore (lv' := [(10, .int q74_10), (12, .int 0), (0, .ref (md 64)), (1, .int k), (2, .int d), (3, .int zl), (4, .int i), (5, .int w), (6, .long q60_6), (8, .int q60_8), (9, .int q60_9), (11, .int q74_11)]) hx hb dX11_rank_160 hl (by decide) rfl (fun ls hl => ?_)
                    obtain ⟨v74, ev74⟩ : ∃ y : Int32, y = q74_11 + 1 := ⟨_, rfl⟩
                    try have tv74 : v74.toInt = q74_11.toInt + 1 := by rw [ev74]; exact (i_add (x := q74_11) (y := (1 : Int32)) (by rw [k1]; omega) (by rw [k1]; omega)).trans (by rw [k1])
                    refine lv_iinc (v := v74) (lv' := [(11, .int v74), (10, .int q74_10), (12, .int 0), (0, .ref (md 64)), (1, .int k), (2, .int d), (3, .int zl), (4, .int i), (5, .int w), (6, .long q60_6), (8, .int q60_8), (9, .int q60_9)]) hx hb dX11_rank_162 hl (k := 11) rfl (by rw [ev74]; rfl) (by decide) rfl (fun ls hl => ?_)
                    refine lv_goto (tgt := 74) hx hb dX11_rank_165 (by decide) ?_
                    exact ih39 (q74_10, v74) ls H locs ⟨(by omega), (by omega), (by omega), (by first | exact g38 | exact fun _ => (by assumption)), lv_sub hl [3, 4, 5, 6, 7, 8, 9, 10, 11, 1, 0] rfl, hP.sub [0, 1, 2, 3, 4, 5] rfl, hD.sub [0, 1, 2, 3, 4, 5] (by decide +kernel) rfl, hS⟩ (by show gn.toInt - v74.toInt < _; omega)
                  · skip
                    have f75 := i_eq c72
                    refine lv_aload_n hx hb dX11_rank_94 rfl (lv_at hl 0 rfl) ?_
                    refine va_get (D := D) (ci := 11) (v := .ref (md 29)) (C := RX11) (T := TX11) (N := 64) hx hb hts inX11_rank_X11 hown hK hP 0 rfl rfl 29 (by decide) (hts (Cond.fieldLink RX11 78 "PortRoomsModel" "pledgeFiled" "[I") (wm_t (wm_l (wm_i 7 rfl)))) (fun _ h9 => h9) rfl dX11_rank_95 ?_
                    refine lv_iload hx hb dX11_rank_98 (lv_at hl 10 rfl) ?_
                    refine va_iald hx hb hK hP 5 0 rfl rfl (i_in (by omega) (by omega)) dX11_rank_100 ?_
                    refine lv_topi (fun v76 ev76 => ?_)
                    refine lv_iload_n hx hb dX11_rank_101 rfl (lv_at hl 2 rfl) ?_
                    refine lv_icmp_gt (tgt := 121) hx hb dX11_rank_102 (by decide) (fun c77 => ?_) (fun c77 => ?_)
                    · skip
                      have f78 := i_lt c77
                      refine lv_iconst (v := 0) hx hb dX11_rank_121 (by decide) ?_
                      refine lv_istore (lv' := [(12, .int 0), (0, .ref (md 64)), (1, .int k), (2, .int d), (3, .int zl), (4, .int i), (5, .int w), (6, .long q60_6), (8, .int q60_8), (9, .int q60_9), (10, .int q74_10), (11, .int q74_11)]) hx hb dX11_rank_122 hl (by decide) rfl (fun ls hl => ?_)
                      refine lv_iload hx hb dX11_rank_124 (lv_at hl 0 rfl) ?_
                      refine lv_if_eq (tgt := 158) hx hb dX11_rank_126 (by decide) (fun _ => ?_) (fun c => absurd (by decide) c)
                      refine lv_iload hx hb dX11_rank_158 (lv_at hl 10 rfl) ?_
                      refine lv_istore (lv' := [(10, .int q74_10), (12, .int 0), (0, .ref (md 64)), (1, .int k), (2, .int d), (3, .int zl), (4, .int i), (5, .int w), (6, .long q60_6), (8, .int q60_8), (9, .int q60_9), (11, .int q74_11)]) hx hb dX11_rank_160 hl (by decide) rfl (fun ls hl => ?_)
                      obtain ⟨v79, ev79⟩ : ∃ y : Int32, y = q74_11 + 1 := ⟨_, rfl⟩
                      try have tv79 : v79.toInt = q74_11.toInt + 1 := by rw [ev79]; exact (i_add (x := q74_11) (y := (1 : Int32)) (by rw [k1]; omega) (by rw [k1]; omega)).trans (by rw [k1])
                      refine lv_iinc (v := v79) (lv' := [(11, .int v79), (10, .int q74_10), (12, .int 0), (0, .ref (md 64)), (1, .int k), (2, .int d), (3, .int zl), (4, .int i), (5, .int w), (6, .long q60_6), (8, .int q60_8), (9, .int q60_9)]) hx hb dX11_rank_162 hl (k := 11) rfl (by rw [ev79]; rfl) (by decide) rfl (fun ls hl => ?_)
                      refine lv_goto (tgt := 74) hx hb dX11_rank_165 (by decide) ?_
                      exact ih39 (q74_10, v79) ls H locs ⟨(by omega), (by omega), (by omega), (by first | exact g38 | exact fun _ => (by assumption)), lv_sub hl [3, 4, 5, 6, 7, 8, 9, 10, 11, 1, 0] rfl, hP.sub [0, 1, 2, 3, 4, 5] rfl, hD.sub [0, 1, 2, 3, 4, 5] (by decide +kernel) rfl, hS⟩ (by show gn.toInt - v79.toInt < _; omega)
                    · skip
                      have f80 := i_nlt c77
                      refine lv_lload hx hb dX11_rank_105 (lv_at hl 6 rfl) ?_
                      refine lv_iload hx hb dX11_rank_107 (lv_at hl 10 rfl) ?_
                      refine lv_lshr hx hb dX11_rank_109 rfl ?_
                      refine lv_topl (fun z81 ez81 => ?_)
                      refine lv_lconst (v := 1) hx hb dX11_rank_110 (by decide) ?_
                      refine lv_land hx hb dX11_rank_111 ?_
                      refine lv_topl (fun z82 ez82 => ?_)
                      refine lv_lconst (v := 0) hx hb dX11_rank_112 (by decide) ?_
                      refine W.lcmp hx hb dX11_rank_113 ?_
                      refine lv_topi (fun v83 ev83 => ?_)
                      refine lv_if_ne (tgt := 121) hx hb dX11_rank_114 (by decide) (fun c84 => ?_) (fun c84 => ?_)
                      · skip
                        have f85 := lc_ne ev83 c84
                        refine lv_iconst (v := 0) hx hb dX11_rank_121 (by decide) ?_
                        refine lv_istore (lv' := [(12, .int 0), (0, .ref (md 64)), (1, .int k), (2, .int d), (3, .int zl), (4, .int i), (5, .int w), (6, .long q60_6), (8, .int q60_8), (9, .int q60_9), (10, .int q74_10), (11, .int q74_11)]) hx hb dX11_rank_122 hl (by decide) rfl (fun ls hl => ?_)
                        refine lv_iload hx hb dX11_rank_124 (lv_at hl 0 rfl) ?_
                        refine lv_if_eq (tgt := 158) hx hb dX11_rank_126 (by decide) (fun _ => ?_) (fun c => absurd (by decide) c)
                        refine lv_iload hx hb dX11_rank_158 (lv_at hl 10 rfl) ?_
                        refine lv_istore (lv' := [(10, .int q74_10), (12, .int 0), (0, .ref (md 64)), (1, .int k), (2, .int d), (3, .int zl), (4, .int i), (5, .int w), (6, .long q60_6), (8, .int q60_8), (9, .int q60_9), (11, .int q74_11)]) hx hb dX11_rank_160 hl (by decide) rfl (fun ls hl => ?_)
                        obtain ⟨v86, ev86⟩ : ∃ y : Int32, y = q74_11 + 1 := ⟨_, rfl⟩
                        try have tv86 : v86.toInt = q74_11.toInt + 1 := by rw [ev86]; exact (i_add (x := q74_11) (y := (1 : Int32)) (by rw [k1]; omega) (by rw [k1]; omega)).trans (by rw [k1])
                        refine lv_iinc (v := v86) (lv' := [(11, .int v86), (10, .int q74_10), (12, .int 0), (0, .ref (md 64)), (1, .int k), (2, .int d), (3, .int zl), (4, .int i), (5, .int w), (6, .long q60_6), (8, .int q60_8), (9, .int q60_9)]) hx hb dX11_rank_162 hl (k := 11) rfl (by rw [ev86]; rfl) (by decide) rfl (fun ls hl => ?_)
                        refine lv_goto (tgt := 74) hx hb dX11_rank_165 (by decide) ?_
                        exact ih39 (q74_10, v86) ls H locs ⟨(by omega), (by omega), (by omega), (by first | exact g38 | exact fun _ => (by assumption)), lv_sub hl [3, 4, 5, 6, 7, 8, 9, 10, 11, 1, 0] rfl, hP.sub [0, 1, 2, 3, 4, 5] rfl, hD.sub [0, 1, 2, 3, 4, 5] (by decide +kernel) rfl, hS⟩ (by show gn.toInt - v86.toInt < _; omega)
                      · skip
                        have f87 := lc_eq ev83 c84
                        have hz9 : z82 = 0 := Int64.toInt_inj.mp (by assumption)
                        have hb9 := (btL_bit (x := q60_6) (c := q74_11) (by omega) (by omega)).mp (by rw [← ez81, ← ez82]; exact hz9)
                        refine lv_iconst (v := 1) hx hb dX11_rank_117 (by decide) ?_
                        refine lv_goto (tgt := 122) hx hb dX11_rank_118 (by decide) ?_
                        refine lv_istore (lv' := [(12, .int 1), (0, .ref (md 64)), (1, .int k), (2, .int d), (3, .int zl), (4, .int i), (5, .int w), (6, .long q60_6), (8, .int q60_8), (9, .int q60_9), (10, .int q74_10), (11, .int q74_11)]) hx hb dX11_rank_122 hl (by decide) rfl (fun ls hl => ?_)
                        refine lv_iload hx hb dX11_rank_124 (lv_at hl 0 rfl) ?_
                        refine lv_if_eq (tgt := 158) hx hb dX11_rank_126 (by decide) (fun c => absurd c (by decide)) (fun _ => ?_)
                        refine lv_iload hx hb dX11_rank_129 (lv_at hl 10 rfl) ?_
                        refine lv_ldc hx hb hown (hts (Cond.constant RX11 139 (-1000000)) (wm_t (wm_l (wm_i 4 rfl)))) dX11_rank_131 ?_
                        refine lv_icmp_eq (tgt := 153) hx hb dX11_rank_133 (by decide) (fun c88 => ?_) (fun c88 => ?_)
                        · skip
                          have f89 := i_eq c88
                          refine lv_iload hx hb dX11_rank_153 (lv_at hl 11 rfl) ?_
                          refine lv_goto (tgt := 160) hx hb dX11_rank_155 (by decide) ?_
                          refine lv_istore (lv' := [(10, .int q74_11), (12, .int 1), (0, .ref (md 64)), (1, .int k), (2, .int d), (3, .int zl), (4, .int i), (5, .int w), (6, .long q60_6), (8, .int q60_8), (9, .int q60_9), (11, .int q74_11)]) hx hb dX11_rank_160 hl (by decide) rfl (fun ls hl => ?_)
                          obtain ⟨v90, ev90⟩ : ∃ y : Int32, y = q74_11 + 1 := ⟨_, rfl⟩
                          try have tv90 : v90.toInt = q74_11.toInt + 1 := by rw [ev90]; exact (i_add (x := q74_11) (y := (1 : Int32)) (by rw [k1]; omega) (by rw [k1]; omega)).trans (by rw [k1])
                          refine lv_iinc (v := v90) (lv' := [(11, .int v90), (10, .int q74_11), (12, .int 1), (0, .ref (md 64)), (1, .int k), (2, .int d), (3, .int zl), (4, .int i), (5, .int w), (6, .long q60_6), (8, .int q60_8), (9, .int q60_9)]) hx hb dX11_rank_162 hl (k := 11) rfl (by rw [ev90]; rfl) (by decide) rfl (fun ls hl => ?_)
                          refine lv_goto (tgt := 74) hx hb dX11_rank_165 (by decide) ?_
                          exact ih39 (q74_11, v90) ls H locs ⟨(by omega), (by omega), (by omega), (by first | exact g38 | exact fun _ => (by assumption)), lv_sub hl [3, 4, 5, 6, 7, 8, 9, 10, 11, 1, 0] rfl, hP.sub [0, 1, 2, 3, 4, 5] rfl, hD.sub [0, 1, 2, 3, 4, 5] (by decide +kernel) rfl, hS⟩ (by show gn.toInt - v90.toInt < _; omega)
                        · skip
                          have f91 := i_ne c88
                          refine lv_aload_n hx hb dX11_rank_136 rfl (lv_at hl 1 rfl) ?_
                          refine lv_iload hx hb dX11_rank_137 (lv_at hl 11 rfl) ?_
                          refine lv_iload_n hx hb dX11_rank_139 rfl (lv_at hl 4 rfl) ?_
                          refine st_i1 (va_runV (C := RX11) (As := [.int q74_11, .int zl]) (rest := []) ⟨hx, hb, hml, hown, hts⟩ (ct_X11_keyOf l D cI cY cJ cQ _ md sd 0 mst hn cn pn mq gn mln mnn ln mlt msz mcu mtk mfr mti mfa mfb an un lc td mtn gk gs gd ge q74_11 zl (by omega) (by omega)) (cwV 2 hts gX11_rank_X11_keyOf rfl rfl rfl ⟨rfl, cdX11_keyOf⟩ ⟨Nat.le_of_ble_eq_true rfl, Nat.le_of_ble_eq_true rfl⟩) (cPreV (hP.sub [0, 2, 3, 4, 5] rfl) hK (hD.sub [0, 2, 3, 4, 5] (by decide +kernel) rfl) hN (ci := 11) (q0 := 0) rfl rfl) rfl rfl hl.1 rfl (lv_room (Nat.le_of_ble_eq_true rfl)) dX11_rank_140 ⟨Nat.le_of_ble_eq_true rfl, Nat.le_of_ble_eq_true rfl⟩) hP hD hS hA [0, 2, 3, 4, 5] rfl (fun _ => rfl) (fun r94 u92 H locs hw93 => ?_)
                          clear hP hS
                          intro hP hS
                          replace hw93 : True := hw93
                          refine lv_aload_n hx hb dX11_rank_143 rfl (lv_at hl 1 rfl) ?_
                          refine lv_iload hx hb dX11_rank_144 (lv_at hl 10 rfl) ?_
                          refine lv_iload_n hx hb dX11_rank_146 rfl (lv_at hl 4 rfl) ?_
                          refine st_i1 (va_runV (C := RX11) (As := [.int q74_10, .int zl]) (rest := [.int r94]) ⟨hx, hb, hml, hown, hts⟩ (ct_X11_keyOf l D cI cY cJ cQ _ md sd 0 mst hn cn pn mq gn mln mnn ln mlt msz mcu mtk mfr mti mfa mfb an un lc td mtn gk gs gd ge q74_10 zl (by omega) (by omega)) (cwV 2 hts gX11_rank_X11_keyOf rfl rfl rfl ⟨rfl, cdX11_keyOf⟩ ⟨Nat.le_of_ble_eq_true rfl, Nat.le_of_ble_eq_true rfl⟩) (cPreV (hP.sub [0, 2, 3, 4, 5] rfl) hK (hD.sub [0, 2, 3, 4, 5] (by decide +kernel) rfl) hN (ci := 11) (q0 := 0) rfl rfl) rfl rfl hl.1 rfl (lv_room (Nat.le_of_ble_eq_true rfl)) dX11_rank_147 ⟨Nat.le_of_ble_eq_true rfl, Nat.le_of_ble_eq_true rfl⟩) hP hD hS hA [0, 2, 3, 4, 5] rfl (fun _ => rfl) (fun r97 u95 H locs hw96 => ?_)
                          clear hP hS
                          intro hP hS
                          replace hw96 : True := hw96
                          refine lv_icmp_ge (tgt := 158) hx hb dX11_rank_150 (by decide) (fun c98 => ?_) (fun c98 => ?_)
                          · skip
                            have f99 := i_le c98
                            refine lv_iload hx hb dX11_rank_158 (lv_at hl 10 rfl) ?_
                            refine lv_istore (lv' := [(10, .int q74_10), (12, .int 1), (0, .ref (md 64)), (1, .int k), (2, .int d), (3, .int zl), (4, .int i), (5, .int w), (6, .long q60_6), (8, .int q60_8), (9, .int q60_9), (11, .int q74_11)]) hx hb dX11_rank_160 hl (by decide) rfl (fun ls hl => ?_)
                            obtain ⟨v100, ev100⟩ : ∃ y : Int32, y = q74_11 + 1 := ⟨_, rfl⟩
                            try have tv100 : v100.toInt = q74_11.toInt + 1 := by rw [ev100]; exact (i_add (x := q74_11) (y := (1 : Int32)) (by rw [k1]; omega) (by rw [k1]; omega)).trans (by rw [k1])
                            refine lv_iinc (v := v100) (lv' := [(11, .int v100), (10, .int q74_10), (12, .int 1), (0, .ref (md 64)), (1, .int k), (2, .int d), (3, .int zl), (4, .int i), (5, .int w), (6, .long q60_6), (8, .int q60_8), (9, .int q60_9)]) hx hb dX11_rank_162 hl (k := 11) rfl (by rw [ev100]; rfl) (by decide) rfl (fun ls hl => ?_)
                            refine lv_goto (tgt := 74) hx hb dX11_rank_165 (by decide) ?_
                            exact ih39 (q74_10, v100) ls H locs ⟨(by omega), (by omega), (by omega), (by first | exact g38 | exact fun _ => (by assumption)), lv_sub hl [3, 4, 5, 6, 7, 8, 9, 10, 11, 1, 0] rfl, hP.sub [0, 1, 2, 3, 4, 5] rfl, hD.sub [0, 1, 2, 3, 4, 5] (by decide +kernel) rfl, hS⟩ (by show gn.toInt - v100.toInt < _; omega)
                          · skip
                            have f101 := i_nle c98
                            refine lv_iload hx hb dX11_rank_153 (lv_at hl 11 rfl) ?_
                            refine lv_goto (tgt := 160) hx hb dX11_rank_155 (by decide) ?_
                            refine lv_istore (lv' := [(10, .int q74_11), (12, .int 1), (0, .ref (md 64)), (1, .int k), (2, .int d), (3, .int zl), (4, .int i), (5, .int w), (6, .long q60_6), (8, .int q60_8), (9, .int q60_9), (11, .int q74_11)]) hx hb dX11_rank_160 hl (by decide) rfl (fun ls hl => ?_)
                            obtain ⟨v102, ev102⟩ : ∃ y : Int32, y = q74_11 + 1 := ⟨_, rfl⟩
                            try have tv102 : v102.toInt = q74_11.toInt + 1 := by rw [ev102]; exact (i_add (x := q74_11) (y := (1 : Int32)) (by rw [k1]; omega) (by rw [k1]; omega)).trans (by rw [k1])
                            refine lv_iinc (v := v102) (lv' := [(11, .int v102), (10, .int q74_11), (12, .int 1), (0, .ref (md 64)), (1, .int k), (2, .int d), (3, .int zl), (4, .int i), (5, .int w), (6, .long q60_6), (8, .int q60_8), (9, .int q60_9)]) hx hb dX11_rank_162 hl (k := 11) rfl (by rw [ev102]; rfl) (by decide) rfl (fun ls hl => ?_)
                            refine lv_goto (tgt := 74) hx hb dX11_rank_165 (by decide) ?_
                            exact ih39 (q74_11, v102) ls H locs ⟨(by omega), (by omega), (by omega), (by first | exact g38 | exact fun _ => (by assumption)), lv_sub hl [3, 4, 5, 6, 7, 8, 9, 10, 11, 1, 0] rfl, hP.sub [0, 1, 2, 3, 4, 5] rfl, hD.sub [0, 1, 2, 3, 4, 5] (by decide +kernel) rfl, hS⟩ (by show gn.toInt - v102.toInt < _; omega)
        · skip
          have f103 := bo_f hw24 c26
          refine lv_ldc hx hb hown (hts (Cond.constant RX11 157 (-1000001)) (wm_t (wm_l (wm_i 2 rfl)))) dX11_rank_43 ?_
          have hP9 := hP
          have hD9 := hD
          exact W.iret (v := (-1000001)) hx hb hr (fun t ht hW => ⟨⟨(-1000001), (), rfl, trivial, by rw [ht]; exact hP9, va_K.moved hW.alike hK, hD9⟩, hS.F ht⟩) hS.2.2 dX11_rank_45
