section
theorem cdX11_plainSize : yX11_plainSize.cls ≠ "java/lang/invoke/MethodHandle" ∧ yX11_plainSize.cls ≠ "java/lang/invoke/VarHandle" ∧ (parseMethodDescriptor yX11_plainSize.desc).map (fun d => d.parameters.length) = some 1 := by decide +kernel
theorem cdX11_markOf : yX11_markOf.cls ≠ "java/lang/invoke/MethodHandle" ∧ yX11_markOf.cls ≠ "java/lang/invoke/VarHandle" ∧ (parseMethodDescriptor yX11_markOf.desc).map (fun d => d.parameters.length) = some 2 := by decide +kernel
theorem cdX11_sizeOf : yX11_sizeOf.cls ≠ "java/lang/invoke/MethodHandle" ∧ yX11_sizeOf.cls ≠ "java/lang/invoke/VarHandle" ∧ (parseMethodDescriptor yX11_sizeOf.desc).map (fun d => d.parameters.length) = some 2 := by decide +kernel
theorem Gd_X11_plainSize : gdA wsX11_plainSize := gd_cons (by decide +kernel) (gd_app (gd_all (ws := wsX11_plainSize_o1) (by decide +kernel)) (gd_app Gd_X110 Gd_X11_began))
theorem Gd_X11_markOf : gdA wsX11_markOf := gd_cons (by decide +kernel) (gd_app (gd_all (ws := wsX11_markOf_o1) (by decide +kernel)) (gd_app (gd_app (gd_app Gd_X110 Gd_X11_isOf) Gd_X11_began) (gd_app Gd_X11_ownerOf Gd_X11_plainSize)))
theorem inX11_markOf_X11 : ∀ w ∈ u_ws RX11 TX11 64, w ∈ wsX11_markOf := fun _ h => (List.mem_cons_of_mem _ (List.mem_append_right _ (List.mem_append_left _ (List.mem_append_left _ (List.mem_append_left _ h)))))
theorem Gd_X11_sizeOf : gdA wsX11_sizeOf := gd_cons (by decide +kernel) (gd_app (gd_all (ws := wsX11_sizeOf_o1) (by decide +kernel)) (gd_app (gd_app (gd_app Gd_X110 Gd_X11_began) Gd_X11_markOf) (gd_app (gd_app Gd_X11_isOf Gd_X11_plainSize) Gd_X11_owes)))
theorem inX11_ask_X11 : ∀ w ∈ u_ws RX11 TX11 64, w ∈ wsX11_ask := fun _ h => (List.mem_cons_of_mem _ (List.mem_append_right _ (List.mem_append_left _ (List.mem_append_left _ (List.mem_append_left _ h)))))
theorem ggX11_markOf_X11_isOf : GoodIn wsX11_markOf wsX11_isOf := goodIn_s (fun _ h => wm_t (wm_r (wm_l (wm_l (wm_r h))))) Gd_X11_isOf
theorem gX11_markOf_X11_isOf : GoodIn wsX11_markOf (va_wsS RX11 380 yX11_isOf wsX11_isOf) := goodIn_S (own := RX11) (idx := 380) (y := yX11_isOf) (wm_t (wm_l (wm_i 1 rfl))) (wm_t (wm_l (wm_i 2 rfl))) (wm_t (wm_l (wm_i 3 rfl))) ggX11_markOf_X11_isOf
theorem ggX11_markOf_X11_began : GoodIn wsX11_markOf wsX11_began := goodIn_s (fun _ h => wm_t (wm_r (wm_l (wm_r h)))) Gd_X11_began
theorem gX11_markOf_X11_began : GoodIn wsX11_markOf (wsV RX11 386 RX11 yX11_began wsX11_began) := goodIn_V (own := RX11) (idx := 386) (C := RX11) (y := yX11_began) (wm_t (wm_l (wm_i 4 rfl))) (wm_t (wm_l (wm_i 5 rfl))) (wm_t (wm_r (wm_r (wm_r (wm_t (wm_l (wm_i 3 rfl))))))) (wm_t (wm_l (wm_i 3 rfl))) ggX11_markOf_X11_began
theorem ggX11_markOf_X11_ownerOf : GoodIn wsX11_markOf wsX11_ownerOf := goodIn_s (fun _ h => wm_t (wm_r (wm_r (wm_l h)))) Gd_X11_ownerOf
theorem gX11_markOf_X11_ownerOf : GoodIn wsX11_markOf (wsV RX11 228 RX11 yX11_ownerOf wsX11_ownerOf) := goodIn_V (own := RX11) (idx := 228) (C := RX11) (y := yX11_ownerOf) (wm_t (wm_l (wm_i 6 rfl))) (wm_t (wm_l (wm_i 7 rfl))) (wm_t (wm_l (wm_i 8 rfl))) (wm_t (wm_l (wm_i 3 rfl))) ggX11_markOf_X11_ownerOf
theorem ggX11_markOf_X11_plainSize : GoodIn wsX11_markOf wsX11_plainSize := goodIn_s (fun _ h => wm_t (wm_r (wm_r (wm_r h)))) Gd_X11_plainSize
theorem gX11_markOf_X11_plainSize : GoodIn wsX11_markOf (wsV RX11 389 RX11 yX11_plainSize wsX11_plainSize) := goodIn_V (own := RX11) (idx := 389) (C := RX11) (y := yX11_plainSize) (wm_t (wm_l (wm_i 9 rfl))) (wm_t (wm_l (wm_i 10 rfl))) (wm_t (wm_l (wm_i 11 rfl))) (wm_t (wm_l (wm_i 3 rfl))) ggX11_markOf_X11_plainSize
theorem dX11_markOf_all0 : decode cX11_markOf 0 = .ok (.iload_n 2, 1) ∧ decode cX11_markOf 1 = .ok (.iconst 1, 1) ∧ decode cX11_markOf 2 = .ok (.invokestatic 380, 3) ∧ decode cX11_markOf 5 = .ok (.ifCond .eq 9, 3) ∧ decode cX11_markOf 8 = .ok (.aload_n 0, 1) ∧ decode cX11_markOf 9 = .ok (.bipush 21, 2) ∧ decode cX11_markOf 11 = .ok (.invokevirtual 386, 3) ∧ decode cX11_markOf 14 = .ok (.iload_n 2, 1) ∧ decode cX11_markOf 15 = .ok (.iconst 3, 1) ∧ decode cX11_markOf 16 = .ok (.if_icmp .ne 9, 3) ∧ decode cX11_markOf 19 = .ok (.aload_n 0, 1) ∧ decode cX11_markOf 20 = .ok (.bipush 22, 2) := by decide +kernel
theorem dX11_markOf_0 : decode cX11_markOf 0 = .ok (.iload_n 2, 1) := dX11_markOf_all0.1
theorem dX11_markOf_1 : decode cX11_markOf 1 = .ok (.iconst 1, 1) := dX11_markOf_all0.2.1
theorem dX11_markOf_2 : decode cX11_markOf 2 = .ok (.invokestatic 380, 3) := dX11_markOf_all0.2.2.1
theorem dX11_markOf_5 : decode cX11_markOf 5 = .ok (.ifCond .eq 9, 3) := dX11_markOf_all0.2.2.2.1
theorem dX11_markOf_8 : decode cX11_markOf 8 = .ok (.aload_n 0, 1) := dX11_markOf_all0.2.2.2.2.1
theorem dX11_markOf_9 : decode cX11_markOf 9 = .ok (.bipush 21, 2) := dX11_markOf_all0.2.2.2.2.2.1
theorem dX11_markOf_11 : decode cX11_markOf 11 = .ok (.invokevirtual 386, 3) := dX11_markOf_all0.2.2.2.2.2.2.1
theorem dX11_markOf_14 : decode cX11_markOf 14 = .ok (.iload_n 2, 1) := dX11_markOf_all0.2.2.2.2.2.2.2.1
theorem dX11_markOf_15 : decode cX11_markOf 15 = .ok (.iconst 3, 1) := dX11_markOf_all0.2.2.2.2.2.2.2.2.1
theorem dX11_markOf_16 : decode cX11_markOf 16 = .ok (.if_icmp .ne 9, 3) := dX11_markOf_all0.2.2.2.2.2.2.2.2.2.1
theorem dX11_markOf_19 : decode cX11_markOf 19 = .ok (.aload_n 0, 1) := dX11_markOf_all0.2.2.2.2.2.2.2.2.2.2.1
theorem dX11_markOf_20 : decode cX11_markOf 20 = .ok (.bipush 22, 2) := dX11_markOf_all0.2.2.2.2.2.2.2.2.2.2.2
theorem dX11_markOf_all1 : decode cX11_markOf 22 = .ok (.invokevirtual 386, 3) ∧ decode cX11_markOf 25 = .ok (.iload_n 2, 1) ∧ decode cX11_markOf 26 = .ok (.iconst 4, 1) ∧ decode cX11_markOf 27 = .ok (.if_icmp .ne 9, 3) ∧ decode cX11_markOf 30 = .ok (.aload_n 0, 1) ∧ decode cX11_markOf 31 = .ok (.bipush 23, 2) ∧ decode cX11_markOf 33 = .ok (.invokevirtual 386, 3) ∧ decode cX11_markOf 36 = .ok (.aload_n 0, 1) ∧ decode cX11_markOf 37 = .ok (.bipush 20, 2) ∧ decode cX11_markOf 39 = .ok (.invokevirtual 386, 3) ∧ decode cX11_markOf 42 = .ok (.aload_n 0, 1) ∧ decode cX11_markOf 43 = .ok (.iload_n 1, 1) := by decide +kernel
theorem dX11_markOf_22 : decode cX11_markOf 22 = .ok (.invokevirtual 386, 3) := dX11_markOf_all1.1
theorem dX11_markOf_25 : decode cX11_markOf 25 = .ok (.iload_n 2, 1) := dX11_markOf_all1.2.1
theorem dX11_markOf_26 : decode cX11_markOf 26 = .ok (.iconst 4, 1) := dX11_markOf_all1.2.2.1
theorem dX11_markOf_27 : decode cX11_markOf 27 = .ok (.if_icmp .ne 9, 3) := dX11_markOf_all1.2.2.2.1
theorem dX11_markOf_30 : decode cX11_markOf 30 = .ok (.aload_n 0, 1) := dX11_markOf_all1.2.2.2.2.1
theorem dX11_markOf_31 : decode cX11_markOf 31 = .ok (.bipush 23, 2) := dX11_markOf_all1.2.2.2.2.2.1
theorem dX11_markOf_33 : decode cX11_markOf 33 = .ok (.invokevirtual 386, 3) := dX11_markOf_all1.2.2.2.2.2.2.1
theorem dX11_markOf_36 : decode cX11_markOf 36 = .ok (.aload_n 0, 1) := dX11_markOf_all1.2.2.2.2.2.2.2.1
theorem dX11_markOf_37 : decode cX11_markOf 37 = .ok (.bipush 20, 2) := dX11_markOf_all1.2.2.2.2.2.2.2.2.1
theorem dX11_markOf_39 : decode cX11_markOf 39 = .ok (.invokevirtual 386, 3) := dX11_markOf_all1.2.2.2.2.2.2.2.2.2.1
theorem dX11_markOf_42 : decode cX11_markOf 42 = .ok (.aload_n 0, 1) := dX11_markOf_all1.2.2.2.2.2.2.2.2.2.2.1
theorem dX11_markOf_43 : decode cX11_markOf 43 = .ok (.iload_n 1, 1) := dX11_markOf_all1.2.2.2.2.2.2.2.2.2.2.2
theorem dX11_markOf_all2 : decode cX11_markOf 44 = .ok (.aload_n 0, 1) ∧ decode cX11_markOf 45 = .ok (.getfield 369, 3) ∧ decode cX11_markOf 48 = .ok (.aload_n 0, 1) ∧ decode cX11_markOf 49 = .ok (.getfield 369, 3) ∧ decode cX11_markOf 52 = .ok (.invokevirtual 228, 3) ∧ decode cX11_markOf 55 = .ok (.iload_n 2, 1) ∧ decode cX11_markOf 56 = .ok (.iconst 1, 1) ∧ decode cX11_markOf 57 = .ok (.invokestatic 380, 3) ∧ decode cX11_markOf 60 = .ok (.ifCond .eq 8, 3) ∧ decode cX11_markOf 63 = .ok (.bipush 100, 2) ∧ decode cX11_markOf 65 = .ok (.goto 28, 3) ∧ decode cX11_markOf 68 = .ok (.iload_n 2, 1) := by decide +kernel
theorem dX11_markOf_44 : decode cX11_markOf 44 = .ok (.aload_n 0, 1) := dX11_markOf_all2.1
theorem dX11_markOf_45 : decode cX11_markOf 45 = .ok (.getfield 369, 3) := dX11_markOf_all2.2.1
theorem dX11_markOf_48 : decode cX11_markOf 48 = .ok (.aload_n 0, 1) := dX11_markOf_all2.2.2.1
theorem dX11_markOf_49 : decode cX11_markOf 49 = .ok (.getfield 369, 3) := dX11_markOf_all2.2.2.2.1
theorem dX11_markOf_52 : decode cX11_markOf 52 = .ok (.invokevirtual 228, 3) := dX11_markOf_all2.2.2.2.2.1
theorem dX11_markOf_55 : decode cX11_markOf 55 = .ok (.iload_n 2, 1) := dX11_markOf_all2.2.2.2.2.2.1
theorem dX11_markOf_56 : decode cX11_markOf 56 = .ok (.iconst 1, 1) := dX11_markOf_all2.2.2.2.2.2.2.1
theorem dX11_markOf_57 : decode cX11_markOf 57 = .ok (.invokestatic 380, 3) := dX11_markOf_all2.2.2.2.2.2.2.2.1
theorem dX11_markOf_60 : decode cX11_markOf 60 = .ok (.ifCond .eq 8, 3) := dX11_markOf_all2.2.2.2.2.2.2.2.2.1
theorem dX11_markOf_63 : decode cX11_markOf 63 = .ok (.bipush 100, 2) := dX11_markOf_all2.2.2.2.2.2.2.2.2.2.1
theorem dX11_markOf_65 : decode cX11_markOf 65 = .ok (.goto 28, 3) := dX11_markOf_all2.2.2.2.2.2.2.2.2.2.2.1
theorem dX11_markOf_68 : decode cX11_markOf 68 = .ok (.iload_n 2, 1) := dX11_markOf_all2.2.2.2.2.2.2.2.2.2.2.2
theorem dX11_markOf_all3 : decode cX11_markOf 69 = .ok (.iconst 3, 1) ∧ decode cX11_markOf 70 = .ok (.if_icmp .ne 9, 3) ∧ decode cX11_markOf 73 = .ok (.sipush 1000, 3) ∧ decode cX11_markOf 76 = .ok (.goto 17, 3) ∧ decode cX11_markOf 79 = .ok (.iload_n 2, 1) ∧ decode cX11_markOf 80 = .ok (.iconst 4, 1) ∧ decode cX11_markOf 81 = .ok (.if_icmp .ne 11, 3) ∧ decode cX11_markOf 84 = .ok (.aload_n 0, 1) ∧ decode cX11_markOf 85 = .ok (.iload_n 1, 1) ∧ decode cX11_markOf 86 = .ok (.invokevirtual 389, 3) ∧ decode cX11_markOf 89 = .ok (.goto 4, 3) ∧ decode cX11_markOf 92 = .ok (.iconst 0, 1) := by decide +kernel
theorem dX11_markOf_69 : decode cX11_markOf 69 = .ok (.iconst 3, 1) := dX11_markOf_all3.1
theorem dX11_markOf_70 : decode cX11_markOf 70 = .ok (.if_icmp .ne 9, 3) := dX11_markOf_all3.2.1
theorem dX11_markOf_73 : decode cX11_markOf 73 = .ok (.sipush 1000, 3) := dX11_markOf_all3.2.2.1
theorem dX11_markOf_76 : decode cX11_markOf 76 = .ok (.goto 17, 3) := dX11_markOf_all3.2.2.2.1
theorem dX11_markOf_79 : decode cX11_markOf 79 = .ok (.iload_n 2, 1) := dX11_markOf_all3.2.2.2.2.1
theorem dX11_markOf_80 : decode cX11_markOf 80 = .ok (.iconst 4, 1) := dX11_markOf_all3.2.2.2.2.2.1
theorem dX11_markOf_81 : decode cX11_markOf 81 = .ok (.if_icmp .ne 11, 3) := dX11_markOf_all3.2.2.2.2.2.2.1
theorem dX11_markOf_84 : decode cX11_markOf 84 = .ok (.aload_n 0, 1) := dX11_markOf_all3.2.2.2.2.2.2.2.1
theorem dX11_markOf_85 : decode cX11_markOf 85 = .ok (.iload_n 1, 1) := dX11_markOf_all3.2.2.2.2.2.2.2.2.1
theorem dX11_markOf_86 : decode cX11_markOf 86 = .ok (.invokevirtual 389, 3) := dX11_markOf_all3.2.2.2.2.2.2.2.2.2.1
theorem dX11_markOf_89 : decode cX11_markOf 89 = .ok (.goto 4, 3) := dX11_markOf_all3.2.2.2.2.2.2.2.2.2.2.1
theorem dX11_markOf_92 : decode cX11_markOf 92 = .ok (.iconst 0, 1) := dX11_markOf_all3.2.2.2.2.2.2.2.2.2.2.2
theorem dX11_markOf_all4 : decode cX11_markOf 93 = .ok (.iadd, 1) ∧ decode cX11_markOf 94 = .ok (.ireturn, 1) := by decide +kernel
theorem dX11_markOf_93 : decode cX11_markOf 93 = .ok (.iadd, 1) := dX11_markOf_all4.1
theorem dX11_markOf_94 : decode cX11_markOf 94 = .ok (.ireturn, 1) := dX11_markOf_all4.2
theorem ggX11_sizeOf_X11_began : GoodIn wsX11_sizeOf wsX11_began := goodIn_s (fun _ h => wm_t (wm_r (wm_l (wm_l (wm_r h))))) Gd_X11_began
theorem gX11_sizeOf_X11_began : GoodIn wsX11_sizeOf (wsV RX11 386 RX11 yX11_began wsX11_began) := goodIn_V (own := RX11) (idx := 386) (C := RX11) (y := yX11_began) (wm_t (wm_l (wm_i 0 rfl))) (wm_t (wm_l (wm_i 1 rfl))) (wm_t (wm_r (wm_l (wm_r (wm_t (wm_r (wm_r (wm_r (wm_t (wm_l (wm_i 3 rfl))))))))))) (wm_t (wm_l (wm_i 2 rfl))) ggX11_sizeOf_X11_began
theorem ggX11_sizeOf_X11_markOf : GoodIn wsX11_sizeOf wsX11_markOf := goodIn_s (fun _ h => wm_t (wm_r (wm_l (wm_r h)))) Gd_X11_markOf
theorem gX11_sizeOf_X11_markOf : GoodIn wsX11_sizeOf (wsV RX11 392 RX11 yX11_markOf wsX11_markOf) := goodIn_V (own := RX11) (idx := 392) (C := RX11) (y := yX11_markOf) (wm_t (wm_l (wm_i 3 rfl))) (wm_t (wm_l (wm_i 4 rfl))) (wm_t (wm_l (wm_i 5 rfl))) (wm_t (wm_l (wm_i 2 rfl))) ggX11_sizeOf_X11_markOf
theorem ggX11_sizeOf_X11_isOf : GoodIn wsX11_sizeOf wsX11_isOf := goodIn_s (fun _ h => wm_t (wm_r (wm_r (wm_l (wm_l h))))) Gd_X11_isOf
theorem gX11_sizeOf_X11_isOf : GoodIn wsX11_sizeOf (va_wsS RX11 380 yX11_isOf wsX11_isOf) := goodIn_S (own := RX11) (idx := 380) (y := yX11_isOf) (wm_t (wm_l (wm_i 6 rfl))) (wm_t (wm_l (wm_i 7 rfl))) (wm_t (wm_l (wm_i 2 rfl))) ggX11_sizeOf_X11_isOf
theorem ggX11_sizeOf_X11_plainSize : GoodIn wsX11_sizeOf wsX11_plainSize := goodIn_s (fun _ h => wm_t (wm_r (wm_r (wm_l (wm_r h))))) Gd_X11_plainSize
theorem gX11_sizeOf_X11_plainSize : GoodIn wsX11_sizeOf (wsV RX11 389 RX11 yX11_plainSize wsX11_plainSize) := goodIn_V (own := RX11) (idx := 389) (C := RX11) (y := yX11_plainSize) (wm_t (wm_l (wm_i 8 rfl))) (wm_t (wm_l (wm_i 9 rfl))) (wm_t (wm_r (wm_l (wm_r (wm_t (wm_l (wm_i 11 rfl))))))) (wm_t (wm_l (wm_i 2 rfl))) ggX11_sizeOf_X11_plainSize
theorem ggX11_sizeOf_X11_owes : GoodIn wsX11_sizeOf wsX11_owes := goodIn_s (fun _ h => wm_t (wm_r (wm_r (wm_r h)))) Gd_X11_owes
theorem gX11_sizeOf_X11_owes : GoodIn wsX11_sizeOf (wsV RX11 372 RX11 yX11_owes wsX11_owes) := goodIn_V (own := RX11) (idx := 372) (C := RX11) (y := yX11_owes) (wm_t (wm_l (wm_i 10 rfl))) (wm_t (wm_l (wm_i 11 rfl))) (wm_t (wm_l (wm_i 12 rfl))) (wm_t (wm_l (wm_i 2 rfl))) ggX11_sizeOf_X11_owes
theorem dX11_sizeOf_all0 : decode cX11_sizeOf 0 = .ok (.iload_n 2, 1) ∧ decode cX11_sizeOf 1 = .ok (.iconst 3, 1) ∧ decode cX11_sizeOf 2 = .ok (.if_icmp .ne 17, 3) ∧ decode cX11_sizeOf 5 = .ok (.aload_n 0, 1) ∧ decode cX11_sizeOf 6 = .ok (.bipush 13, 2) ∧ decode cX11_sizeOf 8 = .ok (.invokevirtual 386, 3) ∧ decode cX11_sizeOf 11 = .ok (.aload_n 0, 1) ∧ decode cX11_sizeOf 12 = .ok (.iload_n 1, 1) ∧ decode cX11_sizeOf 13 = .ok (.iload_n 2, 1) ∧ decode cX11_sizeOf 14 = .ok (.invokevirtual 392, 3) ∧ decode cX11_sizeOf 17 = .ok (.ineg, 1) ∧ decode cX11_sizeOf 18 = .ok (.ireturn, 1) := by decide +kernel
theorem dX11_sizeOf_0 : decode cX11_sizeOf 0 = .ok (.iload_n 2, 1) := dX11_sizeOf_all0.1
theorem dX11_sizeOf_1 : decode cX11_sizeOf 1 = .ok (.iconst 3, 1) := dX11_sizeOf_all0.2.1
theorem dX11_sizeOf_2 : decode cX11_sizeOf 2 = .ok (.if_icmp .ne 17, 3) := dX11_sizeOf_all0.2.2.1
theorem dX11_sizeOf_5 : decode cX11_sizeOf 5 = .ok (.aload_n 0, 1) := dX11_sizeOf_all0.2.2.2.1
theorem dX11_sizeOf_6 : decode cX11_sizeOf 6 = .ok (.bipush 13, 2) := dX11_sizeOf_all0.2.2.2.2.1
theorem dX11_sizeOf_8 : decode cX11_sizeOf 8 = .ok (.invokevirtual 386, 3) := dX11_sizeOf_all0.2.2.2.2.2.1
theorem dX11_sizeOf_11 : decode cX11_sizeOf 11 = .ok (.aload_n 0, 1) := dX11_sizeOf_all0.2.2.2.2.2.2.1
theorem dX11_sizeOf_12 : decode cX11_sizeOf 12 = .ok (.iload_n 1, 1) := dX11_sizeOf_all0.2.2.2.2.2.2.2.1
theorem dX11_sizeOf_13 : decode cX11_sizeOf 13 = .ok (.iload_n 2, 1) := dX11_sizeOf_all0.2.2.2.2.2.2.2.2.1
theorem dX11_sizeOf_14 : decode cX11_sizeOf 14 = .ok (.invokevirtual 392, 3) := dX11_sizeOf_all0.2.2.2.2.2.2.2.2.2.1
theorem dX11_sizeOf_17 : decode cX11_sizeOf 17 = .ok (.ineg, 1) := dX11_sizeOf_all0.2.2.2.2.2.2.2.2.2.2.1
theorem dX11_sizeOf_18 : decode cX11_sizeOf 18 = .ok (.ireturn, 1) := dX11_sizeOf_all0.2.2.2.2.2.2.2.2.2.2.2
theorem dX11_sizeOf_all1 : decode cX11_sizeOf 19 = .ok (.iload_n 2, 1) ∧ decode cX11_sizeOf 20 = .ok (.iconst 2, 1) ∧ decode cX11_sizeOf 21 = .ok (.if_icmp .ne 9, 3) ∧ decode cX11_sizeOf 24 = .ok (.aload_n 0, 1) ∧ decode cX11_sizeOf 25 = .ok (.bipush 12, 2) ∧ decode cX11_sizeOf 27 = .ok (.invokevirtual 386, 3) ∧ decode cX11_sizeOf 30 = .ok (.iload_n 2, 1) ∧ decode cX11_sizeOf 31 = .ok (.iconst 1, 1) ∧ decode cX11_sizeOf 32 = .ok (.invokestatic 380, 3) ∧ decode cX11_sizeOf 35 = .ok (.ifCond .eq 9, 3) ∧ decode cX11_sizeOf 38 = .ok (.aload_n 0, 1) ∧ decode cX11_sizeOf 39 = .ok (.bipush 11, 2) := by decide +kernel
theorem dX11_sizeOf_19 : decode cX11_sizeOf 19 = .ok (.iload_n 2, 1) := dX11_sizeOf_all1.1
theorem dX11_sizeOf_20 : decode cX11_sizeOf 20 = .ok (.iconst 2, 1) := dX11_sizeOf_all1.2.1
theorem dX11_sizeOf_21 : decode cX11_sizeOf 21 = .ok (.if_icmp .ne 9, 3) := dX11_sizeOf_all1.2.2.1
theorem dX11_sizeOf_24 : decode cX11_sizeOf 24 = .ok (.aload_n 0, 1) := dX11_sizeOf_all1.2.2.2.1
theorem dX11_sizeOf_25 : decode cX11_sizeOf 25 = .ok (.bipush 12, 2) := dX11_sizeOf_all1.2.2.2.2.1
theorem dX11_sizeOf_27 : decode cX11_sizeOf 27 = .ok (.invokevirtual 386, 3) := dX11_sizeOf_all1.2.2.2.2.2.1
theorem dX11_sizeOf_30 : decode cX11_sizeOf 30 = .ok (.iload_n 2, 1) := dX11_sizeOf_all1.2.2.2.2.2.2.1
theorem dX11_sizeOf_31 : decode cX11_sizeOf 31 = .ok (.iconst 1, 1) := dX11_sizeOf_all1.2.2.2.2.2.2.2.1
theorem dX11_sizeOf_32 : decode cX11_sizeOf 32 = .ok (.invokestatic 380, 3) := dX11_sizeOf_all1.2.2.2.2.2.2.2.2.1
theorem dX11_sizeOf_35 : decode cX11_sizeOf 35 = .ok (.ifCond .eq 9, 3) := dX11_sizeOf_all1.2.2.2.2.2.2.2.2.2.1
theorem dX11_sizeOf_38 : decode cX11_sizeOf 38 = .ok (.aload_n 0, 1) := dX11_sizeOf_all1.2.2.2.2.2.2.2.2.2.2.1
theorem dX11_sizeOf_39 : decode cX11_sizeOf 39 = .ok (.bipush 11, 2) := dX11_sizeOf_all1.2.2.2.2.2.2.2.2.2.2.2
theorem dX11_sizeOf_all2 : decode cX11_sizeOf 41 = .ok (.invokevirtual 386, 3) ∧ decode cX11_sizeOf 44 = .ok (.aload_n 0, 1) ∧ decode cX11_sizeOf 45 = .ok (.iload_n 1, 1) ∧ decode cX11_sizeOf 46 = .ok (.invokevirtual 389, 3) ∧ decode cX11_sizeOf 49 = .ok (.aload_n 0, 1) ∧ decode cX11_sizeOf 50 = .ok (.iload_n 1, 1) ∧ decode cX11_sizeOf 51 = .ok (.invokevirtual 372, 3) ∧ decode cX11_sizeOf 54 = .ok (.isub, 1) ∧ decode cX11_sizeOf 55 = .ok (.istore_n 3, 1) ∧ decode cX11_sizeOf 56 = .ok (.iload_n 2, 1) ∧ decode cX11_sizeOf 57 = .ok (.iconst 2, 1) ∧ decode cX11_sizeOf 58 = .ok (.if_icmp .ne 9, 3) := by decide +kernel
theorem dX11_sizeOf_41 : decode cX11_sizeOf 41 = .ok (.invokevirtual 386, 3) := dX11_sizeOf_all2.1
theorem dX11_sizeOf_44 : decode cX11_sizeOf 44 = .ok (.aload_n 0, 1) := dX11_sizeOf_all2.2.1
theorem dX11_sizeOf_45 : decode cX11_sizeOf 45 = .ok (.iload_n 1, 1) := dX11_sizeOf_all2.2.2.1
theorem dX11_sizeOf_46 : decode cX11_sizeOf 46 = .ok (.invokevirtual 389, 3) := dX11_sizeOf_all2.2.2.2.1
theorem dX11_sizeOf_49 : decode cX11_sizeOf 49 = .ok (.aload_n 0, 1) := dX11_sizeOf_all2.2.2.2.2.1
theorem dX11_sizeOf_50 : decode cX11_sizeOf 50 = .ok (.iload_n 1, 1) := dX11_sizeOf_all2.2.2.2.2.2.1
theorem dX11_sizeOf_51 : decode cX11_sizeOf 51 = .ok (.invokevirtual 372, 3) := dX11_sizeOf_all2.2.2.2.2.2.2.1
theorem dX11_sizeOf_54 : decode cX11_sizeOf 54 = .ok (.isub, 1) := dX11_sizeOf_all2.2.2.2.2.2.2.2.1
theorem dX11_sizeOf_55 : decode cX11_sizeOf 55 = .ok (.istore_n 3, 1) := dX11_sizeOf_all2.2.2.2.2.2.2.2.2.1
theorem dX11_sizeOf_56 : decode cX11_sizeOf 56 = .ok (.iload_n 2, 1) := dX11_sizeOf_all2.2.2.2.2.2.2.2.2.2.1
theorem dX11_sizeOf_57 : decode cX11_sizeOf 57 = .ok (.iconst 2, 1) := dX11_sizeOf_all2.2.2.2.2.2.2.2.2.2.2.1
theorem dX11_sizeOf_58 : decode cX11_sizeOf 58 = .ok (.if_icmp .ne 9, 3) := dX11_sizeOf_all2.2.2.2.2.2.2.2.2.2.2.2
theorem dX11_sizeOf_all3 : decode cX11_sizeOf 61 = .ok (.iload_n 3, 1) ∧ decode cX11_sizeOf 62 = .ok (.iconst 2, 1) ∧ decode cX11_sizeOf 63 = .ok (.idiv, 1) ∧ decode cX11_sizeOf 64 = .ok (.goto 4, 3) ∧ decode cX11_sizeOf 67 = .ok (.iload_n 3, 1) ∧ decode cX11_sizeOf 68 = .ok (.ireturn, 1) := by decide +kernel
theorem dX11_sizeOf_61 : decode cX11_sizeOf 61 = .ok (.iload_n 3, 1) := dX11_sizeOf_all3.1
theorem dX11_sizeOf_62 : decode cX11_sizeOf 62 = .ok (.iconst 2, 1) := dX11_sizeOf_all3.2.1
theorem dX11_sizeOf_63 : decode cX11_sizeOf 63 = .ok (.idiv, 1) := dX11_sizeOf_all3.2.2.1
theorem dX11_sizeOf_64 : decode cX11_sizeOf 64 = .ok (.goto 4, 3) := dX11_sizeOf_all3.2.2.2.1
theorem dX11_sizeOf_67 : decode cX11_sizeOf 67 = .ok (.iload_n 3, 1) := dX11_sizeOf_all3.2.2.2.2.1
theorem dX11_sizeOf_68 : decode cX11_sizeOf 68 = .ok (.ireturn, 1) := dX11_sizeOf_all3.2.2.2.2.2
theorem ggX11_ask_X11_isCrate : GoodIn wsX11_ask wsX11_isCrate := goodIn_s (fun _ h => wm_t (wm_r (wm_l (wm_l (wm_r h))))) Gd_X11_isCrate
theorem gX11_ask_X11_isCrate : GoodIn wsX11_ask (wsV RX11 219 RX11 yX11_isCrate wsX11_isCrate) := goodIn_V (own := RX11) (idx := 219) (C := RX11) (y := yX11_isCrate) (wm_t (wm_l (wm_i 3 rfl))) (wm_t (wm_l (wm_i 4 rfl))) (wm_t (wm_l (wm_i 5 rfl))) (wm_t (wm_l (wm_i 6 rfl))) ggX11_ask_X11_isCrate
theorem ggX11_ask_X11_in : GoodIn wsX11_ask wsX11_in := goodIn_s (fun _ h => wm_t (wm_r (wm_l (wm_r h)))) Gd_X11_in
theorem gX11_ask_X11_in : GoodIn wsX11_ask (va_wsS RX11 147 yX11_in wsX11_in) := goodIn_S (own := RX11) (idx := 147) (y := yX11_in) (wm_t (wm_l (wm_i 7 rfl))) (wm_t (wm_l (wm_i 8 rfl))) (wm_t (wm_l (wm_i 6 rfl))) ggX11_ask_X11_in
theorem ggX11_ask_X11_kindOf : GoodIn wsX11_ask wsX11_kindOf := goodIn_s (fun _ h => wm_t (wm_r (wm_r (wm_l (wm_l h))))) Gd_X11_kindOf
theorem gX11_ask_X11_kindOf : GoodIn wsX11_ask (wsV RX11 375 RX11 yX11_kindOf wsX11_kindOf) := goodIn_V (own := RX11) (idx := 375) (C := RX11) (y := yX11_kindOf) (wm_t (wm_l (wm_i 9 rfl))) (wm_t (wm_l (wm_i 10 rfl))) (wm_t (wm_l (wm_i 11 rfl))) (wm_t (wm_l (wm_i 6 rfl))) ggX11_ask_X11_kindOf
theorem ggX11_ask_X11_sizeOf : GoodIn wsX11_ask wsX11_sizeOf := goodIn_s (fun _ h => wm_t (wm_r (wm_r (wm_l (wm_r h))))) Gd_X11_sizeOf
theorem gX11_ask_X11_sizeOf : GoodIn wsX11_ask (wsV RX11 395 RX11 yX11_sizeOf wsX11_sizeOf) := goodIn_V (own := RX11) (idx := 395) (C := RX11) (y := yX11_sizeOf) (wm_t (wm_l (wm_i 12 rfl))) (wm_t (wm_l (wm_i 13 rfl))) (wm_t (wm_l (wm_i 14 rfl))) (wm_t (wm_l (wm_i 6 rfl))) ggX11_ask_X11_sizeOf
theorem ggX11_ask_X11_markOf : GoodIn wsX11_ask wsX11_markOf := goodIn_s (fun _ h => wm_t (wm_r (wm_r (wm_r h)))) Gd_X11_markOf
theorem gX11_ask_X11_markOf : GoodIn wsX11_ask (wsV RX11 392 RX11 yX11_markOf wsX11_markOf) := goodIn_V (own := RX11) (idx := 392) (C := RX11) (y := yX11_markOf) (wm_t (wm_l (wm_i 15 rfl))) (wm_t (wm_l (wm_i 16 rfl))) (wm_t (wm_r (wm_r (wm_l (wm_r (wm_t (wm_l (wm_i 5 rfl)))))))) (wm_t (wm_l (wm_i 6 rfl))) ggX11_ask_X11_markOf
theorem dX11_ask_all0 : decode cX11_ask 0 = .ok (.aload_n 0, 1) ∧ decode cX11_ask 1 = .ok (.iconst 0, 1) ∧ decode cX11_ask 2 = .ok (.putfield 1, 3) ∧ decode cX11_ask 5 = .ok (.aload_n 0, 1) ∧ decode cX11_ask 6 = .ok (.iload_n 1, 1) ∧ decode cX11_ask 7 = .ok (.invokevirtual 219, 3) ∧ decode cX11_ask 10 = .ok (.ifCond .eq 13, 3) ∧ decode cX11_ask 13 = .ok (.iload_n 2, 1) ∧ decode cX11_ask 14 = .ok (.i2l, 1) ∧ decode cX11_ask 15 = .ok (.lconst 0, 1) ∧ decode cX11_ask 16 = .ok (.lconst 1, 1) ∧ decode cX11_ask 17 = .ok (.invokestatic 147, 3) := by decide +kernel
theorem dX11_ask_0 : decode cX11_ask 0 = .ok (.aload_n 0, 1) := dX11_ask_all0.1
theorem dX11_ask_1 : decode cX11_ask 1 = .ok (.iconst 0, 1) := dX11_ask_all0.2.1
theorem dX11_ask_2 : decode cX11_ask 2 = .ok (.putfield 1, 3) := dX11_ask_all0.2.2.1
theorem dX11_ask_5 : decode cX11_ask 5 = .ok (.aload_n 0, 1) := dX11_ask_all0.2.2.2.1
theorem dX11_ask_6 : decode cX11_ask 6 = .ok (.iload_n 1, 1) := dX11_ask_all0.2.2.2.2.1
theorem dX11_ask_7 : decode cX11_ask 7 = .ok (.invokevirtual 219, 3) := dX11_ask_all0.2.2.2.2.2.1
theorem dX11_ask_10 : decode cX11_ask 10 = .ok (.ifCond .eq 13, 3) := dX11_ask_all0.2.2.2.2.2.2.1
theorem dX11_ask_13 : decode cX11_ask 13 = .ok (.iload_n 2, 1) := dX11_ask_all0.2.2.2.2.2.2.2.1
theorem dX11_ask_14 : decode cX11_ask 14 = .ok (.i2l, 1) := dX11_ask_all0.2.2.2.2.2.2.2.2.1
theorem dX11_ask_15 : decode cX11_ask 15 = .ok (.lconst 0, 1) := dX11_ask_all0.2.2.2.2.2.2.2.2.2.1
theorem dX11_ask_16 : decode cX11_ask 16 = .ok (.lconst 1, 1) := dX11_ask_all0.2.2.2.2.2.2.2.2.2.2.1
theorem dX11_ask_17 : decode cX11_ask 17 = .ok (.invokestatic 147, 3) := dX11_ask_all0.2.2.2.2.2.2.2.2.2.2.2
theorem dX11_ask_all1 : decode cX11_ask 20 = .ok (.ifCond .ne 6, 3) ∧ decode cX11_ask 23 = .ok (.ldc 157, 2) ∧ decode cX11_ask 25 = .ok (.ireturn, 1) ∧ decode cX11_ask 26 = .ok (.aload_n 0, 1) ∧ decode cX11_ask 27 = .ok (.iconst 0, 1) ∧ decode cX11_ask 28 = .ok (.putfield 383, 3) ∧ decode cX11_ask 31 = .ok (.iload_n 2, 1) ∧ decode cX11_ask 32 = .ok (.ifCond .ne 16, 3) ∧ decode cX11_ask 35 = .ok (.aload_n 0, 1) ∧ decode cX11_ask 36 = .ok (.iload_n 1, 1) ∧ decode cX11_ask 37 = .ok (.aload_n 0, 1) ∧ decode cX11_ask 38 = .ok (.iload_n 1, 1) := by decide +kernel
theorem dX11_ask_20 : decode cX11_ask 20 = .ok (.ifCond .ne 6, 3) := dX11_ask_all1.1
theorem dX11_ask_23 : decode cX11_ask 23 = .ok (.ldc 157, 2) := dX11_ask_all1.2.1
theorem dX11_ask_25 : decode cX11_ask 25 = .ok (.ireturn, 1) := dX11_ask_all1.2.2.1
theorem dX11_ask_26 : decode cX11_ask 26 = .ok (.aload_n 0, 1) := dX11_ask_all1.2.2.2.1
theorem dX11_ask_27 : decode cX11_ask 27 = .ok (.iconst 0, 1) := dX11_ask_all1.2.2.2.2.1
theorem dX11_ask_28 : decode cX11_ask 28 = .ok (.putfield 383, 3) := dX11_ask_all1.2.2.2.2.2.1
theorem dX11_ask_31 : decode cX11_ask 31 = .ok (.iload_n 2, 1) := dX11_ask_all1.2.2.2.2.2.2.1
theorem dX11_ask_32 : decode cX11_ask 32 = .ok (.ifCond .ne 16, 3) := dX11_ask_all1.2.2.2.2.2.2.2.1
theorem dX11_ask_35 : decode cX11_ask 35 = .ok (.aload_n 0, 1) := dX11_ask_all1.2.2.2.2.2.2.2.2.1
theorem dX11_ask_36 : decode cX11_ask 36 = .ok (.iload_n 1, 1) := dX11_ask_all1.2.2.2.2.2.2.2.2.2.1
theorem dX11_ask_37 : decode cX11_ask 37 = .ok (.aload_n 0, 1) := dX11_ask_all1.2.2.2.2.2.2.2.2.2.2.1
theorem dX11_ask_38 : decode cX11_ask 38 = .ok (.iload_n 1, 1) := dX11_ask_all1.2.2.2.2.2.2.2.2.2.2.2
theorem dX11_ask_all2 : decode cX11_ask 39 = .ok (.invokevirtual 375, 3) ∧ decode cX11_ask 42 = .ok (.invokevirtual 395, 3) ∧ decode cX11_ask 45 = .ok (.goto 13, 3) ∧ decode cX11_ask 48 = .ok (.aload_n 0, 1) ∧ decode cX11_ask 49 = .ok (.iload_n 1, 1) ∧ decode cX11_ask 50 = .ok (.aload_n 0, 1) ∧ decode cX11_ask 51 = .ok (.iload_n 1, 1) ∧ decode cX11_ask 52 = .ok (.invokevirtual 375, 3) ∧ decode cX11_ask 55 = .ok (.invokevirtual 392, 3) ∧ decode cX11_ask 58 = .ok (.ireturn, 1) := by decide +kernel
theorem dX11_ask_39 : decode cX11_ask 39 = .ok (.invokevirtual 375, 3) := dX11_ask_all2.1
theorem dX11_ask_42 : decode cX11_ask 42 = .ok (.invokevirtual 395, 3) := dX11_ask_all2.2.1
theorem dX11_ask_45 : decode cX11_ask 45 = .ok (.goto 13, 3) := dX11_ask_all2.2.2.1
theorem dX11_ask_48 : decode cX11_ask 48 = .ok (.aload_n 0, 1) := dX11_ask_all2.2.2.2.1
theorem dX11_ask_49 : decode cX11_ask 49 = .ok (.iload_n 1, 1) := dX11_ask_all2.2.2.2.2.1
theorem dX11_ask_50 : decode cX11_ask 50 = .ok (.aload_n 0, 1) := dX11_ask_all2.2.2.2.2.2.1
theorem dX11_ask_51 : decode cX11_ask 51 = .ok (.iload_n 1, 1) := dX11_ask_all2.2.2.2.2.2.2.1
theorem dX11_ask_52 : decode cX11_ask 52 = .ok (.invokevirtual 375, 3) := dX11_ask_all2.2.2.2.2.2.2.2.1
theorem dX11_ask_55 : decode cX11_ask 55 = .ok (.invokevirtual 392, 3) := dX11_ask_all2.2.2.2.2.2.2.2.2.1
theorem dX11_ask_58 : decode cX11_ask 58 = .ok (.ireturn, 1) := dX11_ask_all2.2.2.2.2.2.2.2.2.2
set_option maxHeartbeats 4000000 in
set_option maxRecDepth 100000 in
theorem ct_X11_markOf (l : Launch) (D : va_G) (cI cY cJ cQ : ClassId) (sz : Nat) (md : Nat → Nat) (sd : Int32) (mth mst hn cn pn mq gn mln mnn ln mlt msz mcu mtk mfr mti mfa mfb an un lc td mtn : Int32) (mtr fo wo pk pf po pd pe : Nat → Int32) (k : Int32) (w : Int32)  (h1 : cn.toInt ≤ 12) (h2 : 0 ≤ k.toInt) (h3 : k.toInt < cn.toInt) (h4 : 0 ≤ mtn.toInt) (h5 : mtn.toInt ≤ 16) (h6 : 0 ≤ pn.toInt) (h7 : pn.toInt ≤ 40)  : Met l yX11_markOf wsX11_markOf ({ frames := 2, cells := 0, slots := 0, locals := 42 }) (cPre D (ty4 cI cY cJ cQ) [(moC md sd mth mst hn cn pn mq gn mln mnn ln mlt msz mcu mtk mfr mti mfa mfb an un lc td mtn), (aI cI (md 62) 16 mtr), (aI cI (md 16) 12 fo), (aI cI (md 17) 12 wo), (aI cI (md 19) 40 pk), (aI cI (md 20) 40 pf), (aI cI (md 21) 40 po), (aI cI (md 22) 40 pd), (aI cI (md 23) 40 pe)] sz [.ref (md 64), .int k, .int w]) (va_Qi (fun (r : Int32) (u : Int32 × (Nat → Int32) × Int32) => (r, u.1, u.2.1) = mkM w (wo k.toNatClampNeg) (ooV pk pf po pd pe pn.toNatClampNeg k td td 41 0 (fo k.toNatClampNeg) (fo k.toNatClampNeg) 0).1 (mtn, mtr) ∧ 0 ≤ u.1.toInt ∧ u.1.toInt ≤ 16) (cB D (ty4 cI cY cJ cQ) (fun (u : Int32 × (Nat → Int32) × Int32) => [(moC md sd mth mst hn cn pn u.2.2 gn mln mnn ln mlt msz mcu mtk mfr mti mfa mfb an un lc td u.1), (aI cI (md 62) 16 u.2.1), (aI cI (md 16) 12 fo), (aI cI (md 17) 12 wo), (aI cI (md 19) 40 pk), (aI cI (md 20) 40 pf), (aI cI (md 21) 40 po), (aI cI (md 22) 40 pd), (aI cI (md 23) 40 pe)]) (va_A [(moC md sd mth mst hn cn pn mq gn mln mnn ln mlt msz mcu mtk mfr mti mfa mfb an un lc td mtn), (aI cI (md 62) 16 mtr), (aI cI (md 16) 12 fo), (aI cI (md 17) 12 wo), (aI cI (md 19) 40 pk), (aI cI (md 20) 40 pf), (aI cI (md 21) 40 po), (aI cI (md 22) 40 pd), (aI cI (md 23) 40 pe)] sz)) (va_A [(moC md sd mth mst hn cn pn mq gn mln mnn ln mlt msz mcu mtk mfr mti mfa mfb an un lc td mtn), (aI cI (md 62) 16 mtr), (aI cI (md 16) 12 fo), (aI cI (md 17) 12 wo), (aI cI (md 19) 40 pk), (aI cI (md 20) 40 pf), (aI cI (md 21) 40 po), (aI cI (md 22) 40 pd), (aI cI (md 23) 40 pe)] sz)) 0 0 (va_A [(moC md sd mth mst hn cn pn mq gn mln mnn ln mlt msz mcu mtk mfr mti mfa mfb an un lc td mtn), (aI cI (md 62) 16 mtr), (aI cI (md 16) 12 fo), (aI cI (md 17) 12 wo), (aI cI (md 19) 40 pk), (aI cI (md 20) 40 pf), (aI cI (md 21) 40 po), (aI cI (md 22) 40 pd), (aI cI (md 23) 40 pe)] sz) := by
  refine Met.ofW (cc := cX11_markOf) (maxL := 3) (ret := (some .int)) (by decide) rfl ?_
  intro p e s m args below meth c s₁ B hml hv
  obtain ⟨rfl, hsz, hP, hK, hD0, hN⟩ := hv
  have hx := B.exec
  have hb := B.bytes
  have hr := B.returns
  have hts := atoms_spec (ws := wsX11_markOf) B.pre
  have hown : s.vm.findClass RX11 = some m.cls := findClass_of_methodNamed B.named
  have hlocks := B.notSynchronized
  subst hsz
  have hD := hD0.self (sz := s.heap.size)
  generalize hAe : va_A [(moC md sd mth mst hn cn pn mq gn mln mnn ln mlt msz mcu mtk mfr mti mfa mfb an un lc td mtn), (aI cI (md 62) 16 mtr), (aI cI (md 16) 12 fo), (aI cI (md 17) 12 wo), (aI cI (md 19) 40 pk), (aI cI (md 20) 40 pf), (aI cI (md 21) 40 po), (aI cI (md 22) 40 pd), (aI cI (md 23) 40 pe)] s.heap.size = A at hD ⊢
  have hA : ∀ q : Nat, s.heap.size ≤ q → A q := fun q h => by rw [← hAe]; exact Or.inr h
  have hS : va_S A s.heap s.heap [] := va_S.rf
  have hP : va_P D vwCl [(moC md sd mth mst hn cn pn mq gn mln mnn ln mlt msz mcu mtk mfr mti mfa mfb an un lc td mtn), (aI cI (md 62) 16 mtr), (aI cI (md 16) 12 fo), (aI cI (md 17) 12 wo), (aI cI (md 19) 40 pk), (aI cI (md 20) 40 pf), (aI cI (md 21) 40 po), (aI cI (md 22) 40 pd), (aI cI (md 23) 40 pe)] s.heap := hP
  have hl := lv_entry ([.ref (md 64), .int k, .int w]) (n := 3) (Nat.le_of_ble_eq_true rfl)
  rw [lg_entry_eq]
  generalize (lg_sl ([.ref (md 64), .int k, .int w]) ++ List.replicate (3 - (lg_sl ([.ref (md 64), .int k, .int w])).length) Slot.unset).toArray = ls at hl ⊢
  have hl : lv_has ls 3 [(0, .ref (md 64)), (1, .int k), (2, .int w)] := hl
  have k0 : (0 : Int32).toInt = 0 := by decide
  have k1 : (1 : Int32).toInt = 1 := by decide
  have k3 : (3 : Int32).toInt = 3 := by decide
  have k4 : (4 : Int32).toInt = 4 := by decide
  have k20 : (20 : Int32).toInt = 20 := by decide
  have k21 : (21 : Int32).toInt = 21 := by decide
  have k22 : (22 : Int32).toInt = 22 := by decide
  have k23 : (23 : Int32).toInt = 23 := by decide
  have k100 : (100 : Int32).toInt = 100 := by decide
  have k1000 : (1000 : Int32).toInt = 1000 := by decide
  refine st_join 14 (fun (z : (Nat → Int32) × Int32) => match z with | (ja1_, jt1_) => []) (fun (z : (Nat → Int32) × Int32) (ls : Array Slot) (H : Heap) (locs : List Loc) => match z with | (ja1_, jt1_) => (0 ≤ jt1_.toInt) ∧ (jt1_.toInt ≤ 16) ∧ ((jt1_, ja1_) = cnL (decide (w.toInt = 1 ∨ w.toInt = 2)) (mtn, mtr) 21) ∧ lv_has ls 3 [(0, .ref (md 64)), (1, .int k), (2, .int w)] ∧ va_P D vwCl [(moC md sd mth mst hn cn pn mq gn mln mnn ln mlt msz mcu mtk mfr mti mfa mfb an un lc td jt1_), (aI cI (md 62) 16 ja1_), (aI cI (md 16) 12 fo), (aI cI (md 17) 12 wo), (aI cI (md 19) 40 pk), (aI cI (md 20) 40 pf), (aI cI (md 21) 40 po), (aI cI (md 22) 40 pd), (aI cI (md 23) 40 pe)] H ∧ va_D A [(moC md sd mth mst hn cn pn mq gn mln mnn ln mlt msz mcu mtk mfr mti mfa mfb an un lc td jt1_), (aI cI (md 62) 16 ja1_), (aI cI (md 16) 12 fo), (aI cI (md 17) 12 wo), (aI cI (md 19) 40 pk), (aI cI (md 20) 40 pf), (aI cI (md 21) 40 po), (aI cI (md 22) 40 pd), (aI cI (md 23) 40 pe)] ∧ va_S A s.heap H locs) ?_ ?_
  · rintro ⟨ja1_, jt1_⟩ ls H locs ⟨g1, g2, g3, hl, hP, hD, hS⟩
    replace hl : lv_has ls 3 [(0, .ref (md 64)), (1, .int k), (2, .int w)] := hl
    replace hP : va_P D vwCl [(moC md sd mth mst hn cn pn mq gn mln mnn ln mlt msz mcu mtk mfr mti mfa mfb an un lc td jt1_), (aI cI (md 62) 16 ja1_), (aI cI (md 16) 12 fo), (aI cI (md 17) 12 wo), (aI cI (md 19) 40 pk), (aI cI (md 20) 40 pf), (aI cI (md 21) 40 po), (aI cI (md 22) 40 pd), (aI cI (md 23) 40 pe)] H := hP
    replace hD : va_D A [(moC md sd mth mst hn cn pn mq gn mln mnn ln mlt msz mcu mtk mfr mti mfa mfb an un lc td jt1_), (aI cI (md 62) 16 ja1_), (aI cI (md 16) 12 fo), (aI cI (md 17) 12 wo), (aI cI (md 19) 40 pk), (aI cI (md 20) 40 pf), (aI cI (md 21) 40 po), (aI cI (md 22) 40 pd), (aI cI (md 23) 40 pe)] := hD
    show W _ _ _ _ _ _ _ _ _ _ _ _ _ _ _ (F0 m 14 ls [])
    refine st_join 25 (fun (z : (Nat → Int32) × Int32) => match z with | (ja2_, jt2_) => []) (fun (z : (Nat → Int32) × Int32) (ls : Array Slot) (H : Heap) (locs : List Loc) => match z with | (ja2_, jt2_) => (0 ≤ jt2_.toInt) ∧ (jt2_.toInt ≤ 16) ∧ ((jt2_, ja2_) = cnL (decide (w.toInt = 3)) (jt1_, ja1_) 22) ∧ lv_has ls 3 [(0, .ref (md 64)), (1, .int k), (2, .int w)] ∧ va_P D vwCl [(moC md sd mth mst hn cn pn mq gn mln mnn ln mlt msz mcu mtk mfr mti mfa mfb an un lc td jt2_), (aI cI (md 62) 16 ja2_), (aI cI (md 16) 12 fo), (aI cI (md 17) 12 wo), (aI cI (md 19) 40 pk), (aI cI (md 20) 40 pf), (aI cI (md 21) 40 po), (aI cI (md 22) 40 pd), (aI cI (md 23) 40 pe)] H ∧ va_D A [(moC md sd mth mst hn cn pn mq gn mln mnn ln mlt msz mcu mtk mfr mti mfa mfb an un lc td jt2_), (aI cI (md 62) 16 ja2_), (aI cI (md 16) 12 fo), (aI cI (md 17) 12 wo), (aI cI (md 19) 40 pk), (aI cI (md 20) 40 pf), (aI cI (md 21) 40 po), (aI cI (md 22) 40 pd), (aI cI (md 23) 40 pe)] ∧ va_S A s.heap H locs) ?_ ?_
    · rintro ⟨ja2_, jt2_⟩ ls H locs ⟨g5, g6, g7, hl, hP, hD, hS⟩
      replace hl : lv_has ls 3 [(0, .ref (md 64)), (1, .int k), (2, .int w)] := hl
      replace hP : va_P D vwCl [(moC md sd mth mst hn cn pn mq gn mln mnn ln mlt msz mcu mtk mfr mti mfa mfb an un lc td jt2_), (aI cI (md 62) 16 ja2_), (aI cI (md 16) 12 fo), (aI cI (md 17) 12 wo), (aI cI (md 19) 40 pk), (aI cI (md 20) 40 pf), (aI cI (md 21) 40 po), (aI cI (md 22) 40 pd), (aI cI (md 23) 40 pe)] H := hP
      replace hD : va_D A [(moC md sd mth mst hn cn pn mq gn mln mnn ln mlt msz mcu mtk mfr mti mfa mfb an un lc td jt2_), (aI cI (md 62) 16 ja2_), (aI cI (md 16) 12 fo), (aI cI (md 17) 12 wo), (aI cI (md 19) 40 pk), (aI cI (md 20) 40 pf), (aI cI (md 21) 40 po), (aI cI (md 22) 40 pd), (aI cI (md 23) 40 pe)] := hD
      show W _ _ _ _ _ _ _ _ _ _ _ _ _ _ _ (F0 m 25 ls [])
      refine st_join 36 (fun (z : (Nat → Int32) × Int32) => match z with | (ja3_, jt3_) => []) (fun (z : (Nat → Int32) × Int32) (ls : Array Slot) (H : Heap) (locs : List Loc) => match z with | (ja3_, jt3_) => (0 ≤ jt3_.toInt) ∧ (jt3_.toInt ≤ 16) ∧ ((jt3_, ja3_) = cnL (decide (w.toInt = 4)) (jt2_, ja2_) 23) ∧ lv_has ls 3 [(0, .ref (md 64)), (1, .int k), (2, .int w)] ∧ va_P D vwCl [(moC md sd mth mst hn cn pn mq gn mln mnn ln mlt msz mcu mtk mfr mti mfa mfb an un lc td jt3_), (aI cI (md 62) 16 ja3_), (aI cI (md 16) 12 fo), (aI cI (md 17) 12 wo), (aI cI (md 19) 40 pk), (aI cI (md 20) 40 pf), (aI cI (md 21) 40 po), (aI cI (md 22) 40 pd), (aI cI (md 23) 40 pe)] H ∧ va_D A [(moC md sd mth mst hn cn pn mq gn mln mnn ln mlt msz mcu mtk mfr mti mfa mfb an un lc td jt3_), (aI cI (md 62) 16 ja3_), (aI cI (md 16) 12 fo), (aI cI (md 17) 12 wo), (aI cI (md 19) 40 pk), (aI cI (md 20) 40 pf), (aI cI (md 21) 40 po), (aI cI (md 22) 40 pd), (aI cI (md 23) 40 pe)] ∧ va_S A s.heap H locs) ?_ ?_
      · rintro ⟨ja3_, jt3_⟩ ls H locs ⟨g9, g10, g11, hl, hP, hD, hS⟩
        replace hl : lv_has ls 3 [(0, .ref (md 64)), (1, .int k), (2, .int w)] := hl
        replace hP : va_P D vwCl [(moC md sd mth mst hn cn pn mq gn mln mnn ln mlt msz mcu mtk mfr mti mfa mfb an un lc td jt3_), (aI cI (md 62) 16 ja3_), (aI cI (md 16) 12 fo), (aI cI (md 17) 12 wo), (aI cI (md 19) 40 pk), (aI cI (md 20) 40 pf), (aI cI (md 21) 40 po), (aI cI (md 22) 40 pd), (aI cI (md 23) 40 pe)] H := hP
        replace hD : va_D A [(moC md sd mth mst hn cn pn mq gn mln mnn ln mlt msz mcu mtk mfr mti mfa mfb an un lc td jt3_), (aI cI (md 62) 16 ja3_), (aI cI (md 16) 12 fo), (aI cI (md 17) 12 wo), (aI cI (md 19) 40 pk), (aI cI (md 20) 40 pf), (aI cI (md 21) 40 po), (aI cI (md 22) 40 pd), (aI cI (md 23) 40 pe)] := hD
        show W _ _ _ _ _ _ _ _ _ _ _ _ _ _ _ (F0 m 36 ls [])
        refine lv_aload_n hx hb dX11_markOf_36 rfl (lv_at hl 0 rfl) ?_
        refine lv_bipush (v := 20) hx hb dX11_markOf_37 (by decide) ?_
        refine st_v (wr := [(aI cI (md 16) 12 fo), (aI cI (md 17) 12 wo), (aI cI (md 19) 40 pk), (aI cI (md 20) 40 pf), (aI cI (md 21) 40 po), (aI cI (md 22) 40 pd), (aI cI (md 23) 40 pe)]) (va_runV (C := RX11) (As := [.int 20]) (rest := []) ⟨hx, hb, hml, hown, hts⟩ (ct_X11_began l D cI cY cJ cQ _ md sd mth mst hn cn pn mq gn mln mnn ln mlt msz mcu mtk mfr mti mfa mfb an un lc td jt3_ ja3_ (20 : Int32) (by omega) (by omega)) (cwV 1 hts gX11_markOf_X11_began rfl rfl rfl ⟨rfl, cdX11_began⟩ ⟨Nat.le_of_ble_eq_true rfl, Nat.le_of_ble_eq_true rfl⟩) (cPreV (hP.sub [0, 1] rfl) hK (hD.sub [0, 1] (by decide +kernel) rfl) hN (ci := 11) (q0 := 0) rfl rfl) rfl rfl hl.1 rfl (lv_room (Nat.le_of_ble_eq_true rfl)) dX11_markOf_39 ⟨Nat.le_of_ble_eq_true rfl, Nat.le_of_ble_eq_true rfl⟩) hP hD hS hA [0, 1] [2, 3, 4, 5, 6, 7, 8] rfl rfl (by decide +kernel) (by decide +kernel) (fun u13 H locs hw14 => ?_)
        clear hP hD hS
        intro hP hD hS
        obtain ⟨mtn_16, mtr_17⟩ := u13
        replace hw14 : (mtn_16, mtr_17) = lvT (jt3_, ja3_) (20 : Int32) ∧ 0 ≤ mtn_16.toInt ∧ mtn_16.toInt ≤ 16 := hw14
        replace hP : va_P D vwCl [(aI cI (md 16) 12 fo), (aI cI (md 17) 12 wo), (aI cI (md 19) 40 pk), (aI cI (md 20) 40 pf), (aI cI (md 21) 40 po), (aI cI (md 22) 40 pd), (aI cI (md 23) 40 pe), (moC md sd mth mst hn cn pn mq gn mln mnn ln mlt msz mcu mtk mfr mti mfa mfb an un lc td mtn_16), (aI cI (md 62) 16 mtr_17)] H := hP
        replace hD : va_D A [(aI cI (md 16) 12 fo), (aI cI (md 17) 12 wo), (aI cI (md 19) 40 pk), (aI cI (md 20) 40 pf), (aI cI (md 21) 40 po), (aI cI (md 22) 40 pd), (aI cI (md 23) 40 pe), (moC md sd mth mst hn cn pn mq gn mln mnn ln mlt msz mcu mtk mfr mti mfa mfb an un lc td mtn_16), (aI cI (md 62) 16 mtr_17)] := hD
        obtain ⟨hw14, hw14a, hw14b⟩ := hw14
        refine lv_aload_n hx hb dX11_markOf_42 rfl (lv_at hl 0 rfl) ?_
        refine lv_iload_n hx hb dX11_markOf_43 rfl (lv_at hl 1 rfl) ?_
        refine lv_aload_n hx hb dX11_markOf_44 rfl (lv_at hl 0 rfl) ?_
        refine va_get (D := D) (ci := 11) (v := .int td) (C := RX11) (T := TX11) (N := 64) hx hb hts inX11_markOf_X11 hown hK hP 7 rfl rfl 61 (by decide) (hts (Cond.fieldLink RX11 369 "PortRoomsModel" "theDay" "I") (wm_t (wm_l (wm_i 0 rfl)))) (fun _ h9 => h9) rfl dX11_markOf_45 ?_
        refine lv_aload_n hx hb dX11_markOf_48 rfl (lv_at hl 0 rfl) ?_
        refine va_get (D := D) (ci := 11) (v := .int td) (C := RX11) (T := TX11) (N := 64) hx hb hts inX11_markOf_X11 hown hK hP 7 rfl rfl 61 (by decide) (hts (Cond.fieldLink RX11 369 "PortRoomsModel" "theDay" "I") (wm_t (wm_l (wm_i 0 rfl)))) (fun _ h9 => h9) rfl dX11_markOf_49 ?_
        refine st_i (wr := [(aI cI (md 17) 12 wo), (aI cI (md 62) 16 mtr_17)]) (va_runV (C := RX11) (As := [.int k, .int td, .int td]) (rest := []) ⟨hx, hb, hml, hown, hts⟩ (ct_X11_ownerOf l D cI cY cJ cQ _ md sd mth mst hn cn pn mq gn mln mnn ln mlt msz mcu mtk mfr mti mfa mfb an un lc td mtn_16 fo pk pf po pd pe k td td h2 (by omega) h6 h7) (cwV 3 hts gX11_markOf_X11_ownerOf rfl rfl rfl ⟨rfl, cdX11_ownerOf⟩ ⟨Nat.le_of_ble_eq_true rfl, Nat.le_of_ble_eq_true rfl⟩) (cPreV (hP.sub [7, 0, 2, 3, 4, 5, 6] rfl) hK (hD.sub [7, 0, 2, 3, 4, 5, 6] (by decide +kernel) rfl) hN (ci := 11) (q0 := 0) rfl rfl) rfl rfl hl.1 rfl (lv_room (Nat.le_of_ble_eq_true rfl)) dX11_markOf_52 ⟨Nat.le_of_ble_eq_true rfl, Nat.le_of_ble_eq_true rfl⟩) hP hD hS hA [7, 0, 2, 3, 4, 5, 6] [1, 8] rfl rfl (by decide +kernel) (by decide +kernel) (fun r20 u18 H locs hw19 => ?_)
        clear hP hD hS
        intro hP hD hS
        replace hw19 : (r20, u18) = ooV pk pf po pd pe pn.toNatClampNeg k td td 41 0 (fo k.toNatClampNeg) (fo k.toNatClampNeg) 0 := hw19
        replace hP : va_P D vwCl [(aI cI (md 17) 12 wo), (aI cI (md 62) 16 mtr_17), (moC md sd mth mst hn cn pn u18 gn mln mnn ln mlt msz mcu mtk mfr mti mfa mfb an un lc td mtn_16), (aI cI (md 16) 12 fo), (aI cI (md 19) 40 pk), (aI cI (md 20) 40 pf), (aI cI (md 21) 40 po), (aI cI (md 22) 40 pd), (aI cI (md 23) 40 pe)] H := hP
        replace hD : va_D A [(aI cI (md 17) 12 wo), (aI cI (md 62) 16 mtr_17), (moC md sd mth mst hn cn pn u18 gn mln mnn ln mlt msz mcu mtk mfr mti mfa mfb an un lc td mtn_16), (aI cI (md 16) 12 fo), (aI cI (md 19) 40 pk), (aI cI (md 20) 40 pf), (aI cI (md 21) 40 po), (aI cI (md 22) 40 pd), (aI cI (md 23) 40 pe)] := hD
        have hro9 : (ooV pk pf po pd pe pn.toNatClampNeg k td td 41 0 (fo k.toNatClampNeg) (fo k.toNatClampNeg) 0).1 = r20 := by rw [← hw19]
        refine st_join 93 (fun (z : (Nat → Int32) × Int32 × Int32) => match z with | (ja4_, jt4_, sk21) => [.int sk21, .int r20]) (fun (z : (Nat → Int32) × Int32 × Int32) (ls : Array Slot) (H : Heap) (locs : List Loc) => match z with | (ja4_, jt4_, sk21) => (0 ≤ jt4_.toInt) ∧ (jt4_.toInt ≤ 16) ∧ (sk21 = (if w.toInt = 1 ∨ w.toInt = 2 then 100 else if w.toInt = 3 then 1000 else if w.toInt = 4 then wo k.toNatClampNeg else 0)) ∧ ((jt4_, ja4_) = cnL (decide (w.toInt = 4)) (mtn_16, mtr_17) 10) ∧ lv_has ls 3 [(0, .ref (md 64)), (1, .int k), (2, .int w)] ∧ va_P D vwCl [(aI cI (md 17) 12 wo), (aI cI (md 62) 16 ja4_), (moC md sd mth mst hn cn pn u18 gn mln mnn ln mlt msz mcu mtk mfr mti mfa mfb an un lc td jt4_), (aI cI (md 16) 12 fo), (aI cI (md 19) 40 pk), (aI cI (md 20) 40 pf), (aI cI (md 21) 40 po), (aI cI (md 22) 40 pd), (aI cI (md 23) 40 pe)] H ∧ va_D A [(aI cI (md 17) 12 wo), (aI cI (md 62) 16 ja4_), (moC md sd mth mst hn cn pn u18 gn mln mnn ln mlt msz mcu mtk mfr mti mfa mfb an un lc td jt4_), (aI cI (md 16) 12 fo), (aI cI (md 19) 40 pk), (aI cI (md 20) 40 pf), (aI cI (md 21) 40 po), (aI cI (md 22) 40 pd), (aI cI (md 23) 40 pe)] ∧ va_S A s.heap H locs) ?_ ?_
        · rintro ⟨ja4_, jt4_, sk21⟩ ls H locs ⟨g22, g23, g24, g25, hl, hP, hD, hS⟩
          replace hl : lv_has ls 3 [(0, .ref (md 64)), (1, .int k), (2, .int w)] := hl
          replace hP : va_P D vwCl [(aI cI (md 17) 12 wo), (aI cI (md 62) 16 ja4_), (moC md sd mth mst hn cn pn u18 gn mln mnn ln mlt msz mcu mtk mfr mti mfa mfb an un lc td jt4_), (aI cI (md 16) 12 fo), (aI cI (md 19) 40 pk), (aI cI (md 20) 40 pf), (aI cI (md 21) 40 po), (aI cI (md 22) 40 pd), (aI cI (md 23) 40 pe)] H := hP
          replace hD : va_D A [(aI cI (md 17) 12 wo), (aI cI (md 62) 16 ja4_), (moC md sd mth mst hn cn pn u18 gn mln mnn ln mlt msz mcu mtk mfr mti mfa mfb an un lc td jt4_), (aI cI (md 16) 12 fo), (aI cI (md 19) 40 pk), (aI cI (md 20) 40 pf), (aI cI (md 21) 40 po), (aI cI (md 22) 40 pd), (aI cI (md 23) 40 pe)] := hD
          show W _ _ _ _ _ _ _ _ _ _ _ _ _ _ _ (F0 m 93 ls [.int sk21, .int r20])
          refine lv_iadd hx hb dX11_markOf_93 ?_
          refine lv_topi (fun v27 ev27 => ?_)
          have hP9 := hP.sub (ws' := [(moC md sd mth mst hn cn pn u18 gn mln mnn ln mlt msz mcu mtk mfr mti mfa mfb an un lc td jt4_), (aI cI (md 62) 16 ja4_), (aI cI (md 16) 12 fo), (aI cI (md 17) 12 wo), (aI cI (md 19) 40 pk), (aI cI (md 20) 40 pf), (aI cI (md 21) 40 po), (aI cI (md 22) 40 pd), (aI cI (md 23) 40 pe)]) [2, 1, 3, 0, 4, 5, 6, 7, 8] rfl
          have hD9 := hD.sub (ws' := [(moC md sd mth mst hn cn pn u18 gn mln mnn ln mlt msz mcu mtk mfr mti mfa mfb an un lc td jt4_), (aI cI (md 62) 16 ja4_), (aI cI (md 16) 12 fo), (aI cI (md 17) 12 wo), (aI cI (md 19) 40 pk), (aI cI (md 20) 40 pf), (aI cI (md 21) 40 po), (aI cI (md 22) 40 pd), (aI cI (md 23) 40 pe)]) [2, 1, 3, 0, 4, 5, 6, 7, 8] (by decide +kernel) rfl
          exact W.iret (v := v27) hx hb hr (fun t ht hW => ⟨⟨v27, (jt4_, ja4_, u18), rfl, (by show (v27, jt4_, ja4_) = mkM w (wo k.toNatClampNeg) (ooV pk pf po pd pe pn.toNatClampNeg k td td 41 0 (fo k.toNatClampNeg) (fo k.toNatClampNeg) 0).1 (mtn, mtr) ∧ 0 ≤ jt4_.toInt ∧ jt4_.toInt ≤ 16; exact ⟨(by unfold mkM; rw [← g3, ← g7, ← g11, ← hw14, ← g25, ← g24, hro9, ev27]), by omega, by omega⟩), by rw [ht]; exact hP9, va_K.moved hW.alike hK, hD9⟩, hS.F ht⟩) hS.2.2 dX11_markOf_94
        · intro hj26
          refine lv_iload_n hx hb dX11_markOf_55 rfl (lv_at hl 2 rfl) ?_
          refine lv_iconst (v := 1) hx hb dX11_markOf_56 (by decide) ?_
          refine st_i1 (va_runS (As := [.int w, .int 1]) (rest := [.int r20]) ⟨hx, hb, hml, hown, hts⟩ (ct_X11_isOf l D cI cY cJ cQ _ w (1 : Int32)) (va_cwS 2 hts gX11_markOf_X11_isOf rfl rfl rfl cdX11_isOf ⟨Nat.le_of_ble_eq_true rfl, Nat.le_of_ble_eq_true rfl⟩) (cPreS (hP.sub [] rfl) hK (hD.sub [] (by decide +kernel) rfl) hN) rfl rfl hl.1 rfl (lv_room (Nat.le_of_ble_eq_true rfl)) dX11_markOf_57 ⟨Nat.le_of_ble_eq_true rfl, Nat.le_of_ble_eq_true rfl⟩) hP hD hS hA [] rfl (fun _ => rfl) (fun r30 u28 H locs hw29 => ?_)
          clear hP hS
          intro hP hS
          replace hw29 : r30 = if (1 : Int32).toInt = 0 ∨ (1 : Int32).toInt = w.toInt ∨ ((1 : Int32).toInt = 1 ∧ w.toInt = 2) then 1 else 0 := hw29
          refine lv_if_eq (tgt := 68) hx hb dX11_markOf_60 (by decide) (fun c31 => ?_) (fun c31 => ?_)
          · skip
            have f32 := bo_f hw29 c31
            refine lv_iload_n hx hb dX11_markOf_68 rfl (lv_at hl 2 rfl) ?_
            refine lv_iconst (v := 3) hx hb dX11_markOf_69 (by decide) ?_
            refine lv_icmp_ne (tgt := 79) hx hb dX11_markOf_70 (by decide) (fun c33 => ?_) (fun c33 => ?_)
            · skip
              have f34 := i_ne c33
              refine lv_iload_n hx hb dX11_markOf_79 rfl (lv_at hl 2 rfl) ?_
              refine lv_iconst (v := 4) hx hb dX11_markOf_80 (by decide) ?_
              refine lv_icmp_ne (tgt := 92) hx hb dX11_markOf_81 (by decide) (fun c35 => ?_) (fun c35 => ?_)
              · skip
                have f36 := i_ne c35
                refine lv_iconst (v := 0) hx hb dX11_markOf_92 (by decide) ?_
                exact hj26 (mtr_17, mtn_16, (0 : Int32)) ls _ _ ⟨(by omega), (by omega), (by first | (rw [if_pos (by omega)]) | (rw [if_neg (by omega), if_pos (by omega)]) | (rw [if_neg (by omega), if_neg (by omega), if_pos (by omega)]) | (rw [if_neg (by omega), if_neg (by omega), if_neg (by omega)])), (by first | exact cnL_t (by omega) (by assumption) | exact cnL_f (by omega)), lv_sub hl [0, 1, 2] rfl, hP.sub [0, 1, 2, 3, 4, 5, 6, 7, 8] rfl, hD.sub [0, 1, 2, 3, 4, 5, 6, 7, 8] (by decide +kernel) rfl, hS⟩
              · skip
                have f37 := i_eq c35
                refine lv_aload_n hx hb dX11_markOf_84 rfl (lv_at hl 0 rfl) ?_
                refine lv_iload_n hx hb dX11_markOf_85 rfl (lv_at hl 1 rfl) ?_
                refine st_i (wr := [(aI cI (md 16) 12 fo), (aI cI (md 19) 40 pk), (aI cI (md 20) 40 pf), (aI cI (md 21) 40 po), (aI cI (md 22) 40 pd), (aI cI (md 23) 40 pe)]) (va_runV (C := RX11) (As := [.int k]) (rest := [.int r20]) ⟨hx, hb, hml, hown, hts⟩ (ct_X11_plainSize l D cI cY cJ cQ _ md sd mth mst hn cn pn u18 gn mln mnn ln mlt msz mcu mtk mfr mti mfa mfb an un lc td mtn_16 mtr_17 wo k h1 h2 h3 (by omega) (by omega)) (cwV 1 hts gX11_markOf_X11_plainSize rfl rfl rfl ⟨rfl, cdX11_plainSize⟩ ⟨Nat.le_of_ble_eq_true rfl, Nat.le_of_ble_eq_true rfl⟩) (cPreV (hP.sub [2, 1, 0] rfl) hK (hD.sub [2, 1, 0] (by decide +kernel) rfl) hN (ci := 11) (q0 := 0) rfl rfl) rfl rfl hl.1 rfl (lv_room (Nat.le_of_ble_eq_true rfl)) dX11_markOf_86 ⟨Nat.le_of_ble_eq_true rfl, Nat.le_of_ble_eq_true rfl⟩) hP hD hS hA [2, 1, 0] [3, 4, 5, 6, 7, 8] rfl rfl (by decide +kernel) (by decide +kernel) (fun r40 u38 H locs hw39 => ?_)
                clear hP hD hS
                intro hP hD hS
                obtain ⟨mtn_41, mtr_42⟩ := u38
                replace hw39 : r40 = wo k.toNatClampNeg ∧ (mtn_41, mtr_42) = (lvT (mtn_16, mtr_17) 10) ∧ 0 ≤ mtn_41.toInt ∧ mtn_41.toInt ≤ 16 := hw39
                replace hP : va_P D vwCl [(aI cI (md 16) 12 fo), (aI cI (md 19) 40 pk), (aI cI (md 20) 40 pf), (aI cI (md 21) 40 po), (aI cI (md 22) 40 pd), (aI cI (md 23) 40 pe), (moC md sd mth mst hn cn pn u18 gn mln mnn ln mlt msz mcu mtk mfr mti mfa mfb an un lc td mtn_41), (aI cI (md 62) 16 mtr_42), (aI cI (md 17) 12 wo)] H := hP
                replace hD : va_D A [(aI cI (md 16) 12 fo), (aI cI (md 19) 40 pk), (aI cI (md 20) 40 pf), (aI cI (md 21) 40 po), (aI cI (md 22) 40 pd), (aI cI (md 23) 40 pe), (moC md sd mth mst hn cn pn u18 gn mln mnn ln mlt msz mcu mtk mfr mti mfa mfb an un lc td mtn_41), (aI cI (md 62) 16 mtr_42), (aI cI (md 17) 12 wo)] := hD
                obtain ⟨hw39r, hw39, hw39a, hw39b⟩ := hw39
                subst hw39r
                refine lv_goto (tgt := 93) hx hb dX11_markOf_89 (by decide) ?_
                exact hj26 (mtr_42, mtn_41, wo k.toNatClampNeg) ls _ _ ⟨(by omega), (by omega), (by first | (rw [if_pos (by omega)]) | (rw [if_neg (by omega), if_pos (by omega)]) | (rw [if_neg (by omega), if_neg (by omega), if_pos (by omega)]) | (rw [if_neg (by omega), if_neg (by omega), if_neg (by omega)])), (by first | exact cnL_t (by omega) (by assumption) | exact cnL_f (by omega)), lv_sub hl [0, 1, 2] rfl, hP.sub [8, 7, 6, 0, 1, 2, 3, 4, 5] rfl, hD.sub [8, 7, 6, 0, 1, 2, 3, 4, 5] (by decide +kernel) rfl, hS⟩
            · skip
              have f43 := i_eq c33
              refine lv_sipush (v := 1000) hx hb dX11_markOf_73 (by decide) ?_
              refine lv_goto (tgt := 93) hx hb dX11_markOf_76 (by decide) ?_
              exact hj26 (mtr_17, mtn_16, (1000 : Int32)) ls _ _ ⟨(by omega), (by omega), (by first | (rw [if_pos (by omega)]) | (rw [if_neg (by omega), if_pos (by omega)]) | (rw [if_neg (by omega), if_neg (by omega), if_pos (by omega)]) | (rw [if_neg (by omega), if_neg (by omega), if_neg (by omega)])), (by first | exact cnL_t (by omega) (by assumption) | exact cnL_f (by omega)), lv_sub hl [0, 1, 2] rfl, hP.sub [0, 1, 2, 3, 4, 5, 6, 7, 8] rfl, hD.sub [0, 1, 2, 3, 4, 5, 6, 7, 8] (by decide +kernel) rfl, hS⟩
          · skip
            have f44 := bo_t hw29 c31
            refine lv_bipush (v := 100) hx hb dX11_markOf_63 (by decide) ?_
            refine lv_goto (tgt := 93) hx hb dX11_markOf_65 (by decide) ?_
            exact hj26 (mtr_17, mtn_16, (100 : Int32)) ls _ _ ⟨(by omega), (by omega), (by first | (rw [if_pos (by omega)]) | (rw [if_neg (by omega), if_pos (by omega)]) | (rw [if_neg (by omega), if_neg (by omega), if_pos (by omega)]) | (rw [if_neg (by omega), if_neg (by omega), if_neg (by omega)])), (by first | exact cnL_t (by omega) (by assumption) | exact cnL_f (by omega)), lv_sub hl [0, 1, 2] rfl, hP.sub [0, 1, 2, 3, 4, 5, 6, 7, 8] rfl, hD.sub [0, 1, 2, 3, 4, 5, 6, 7, 8] (by decide +kernel) rfl, hS⟩
      · intro hj12
        refine lv_iload_n hx hb dX11_markOf_25 rfl (lv_at hl 2 rfl) ?_
        refine lv_iconst (v := 4) hx hb dX11_markOf_26 (by decide) ?_
        refine lv_icmp_ne (tgt := 36) hx hb dX11_markOf_27 (by decide) (fun c45 => ?_) (fun c45 => ?_)
        · skip
          have f46 := i_ne c45
          exact hj12 (ja2_, jt2_) ls _ _ ⟨(by omega), (by omega), (by first | exact cnL_t (by omega) (by assumption) | exact cnL_f (by omega)), lv_sub hl [0, 1, 2] rfl, hP.sub [0, 1, 2, 3, 4, 5, 6, 7, 8] rfl, hD.sub [0, 1, 2, 3, 4, 5, 6, 7, 8] (by decide +kernel) rfl, hS⟩
        · skip
          have f47 := i_eq c45
          refine lv_aload_n hx hb dX11_markOf_30 rfl (lv_at hl 0 rfl) ?_
          refine lv_bipush (v := 23) hx hb dX11_markOf_31 (by decide) ?_
          refine st_v (wr := [(aI cI (md 16) 12 fo), (aI cI (md 17) 12 wo), (aI cI (md 19) 40 pk), (aI cI (md 20) 40 pf), (aI cI (md 21) 40 po), (aI cI (md 22) 40 pd), (aI cI (md 23) 40 pe)]) (va_runV (C := RX11) (As := [.int 23]) (rest := []) ⟨hx, hb, hml, hown, hts⟩ (ct_X11_began l D cI cY cJ cQ _ md sd mth mst hn cn pn mq gn mln mnn ln mlt msz mcu mtk mfr mti mfa mfb an un lc td jt2_ ja2_ (23 : Int32) (by omega) (by omega)) (cwV 1 hts gX11_markOf_X11_began rfl rfl rfl ⟨rfl, cdX11_began⟩ ⟨Nat.le_of_ble_eq_true rfl, Nat.le_of_ble_eq_true rfl⟩) (cPreV (hP.sub [0, 1] rfl) hK (hD.sub [0, 1] (by decide +kernel) rfl) hN (ci := 11) (q0 := 0) rfl rfl) rfl rfl hl.1 rfl (lv_room (Nat.le_of_ble_eq_true rfl)) dX11_markOf_33 ⟨Nat.le_of_ble_eq_true rfl, Nat.le_of_ble_eq_true rfl⟩) hP hD hS hA [0, 1] [2, 3, 4, 5, 6, 7, 8] rfl rfl (by decide +kernel) (by decide +kernel) (fun u48 H locs hw49 => ?_)
          clear hP hD hS
          intro hP hD hS
          obtain ⟨mtn_51, mtr_52⟩ := u48
          replace hw49 : (mtn_51, mtr_52) = lvT (jt2_, ja2_) (23 : Int32) ∧ 0 ≤ mtn_51.toInt ∧ mtn_51.toInt ≤ 16 := hw49
          replace hP : va_P D vwCl [(aI cI (md 16) 12 fo), (aI cI (md 17) 12 wo), (aI cI (md 19) 40 pk), (aI cI (md 20) 40 pf), (aI cI (md 21) 40 po), (aI cI (md 22) 40 pd), (aI cI (md 23) 40 pe), (moC md sd mth mst hn cn pn mq gn mln mnn ln mlt msz mcu mtk mfr mti mfa mfb an un lc td mtn_51), (aI cI (md 62) 16 mtr_52)] H := hP
          replace hD : va_D A [(aI cI (md 16) 12 fo), (aI cI (md 17) 12 wo), (aI cI (md 19) 40 pk), (aI cI (md 20) 40 pf), (aI cI (md 21) 40 po), (aI cI (md 22) 40 pd), (aI cI (md 23) 40 pe), (moC md sd mth mst hn cn pn mq gn mln mnn ln mlt msz mcu mtk mfr mti mfa mfb an un lc td mtn_51), (aI cI (md 62) 16 mtr_52)] := hD
          obtain ⟨hw49, hw49a, hw49b⟩ := hw49
          exact hj12 (mtr_52, mtn_51) ls _ _ ⟨(by omega), (by omega), (by first | exact cnL_t (by omega) (by assumption) | exact cnL_f (by omega)), lv_sub hl [0, 1, 2] rfl, hP.sub [7, 8, 0, 1, 2, 3, 4, 5, 6] rfl, hD.sub [7, 8, 0, 1, 2, 3, 4, 5, 6] (by decide +kernel) rfl, hS⟩
    · intro hj8
      refine lv_iload_n hx hb dX11_markOf_14 rfl (lv_at hl 2 rfl) ?_
      refine lv_iconst (v := 3) hx hb dX11_markOf_15 (by decide) ?_
      refine lv_icmp_ne (tgt := 25) hx hb dX11_markOf_16 (by decide) (fun c53 => ?_) (fun c53 => ?_)
      · skip
        have f54 := i_ne c53
        exact hj8 (ja1_, jt1_) ls _ _ ⟨(by omega), (by omega), (by first | exact cnL_t (by omega) (by assumption) | exact cnL_f (by omega)), lv_sub hl [0, 1, 2] rfl, hP.sub [0, 1, 2, 3, 4, 5, 6, 7, 8] rfl, hD.sub [0, 1, 2, 3, 4, 5, 6, 7, 8] (by decide +kernel) rfl, hS⟩
      · skip
        have f55 := i_eq c53
        refine lv_aload_n hx hb dX11_markOf_19 rfl (lv_at hl 0 rfl) ?_
        refine lv_bipush (v := 22) hx hb dX11_markOf_20 (by decide) ?_
        refine st_v (wr := [(aI cI (md 16) 12 fo), (aI cI (md 17) 12 wo), (aI cI (md 19) 40 pk), (aI cI (md 20) 40 pf), (aI cI (md 21) 40 po), (aI cI (md 22) 40 pd), (aI cI (md 23) 40 pe)]) (va_runV (C := RX11) (As := [.int 22]) (rest := []) ⟨hx, hb, hml, hown, hts⟩ (ct_X11_began l D cI cY cJ cQ _ md sd mth mst hn cn pn mq gn mln mnn ln mlt msz mcu mtk mfr mti mfa mfb an un lc td jt1_ ja1_ (22 : Int32) (by omega) (by omega)) (cwV 1 hts gX11_markOf_X11_began rfl rfl rfl ⟨rfl, cdX11_began⟩ ⟨Nat.le_of_ble_eq_true rfl, Nat.le_of_ble_eq_true rfl⟩) (cPreV (hP.sub [0, 1] rfl) hK (hD.sub [0, 1] (by decide +kernel) rfl) hN (ci := 11) (q0 := 0) rfl rfl) rfl rfl hl.1 rfl (lv_room (Nat.le_of_ble_eq_true rfl)) dX11_markOf_22 ⟨Nat.le_of_ble_eq_true rfl, Nat.le_of_ble_eq_true rfl⟩) hP hD hS hA [0, 1] [2, 3, 4, 5, 6, 7, 8] rfl rfl (by decide +kernel) (by decide +kernel) (fun u56 H locs hw57 => ?_)
        clear hP hD hS
        intro hP hD hS
        obtain ⟨mtn_59, mtr_60⟩ := u56
        replace hw57 : (mtn_59, mtr_60) = lvT (jt1_, ja1_) (22 : Int32) ∧ 0 ≤ mtn_59.toInt ∧ mtn_59.toInt ≤ 16 := hw57
        replace hP : va_P D vwCl [(aI cI (md 16) 12 fo), (aI cI (md 17) 12 wo), (aI cI (md 19) 40 pk), (aI cI (md 20) 40 pf), (aI cI (md 21) 40 po), (aI cI (md 22) 40 pd), (aI cI (md 23) 40 pe), (moC md sd mth mst hn cn pn mq gn mln mnn ln mlt msz mcu mtk mfr mti mfa mfb an un lc td mtn_59), (aI cI (md 62) 16 mtr_60)] H := hP
        replace hD : va_D A [(aI cI (md 16) 12 fo), (aI cI (md 17) 12 wo), (aI cI (md 19) 40 pk), (aI cI (md 20) 40 pf), (aI cI (md 21) 40 po), (aI cI (md 22) 40 pd), (aI cI (md 23) 40 pe), (moC md sd mth mst hn cn pn mq gn mln mnn ln mlt msz mcu mtk mfr mti mfa mfb an un lc td mtn_59), (aI cI (md 62) 16 mtr_60)] := hD
        obtain ⟨hw57, hw57a, hw57b⟩ := hw57
        exact hj8 (mtr_60, mtn_59) ls _ _ ⟨(by omega), (by omega), (by first | exact cnL_t (by omega) (by assumption) | exact cnL_f (by omega)), lv_sub hl [0, 1, 2] rfl, hP.sub [7, 8, 0, 1, 2, 3, 4, 5, 6] rfl, hD.sub [7, 8, 0, 1, 2, 3, 4, 5, 6] (by decide +kernel) rfl, hS⟩
  · intro hj4
    refine lv_iload_n hx hb dX11_markOf_0 rfl (lv_at hl 2 rfl) ?_
    refine lv_iconst (v := 1) hx hb dX11_markOf_1 (by decide) ?_
    refine st_i1 (va_runS (As := [.int w, .int 1]) (rest := []) ⟨hx, hb, hml, hown, hts⟩ (ct_X11_isOf l D cI cY cJ cQ _ w (1 : Int32)) (va_cwS 2 hts gX11_markOf_X11_isOf rfl rfl rfl cdX11_isOf ⟨Nat.le_of_ble_eq_true rfl, Nat.le_of_ble_eq_true rfl⟩) (cPreS (hP.sub [] rfl) hK (hD.sub [] (by decide +kernel) rfl) hN) rfl rfl hl.1 rfl (lv_room (Nat.le_of_ble_eq_true rfl)) dX11_markOf_2 ⟨Nat.le_of_ble_eq_true rfl, Nat.le_of_ble_eq_true rfl⟩) hP hD hS hA [] rfl (fun _ => rfl) (fun r63 u61 H locs hw62 => ?_)
    clear hP hS
    intro hP hS
    replace hw62 : r63 = if (1 : Int32).toInt = 0 ∨ (1 : Int32).toInt = w.toInt ∨ ((1 : Int32).toInt = 1 ∧ w.toInt = 2) then 1 else 0 := hw62
    refine lv_if_eq (tgt := 14) hx hb dX11_markOf_5 (by decide) (fun c64 => ?_) (fun c64 => ?_)
    · skip
      have f65 := bo_f hw62 c64
      exact hj4 (mtr, mtn) ls _ _ ⟨(by omega), (by omega), (by first | exact cnL_t (by omega) (by assumption) | exact cnL_f (by omega)), lv_sub hl [0, 1, 2] rfl, hP.sub [0, 1, 2, 3, 4, 5, 6, 7, 8] rfl, hD.sub [0, 1, 2, 3, 4, 5, 6, 7, 8] (by decide +kernel) rfl, hS⟩
    · skip
      have f66 := bo_t hw62 c64
      refine lv_aload_n hx hb dX11_markOf_8 rfl (lv_at hl 0 rfl) ?_
      refine lv_bipush (v := 21) hx hb dX11_markOf_9 (by decide) ?_
      refine st_v (wr := [(aI cI (md 16) 12 fo), (aI cI (md 17) 12 wo), (aI cI (md 19) 40 pk), (aI cI (md 20) 40 pf), (aI cI (md 21) 40 po), (aI cI (md 22) 40 pd), (aI cI (md 23) 40 pe)]) (va_runV (C := RX11) (As := [.int 21]) (rest := []) ⟨hx, hb, hml, hown, hts⟩ (ct_X11_began l D cI cY cJ cQ _ md sd mth mst hn cn pn mq gn mln mnn ln mlt msz mcu mtk mfr mti mfa mfb an un lc td mtn mtr (21 : Int32) h4 h5) (cwV 1 hts gX11_markOf_X11_began rfl rfl rfl ⟨rfl, cdX11_began⟩ ⟨Nat.le_of_ble_eq_true rfl, Nat.le_of_ble_eq_true rfl⟩) (cPreV (hP.sub [0, 1] rfl) hK (hD.sub [0, 1] (by decide +kernel) rfl) hN (ci := 11) (q0 := 0) rfl rfl) rfl rfl hl.1 rfl (lv_room (Nat.le_of_ble_eq_true rfl)) dX11_markOf_11 ⟨Nat.le_of_ble_eq_true rfl, Nat.le_of_ble_eq_true rfl⟩) hP hD hS hA [0, 1] [2, 3, 4, 5, 6, 7, 8] rfl rfl (by decide +kernel) (by decide +kernel) (fun u67 H locs hw68 => ?_)
      clear hP hD hS
      intro hP hD hS
      obtain ⟨mtn_70, mtr_71⟩ := u67
      replace hw68 : (mtn_70, mtr_71) = lvT (mtn, mtr) (21 : Int32) ∧ 0 ≤ mtn_70.toInt ∧ mtn_70.toInt ≤ 16 := hw68
      replace hP : va_P D vwCl [(aI cI (md 16) 12 fo), (aI cI (md 17) 12 wo), (aI cI (md 19) 40 pk), (aI cI (md 20) 40 pf), (aI cI (md 21) 40 po), (aI cI (md 22) 40 pd), (aI cI (md 23) 40 pe), (moC md sd mth mst hn cn pn mq gn mln mnn ln mlt msz mcu mtk mfr mti mfa mfb an un lc td mtn_70), (aI cI (md 62) 16 mtr_71)] H := hP
      replace hD : va_D A [(aI cI (md 16) 12 fo), (aI cI (md 17) 12 wo), (aI cI (md 19) 40 pk), (aI cI (md 20) 40 pf), (aI cI (md 21) 40 po), (aI cI (md 22) 40 pd), (aI cI (md 23) 40 pe), (moC md sd mth mst hn cn pn mq gn mln mnn ln mlt msz mcu mtk mfr mti mfa mfb an un lc td mtn_70), (aI cI (md 62) 16 mtr_71)] := hD
      obtain ⟨hw68, hw68a, hw68b⟩ := hw68
      exact hj4 (mtr_71, mtn_70) ls _ _ ⟨(by omega), (by omega), (by first | exact cnL_t (by omega) (by assumption) | exact cnL_f (by omega)), lv_sub hl [0, 1, 2] rfl, hP.sub [7, 8, 0, 1, 2, 3, 4, 5, 6] rfl, hD.sub [7, 8, 0, 1, 2, 3, 4, 5, 6] (by decide +kernel) rfl, hS⟩

set_option maxHeartbeats 4000000 in
set_option maxRecDepth 100000 in
theorem ct_X11_sizeOf (l : Launch) (D : va_G) (cI cY cJ cQ : ClassId) (sz : Nat) (md : Nat → Nat) (sd : Int32) (mth mst hn cn pn mq gn mln mnn ln mlt msz mcu mtk mfr mti mfa mfb an un lc td mtn : Int32) (mtr fo wo pk pf po pd pe gk gs gd ge : Nat → Int32) (k : Int32) (w : Int32)  (h1 : cn.toInt ≤ 12) (h2 : 0 ≤ k.toInt) (h3 : k.toInt < cn.toInt) (h4 : 0 ≤ mtn.toInt) (h5 : mtn.toInt ≤ 16) (h6 : 0 ≤ pn.toInt) (h7 : pn.toInt ≤ 40) (h8 : 0 ≤ gn.toInt) (h9 : gn.toInt ≤ 40)  : Met l yX11_sizeOf wsX11_sizeOf ({ frames := 3, cells := 0, slots := 0, locals := 64 }) (cPre D (ty4 cI cY cJ cQ) [(moC md sd mth mst hn cn pn mq gn mln mnn ln mlt msz mcu mtk mfr mti mfa mfb an un lc td mtn), (aI cI (md 62) 16 mtr), (aI cI (md 16) 12 fo), (aI cI (md 17) 12 wo), (aI cI (md 19) 40 pk), (aI cI (md 20) 40 pf), (aI cI (md 21) 40 po), (aI cI (md 22) 40 pd), (aI cI (md 23) 40 pe), (aI cI (md 26) 40 gk), (aI cI (md 27) 40 gs), (aI cI (md 28) 40 gd), (aI cI (md 29) 40 ge)] sz [.ref (md 64), .int k, .int w]) (va_Qi (fun (r : Int32) (u : Int32 × (Nat → Int32) × Int32) => (r, u.1, u.2.1) = szM w (wo k.toNatClampNeg) (suV gk gs ge k td gn.toNatClampNeg) (ooV pk pf po pd pe pn.toNatClampNeg k td td 41 0 (fo k.toNatClampNeg) (fo k.toNatClampNeg) 0).1 (mtn, mtr) ∧ 0 ≤ u.1.toInt ∧ u.1.toInt ≤ 16) (cB D (ty4 cI cY cJ cQ) (fun (u : Int32 × (Nat → Int32) × Int32) => [(moC md sd mth mst hn cn pn u.2.2 gn mln mnn ln mlt msz mcu mtk mfr mti mfa mfb an un lc td u.1), (aI cI (md 62) 16 u.2.1), (aI cI (md 16) 12 fo), (aI cI (md 17) 12 wo), (aI cI (md 19) 40 pk), (aI cI (md 20) 40 pf), (aI cI (md 21) 40 po), (aI cI (md 22) 40 pd), (aI cI (md 23) 40 pe), (aI cI (md 26) 40 gk), (aI cI (md 27) 40 gs), (aI cI (md 28) 40 gd), (aI cI (md 29) 40 ge)]) (va_A [(moC md sd mth mst hn cn pn mq gn mln mnn ln mlt msz mcu mtk mfr mti mfa mfb an un lc td mtn), (aI cI (md 62) 16 mtr), (aI cI (md 16) 12 fo), (aI cI (md 17) 12 wo), (aI cI (md 19) 40 pk), (aI cI (md 20) 40 pf), (aI cI (md 21) 40 po), (aI cI (md 22) 40 pd), (aI cI (md 23) 40 pe), (aI cI (md 26) 40 gk), (aI cI (md 27) 40 gs), (aI cI (md 28) 40 gd), (aI cI (md 29) 40 ge)] sz)) (va_A [(moC md sd mth mst hn cn pn mq gn mln mnn ln mlt msz mcu mtk mfr mti mfa mfb an un lc td mtn), (aI cI (md 62) 16 mtr), (aI cI (md 16) 12 fo), (aI cI (md 17) 12 wo), (aI cI (md 19) 40 pk), (aI cI (md 20) 40 pf), (aI cI (md 21) 40 po), (aI cI (md 22) 40 pd), (aI cI (md 23) 40 pe), (aI cI (md 26) 40 gk), (aI cI (md 27) 40 gs), (aI cI (md 28) 40 gd), (aI cI (md 29) 40 ge)] sz)) 0 0 (va_A [(moC md sd mth mst hn cn pn mq gn mln mnn ln mlt msz mcu mtk mfr mti mfa mfb an un lc td mtn), (aI cI (md 62) 16 mtr), (aI cI (md 16) 12 fo), (aI cI (md 17) 12 wo), (aI cI (md 19) 40 pk), (aI cI (md 20) 40 pf), (aI cI (md 21) 40 po), (aI cI (md 22) 40 pd), (aI cI (md 23) 40 pe), (aI cI (md 26) 40 gk), (aI cI (md 27) 40 gs), (aI cI (md 28) 40 gd), (aI cI (md 29) 40 ge)] sz) := by
  refine Met.ofW (cc := cX11_sizeOf) (maxL := 4) (ret := (some .int)) (by decide) rfl ?_
  intro p e s m args below meth c s₁ B hml hv
  obtain ⟨rfl, hsz, hP, hK, hD0, hN⟩ := hv
  have hx := B.exec
  have hb := B.bytes
  have hr := B.returns
  have hts := atoms_spec (ws := wsX11_sizeOf) B.pre
  have hown : s.vm.findClass RX11 = some m.cls := findClass_of_methodNamed B.named
  have hlocks := B.notSynchronized
  subst hsz
  have hD := hD0.self (sz := s.heap.size)
  generalize hAe : va_A [(moC md sd mth mst hn cn pn mq gn mln mnn ln mlt msz mcu mtk mfr mti mfa mfb an un lc td mtn), (aI cI (md 62) 16 mtr), (aI cI (md 16) 12 fo), (aI cI (md 17) 12 wo), (aI cI (md 19) 40 pk), (aI cI (md 20) 40 pf), (aI cI (md 21) 40 po), (aI cI (md 22) 40 pd), (aI cI (md 23) 40 pe), (aI cI (md 26) 40 gk), (aI cI (md 27) 40 gs), (aI cI (md 28) 40 gd), (aI cI (md 29) 40 ge)] s.heap.size = A at hD ⊢
  have hA : ∀ q : Nat, s.heap.size ≤ q → A q := fun q h => by rw [← hAe]; exact Or.inr h
  have hS : va_S A s.heap s.heap [] := va_S.rf
  have hP : va_P D vwCl [(moC md sd mth mst hn cn pn mq gn mln mnn ln mlt msz mcu mtk mfr mti mfa mfb an un lc td mtn), (aI cI (md 62) 16 mtr), (aI cI (md 16) 12 fo), (aI cI (md 17) 12 wo), (aI cI (md 19) 40 pk), (aI cI (md 20) 40 pf), (aI cI (md 21) 40 po), (aI cI (md 22) 40 pd), (aI cI (md 23) 40 pe), (aI cI (md 26) 40 gk), (aI cI (md 27) 40 gs), (aI cI (md 28) 40 gd), (aI cI (md 29) 40 ge)] s.heap := hP
  have hl := lv_entry ([.ref (md 64), .int k, .int w]) (n := 4) (Nat.le_of_ble_eq_true rfl)
  rw [lg_entry_eq]
  generalize (lg_sl ([.ref (md 64), .int k, .int w]) ++ List.replicate (4 - (lg_sl ([.ref (md 64), .int k, .int w])).length) Slot.unset).toArray = ls at hl ⊢
  have hl : lv_has ls 4 [(0, .ref (md 64)), (1, .int k), (2, .int w)] := hl
  have k0 : (0 : Int32).toInt = 0 := by decide
  have k1 : (1 : Int32).toInt = 1 := by decide
  have k2 : (2 : Int32).toInt = 2 := by decide
  have k3 : (3 : Int32).toInt = 3 := by decide
  have k11 : (11 : Int32).toInt = 11 := by decide
  have k12 : (12 : Int32).toInt = 12 := by decide
  have k13 : (13 : Int32).toInt = 13 := by decide
  refine lv_iload_n hx hb dX11_sizeOf_0 rfl (lv_at hl 2 rfl) ?_
  refine lv_iconst (v := 3) hx hb dX11_sizeOf_1 (by decide) ?_
  refine lv_icmp_ne (tgt := 19) hx hb dX11_sizeOf_2 (by decide) (fun c1 => ?_) (fun c1 => ?_)
  · skip
    have f2 := i_ne c1
    refine st_join 30 (fun (z : (Nat → Int32) × Int32) => match z with | (ja5_, jt5_) => []) (fun (z : (Nat → Int32) × Int32) (ls : Array Slot) (H : Heap) (locs : List Loc) => match z with | (ja5_, jt5_) => (0 ≤ jt5_.toInt) ∧ (jt5_.toInt ≤ 16) ∧ ((jt5_, ja5_) = cnL (decide (w.toInt = 2)) (mtn, mtr) 12) ∧ lv_has ls 4 [(0, .ref (md 64)), (1, .int k), (2, .int w)] ∧ va_P D vwCl [(moC md sd mth mst hn cn pn mq gn mln mnn ln mlt msz mcu mtk mfr mti mfa mfb an un lc td jt5_), (aI cI (md 62) 16 ja5_), (aI cI (md 16) 12 fo), (aI cI (md 17) 12 wo), (aI cI (md 19) 40 pk), (aI cI (md 20) 40 pf), (aI cI (md 21) 40 po), (aI cI (md 22) 40 pd), (aI cI (md 23) 40 pe), (aI cI (md 26) 40 gk), (aI cI (md 27) 40 gs), (aI cI (md 28) 40 gd), (aI cI (md 29) 40 ge)] H ∧ va_D A [(moC md sd mth mst hn cn pn mq gn mln mnn ln mlt msz mcu mtk mfr mti mfa mfb an un lc td jt5_), (aI cI (md 62) 16 ja5_), (aI cI (md 16) 12 fo), (aI cI (md 17) 12 wo), (aI cI (md 19) 40 pk), (aI cI (md 20) 40 pf), (aI cI (md 21) 40 po), (aI cI (md 22) 40 pd), (aI cI (md 23) 40 pe), (aI cI (md 26) 40 gk), (aI cI (md 27) 40 gs), (aI cI (md 28) 40 gd), (aI cI (md 29) 40 ge)] ∧ va_S A s.heap H locs) ?_ ?_
    · rintro ⟨ja5_, jt5_⟩ ls H locs ⟨g3, g4, g5, hl, hP, hD, hS⟩
      replace hl : lv_has ls 4 [(0, .ref (md 64)), (1, .int k), (2, .int w)] := hl
      replace hP : va_P D vwCl [(moC md sd mth mst hn cn pn mq gn mln mnn ln mlt msz mcu mtk mfr mti mfa mfb an un lc td jt5_), (aI cI (md 62) 16 ja5_), (aI cI (md 16) 12 fo), (aI cI (md 17) 12 wo), (aI cI (md 19) 40 pk), (aI cI (md 20) 40 pf), (aI cI (md 21) 40 po), (aI cI (md 22) 40 pd), (aI cI (md 23) 40 pe), (aI cI (md 26) 40 gk), (aI cI (md 27) 40 gs), (aI cI (md 28) 40 gd), (aI cI (md 29) 40 ge)] H := hP
      replace hD : va_D A [(moC md sd mth mst hn cn pn mq gn mln mnn ln mlt msz mcu mtk mfr mti mfa mfb an un lc td jt5_), (aI cI (md 62) 16 ja5_), (aI cI (md 16) 12 fo), (aI cI (md 17) 12 wo), (aI cI (md 19) 40 pk), (aI cI (md 20) 40 pf), (aI cI (md 21) 40 po), (aI cI (md 22) 40 pd), (aI cI (md 23) 40 pe), (aI cI (md 26) 40 gk), (aI cI (md 27) 40 gs), (aI cI (md 28) 40 gd), (aI cI (md 29) 40 ge)] := hD
      show W _ _ _ _ _ _ _ _ _ _ _ _ _ _ _ (F0 m 30 ls [])
      refine st_join 44 (fun (z : (Nat → Int32) × Int32) => match z with | (ja6_, jt6_) => []) (fun (z : (Nat → Int32) × Int32) (ls : Array Slot) (H : Heap) (locs : List Loc) => match z with | (ja6_, jt6_) => (0 ≤ jt6_.toInt) ∧ (jt6_.toInt ≤ 16) ∧ ((jt6_, ja6_) = cnL (decide (w.toInt = 1 ∨ w.toInt = 2)) (jt5_, ja5_) 11) ∧ lv_has ls 4 [(0, .ref (md 64)), (1, .int k), (2, .int w)] ∧ va_P D vwCl [(moC md sd mth mst hn cn pn mq gn mln mnn ln mlt msz mcu mtk mfr mti mfa mfb an un lc td jt6_), (aI cI (md 62) 16 ja6_), (aI cI (md 16) 12 fo), (aI cI (md 17) 12 wo), (aI cI (md 19) 40 pk), (aI cI (md 20) 40 pf), (aI cI (md 21) 40 po), (aI cI (md 22) 40 pd), (aI cI (md 23) 40 pe), (aI cI (md 26) 40 gk), (aI cI (md 27) 40 gs), (aI cI (md 28) 40 gd), (aI cI (md 29) 40 ge)] H ∧ va_D A [(moC md sd mth mst hn cn pn mq gn mln mnn ln mlt msz mcu mtk mfr mti mfa mfb an un lc td jt6_), (aI cI (md 62) 16 ja6_), (aI cI (md 16) 12 fo), (aI cI (md 17) 12 wo), (aI cI (md 19) 40 pk), (aI cI (md 20) 40 pf), (aI cI (md 21) 40 po), (aI cI (md 22) 40 pd), (aI cI (md 23) 40 pe), (aI cI (md 26) 40 gk), (aI cI (md 27) 40 gs), (aI cI (md 28) 40 gd), (aI cI (md 29) 40 ge)] ∧ va_S A s.heap H locs) ?_ ?_
      · rintro ⟨ja6_, jt6_⟩ ls H locs ⟨g7, g8, g9, hl, hP, hD, hS⟩
        replace hl : lv_has ls 4 [(0, .ref (md 64)), (1, .int k), (2, .int w)] := hl
        replace hP : va_P D vwCl [(moC md sd mth mst hn cn pn mq gn mln mnn ln mlt msz mcu mtk mfr mti mfa mfb an un lc td jt6_), (aI cI (md 62) 16 ja6_), (aI cI (md 16) 12 fo), (aI cI (md 17) 12 wo), (aI cI (md 19) 40 pk), (aI cI (md 20) 40 pf), (aI cI (md 21) 40 po), (aI cI (md 22) 40 pd), (aI cI (md 23) 40 pe), (aI cI (md 26) 40 gk), (aI cI (md 27) 40 gs), (aI cI (md 28) 40 gd), (aI cI (md 29) 40 ge)] H := hP
        replace hD : va_D A [(moC md sd mth mst hn cn pn mq gn mln mnn ln mlt msz mcu mtk mfr mti mfa mfb an un lc td jt6_), (aI cI (md 62) 16 ja6_), (aI cI (md 16) 12 fo), (aI cI (md 17) 12 wo), (aI cI (md 19) 40 pk), (aI cI (md 20) 40 pf), (aI cI (md 21) 40 po), (aI cI (md 22) 40 pd), (aI cI (md 23) 40 pe), (aI cI (md 26) 40 gk), (aI cI (md 27) 40 gs), (aI cI (md 28) 40 gd), (aI cI (md 29) 40 ge)] := hD
        show W _ _ _ _ _ _ _ _ _ _ _ _ _ _ _ (F0 m 44 ls [])
        refine lv_aload_n hx hb dX11_sizeOf_44 rfl (lv_at hl 0 rfl) ?_
        refine lv_iload_n hx hb dX11_sizeOf_45 rfl (lv_at hl 1 rfl) ?_
        refine st_i (wr := [(aI cI (md 16) 12 fo), (aI cI (md 19) 40 pk), (aI cI (md 20) 40 pf), (aI cI (md 21) 40 po), (aI cI (md 22) 40 pd), (aI cI (md 23) 40 pe), (aI cI (md 26) 40 gk), (aI cI (md 27) 40 gs), (aI cI (md 28) 40 gd), (aI cI (md 29) 40 ge)]) (va_runV (C := RX11) (As := [.int k]) (rest := []) ⟨hx, hb, hml, hown, hts⟩ (ct_X11_plainSize l D cI cY cJ cQ _ md sd mth mst hn cn pn mq gn mln mnn ln mlt msz mcu mtk mfr mti mfa mfb an un lc td jt6_ ja6_ wo k h1 h2 h3 (by omega) (by omega)) (cwV 1 hts gX11_sizeOf_X11_plainSize rfl rfl rfl ⟨rfl, cdX11_plainSize⟩ ⟨Nat.le_of_ble_eq_true rfl, Nat.le_of_ble_eq_true rfl⟩) (cPreV (hP.sub [0, 1, 3] rfl) hK (hD.sub [0, 1, 3] (by decide +kernel) rfl) hN (ci := 11) (q0 := 0) rfl rfl) rfl rfl hl.1 rfl (lv_room (Nat.le_of_ble_eq_true rfl)) dX11_sizeOf_46 ⟨Nat.le_of_ble_eq_true rfl, Nat.le_of_ble_eq_true rfl⟩) hP hD hS hA [0, 1, 3] [2, 4, 5, 6, 7, 8, 9, 10, 11, 12] rfl rfl (by decide +kernel) (by decide +kernel) (fun r13 u11 H locs hw12 => ?_)
        clear hP hD hS
        intro hP hD hS
        obtain ⟨mtn_14, mtr_15⟩ := u11
        replace hw12 : r13 = wo k.toNatClampNeg ∧ (mtn_14, mtr_15) = (lvT (jt6_, ja6_) 10) ∧ 0 ≤ mtn_14.toInt ∧ mtn_14.toInt ≤ 16 := hw12
        replace hP : va_P D vwCl [(aI cI (md 16) 12 fo), (aI cI (md 19) 40 pk), (aI cI (md 20) 40 pf), (aI cI (md 21) 40 po), (aI cI (md 22) 40 pd), (aI cI (md 23) 40 pe), (aI cI (md 26) 40 gk), (aI cI (md 27) 40 gs), (aI cI (md 28) 40 gd), (aI cI (md 29) 40 ge), (moC md sd mth mst hn cn pn mq gn mln mnn ln mlt msz mcu mtk mfr mti mfa mfb an un lc td mtn_14), (aI cI (md 62) 16 mtr_15), (aI cI (md 17) 12 wo)] H := hP
        replace hD : va_D A [(aI cI (md 16) 12 fo), (aI cI (md 19) 40 pk), (aI cI (md 20) 40 pf), (aI cI (md 21) 40 po), (aI cI (md 22) 40 pd), (aI cI (md 23) 40 pe), (aI cI (md 26) 40 gk), (aI cI (md 27) 40 gs), (aI cI (md 28) 40 gd), (aI cI (md 29) 40 ge), (moC md sd mth mst hn cn pn mq gn mln mnn ln mlt msz mcu mtk mfr mti mfa mfb an un lc td mtn_14), (aI cI (md 62) 16 mtr_15), (aI cI (md 17) 12 wo)] := hD
        obtain ⟨hw12r, hw12, hw12a, hw12b⟩ := hw12
        subst hw12r
        refine lv_aload_n hx hb dX11_sizeOf_49 rfl (lv_at hl 0 rfl) ?_
        refine lv_iload_n hx hb dX11_sizeOf_50 rfl (lv_at hl 1 rfl) ?_
        refine st_i1 (va_runV (C := RX11) (As := [.int k]) (rest := [.int (wo k.toNatClampNeg)]) ⟨hx, hb, hml, hown, hts⟩ (ct_X11_owes l D cI cY cJ cQ _ md sd mth mst hn cn pn mq gn mln mnn ln mlt msz mcu mtk mfr mti mfa mfb an un lc td mtn_14 gk gs gd ge k h8 h9) (cwV 1 hts gX11_sizeOf_X11_owes rfl rfl rfl ⟨rfl, cdX11_owes⟩ ⟨Nat.le_of_ble_eq_true rfl, Nat.le_of_ble_eq_true rfl⟩) (cPreV (hP.sub [10, 6, 7, 8, 9] rfl) hK (hD.sub [10, 6, 7, 8, 9] (by decide +kernel) rfl) hN (ci := 11) (q0 := 0) rfl rfl) rfl rfl hl.1 rfl (lv_room (Nat.le_of_ble_eq_true rfl)) dX11_sizeOf_51 ⟨Nat.le_of_ble_eq_true rfl, Nat.le_of_ble_eq_true rfl⟩) hP hD hS hA [10, 6, 7, 8, 9] rfl (fun _ => rfl) (fun r18 u16 H locs hw17 => ?_)
        clear hP hS
        intro hP hS
        replace hw17 : r18 = suV gk gs ge k td gn.toNatClampNeg := hw17
        subst hw17
        refine lv_isub hx hb dX11_sizeOf_54 ?_
        refine lv_topi (fun v19 ev19 => ?_)
        refine lv_istore_n (lv' := [(3, .int v19), (0, .ref (md 64)), (1, .int k), (2, .int w)]) hx hb dX11_sizeOf_55 rfl hl (by decide) rfl (fun ls hl => ?_)
        refine lv_iload_n hx hb dX11_sizeOf_56 rfl (lv_at hl 3 rfl) ?_
        refine lv_iconst (v := 2) hx hb dX11_sizeOf_57 (by decide) ?_
        refine lv_icmp_ne (tgt := 67) hx hb dX11_sizeOf_58 (by decide) (fun c20 => ?_) (fun c20 => ?_)
        · skip
          have f21 := i_ne c20
          refine lv_iload_n hx hb dX11_sizeOf_67 rfl (lv_at hl 0 rfl) ?_
          have hP9 := hP.sub (ws' := [(moC md sd mth mst hn cn pn mq gn mln mnn ln mlt msz mcu mtk mfr mti mfa mfb an un lc td mtn_14), (aI cI (md 62) 16 mtr_15), (aI cI (md 16) 12 fo), (aI cI (md 17) 12 wo), (aI cI (md 19) 40 pk), (aI cI (md 20) 40 pf), (aI cI (md 21) 40 po), (aI cI (md 22) 40 pd), (aI cI (md 23) 40 pe), (aI cI (md 26) 40 gk), (aI cI (md 27) 40 gs), (aI cI (md 28) 40 gd), (aI cI (md 29) 40 ge)]) [10, 11, 0, 12, 1, 2, 3, 4, 5, 6, 7, 8, 9] rfl
          have hD9 := hD.sub (ws' := [(moC md sd mth mst hn cn pn mq gn mln mnn ln mlt msz mcu mtk mfr mti mfa mfb an un lc td mtn_14), (aI cI (md 62) 16 mtr_15), (aI cI (md 16) 12 fo), (aI cI (md 17) 12 wo), (aI cI (md 19) 40 pk), (aI cI (md 20) 40 pf), (aI cI (md 21) 40 po), (aI cI (md 22) 40 pd), (aI cI (md 23) 40 pe), (aI cI (md 26) 40 gk), (aI cI (md 27) 40 gs), (aI cI (md 28) 40 gd), (aI cI (md 29) 40 ge)]) [10, 11, 0, 12, 1, 2, 3, 4, 5, 6, 7, 8, 9] (by decide +kernel) rfl
          exact W.iret (v := v19) hx hb hr (fun t ht hW => ⟨⟨v19, (mtn_14, mtr_15, mq), rfl, (by show (v19, mtn_14, mtr_15) = szM w (wo k.toNatClampNeg) (suV gk gs ge k td gn.toNatClampNeg) (ooV pk pf po pd pe pn.toNatClampNeg k td td 41 0 (fo k.toNatClampNeg) (fo k.toNatClampNeg) 0).1 (mtn, mtr) ∧ 0 ≤ mtn_14.toInt ∧ mtn_14.toInt ≤ 16; exact ⟨(by unfold szM; rw [if_neg (by omega), ← g5, ← g9, ← hw12]; first | (rw [if_pos (by omega), ev19, ev19]) | (rw [if_neg (by omega), ev19])), by omega, by omega⟩), by rw [ht]; exact hP9, va_K.moved hW.alike hK, hD9⟩, hS.F ht⟩) hS.2.2 dX11_sizeOf_68
        · skip
          have f22 := i_eq c20
          refine lv_iload_n hx hb dX11_sizeOf_61 rfl (lv_at hl 0 rfl) ?_
          refine lv_iconst (v := 2) hx hb dX11_sizeOf_62 (by decide) ?_
          refine lv_idiv hx hb dX11_sizeOf_63 (by decide) ?_
          refine lv_topi (fun v23 ev23 => ?_)
          refine lv_goto (tgt := 68) hx hb dX11_sizeOf_64 (by decide) ?_
          have hP9 := hP.sub (ws' := [(moC md sd mth mst hn cn pn mq gn mln mnn ln mlt msz mcu mtk mfr mti mfa mfb an un lc td mtn_14), (aI cI (md 62) 16 mtr_15), (aI cI (md 16) 12 fo), (aI cI (md 17) 12 wo), (aI cI (md 19) 40 pk), (aI cI (md 20) 40 pf), (aI cI (md 21) 40 po), (aI cI (md 22) 40 pd), (aI cI (md 23) 40 pe), (aI cI (md 26) 40 gk), (aI cI (md 27) 40 gs), (aI cI (md 28) 40 gd), (aI cI (md 29) 40 ge)]) [10, 11, 0, 12, 1, 2, 3, 4, 5, 6, 7, 8, 9] rfl
          have hD9 := hD.sub (ws' := [(moC md sd mth mst hn cn pn mq gn mln mnn ln mlt msz mcu mtk mfr mti mfa mfb an un lc td mtn_14), (aI cI (md 62) 16 mtr_15), (aI cI (md 16) 12 fo), (aI cI (md 17) 12 wo), (aI cI (md 19) 40 pk), (aI cI (md 20) 40 pf), (aI cI (md 21) 40 po), (aI cI (md 22) 40 pd), (aI cI (md 23) 40 pe), (aI cI (md 26) 40 gk), (aI cI (md 27) 40 gs), (aI cI (md 28) 40 gd), (aI cI (md 29) 40 ge)]) [10, 11, 0, 12, 1, 2, 3, 4, 5, 6, 7, 8, 9] (by decide +kernel) rfl
          exact W.iret (v := v23) hx hb hr (fun t ht hW => ⟨⟨v23, (mtn_14, mtr_15, mq), rfl, (by show (v23, mtn_14, mtr_15) = szM w (wo k.toNatClampNeg) (suV gk gs ge k td gn.toNatClampNeg) (ooV pk pf po pd pe pn.toNatClampNeg k td td 41 0 (fo k.toNatClampNeg) (fo k.toNatClampNeg) 0).1 (mtn, mtr) ∧ 0 ≤ mtn_14.toInt ∧ mtn_14.toInt ≤ 16; exact ⟨(by unfold szM; rw [if_neg (by omega), ← g5, ← g9, ← hw12]; first | (rw [if_pos (by omega), ev23, ev19]) | (rw [if_neg (by omega), ev19])), by omega, by omega⟩), by rw [ht]; exact hP9, va_K.moved hW.alike hK, hD9⟩, hS.F ht⟩) hS.2.2 dX11_sizeOf_68
      · intro hj10
        refine lv_iload_n hx hb dX11_sizeOf_30 rfl (lv_at hl 2 rfl) ?_
        refine lv_iconst (v := 1) hx hb dX11_sizeOf_31 (by decide) ?_
        refine st_i1 (va_runS (As := [.int w, .int 1]) (rest := []) ⟨hx, hb, hml, hown, hts⟩ (ct_X11_isOf l D cI cY cJ cQ _ w (1 : Int32)) (va_cwS 2 hts gX11_sizeOf_X11_isOf rfl rfl rfl cdX11_isOf ⟨Nat.le_of_ble_eq_true rfl, Nat.le_of_ble_eq_true rfl⟩) (cPreS (hP.sub [] rfl) hK (hD.sub [] (by decide +kernel) rfl) hN) rfl rfl hl.1 rfl (lv_room (Nat.le_of_ble_eq_true rfl)) dX11_sizeOf_32 ⟨Nat.le_of_ble_eq_true rfl, Nat.le_of_ble_eq_true rfl⟩) hP hD hS hA [] rfl (fun _ => rfl) (fun r26 u24 H locs hw25 => ?_)
        clear hP hS
        intro hP hS
        replace hw25 : r26 = if (1 : Int32).toInt = 0 ∨ (1 : Int32).toInt = w.toInt ∨ ((1 : Int32).toInt = 1 ∧ w.toInt = 2) then 1 else 0 := hw25
        refine lv_if_eq (tgt := 44) hx hb dX11_sizeOf_35 (by decide) (fun c27 => ?_) (fun c27 => ?_)
        · skip
          have f28 := bo_f hw25 c27
          exact hj10 (ja5_, jt5_) ls _ _ ⟨(by omega), (by omega), (by first | exact cnL_t (by omega) (by assumption) | exact cnL_f (by omega)), lv_sub hl [0, 1, 2] rfl, hP.sub [0, 1, 2, 3, 4, 5, 6, 7, 8, 9, 10, 11, 12] rfl, hD.sub [0, 1, 2, 3, 4, 5, 6, 7, 8, 9, 10, 11, 12] (by decide +kernel) rfl, hS⟩
        · skip
          have f29 := bo_t hw25 c27
          refine lv_aload_n hx hb dX11_sizeOf_38 rfl (lv_at hl 0 rfl) ?_
          refine lv_bipush (v := 11) hx hb dX11_sizeOf_39 (by decide) ?_
          refine st_v (wr := [(aI cI (md 16) 12 fo), (aI cI (md 17) 12 wo), (aI cI (md 19) 40 pk), (aI cI (md 20) 40 pf), (aI cI (md 21) 40 po), (aI cI (md 22) 40 pd), (aI cI (md 23) 40 pe), (aI cI (md 26) 40 gk), (aI cI (md 27) 40 gs), (aI cI (md 28) 40 gd), (aI cI (md 29) 40 ge)]) (va_runV (C := RX11) (As := [.int 11]) (rest := []) ⟨hx, hb, hml, hown, hts⟩ (ct_X11_began l D cI cY cJ cQ _ md sd mth mst hn cn pn mq gn mln mnn ln mlt msz mcu mtk mfr mti mfa mfb an un lc td jt5_ ja5_ (11 : Int32) (by omega) (by omega)) (cwV 1 hts gX11_sizeOf_X11_began rfl rfl rfl ⟨rfl, cdX11_began⟩ ⟨Nat.le_of_ble_eq_true rfl, Nat.le_of_ble_eq_true rfl⟩) (cPreV (hP.sub [0, 1] rfl) hK (hD.sub [0, 1] (by decide +kernel) rfl) hN (ci := 11) (q0 := 0) rfl rfl) rfl rfl hl.1 rfl (lv_room (Nat.le_of_ble_eq_true rfl)) dX11_sizeOf_41 ⟨Nat.le_of_ble_eq_true rfl, Nat.le_of_ble_eq_true rfl⟩) hP hD hS hA [0, 1] [2, 3, 4, 5, 6, 7, 8, 9, 10, 11, 12] rfl rfl (by decide +kernel) (by decide +kernel) (fun u30 H locs hw31 => ?_)
          clear hP hD hS
          intro hP hD hS
          obtain ⟨mtn_33, mtr_34⟩ := u30
          replace hw31 : (mtn_33, mtr_34) = lvT (jt5_, ja5_) (11 : Int32) ∧ 0 ≤ mtn_33.toInt ∧ mtn_33.toInt ≤ 16 := hw31
          replace hP : va_P D vwCl [(aI cI (md 16) 12 fo), (aI cI (md 17) 12 wo), (aI cI (md 19) 40 pk), (aI cI (md 20) 40 pf), (aI cI (md 21) 40 po), (aI cI (md 22) 40 pd), (aI cI (md 23) 40 pe), (aI cI (md 26) 40 gk), (aI cI (md 27) 40 gs), (aI cI (md 28) 40 gd), (aI cI (md 29) 40 ge), (moC md sd mth mst hn cn pn mq gn mln mnn ln mlt msz mcu mtk mfr mti mfa mfb an un lc td mtn_33), (aI cI (md 62) 16 mtr_34)] H := hP
          replace hD : va_D A [(aI cI (md 16) 12 fo), (aI cI (md 17) 12 wo), (aI cI (md 19) 40 pk), (aI cI (md 20) 40 pf), (aI cI (md 21) 40 po), (aI cI (md 22) 40 pd), (aI cI (md 23) 40 pe), (aI cI (md 26) 40 gk), (aI cI (md 27) 40 gs), (aI cI (md 28) 40 gd), (aI cI (md 29) 40 ge), (moC md sd mth mst hn cn pn mq gn mln mnn ln mlt msz mcu mtk mfr mti mfa mfb an un lc td mtn_33), (aI cI (md 62) 16 mtr_34)] := hD
          obtain ⟨hw31, hw31a, hw31b⟩ := hw31
          exact hj10 (mtr_34, mtn_33) ls _ _ ⟨(by omega), (by omega), (by first | exact cnL_t (by omega) (by assumption) | exact cnL_f (by omega)), lv_sub hl [0, 1, 2] rfl, hP.sub [11, 12, 0, 1, 2, 3, 4, 5, 6, 7, 8, 9, 10] rfl, hD.sub [11, 12, 0, 1, 2, 3, 4, 5, 6, 7, 8, 9, 10] (by decide +kernel) rfl, hS⟩
    · intro hj6
      refine lv_iload_n hx hb dX11_sizeOf_19 rfl (lv_at hl 2 rfl) ?_
      refine lv_iconst (v := 2) hx hb dX11_sizeOf_20 (by decide) ?_
      refine lv_icmp_ne (tgt := 30) hx hb dX11_sizeOf_21 (by decide) (fun c35 => ?_) (fun c35 => ?_)
      · skip
        have f36 := i_ne c35
        exact hj6 (mtr, mtn) ls _ _ ⟨(by omega), (by omega), (by first | exact cnL_t (by omega) (by assumption) | exact cnL_f (by omega)), lv_sub hl [0, 1, 2] rfl, hP.sub [0, 1, 2, 3, 4, 5, 6, 7, 8, 9, 10, 11, 12] rfl, hD.sub [0, 1, 2, 3, 4, 5, 6, 7, 8, 9, 10, 11, 12] (by decide +kernel) rfl, hS⟩
      · skip
        have f37 := i_eq c35
        refine lv_aload_n hx hb dX11_sizeOf_24 rfl (lv_at hl 0 rfl) ?_
        refine lv_bipush (v := 12) hx hb dX11_sizeOf_25 (by decide) ?_
        refine st_v (wr := [(aI cI (md 16) 12 fo), (aI cI (md 17) 12 wo), (aI cI (md 19) 40 pk), (aI cI (md 20) 40 pf), (aI cI (md 21) 40 po), (aI cI (md 22) 40 pd), (aI cI (md 23) 40 pe), (aI cI (md 26) 40 gk), (aI cI (md 27) 40 gs), (aI cI (md 28) 40 gd), (aI cI (md 29) 40 ge)]) (va_runV (C := RX11) (As := [.int 12]) (rest := []) ⟨hx, hb, hml, hown, hts⟩ (ct_X11_began l D cI cY cJ cQ _ md sd mth mst hn cn pn mq gn mln mnn ln mlt msz mcu mtk mfr mti mfa mfb an un lc td mtn mtr (12 : Int32) h4 h5) (cwV 1 hts gX11_sizeOf_X11_began rfl rfl rfl ⟨rfl, cdX11_began⟩ ⟨Nat.le_of_ble_eq_true rfl, Nat.le_of_ble_eq_true rfl⟩) (cPreV (hP.sub [0, 1] rfl) hK (hD.sub [0, 1] (by decide +kernel) rfl) hN (ci := 11) (q0 := 0) rfl rfl) rfl rfl hl.1 rfl (lv_room (Nat.le_of_ble_eq_true rfl)) dX11_sizeOf_27 ⟨Nat.le_of_ble_eq_true rfl, Nat.le_of_ble_eq_true rfl⟩) hP hD hS hA [0, 1] [2, 3, 4, 5, 6, 7, 8, 9, 10, 11, 12] rfl rfl (by decide +kernel) (by decide +kernel) (fun u38 H locs hw39 => ?_)
        clear hP hD hS
        intro hP hD hS
        obtain ⟨mtn_41, mtr_42⟩ := u38
        replace hw39 : (mtn_41, mtr_42) = lvT (mtn, mtr) (12 : Int32) ∧ 0 ≤ mtn_41.toInt ∧ mtn_41.toInt ≤ 16 := hw39
        replace hP : va_P D vwCl [(aI cI (md 16) 12 fo), (aI cI (md 17) 12 wo), (aI cI (md 19) 40 pk), (aI cI (md 20) 40 pf), (aI cI (md 21) 40 po), (aI cI (md 22) 40 pd), (aI cI (md 23) 40 pe), (aI cI (md 26) 40 gk), (aI cI (md 27) 40 gs), (aI cI (md 28) 40 gd), (aI cI (md 29) 40 ge), (moC md sd mth mst hn cn pn mq gn mln mnn ln mlt msz mcu mtk mfr mti mfa mfb an un lc td mtn_41), (aI cI (md 62) 16 mtr_42)] H := hP
        replace hD : va_D A [(aI cI (md 16) 12 fo), (aI cI (md 17) 12 wo), (aI cI (md 19) 40 pk), (aI cI (md 20) 40 pf), (aI cI (md 21) 40 po), (aI cI (md 22) 40 pd), (aI cI (md 23) 40 pe), (aI cI (md 26) 40 gk), (aI cI (md 27) 40 gs), (aI cI (md 28) 40 gd), (aI cI (md 29) 40 ge), (moC md sd mth mst hn cn pn mq gn mln mnn ln mlt msz mcu mtk mfr mti mfa mfb an un lc td mtn_41), (aI cI (md 62) 16 mtr_42)] := hD
        obtain ⟨hw39, hw39a, hw39b⟩ := hw39
        exact hj6 (mtr_42, mtn_41) ls _ _ ⟨(by omega), (by omega), (by first | exact cnL_t (by omega) (by assumption) | exact cnL_f (by omega)), lv_sub hl [0, 1, 2] rfl, hP.sub [11, 12, 0, 1, 2, 3, 4, 5, 6, 7, 8, 9, 10] rfl, hD.sub [11, 12, 0, 1, 2, 3, 4, 5, 6, 7, 8, 9, 10] (by decide +kernel) rfl, hS⟩
  · skip
    have f43 := i_eq c1
    refine lv_aload_n hx hb dX11_sizeOf_5 rfl (lv_at hl 0 rfl) ?_
    refine lv_bipush (v := 13) hx hb dX11_sizeOf_6 (by decide) ?_
    refine st_v (wr := [(aI cI (md 16) 12 fo), (aI cI (md 17) 12 wo), (aI cI (md 19) 40 pk), (aI cI (md 20) 40 pf), (aI cI (md 21) 40 po), (aI cI (md 22) 40 pd), (aI cI (md 23) 40 pe), (aI cI (md 26) 40 gk), (aI cI (md 27) 40 gs), (aI cI (md 28) 40 gd), (aI cI (md 29) 40 ge)]) (va_runV (C := RX11) (As := [.int 13]) (rest := []) ⟨hx, hb, hml, hown, hts⟩ (ct_X11_began l D cI cY cJ cQ _ md sd mth mst hn cn pn mq gn mln mnn ln mlt msz mcu mtk mfr mti mfa mfb an un lc td mtn mtr (13 : Int32) h4 h5) (cwV 1 hts gX11_sizeOf_X11_began rfl rfl rfl ⟨rfl, cdX11_began⟩ ⟨Nat.le_of_ble_eq_true rfl, Nat.le_of_ble_eq_true rfl⟩) (cPreV (hP.sub [0, 1] rfl) hK (hD.sub [0, 1] (by decide +kernel) rfl) hN (ci := 11) (q0 := 0) rfl rfl) rfl rfl hl.1 rfl (lv_room (Nat.le_of_ble_eq_true rfl)) dX11_sizeOf_8 ⟨Nat.le_of_ble_eq_true rfl, Nat.le_of_ble_eq_true rfl⟩) hP hD hS hA [0, 1] [2, 3, 4, 5, 6, 7, 8, 9, 10, 11, 12] rfl rfl (by decide +kernel) (by decide +kernel) (fun u44 H locs hw45 => ?_)
    clear hP hD hS
    intro hP hD hS
    obtain ⟨mtn_47, mtr_48⟩ := u44
    replace hw45 : (mtn_47, mtr_48) = lvT (mtn, mtr) (13 : Int32) ∧ 0 ≤ mtn_47.toInt ∧ mtn_47.toInt ≤ 16 := hw45
    replace hP : va_P D vwCl [(aI cI (md 16) 12 fo), (aI cI (md 17) 12 wo), (aI cI (md 19) 40 pk), (aI cI (md 20) 40 pf), (aI cI (md 21) 40 po), (aI cI (md 22) 40 pd), (aI cI (md 23) 40 pe), (aI cI (md 26) 40 gk), (aI cI (md 27) 40 gs), (aI cI (md 28) 40 gd), (aI cI (md 29) 40 ge), (moC md sd mth mst hn cn pn mq gn mln mnn ln mlt msz mcu mtk mfr mti mfa mfb an un lc td mtn_47), (aI cI (md 62) 16 mtr_48)] H := hP
    replace hD : va_D A [(aI cI (md 16) 12 fo), (aI cI (md 17) 12 wo), (aI cI (md 19) 40 pk), (aI cI (md 20) 40 pf), (aI cI (md 21) 40 po), (aI cI (md 22) 40 pd), (aI cI (md 23) 40 pe), (aI cI (md 26) 40 gk), (aI cI (md 27) 40 gs), (aI cI (md 28) 40 gd), (aI cI (md 29) 40 ge), (moC md sd mth mst hn cn pn mq gn mln mnn ln mlt msz mcu mtk mfr mti mfa mfb an un lc td mtn_47), (aI cI (md 62) 16 mtr_48)] := hD
    obtain ⟨hw45, hw45a, hw45b⟩ := hw45
    refine lv_aload_n hx hb dX11_sizeOf_11 rfl (lv_at hl 0 rfl) ?_
    refine lv_iload_n hx hb dX11_sizeOf_12 rfl (lv_at hl 1 rfl) ?_
    refine lv_iload_n hx hb dX11_sizeOf_13 rfl (lv_at hl 2 rfl) ?_
    refine st_i (wr := [(aI cI (md 26) 40 gk), (aI cI (md 27) 40 gs), (aI cI (md 28) 40 gd), (aI cI (md 29) 40 ge)]) (va_runV (C := RX11) (As := [.int k, .int w]) (rest := []) ⟨hx, hb, hml, hown, hts⟩ (ct_X11_markOf l D cI cY cJ cQ _ md sd mth mst hn cn pn mq gn mln mnn ln mlt msz mcu mtk mfr mti mfa mfb an un lc td mtn_47 mtr_48 fo wo pk pf po pd pe k w h1 h2 h3 (by omega) (by omega) h6 h7) (cwV 2 hts gX11_sizeOf_X11_markOf rfl rfl rfl ⟨rfl, cdX11_markOf⟩ ⟨Nat.le_of_ble_eq_true rfl, Nat.le_of_ble_eq_true rfl⟩) (cPreV (hP.sub [11, 12, 0, 1, 2, 3, 4, 5, 6] rfl) hK (hD.sub [11, 12, 0, 1, 2, 3, 4, 5, 6] (by decide +kernel) rfl) hN (ci := 11) (q0 := 0) rfl rfl) rfl rfl hl.1 rfl (lv_room (Nat.le_of_ble_eq_true rfl)) dX11_sizeOf_14 ⟨Nat.le_of_ble_eq_true rfl, Nat.le_of_ble_eq_true rfl⟩) hP hD hS hA [11, 12, 0, 1, 2, 3, 4, 5, 6] [7, 8, 9, 10] rfl rfl (by decide +kernel) (by decide +kernel) (fun r51 u49 H locs hw50 => ?_)
    clear hP hD hS
    intro hP hD hS
    obtain ⟨mtn_52, mtr_53, mq_54⟩ := u49
    replace hw50 : (r51, mtn_52, mtr_53) = mkM w (wo k.toNatClampNeg) (ooV pk pf po pd pe pn.toNatClampNeg k td td 41 0 (fo k.toNatClampNeg) (fo k.toNatClampNeg) 0).1 (mtn_47, mtr_48) ∧ 0 ≤ mtn_52.toInt ∧ mtn_52.toInt ≤ 16 := hw50
    replace hP : va_P D vwCl [(aI cI (md 26) 40 gk), (aI cI (md 27) 40 gs), (aI cI (md 28) 40 gd), (aI cI (md 29) 40 ge), (moC md sd mth mst hn cn pn mq_54 gn mln mnn ln mlt msz mcu mtk mfr mti mfa mfb an un lc td mtn_52), (aI cI (md 62) 16 mtr_53), (aI cI (md 16) 12 fo), (aI cI (md 17) 12 wo), (aI cI (md 19) 40 pk), (aI cI (md 20) 40 pf), (aI cI (md 21) 40 po), (aI cI (md 22) 40 pd), (aI cI (md 23) 40 pe)] H := hP
    replace hD : va_D A [(aI cI (md 26) 40 gk), (aI cI (md 27) 40 gs), (aI cI (md 28) 40 gd), (aI cI (md 29) 40 ge), (moC md sd mth mst hn cn pn mq_54 gn mln mnn ln mlt msz mcu mtk mfr mti mfa mfb an un lc td mtn_52), (aI cI (md 62) 16 mtr_53), (aI cI (md 16) 12 fo), (aI cI (md 17) 12 wo), (aI cI (md 19) 40 pk), (aI cI (md 20) 40 pf), (aI cI (md 21) 40 po), (aI cI (md 22) 40 pd), (aI cI (md 23) 40 pe)] := hD
    obtain ⟨hw50, hw50a, hw50b⟩ := hw50
    refine lv_ineg hx hb dX11_sizeOf_17 ?_
    refine lv_topi (fun v55 ev55 => ?_)
    have hP9 := hP.sub (ws' := [(moC md sd mth mst hn cn pn mq_54 gn mln mnn ln mlt msz mcu mtk mfr mti mfa mfb an un lc td mtn_52), (aI cI (md 62) 16 mtr_53), (aI cI (md 16) 12 fo), (aI cI (md 17) 12 wo), (aI cI (md 19) 40 pk), (aI cI (md 20) 40 pf), (aI cI (md 21) 40 po), (aI cI (md 22) 40 pd), (aI cI (md 23) 40 pe), (aI cI (md 26) 40 gk), (aI cI (md 27) 40 gs), (aI cI (md 28) 40 gd), (aI cI (md 29) 40 ge)]) [4, 5, 6, 7, 8, 9, 10, 11, 12, 0, 1, 2, 3] rfl
    have hD9 := hD.sub (ws' := [(moC md sd mth mst hn cn pn mq_54 gn mln mnn ln mlt msz mcu mtk mfr mti mfa mfb an un lc td mtn_52), (aI cI (md 62) 16 mtr_53), (aI cI (md 16) 12 fo), (aI cI (md 17) 12 wo), (aI cI (md 19) 40 pk), (aI cI (md 20) 40 pf), (aI cI (md 21) 40 po), (aI cI (md 22) 40 pd), (aI cI (md 23) 40 pe), (aI cI (md 26) 40 gk), (aI cI (md 27) 40 gs), (aI cI (md 28) 40 gd), (aI cI (md 29) 40 ge)]) [4, 5, 6, 7, 8, 9, 10, 11, 12, 0, 1, 2, 3] (by decide +kernel) rfl
    exact W.iret (v := v55) hx hb hr (fun t ht hW => ⟨⟨v55, (mtn_52, mtr_53, mq_54), rfl, (by show (v55, mtn_52, mtr_53) = szM w (wo k.toNatClampNeg) (suV gk gs ge k td gn.toNatClampNeg) (ooV pk pf po pd pe pn.toNatClampNeg k td td 41 0 (fo k.toNatClampNeg) (fo k.toNatClampNeg) 0).1 (mtn, mtr) ∧ 0 ≤ mtn_52.toInt ∧ mtn_52.toInt ≤ 16; exact ⟨(by unfold szM; rw [if_pos (by omega), ← hw45, ← hw50, ev55]), by omega, by omega⟩), by rw [ht]; exact hP9, va_K.moved hW.alike hK, hD9⟩, hS.F ht⟩) hS.2.2 dX11_sizeOf_18

def sm_ask (tn : Int32) (tr : Nat → Int32) (cn pn hn lc gn td : Int32) (fo wo pk pf po pd pe ho hc hp hs lp la lb gk gs ge : Nat → Int32) (k w : Int32) : Int32 × Int32 × (Nat → Int32) := if 0 ≤ k.toInt ∧ k.toInt < cn.toInt ∧ 0 ≤ w.toInt ∧ w.toInt < 2 then (if w.toInt = 0 then szM (km_day pn hn lc gn td fo wo pk pf po pd pe ho hc hp hs lp la lb gk gs ge k) (wo k.toNatClampNeg) (suV gk gs ge k td gn.toNatClampNeg) (ooV pk pf po pd pe pn.toNatClampNeg k td td 41 0 (fo k.toNatClampNeg) (fo k.toNatClampNeg) 0).1 (0, tr) else mkM (km_day pn hn lc gn td fo wo pk pf po pd pe ho hc hp hs lp la lb gk gs ge k) (wo k.toNatClampNeg) (ooV pk pf po pd pe pn.toNatClampNeg k td td 41 0 (fo k.toNatClampNeg) (fo k.toNatClampNeg) 0).1 (0, tr)) else (-1000001, tn, tr)

set_option maxHeartbeats 4000000 in
set_option maxRecDepth 100000 in
theorem ct_X11_ask (l : Launch) (D : va_G) (cI cY cJ cQ : ClassId) (sz : Nat) (md : Nat → Nat) (sd : Int32) (mth mst hn cn pn mq gn mln mnn ln mlt msz mcu mtk mfr mti mfa mfb an un lc td mtn : Int32) (fo pk pf po pd pe lp la lb ho hc hp hs mh mp mt wo gk gs gd ge mtr : Nat → Int32) (mf : Nat → Int64) (k : Int32) (w : Int32)  (h1 : 0 ≤ cn.toInt) (h2 : cn.toInt ≤ 12) (h3 : 0 ≤ pn.toInt) (h4 : pn.toInt ≤ 40) (h5 : 0 ≤ lc.toInt) (h6 : lc.toInt ≤ 20) (h7 : 0 ≤ hn.toInt) (h8 : hn.toInt ≤ 40) (h9 : okV hn hp) (h10 : okF cn fo) (h11 : okG pn po) (h12 : 0 ≤ gn.toInt) (h13 : gn.toInt ≤ 40) (h14 : 0 ≤ mtn.toInt) (h15 : mtn.toInt ≤ 16)  : Met l yX11_ask wsX11_ask ({ frames := 5, cells := 0, slots := 0, locals := 120 }) (cPre D (ty4 cI cY cJ cQ) [(moC md sd mth mst hn cn pn mq gn mln mnn ln mlt msz mcu mtk mfr mti mfa mfb an un lc td mtn), (aI cI (md 16) 12 fo), (aI cI (md 19) 40 pk), (aI cI (md 20) 40 pf), (aI cI (md 21) 40 po), (aI cI (md 22) 40 pd), (aI cI (md 23) 40 pe), (aI cI (md 58) 20 lp), (aI cI (md 59) 20 la), (aI cI (md 60) 20 lb), (aI cI (md 7) 40 ho), (aI cI (md 8) 40 hc), (aI cI (md 9) 40 hp), (aI cI (md 10) 40 hs), (aI cI (md 11) 200 mh), (aI cI (md 12) 12 mp), (aI cI (md 13) 12 mt), (aJ cJ (md 14) 12 mf), (aI cI (md 17) 12 wo), (aI cI (md 26) 40 gk), (aI cI (md 27) 40 gs), (aI cI (md 28) 40 gd), (aI cI (md 29) 40 ge), (aI cI (md 62) 16 mtr)] sz [.ref (md 64), .int k, .int w]) (va_Qi (fun (r : Int32) (u : Int32 × (Nat → Int32) × Int32 × (Nat → Int32) × (Nat → Int32) × (Nat → Int32) × (Nat → Int64)) => (r, u.1, u.2.1) = sm_ask mtn mtr cn pn hn lc gn td fo wo pk pf po pd pe ho hc hp hs lp la lb gk gs ge k w ∧ 0 ≤ u.1.toInt ∧ u.1.toInt ≤ 16) (cB D (ty4 cI cY cJ cQ) (fun (u : Int32 × (Nat → Int32) × Int32 × (Nat → Int32) × (Nat → Int32) × (Nat → Int32) × (Nat → Int64)) => [(moC md sd 0 mst hn cn pn u.2.2.1 gn mln mnn ln mlt msz mcu mtk mfr mti mfa mfb an un lc td u.1), (aI cI (md 16) 12 fo), (aI cI (md 19) 40 pk), (aI cI (md 20) 40 pf), (aI cI (md 21) 40 po), (aI cI (md 22) 40 pd), (aI cI (md 23) 40 pe), (aI cI (md 58) 20 lp), (aI cI (md 59) 20 la), (aI cI (md 60) 20 lb), (aI cI (md 7) 40 ho), (aI cI (md 8) 40 hc), (aI cI (md 9) 40 hp), (aI cI (md 10) 40 hs), (aI cI (md 11) 200 u.2.2.2.1), (aI cI (md 12) 12 u.2.2.2.2.1), (aI cI (md 13) 12 u.2.2.2.2.2.1), (aJ cJ (md 14) 12 u.2.2.2.2.2.2), (aI cI (md 17) 12 wo), (aI cI (md 26) 40 gk), (aI cI (md 27) 40 gs), (aI cI (md 28) 40 gd), (aI cI (md 29) 40 ge), (aI cI (md 62) 16 u.2.1)]) (va_A [(moC md sd mth mst hn cn pn mq gn mln mnn ln mlt msz mcu mtk mfr mti mfa mfb an un lc td mtn), (aI cI (md 16) 12 fo), (aI cI (md 19) 40 pk), (aI cI (md 20) 40 pf), (aI cI (md 21) 40 po), (aI cI (md 22) 40 pd), (aI cI (md 23) 40 pe), (aI cI (md 58) 20 lp), (aI cI (md 59) 20 la), (aI cI (md 60) 20 lb), (aI cI (md 7) 40 ho), (aI cI (md 8) 40 hc), (aI cI (md 9) 40 hp), (aI cI (md 10) 40 hs), (aI cI (md 11) 200 mh), (aI cI (md 12) 12 mp), (aI cI (md 13) 12 mt), (aJ cJ (md 14) 12 mf), (aI cI (md 17) 12 wo), (aI cI (md 26) 40 gk), (aI cI (md 27) 40 gs), (aI cI (md 28) 40 gd), (aI cI (md 29) 40 ge), (aI cI (md 62) 16 mtr)] sz)) (va_A [(moC md sd mth mst hn cn pn mq gn mln mnn ln mlt msz mcu mtk mfr mti mfa mfb an un lc td mtn), (aI cI (md 16) 12 fo), (aI cI (md 19) 40 pk), (aI cI (md 20) 40 pf), (aI cI (md 21) 40 po), (aI cI (md 22) 40 pd), (aI cI (md 23) 40 pe), (aI cI (md 58) 20 lp), (aI cI (md 59) 20 la), (aI cI (md 60) 20 lb), (aI cI (md 7) 40 ho), (aI cI (md 8) 40 hc), (aI cI (md 9) 40 hp), (aI cI (md 10) 40 hs), (aI cI (md 11) 200 mh), (aI cI (md 12) 12 mp), (aI cI (md 13) 12 mt), (aJ cJ (md 14) 12 mf), (aI cI (md 17) 12 wo), (aI cI (md 26) 40 gk), (aI cI (md 27) 40 gs), (aI cI (md 28) 40 gd), (aI cI (md 29) 40 ge), (aI cI (md 62) 16 mtr)] sz)) 0 0 (va_A [(moC md sd mth mst hn cn pn mq gn mln mnn ln mlt msz mcu mtk mfr mti mfa mfb an un lc td mtn), (aI cI (md 16) 12 fo), (aI cI (md 19) 40 pk), (aI cI (md 20) 40 pf), (aI cI (md 21) 40 po), (aI cI (md 22) 40 pd), (aI cI (md 23) 40 pe), (aI cI (md 58) 20 lp), (aI cI (md 59) 20 la), (aI cI (md 60) 20 lb), (aI cI (md 7) 40 ho), (aI cI (md 8) 40 hc), (aI cI (md 9) 40 hp), (aI cI (md 10) 40 hs), (aI cI (md 11) 200 mh), (aI cI (md 12) 12 mp), (aI cI (md 13) 12 mt), (aJ cJ (md 14) 12 mf), (aI cI (md 17) 12 wo), (aI cI (md 26) 40 gk), (aI cI (md 27) 40 gs), (aI cI (md 28) 40 gd), (aI cI (md 29) 40 ge), (aI cI (md 62) 16 mtr)] sz) := by
  refine Met.ofW (cc := cX11_ask) (maxL := 3) (ret := (some .int)) (by decide) rfl ?_
  intro p e s m args below meth c s₁ B hml hv
  obtain ⟨rfl, hsz, hP, hK, hD0, hN⟩ := hv
  have hx := B.exec
  have hb := B.bytes
  have hr := B.returns
  have hts := atoms_spec (ws := wsX11_ask) B.pre
  have hown : s.vm.findClass RX11 = some m.cls := findClass_of_methodNamed B.named
  have hlocks := B.notSynchronized
  subst hsz
  have hD := hD0.self (sz := s.heap.size)
  generalize hAe : va_A [(moC md sd mth mst hn cn pn mq gn mln mnn ln mlt msz mcu mtk mfr mti mfa mfb an un lc td mtn), (aI cI (md 16) 12 fo), (aI cI (md 19) 40 pk), (aI cI (md 20) 40 pf), (aI cI (md 21) 40 po), (aI cI (md 22) 40 pd), (aI cI (md 23) 40 pe), (aI cI (md 58) 20 lp), (aI cI (md 59) 20 la), (aI cI (md 60) 20 lb), (aI cI (md 7) 40 ho), (aI cI (md 8) 40 hc), (aI cI (md 9) 40 hp), (aI cI (md 10) 40 hs), (aI cI (md 11) 200 mh), (aI cI (md 12) 12 mp), (aI cI (md 13) 12 mt), (aJ cJ (md 14) 12 mf), (aI cI (md 17) 12 wo), (aI cI (md 26) 40 gk), (aI cI (md 27) 40 gs), (aI cI (md 28) 40 gd), (aI cI (md 29) 40 ge), (aI cI (md 62) 16 mtr)] s.heap.size = A at hD ⊢
  have hA : ∀ q : Nat, s.heap.size ≤ q → A q := fun q h => by rw [← hAe]; exact Or.inr h
  have hS : va_S A s.heap s.heap [] := va_S.rf
  have hP : va_P D vwCl [(moC md sd mth mst hn cn pn mq gn mln mnn ln mlt msz mcu mtk mfr mti mfa mfb an un lc td mtn), (aI cI (md 16) 12 fo), (aI cI (md 19) 40 pk), (aI cI (md 20) 40 pf), (aI cI (md 21) 40 po), (aI cI (md 22) 40 pd), (aI cI (md 23) 40 pe), (aI cI (md 58) 20 lp), (aI cI (md 59) 20 la), (aI cI (md 60) 20 lb), (aI cI (md 7) 40 ho), (aI cI (md 8) 40 hc), (aI cI (md 9) 40 hp), (aI cI (md 10) 40 hs), (aI cI (md 11) 200 mh), (aI cI (md 12) 12 mp), (aI cI (md 13) 12 mt), (aJ cJ (md 14) 12 mf), (aI cI (md 17) 12 wo), (aI cI (md 26) 40 gk), (aI cI (md 27) 40 gs), (aI cI (md 28) 40 gd), (aI cI (md 29) 40 ge), (aI cI (md 62) 16 mtr)] s.heap := hP
  have hl := lv_entry ([.ref (md 64), .int k, .int w]) (n := 3) (Nat.le_of_ble_eq_true rfl)
  rw [lg_entry_eq]
  generalize (lg_sl ([.ref (md 64), .int k, .int w]) ++ List.replicate (3 - (lg_sl ([.ref (md 64), .int k, .int w])).length) Slot.unset).toArray = ls at hl ⊢
  have hl : lv_has ls 3 [(0, .ref (md 64)), (1, .int k), (2, .int w)] := hl
  have km1000001 : (-1000001 : Int32).toInt = -1000001 := by decide
  have k0 : (0 : Int32).toInt = 0 := by decide
  have kl0 : (0 : Int64).toInt = 0 := by decide
  have kl1 : (1 : Int64).toInt = 1 := by decide
  refine lv_aload_n hx hb dX11_ask_0 rfl (lv_at hl 0 rfl) ?_
  refine lv_iconst (v := 0) hx hb dX11_ask_1 (by decide) ?_
  refine va_put (D := D) (ci := 11) (v := .int 0) (ty := .int) (C := RX11) (T := TX11) (N := 64) hx hb hts inX11_ask_X11 tyX11 tyX11_ok nmX11 hown hK hP hD hS 0 rfl rfl 0 (by decide) (hts (Cond.fieldLink RX11 1 "PortRoomsModel" "thrown" "I") (wm_t (wm_l (wm_i 0 rfl)))) (fun _ h9 => h9) rfl (tyX11_ok 0 (by decide)) rfl rfl (Nat.le_of_ble_eq_true rfl) dX11_ask_2 (fun H locs => ?_)
  clear hP hD hS
  intro hP hD hS
  replace hP : va_P D vwCl [(moC md sd (0) mst hn cn pn mq gn mln mnn ln mlt msz mcu mtk mfr mti mfa mfb an un lc td mtn), (aI cI (md 16) 12 fo), (aI cI (md 19) 40 pk), (aI cI (md 20) 40 pf), (aI cI (md 21) 40 po), (aI cI (md 22) 40 pd), (aI cI (md 23) 40 pe), (aI cI (md 58) 20 lp), (aI cI (md 59) 20 la), (aI cI (md 60) 20 lb), (aI cI (md 7) 40 ho), (aI cI (md 8) 40 hc), (aI cI (md 9) 40 hp), (aI cI (md 10) 40 hs), (aI cI (md 11) 200 mh), (aI cI (md 12) 12 mp), (aI cI (md 13) 12 mt), (aJ cJ (md 14) 12 mf), (aI cI (md 17) 12 wo), (aI cI (md 26) 40 gk), (aI cI (md 27) 40 gs), (aI cI (md 28) 40 gd), (aI cI (md 29) 40 ge), (aI cI (md 62) 16 mtr)] H := hP
  replace hD : va_D A [(moC md sd (0) mst hn cn pn mq gn mln mnn ln mlt msz mcu mtk mfr mti mfa mfb an un lc td mtn), (aI cI (md 16) 12 fo), (aI cI (md 19) 40 pk), (aI cI (md 20) 40 pf), (aI cI (md 21) 40 po), (aI cI (md 22) 40 pd), (aI cI (md 23) 40 pe), (aI cI (md 58) 20 lp), (aI cI (md 59) 20 la), (aI cI (md 60) 20 lb), (aI cI (md 7) 40 ho), (aI cI (md 8) 40 hc), (aI cI (md 9) 40 hp), (aI cI (md 10) 40 hs), (aI cI (md 11) 200 mh), (aI cI (md 12) 12 mp), (aI cI (md 13) 12 mt), (aJ cJ (md 14) 12 mf), (aI cI (md 17) 12 wo), (aI cI (md 26) 40 gk), (aI cI (md 27) 40 gs), (aI cI (md 28) 40 gd), (aI cI (md 29) 40 ge), (aI cI (md 62) 16 mtr)] := hD
  refine lv_aload_n hx hb dX11_ask_5 rfl (lv_at hl 0 rfl) ?_
  refine lv_iload_n hx hb dX11_ask_6 rfl (lv_at hl 1 rfl) ?_
  refine st_i1 (va_runV (C := RX11) (As := [.int k]) (rest := []) ⟨hx, hb, hml, hown, hts⟩ (ct_X11_isCrate l D cI cY cJ cQ _ md sd 0 mst hn cn pn mq gn mln mnn ln mlt msz mcu mtk mfr mti mfa mfb an un lc td mtn k h1 h2) (cwV 1 hts gX11_ask_X11_isCrate rfl rfl rfl ⟨rfl, cdX11_isCrate⟩ ⟨Nat.le_of_ble_eq_true rfl, Nat.le_of_ble_eq_true rfl⟩) (cPreV (hP.sub [0] rfl) hK (hD.sub [0] (by decide +kernel) rfl) hN (ci := 11) (q0 := 0) rfl rfl) rfl rfl hl.1 rfl (lv_room (Nat.le_of_ble_eq_true rfl)) dX11_ask_7 ⟨Nat.le_of_ble_eq_true rfl, Nat.le_of_ble_eq_true rfl⟩) hP hD hS hA [0] rfl (fun _ => rfl) (fun r3 u1 H locs hw2 => ?_)
  clear hP hS
  intro hP hS
  replace hw2 : r3 = if 0 ≤ k.toInt ∧ k.toInt < cn.toInt then 1 else 0 := hw2
  refine lv_if_eq (tgt := 23) hx hb dX11_ask_10 (by decide) (fun c4 => ?_) (fun c4 => ?_)
  · skip
    have f5 := bo_f hw2 c4
    refine lv_ldc hx hb hown (hts (Cond.constant RX11 157 (-1000001)) (wm_t (wm_l (wm_i 1 rfl)))) dX11_ask_23 ?_
    have hP9 := hP
    have hD9 := hD
    exact W.iret (v := (-1000001)) hx hb hr (fun t ht hW => ⟨⟨(-1000001), (mtn, mtr, mq, mh, mp, mt, mf), rfl, (by show (((-1000001) : Int32), mtn, mtr) = sm_ask mtn mtr cn pn hn lc gn td fo wo pk pf po pd pe ho hc hp hs lp la lb gk gs ge k w ∧ 0 ≤ mtn.toInt ∧ mtn.toInt ≤ 16; exact ⟨(by unfold sm_ask; rw [if_neg (by omega)]), by omega, by omega⟩), by rw [ht]; exact hP9, va_K.moved hW.alike hK, hD9⟩, hS.F ht⟩) hS.2.2 dX11_ask_25
  · skip
    have f6 := bo_t hw2 c4
    refine lv_iload_n hx hb dX11_ask_13 rfl (lv_at hl 2 rfl) ?_
    refine lv_i2l hx hb dX11_ask_14 rfl ?_
    have w7 := i_w w
    have w8 := i_rng w
    refine lv_lconst (v := 0) hx hb dX11_ask_15 (by decide) ?_
    refine lv_lconst (v := 1) hx hb dX11_ask_16 (by decide) ?_
    refine st_i1 (va_runS (As := [.long (w.toInt64), .long 0, .long 1]) (rest := []) ⟨hx, hb, hml, hown, hts⟩ (ct_X11_in l D cI cY cJ cQ _ w.toInt64 (0 : Int64) (1 : Int64)) (va_cwS 3 hts gX11_ask_X11_in rfl rfl rfl cdX11_in ⟨Nat.le_of_ble_eq_true rfl, Nat.le_of_ble_eq_true rfl⟩) (cPreS (hP.sub [] rfl) hK (hD.sub [] (by decide +kernel) rfl) hN) rfl rfl hl.1 rfl (lv_room (Nat.le_of_ble_eq_true rfl)) dX11_ask_17 ⟨Nat.le_of_ble_eq_true rfl, Nat.le_of_ble_eq_true rfl⟩) hP hD hS hA [] rfl (fun _ => rfl) (fun r11 u9 H locs hw10 => ?_)
    clear hP hS
    intro hP hS
    replace hw10 : r11 = if (0 : Int64).toInt ≤ w.toInt64.toInt ∧ w.toInt64.toInt ≤ (1 : Int64).toInt then 1 else 0 := hw10
    refine lv_if_ne (tgt := 26) hx hb dX11_ask_20 (by decide) (fun c12 => ?_) (fun c12 => ?_)
    · skip
      have f13 := bo_t hw10 c12
      refine lv_aload_n hx hb dX11_ask_26 rfl (lv_at hl 0 rfl) ?_
      refine lv_iconst (v := 0) hx hb dX11_ask_27 (by decide) ?_
      refine va_put (D := D) (ci := 11) (v := .int 0) (ty := .int) (C := RX11) (T := TX11) (N := 64) hx hb hts inX11_ask_X11 tyX11 tyX11_ok nmX11 hown hK hP hD hS 0 rfl rfl 63 (by decide) (hts (Cond.fieldLink RX11 383 "PortRoomsModel" "traced" "I") (wm_t (wm_l (wm_i 2 rfl)))) (fun _ h9 => h9) rfl (tyX11_ok 63 (by decide)) rfl rfl (Nat.le_of_ble_eq_true rfl) dX11_ask_28 (fun H locs => ?_)
      clear hP hD hS
      intro hP hD hS
      replace hP : va_P D vwCl [(moC md sd (0) mst hn cn pn mq gn mln mnn ln mlt msz mcu mtk mfr mti mfa mfb an un lc td (0)), (aI cI (md 16) 12 fo), (aI cI (md 19) 40 pk), (aI cI (md 20) 40 pf), (aI cI (md 21) 40 po), (aI cI (md 22) 40 pd), (aI cI (md 23) 40 pe), (aI cI (md 58) 20 lp), (aI cI (md 59) 20 la), (aI cI (md 60) 20 lb), (aI cI (md 7) 40 ho), (aI cI (md 8) 40 hc), (aI cI (md 9) 40 hp), (aI cI (md 10) 40 hs), (aI cI (md 11) 200 mh), (aI cI (md 12) 12 mp), (aI cI (md 13) 12 mt), (aJ cJ (md 14) 12 mf), (aI cI (md 17) 12 wo), (aI cI (md 26) 40 gk), (aI cI (md 27) 40 gs), (aI cI (md 28) 40 gd), (aI cI (md 29) 40 ge), (aI cI (md 62) 16 mtr)] H := hP
      replace hD : va_D A [(moC md sd (0) mst hn cn pn mq gn mln mnn ln mlt msz mcu mtk mfr mti mfa mfb an un lc td (0)), (aI cI (md 16) 12 fo), (aI cI (md 19) 40 pk), (aI cI (md 20) 40 pf), (aI cI (md 21) 40 po), (aI cI (md 22) 40 pd), (aI cI (md 23) 40 pe), (aI cI (md 58) 20 lp), (aI cI (md 59) 20 la), (aI cI (md 60) 20 lb), (aI cI (md 7) 40 ho), (aI cI (md 8) 40 hc), (aI cI (md 9) 40 hp), (aI cI (md 10) 40 hs), (aI cI (md 11) 200 mh), (aI cI (md 12) 12 mp), (aI cI (md 13) 12 mt), (aJ cJ (md 14) 12 mf), (aI cI (md 17) 12 wo), (aI cI (md 26) 40 gk), (aI cI (md 27) 40 gs), (aI cI (md 28) 40 gd), (aI cI (md 29) 40 ge), (aI cI (md 62) 16 mtr)] := hD
      refine lv_iload_n hx hb dX11_ask_31 rfl (lv_at hl 2 rfl) ?_
      refine lv_if_ne (tgt := 48) hx hb dX11_ask_32 (by decide) (fun c14 => ?_) (fun c14 => ?_)
      · skip
        have f15 := i_ne c14
        refine lv_aload_n hx hb dX11_ask_48 rfl (lv_at hl 0 rfl) ?_
        refine lv_iload_n hx hb dX11_ask_49 rfl (lv_at hl 1 rfl) ?_
        refine lv_aload_n hx hb dX11_ask_50 rfl (lv_at hl 0 rfl) ?_
        refine lv_iload_n hx hb dX11_ask_51 rfl (lv_at hl 1 rfl) ?_
        refine st_i (wr := [(aI cI (md 62) 16 mtr)]) (va_runV (C := RX11) (As := [.int k]) (rest := [.int k, .ref (md 64)]) ⟨hx, hb, hml, hown, hts⟩ (ct_X11_kindOf l D cI cY cJ cQ _ md sd 0 mst hn cn pn mq gn mln mnn ln mlt msz mcu mtk mfr mti mfa mfb an un lc td 0 fo pk pf po pd pe lp la lb ho hc hp hs mh mp mt wo gk gs gd ge mf k h2 (by omega) (by omega) h3 h4 h5 h6 h7 h8 h9 h10 h11 h12 h13) (cwV 1 hts gX11_ask_X11_kindOf rfl rfl rfl ⟨rfl, cdX11_kindOf⟩ ⟨Nat.le_of_ble_eq_true rfl, Nat.le_of_ble_eq_true rfl⟩) (cPreV (hP.sub [0, 1, 2, 3, 4, 5, 6, 7, 8, 9, 10, 11, 12, 13, 14, 15, 16, 17, 18, 19, 20, 21, 22] rfl) hK (hD.sub [0, 1, 2, 3, 4, 5, 6, 7, 8, 9, 10, 11, 12, 13, 14, 15, 16, 17, 18, 19, 20, 21, 22] (by decide +kernel) rfl) hN (ci := 11) (q0 := 0) rfl rfl) rfl rfl hl.1 rfl (lv_room (Nat.le_of_ble_eq_true rfl)) dX11_ask_52 ⟨Nat.le_of_ble_eq_true rfl, Nat.le_of_ble_eq_true rfl⟩) hP hD hS hA [0, 1, 2, 3, 4, 5, 6, 7, 8, 9, 10, 11, 12, 13, 14, 15, 16, 17, 18, 19, 20, 21, 22] [23] rfl rfl (by decide +kernel) (by decide +kernel) (fun r18 u16 H locs hw17 => ?_)
        clear hP hD hS
        intro hP hD hS
        obtain ⟨mq_19, mh_20, mp_21, mt_22, mf_23⟩ := u16
        replace hw17 : r18 = kdF (brV (pmF ho hc hp hs td hn.toNatClampNeg) (poV lp la lb td lc.toNatClampNeg) (ooV pk pf po pd pe pn.toNatClampNeg k td td 41 0 (fo k.toNatClampNeg) (fo k.toNatClampNeg) 0).1.toNatClampNeg 10) (suV gk gs ge k td gn.toNatClampNeg) (wo k.toNatClampNeg) := hw17
        replace hP : va_P D vwCl [(aI cI (md 62) 16 mtr), (moC md sd (0) mst hn cn pn mq_19 gn mln mnn ln mlt msz mcu mtk mfr mti mfa mfb an un lc td (0)), (aI cI (md 16) 12 fo), (aI cI (md 19) 40 pk), (aI cI (md 20) 40 pf), (aI cI (md 21) 40 po), (aI cI (md 22) 40 pd), (aI cI (md 23) 40 pe), (aI cI (md 58) 20 lp), (aI cI (md 59) 20 la), (aI cI (md 60) 20 lb), (aI cI (md 7) 40 ho), (aI cI (md 8) 40 hc), (aI cI (md 9) 40 hp), (aI cI (md 10) 40 hs), (aI cI (md 11) 200 mh_20), (aI cI (md 12) 12 mp_21), (aI cI (md 13) 12 mt_22), (aJ cJ (md 14) 12 mf_23), (aI cI (md 17) 12 wo), (aI cI (md 26) 40 gk), (aI cI (md 27) 40 gs), (aI cI (md 28) 40 gd), (aI cI (md 29) 40 ge)] H := hP
        replace hD : va_D A [(aI cI (md 62) 16 mtr), (moC md sd (0) mst hn cn pn mq_19 gn mln mnn ln mlt msz mcu mtk mfr mti mfa mfb an un lc td (0)), (aI cI (md 16) 12 fo), (aI cI (md 19) 40 pk), (aI cI (md 20) 40 pf), (aI cI (md 21) 40 po), (aI cI (md 22) 40 pd), (aI cI (md 23) 40 pe), (aI cI (md 58) 20 lp), (aI cI (md 59) 20 la), (aI cI (md 60) 20 lb), (aI cI (md 7) 40 ho), (aI cI (md 8) 40 hc), (aI cI (md 9) 40 hp), (aI cI (md 10) 40 hs), (aI cI (md 11) 200 mh_20), (aI cI (md 12) 12 mp_21), (aI cI (md 13) 12 mt_22), (aJ cJ (md 14) 12 mf_23), (aI cI (md 17) 12 wo), (aI cI (md 26) 40 gk), (aI cI (md 27) 40 gs), (aI cI (md 28) 40 gd), (aI cI (md 29) 40 ge)] := hD
        subst hw17
        refine st_i (wr := [(aI cI (md 58) 20 lp), (aI cI (md 59) 20 la), (aI cI (md 60) 20 lb), (aI cI (md 7) 40 ho), (aI cI (md 8) 40 hc), (aI cI (md 9) 40 hp), (aI cI (md 10) 40 hs), (aI cI (md 11) 200 mh_20), (aI cI (md 12) 12 mp_21), (aI cI (md 13) 12 mt_22), (aJ cJ (md 14) 12 mf_23), (aI cI (md 26) 40 gk), (aI cI (md 27) 40 gs), (aI cI (md 28) 40 gd), (aI cI (md 29) 40 ge)]) (va_runV (C := RX11) (As := [.int k, .int (kdF (brV (pmF ho hc hp hs td hn.toNatClampNeg) (poV lp la lb td lc.toNatClampNeg) (ooV pk pf po pd pe pn.toNatClampNeg k td td 41 0 (fo k.toNatClampNeg) (fo k.toNatClampNeg) 0).1.toNatClampNeg 10) (suV gk gs ge k td gn.toNatClampNeg) (wo k.toNatClampNeg))]) (rest := []) ⟨hx, hb, hml, hown, hts⟩ (ct_X11_markOf l D cI cY cJ cQ _ md sd 0 mst hn cn pn mq_19 gn mln mnn ln mlt msz mcu mtk mfr mti mfa mfb an un lc td 0 mtr fo wo pk pf po pd pe k (kdF (brV (pmF ho hc hp hs td hn.toNatClampNeg) (poV lp la lb td lc.toNatClampNeg) (ooV pk pf po pd pe pn.toNatClampNeg k td td 41 0 (fo k.toNatClampNeg) (fo k.toNatClampNeg) 0).1.toNatClampNeg 10) (suV gk gs ge k td gn.toNatClampNeg) (wo k.toNatClampNeg)) h2 (by omega) (by omega) (by omega) (by omega) h3 h4) (cwV 2 hts gX11_ask_X11_markOf rfl rfl rfl ⟨rfl, cdX11_markOf⟩ ⟨Nat.le_of_ble_eq_true rfl, Nat.le_of_ble_eq_true rfl⟩) (cPreV (hP.sub [1, 0, 2, 19, 3, 4, 5, 6, 7] rfl) hK (hD.sub [1, 0, 2, 19, 3, 4, 5, 6, 7] (by decide +kernel) rfl) hN (ci := 11) (q0 := 0) rfl rfl) rfl rfl hl.1 rfl (lv_room (Nat.le_of_ble_eq_true rfl)) dX11_ask_55 ⟨Nat.le_of_ble_eq_true rfl, Nat.le_of_ble_eq_true rfl⟩) hP hD hS hA [1, 0, 2, 19, 3, 4, 5, 6, 7] [8, 9, 10, 11, 12, 13, 14, 15, 16, 17, 18, 20, 21, 22, 23] rfl rfl (by decide +kernel) (by decide +kernel) (fun r26 u24 H locs hw25 => ?_)
        clear hP hD hS
        intro hP hD hS
        obtain ⟨mtn_27, mtr_28, mq_29⟩ := u24
        replace hw25 : (r26, mtn_27, mtr_28) = mkM (kdF (brV (pmF ho hc hp hs td hn.toNatClampNeg) (poV lp la lb td lc.toNatClampNeg) (ooV pk pf po pd pe pn.toNatClampNeg k td td 41 0 (fo k.toNatClampNeg) (fo k.toNatClampNeg) 0).1.toNatClampNeg 10) (suV gk gs ge k td gn.toNatClampNeg) (wo k.toNatClampNeg)) (wo k.toNatClampNeg) (ooV pk pf po pd pe pn.toNatClampNeg k td td 41 0 (fo k.toNatClampNeg) (fo k.toNatClampNeg) 0).1 ((0 : Int32), mtr) ∧ 0 ≤ mtn_27.toInt ∧ mtn_27.toInt ≤ 16 := hw25
        replace hP : va_P D vwCl [(aI cI (md 58) 20 lp), (aI cI (md 59) 20 la), (aI cI (md 60) 20 lb), (aI cI (md 7) 40 ho), (aI cI (md 8) 40 hc), (aI cI (md 9) 40 hp), (aI cI (md 10) 40 hs), (aI cI (md 11) 200 mh_20), (aI cI (md 12) 12 mp_21), (aI cI (md 13) 12 mt_22), (aJ cJ (md 14) 12 mf_23), (aI cI (md 26) 40 gk), (aI cI (md 27) 40 gs), (aI cI (md 28) 40 gd), (aI cI (md 29) 40 ge), (moC md sd (0) mst hn cn pn mq_29 gn mln mnn ln mlt msz mcu mtk mfr mti mfa mfb an un lc td mtn_27), (aI cI (md 62) 16 mtr_28), (aI cI (md 16) 12 fo), (aI cI (md 17) 12 wo), (aI cI (md 19) 40 pk), (aI cI (md 20) 40 pf), (aI cI (md 21) 40 po), (aI cI (md 22) 40 pd), (aI cI (md 23) 40 pe)] H := hP
        replace hD : va_D A [(aI cI (md 58) 20 lp), (aI cI (md 59) 20 la), (aI cI (md 60) 20 lb), (aI cI (md 7) 40 ho), (aI cI (md 8) 40 hc), (aI cI (md 9) 40 hp), (aI cI (md 10) 40 hs), (aI cI (md 11) 200 mh_20), (aI cI (md 12) 12 mp_21), (aI cI (md 13) 12 mt_22), (aJ cJ (md 14) 12 mf_23), (aI cI (md 26) 40 gk), (aI cI (md 27) 40 gs), (aI cI (md 28) 40 gd), (aI cI (md 29) 40 ge), (moC md sd (0) mst hn cn pn mq_29 gn mln mnn ln mlt msz mcu mtk mfr mti mfa mfb an un lc td mtn_27), (aI cI (md 62) 16 mtr_28), (aI cI (md 16) 12 fo), (aI cI (md 17) 12 wo), (aI cI (md 19) 40 pk), (aI cI (md 20) 40 pf), (aI cI (md 21) 40 po), (aI cI (md 22) 40 pd), (aI cI (md 23) 40 pe)] := hD
        obtain ⟨hw25, hw25a, hw25b⟩ := hw25
        have hP9 := hP.sub (ws' := [(moC md sd (0) mst hn cn pn mq_29 gn mln mnn ln mlt msz mcu mtk mfr mti mfa mfb an un lc td mtn_27), (aI cI (md 16) 12 fo), (aI cI (md 19) 40 pk), (aI cI (md 20) 40 pf), (aI cI (md 21) 40 po), (aI cI (md 22) 40 pd), (aI cI (md 23) 40 pe), (aI cI (md 58) 20 lp), (aI cI (md 59) 20 la), (aI cI (md 60) 20 lb), (aI cI (md 7) 40 ho), (aI cI (md 8) 40 hc), (aI cI (md 9) 40 hp), (aI cI (md 10) 40 hs), (aI cI (md 11) 200 mh_20), (aI cI (md 12) 12 mp_21), (aI cI (md 13) 12 mt_22), (aJ cJ (md 14) 12 mf_23), (aI cI (md 17) 12 wo), (aI cI (md 26) 40 gk), (aI cI (md 27) 40 gs), (aI cI (md 28) 40 gd), (aI cI (md 29) 40 ge), (aI cI (md 62) 16 mtr_28)]) [15, 17, 19, 20, 21, 22, 23, 0, 1, 2, 3, 4, 5, 6, 7, 8, 9, 10, 18, 11, 12, 13, 14, 16] rfl
        have hD9 := hD.sub (ws' := [(moC md sd (0) mst hn cn pn mq_29 gn mln mnn ln mlt msz mcu mtk mfr mti mfa mfb an un lc td mtn_27), (aI cI (md 16) 12 fo), (aI cI (md 19) 40 pk), (aI cI (md 20) 40 pf), (aI cI (md 21) 40 po), (aI cI (md 22) 40 pd), (aI cI (md 23) 40 pe), (aI cI (md 58) 20 lp), (aI cI (md 59) 20 la), (aI cI (md 60) 20 lb), (aI cI (md 7) 40 ho), (aI cI (md 8) 40 hc), (aI cI (md 9) 40 hp), (aI cI (md 10) 40 hs), (aI cI (md 11) 200 mh_20), (aI cI (md 12) 12 mp_21), (aI cI (md 13) 12 mt_22), (aJ cJ (md 14) 12 mf_23), (aI cI (md 17) 12 wo), (aI cI (md 26) 40 gk), (aI cI (md 27) 40 gs), (aI cI (md 28) 40 gd), (aI cI (md 29) 40 ge), (aI cI (md 62) 16 mtr_28)]) [15, 17, 19, 20, 21, 22, 23, 0, 1, 2, 3, 4, 5, 6, 7, 8, 9, 10, 18, 11, 12, 13, 14, 16] (by decide +kernel) rfl
        exact W.iret (v := r26) hx hb hr (fun t ht hW => ⟨⟨r26, (mtn_27, mtr_28, mq_29, mh_20, mp_21, mt_22, mf_23), rfl, (by show (r26, mtn_27, mtr_28) = sm_ask mtn mtr cn pn hn lc gn td fo wo pk pf po pd pe ho hc hp hs lp la lb gk gs ge k w ∧ 0 ≤ mtn_27.toInt ∧ mtn_27.toInt ≤ 16; exact ⟨(by unfold sm_ask; rw [if_pos (by omega)]; first | (rw [if_pos (by omega)]; exact hw25) | (rw [if_neg (by omega)]; exact hw25)), by omega, by omega⟩), by rw [ht]; exact hP9, va_K.moved hW.alike hK, hD9⟩, hS.F ht⟩) hS.2.2 dX11_ask_58
      · skip
        have f30 := i_eq c14
        refine lv_aload_n hx hb dX11_ask_35 rfl (lv_at hl 0 rfl) ?_
        refine lv_iload_n hx hb dX11_ask_36 rfl (lv_at hl 1 rfl) ?_
        refine lv_aload_n hx hb dX11_ask_37 rfl (lv_at hl 0 rfl) ?_
        refine lv_iload_n hx hb dX11_ask_38 rfl (lv_at hl 1 rfl) ?_
        refine st_i (wr := [(aI cI (md 62) 16 mtr)]) (va_runV (C := RX11) (As := [.int k]) (rest := [.int k, .ref (md 64)]) ⟨hx, hb, hml, hown, hts⟩ (ct_X11_kindOf l D cI cY cJ cQ _ md sd 0 mst hn cn pn mq gn mln mnn ln mlt msz mcu mtk mfr mti mfa mfb an un lc td 0 fo pk pf po pd pe lp la lb ho hc hp hs mh mp mt wo gk gs gd ge mf k h2 (by omega) (by omega) h3 h4 h5 h6 h7 h8 h9 h10 h11 h12 h13) (cwV 1 hts gX11_ask_X11_kindOf rfl rfl rfl ⟨rfl, cdX11_kindOf⟩ ⟨Nat.le_of_ble_eq_true rfl, Nat.le_of_ble_eq_true rfl⟩) (cPreV (hP.sub [0, 1, 2, 3, 4, 5, 6, 7, 8, 9, 10, 11, 12, 13, 14, 15, 16, 17, 18, 19, 20, 21, 22] rfl) hK (hD.sub [0, 1, 2, 3, 4, 5, 6, 7, 8, 9, 10, 11, 12, 13, 14, 15, 16, 17, 18, 19, 20, 21, 22] (by decide +kernel) rfl) hN (ci := 11) (q0 := 0) rfl rfl) rfl rfl hl.1 rfl (lv_room (Nat.le_of_ble_eq_true rfl)) dX11_ask_39 ⟨Nat.le_of_ble_eq_true rfl, Nat.le_of_ble_eq_true rfl⟩) hP hD hS hA [0, 1, 2, 3, 4, 5, 6, 7, 8, 9, 10, 11, 12, 13, 14, 15, 16, 17, 18, 19, 20, 21, 22] [23] rfl rfl (by decide +kernel) (by decide +kernel) (fun r33 u31 H locs hw32 => ?_)
        clear hP hD hS
        intro hP hD hS
        obtain ⟨mq_34, mh_35, mp_36, mt_37, mf_38⟩ := u31
        replace hw32 : r33 = kdF (brV (pmF ho hc hp hs td hn.toNatClampNeg) (poV lp la lb td lc.toNatClampNeg) (ooV pk pf po pd pe pn.toNatClampNeg k td td 41 0 (fo k.toNatClampNeg) (fo k.toNatClampNeg) 0).1.toNatClampNeg 10) (suV gk gs ge k td gn.toNatClampNeg) (wo k.toNatClampNeg) := hw32
        replace hP : va_P D vwCl [(aI cI (md 62) 16 mtr), (moC md sd (0) mst hn cn pn mq_34 gn mln mnn ln mlt msz mcu mtk mfr mti mfa mfb an un lc td (0)), (aI cI (md 16) 12 fo), (aI cI (md 19) 40 pk), (aI cI (md 20) 40 pf), (aI cI (md 21) 40 po), (aI cI (md 22) 40 pd), (aI cI (md 23) 40 pe), (aI cI (md 58) 20 lp), (aI cI (md 59) 20 la), (aI cI (md 60) 20 lb), (aI cI (md 7) 40 ho), (aI cI (md 8) 40 hc), (aI cI (md 9) 40 hp), (aI cI (md 10) 40 hs), (aI cI (md 11) 200 mh_35), (aI cI (md 12) 12 mp_36), (aI cI (md 13) 12 mt_37), (aJ cJ (md 14) 12 mf_38), (aI cI (md 17) 12 wo), (aI cI (md 26) 40 gk), (aI cI (md 27) 40 gs), (aI cI (md 28) 40 gd), (aI cI (md 29) 40 ge)] H := hP
        replace hD : va_D A [(aI cI (md 62) 16 mtr), (moC md sd (0) mst hn cn pn mq_34 gn mln mnn ln mlt msz mcu mtk mfr mti mfa mfb an un lc td (0)), (aI cI (md 16) 12 fo), (aI cI (md 19) 40 pk), (aI cI (md 20) 40 pf), (aI cI (md 21) 40 po), (aI cI (md 22) 40 pd), (aI cI (md 23) 40 pe), (aI cI (md 58) 20 lp), (aI cI (md 59) 20 la), (aI cI (md 60) 20 lb), (aI cI (md 7) 40 ho), (aI cI (md 8) 40 hc), (aI cI (md 9) 40 hp), (aI cI (md 10) 40 hs), (aI cI (md 11) 200 mh_35), (aI cI (md 12) 12 mp_36), (aI cI (md 13) 12 mt_37), (aJ cJ (md 14) 12 mf_38), (aI cI (md 17) 12 wo), (aI cI (md 26) 40 gk), (aI cI (md 27) 40 gs), (aI cI (md 28) 40 gd), (aI cI (md 29) 40 ge)] := hD
        subst hw32
        refine st_i (wr := [(aI cI (md 58) 20 lp), (aI cI (md 59) 20 la), (aI cI (md 60) 20 lb), (aI cI (md 7) 40 ho), (aI cI (md 8) 40 hc), (aI cI (md 9) 40 hp), (aI cI (md 10) 40 hs), (aI cI (md 11) 200 mh_35), (aI cI (md 12) 12 mp_36), (aI cI (md 13) 12 mt_37), (aJ cJ (md 14) 12 mf_38)]) (va_runV (C := RX11) (As := [.int k, .int (kdF (brV (pmF ho hc hp hs td hn.toNatClampNeg) (poV lp la lb td lc.toNatClampNeg) (ooV pk pf po pd pe pn.toNatClampNeg k td td 41 0 (fo k.toNatClampNeg) (fo k.toNatClampNeg) 0).1.toNatClampNeg 10) (suV gk gs ge k td gn.toNatClampNeg) (wo k.toNatClampNeg))]) (rest := []) ⟨hx, hb, hml, hown, hts⟩ (ct_X11_sizeOf l D cI cY cJ cQ _ md sd 0 mst hn cn pn mq_34 gn mln mnn ln mlt msz mcu mtk mfr mti mfa mfb an un lc td 0 mtr fo wo pk pf po pd pe gk gs gd ge k (kdF (brV (pmF ho hc hp hs td hn.toNatClampNeg) (poV lp la lb td lc.toNatClampNeg) (ooV pk pf po pd pe pn.toNatClampNeg k td td 41 0 (fo k.toNatClampNeg) (fo k.toNatClampNeg) 0).1.toNatClampNeg 10) (suV gk gs ge k td gn.toNatClampNeg) (wo k.toNatClampNeg)) h2 (by omega) (by omega) (by omega) (by omega) h3 h4 h12 h13) (cwV 2 hts gX11_ask_X11_sizeOf rfl rfl rfl ⟨rfl, cdX11_sizeOf⟩ ⟨Nat.le_of_ble_eq_true rfl, Nat.le_of_ble_eq_true rfl⟩) (cPreV (hP.sub [1, 0, 2, 19, 3, 4, 5, 6, 7, 20, 21, 22, 23] rfl) hK (hD.sub [1, 0, 2, 19, 3, 4, 5, 6, 7, 20, 21, 22, 23] (by decide +kernel) rfl) hN (ci := 11) (q0 := 0) rfl rfl) rfl rfl hl.1 rfl (lv_room (Nat.le_of_ble_eq_true rfl)) dX11_ask_42 ⟨Nat.le_of_ble_eq_true rfl, Nat.le_of_ble_eq_true rfl⟩) hP hD hS hA [1, 0, 2, 19, 3, 4, 5, 6, 7, 20, 21, 22, 23] [8, 9, 10, 11, 12, 13, 14, 15, 16, 17, 18] rfl rfl (by decide +kernel) (by decide +kernel) (fun r41 u39 H locs hw40 => ?_)
        clear hP hD hS
        intro hP hD hS
        obtain ⟨mtn_42, mtr_43, mq_44⟩ := u39
        replace hw40 : (r41, mtn_42, mtr_43) = szM (kdF (brV (pmF ho hc hp hs td hn.toNatClampNeg) (poV lp la lb td lc.toNatClampNeg) (ooV pk pf po pd pe pn.toNatClampNeg k td td 41 0 (fo k.toNatClampNeg) (fo k.toNatClampNeg) 0).1.toNatClampNeg 10) (suV gk gs ge k td gn.toNatClampNeg) (wo k.toNatClampNeg)) (wo k.toNatClampNeg) (suV gk gs ge k td gn.toNatClampNeg) (ooV pk pf po pd pe pn.toNatClampNeg k td td 41 0 (fo k.toNatClampNeg) (fo k.toNatClampNeg) 0).1 ((0 : Int32), mtr) ∧ 0 ≤ mtn_42.toInt ∧ mtn_42.toInt ≤ 16 := hw40
        replace hP : va_P D vwCl [(aI cI (md 58) 20 lp), (aI cI (md 59) 20 la), (aI cI (md 60) 20 lb), (aI cI (md 7) 40 ho), (aI cI (md 8) 40 hc), (aI cI (md 9) 40 hp), (aI cI (md 10) 40 hs), (aI cI (md 11) 200 mh_35), (aI cI (md 12) 12 mp_36), (aI cI (md 13) 12 mt_37), (aJ cJ (md 14) 12 mf_38), (moC md sd (0) mst hn cn pn mq_44 gn mln mnn ln mlt msz mcu mtk mfr mti mfa mfb an un lc td mtn_42), (aI cI (md 62) 16 mtr_43), (aI cI (md 16) 12 fo), (aI cI (md 17) 12 wo), (aI cI (md 19) 40 pk), (aI cI (md 20) 40 pf), (aI cI (md 21) 40 po), (aI cI (md 22) 40 pd), (aI cI (md 23) 40 pe), (aI cI (md 26) 40 gk), (aI cI (md 27) 40 gs), (aI cI (md 28) 40 gd), (aI cI (md 29) 40 ge)] H := hP
        replace hD : va_D A [(aI cI (md 58) 20 lp), (aI cI (md 59) 20 la), (aI cI (md 60) 20 lb), (aI cI (md 7) 40 ho), (aI cI (md 8) 40 hc), (aI cI (md 9) 40 hp), (aI cI (md 10) 40 hs), (aI cI (md 11) 200 mh_35), (aI cI (md 12) 12 mp_36), (aI cI (md 13) 12 mt_37), (aJ cJ (md 14) 12 mf_38), (moC md sd (0) mst hn cn pn mq_44 gn mln mnn ln mlt msz mcu mtk mfr mti mfa mfb an un lc td mtn_42), (aI cI (md 62) 16 mtr_43), (aI cI (md 16) 12 fo), (aI cI (md 17) 12 wo), (aI cI (md 19) 40 pk), (aI cI (md 20) 40 pf), (aI cI (md 21) 40 po), (aI cI (md 22) 40 pd), (aI cI (md 23) 40 pe), (aI cI (md 26) 40 gk), (aI cI (md 27) 40 gs), (aI cI (md 28) 40 gd), (aI cI (md 29) 40 ge)] := hD
        obtain ⟨hw40, hw40a, hw40b⟩ := hw40
        refine lv_goto (tgt := 58) hx hb dX11_ask_45 (by decide) ?_
        have hP9 := hP.sub (ws' := [(moC md sd (0) mst hn cn pn mq_44 gn mln mnn ln mlt msz mcu mtk mfr mti mfa mfb an un lc td mtn_42), (aI cI (md 16) 12 fo), (aI cI (md 19) 40 pk), (aI cI (md 20) 40 pf), (aI cI (md 21) 40 po), (aI cI (md 22) 40 pd), (aI cI (md 23) 40 pe), (aI cI (md 58) 20 lp), (aI cI (md 59) 20 la), (aI cI (md 60) 20 lb), (aI cI (md 7) 40 ho), (aI cI (md 8) 40 hc), (aI cI (md 9) 40 hp), (aI cI (md 10) 40 hs), (aI cI (md 11) 200 mh_35), (aI cI (md 12) 12 mp_36), (aI cI (md 13) 12 mt_37), (aJ cJ (md 14) 12 mf_38), (aI cI (md 17) 12 wo), (aI cI (md 26) 40 gk), (aI cI (md 27) 40 gs), (aI cI (md 28) 40 gd), (aI cI (md 29) 40 ge), (aI cI (md 62) 16 mtr_43)]) [11, 13, 15, 16, 17, 18, 19, 0, 1, 2, 3, 4, 5, 6, 7, 8, 9, 10, 14, 20, 21, 22, 23, 12] rfl
        have hD9 := hD.sub (ws' := [(moC md sd (0) mst hn cn pn mq_44 gn mln mnn ln mlt msz mcu mtk mfr mti mfa mfb an un lc td mtn_42), (aI cI (md 16) 12 fo), (aI cI (md 19) 40 pk), (aI cI (md 20) 40 pf), (aI cI (md 21) 40 po), (aI cI (md 22) 40 pd), (aI cI (md 23) 40 pe), (aI cI (md 58) 20 lp), (aI cI (md 59) 20 la), (aI cI (md 60) 20 lb), (aI cI (md 7) 40 ho), (aI cI (md 8) 40 hc), (aI cI (md 9) 40 hp), (aI cI (md 10) 40 hs), (aI cI (md 11) 200 mh_35), (aI cI (md 12) 12 mp_36), (aI cI (md 13) 12 mt_37), (aJ cJ (md 14) 12 mf_38), (aI cI (md 17) 12 wo), (aI cI (md 26) 40 gk), (aI cI (md 27) 40 gs), (aI cI (md 28) 40 gd), (aI cI (md 29) 40 ge), (aI cI (md 62) 16 mtr_43)]) [11, 13, 15, 16, 17, 18, 19, 0, 1, 2, 3, 4, 5, 6, 7, 8, 9, 10, 14, 20, 21, 22, 23, 12] (by decide +kernel) rfl
        exact W.iret (v := r41) hx hb hr (fun t ht hW => ⟨⟨r41, (mtn_42, mtr_43, mq_44, mh_35, mp_36, mt_37, mf_38), rfl, (by show (r41, mtn_42, mtr_43) = sm_ask mtn mtr cn pn hn lc gn td fo wo pk pf po pd pe ho hc hp hs lp la lb gk gs ge k w ∧ 0 ≤ mtn_42.toInt ∧ mtn_42.toInt ≤ 16; exact ⟨(by unfold sm_ask; rw [if_pos (by omega)]; first | (rw [if_pos (by omega)]; exact hw40) | (rw [if_neg (by omega)]; exact hw40)), by omega, by omega⟩), by rw [ht]; exact hP9, va_K.moved hW.alike hK, hD9⟩, hS.F ht⟩) hS.2.2 dX11_ask_58
    · skip
      have f45 := bo_f hw10 c12
      refine lv_ldc hx hb hown (hts (Cond.constant RX11 157 (-1000001)) (wm_t (wm_l (wm_i 1 rfl)))) dX11_ask_23 ?_
      have hP9 := hP
      have hD9 := hD
      exact W.iret (v := (-1000001)) hx hb hr (fun t ht hW => ⟨⟨(-1000001), (mtn, mtr, mq, mh, mp, mt, mf), rfl, (by show (((-1000001) : Int32), mtn, mtr) = sm_ask mtn mtr cn pn hn lc gn td fo wo pk pf po pd pe ho hc hp hs lp la lb gk gs ge k w ∧ 0 ≤ mtn.toInt ∧ mtn.toInt ≤ 16; exact ⟨(by unfold sm_ask; rw [if_neg (by omega)]), by omega, by omega⟩), by rw [ht]; exact hP9, va_K.moved hW.alike hK, hD9⟩, hS.F ht⟩) hS.2.2 dX11_ask_25
end

section
theorem cdX11_wakes : yX11_wakes.cls ≠ "java/lang/invoke/MethodHandle" ∧ yX11_wakes.cls ≠ "java/lang/invoke/VarHandle" ∧ (parseMethodDescriptor yX11_wakes.desc).map (fun d => d.parameters.length) = some 1 := by decide +kernel
theorem Gd_X11_wakes : gdA wsX11_wakes := gd_cons (by decide +kernel) (gd_app (gd_all (ws := wsX11_wakes_o1) (by decide +kernel)) Gd_X110)
theorem inX11_wakes_X11 : ∀ w ∈ u_ws RX11 TX11 64, w ∈ wsX11_wakes := fun _ h => (List.mem_cons_of_mem _ (List.mem_append_right _ h))
theorem inX11_duty_X11 : ∀ w ∈ u_ws RX11 TX11 64, w ∈ wsX11_duty := fun _ h => (List.mem_cons_of_mem _ (List.mem_append_right _ (List.mem_append_left _ (List.mem_append_left _ h))))
theorem dX11_wakes_all0 : decode cX11_wakes 0 = .ok (.iconst 0, 1) ∧ decode cX11_wakes 1 = .ok (.istore_n 2, 1) ∧ decode cX11_wakes 2 = .ok (.iload_n 2, 1) ∧ decode cX11_wakes 3 = .ok (.aload_n 0, 1) ∧ decode cX11_wakes 4 = .ok (.getfield 314, 3) ∧ decode cX11_wakes 7 = .ok (.if_icmp .ge 47, 3) ∧ decode cX11_wakes 10 = .ok (.aload_n 0, 1) ∧ decode cX11_wakes 11 = .ok (.getfield 81, 3) ∧ decode cX11_wakes 14 = .ok (.iconst 3, 1) ∧ decode cX11_wakes 15 = .ok (.iload_n 2, 1) ∧ decode cX11_wakes 16 = .ok (.imul, 1) ∧ decode cX11_wakes 17 = .ok (.iaload, 1) := by decide +kernel
theorem dX11_wakes_0 : decode cX11_wakes 0 = .ok (.iconst 0, 1) := dX11_wakes_all0.1
theorem dX11_wakes_1 : decode cX11_wakes 1 = .ok (.istore_n 2, 1) := dX11_wakes_all0.2.1
theorem dX11_wakes_2 : decode cX11_wakes 2 = .ok (.iload_n 2, 1) := dX11_wakes_all0.2.2.1
theorem dX11_wakes_3 : decode cX11_wakes 3 = .ok (.aload_n 0, 1) := dX11_wakes_all0.2.2.2.1
theorem dX11_wakes_4 : decode cX11_wakes 4 = .ok (.getfield 314, 3) := dX11_wakes_all0.2.2.2.2.1
theorem dX11_wakes_7 : decode cX11_wakes 7 = .ok (.if_icmp .ge 47, 3) := dX11_wakes_all0.2.2.2.2.2.1
theorem dX11_wakes_10 : decode cX11_wakes 10 = .ok (.aload_n 0, 1) := dX11_wakes_all0.2.2.2.2.2.2.1
theorem dX11_wakes_11 : decode cX11_wakes 11 = .ok (.getfield 81, 3) := dX11_wakes_all0.2.2.2.2.2.2.2.1
theorem dX11_wakes_14 : decode cX11_wakes 14 = .ok (.iconst 3, 1) := dX11_wakes_all0.2.2.2.2.2.2.2.2.1
theorem dX11_wakes_15 : decode cX11_wakes 15 = .ok (.iload_n 2, 1) := dX11_wakes_all0.2.2.2.2.2.2.2.2.2.1
theorem dX11_wakes_16 : decode cX11_wakes 16 = .ok (.imul, 1) := dX11_wakes_all0.2.2.2.2.2.2.2.2.2.2.1
theorem dX11_wakes_17 : decode cX11_wakes 17 = .ok (.iaload, 1) := dX11_wakes_all0.2.2.2.2.2.2.2.2.2.2.2
theorem dX11_wakes_all1 : decode cX11_wakes 18 = .ok (.aload_n 0, 1) ∧ decode cX11_wakes 19 = .ok (.getfield 93, 3) ∧ decode cX11_wakes 22 = .ok (.iload_n 1, 1) ∧ decode cX11_wakes 23 = .ok (.iaload, 1) ∧ decode cX11_wakes 24 = .ok (.if_icmp .ne 24, 3) ∧ decode cX11_wakes 27 = .ok (.aload_n 0, 1) ∧ decode cX11_wakes 28 = .ok (.getfield 99, 3) ∧ decode cX11_wakes 31 = .ok (.iload_n 1, 1) ∧ decode cX11_wakes 32 = .ok (.iaload, 1) ∧ decode cX11_wakes 33 = .ok (.aload_n 0, 1) ∧ decode cX11_wakes 34 = .ok (.getfield 81, 3) ∧ decode cX11_wakes 37 = .ok (.iconst 3, 1) := by decide +kernel
theorem dX11_wakes_18 : decode cX11_wakes 18 = .ok (.aload_n 0, 1) := dX11_wakes_all1.1
theorem dX11_wakes_19 : decode cX11_wakes 19 = .ok (.getfield 93, 3) := dX11_wakes_all1.2.1
theorem dX11_wakes_22 : decode cX11_wakes 22 = .ok (.iload_n 1, 1) := dX11_wakes_all1.2.2.1
theorem dX11_wakes_23 : decode cX11_wakes 23 = .ok (.iaload, 1) := dX11_wakes_all1.2.2.2.1
theorem dX11_wakes_24 : decode cX11_wakes 24 = .ok (.if_icmp .ne 24, 3) := dX11_wakes_all1.2.2.2.2.1
theorem dX11_wakes_27 : decode cX11_wakes 27 = .ok (.aload_n 0, 1) := dX11_wakes_all1.2.2.2.2.2.1
theorem dX11_wakes_28 : decode cX11_wakes 28 = .ok (.getfield 99, 3) := dX11_wakes_all1.2.2.2.2.2.2.1
theorem dX11_wakes_31 : decode cX11_wakes 31 = .ok (.iload_n 1, 1) := dX11_wakes_all1.2.2.2.2.2.2.2.1
theorem dX11_wakes_32 : decode cX11_wakes 32 = .ok (.iaload, 1) := dX11_wakes_all1.2.2.2.2.2.2.2.2.1
theorem dX11_wakes_33 : decode cX11_wakes 33 = .ok (.aload_n 0, 1) := dX11_wakes_all1.2.2.2.2.2.2.2.2.2.1
theorem dX11_wakes_34 : decode cX11_wakes 34 = .ok (.getfield 81, 3) := dX11_wakes_all1.2.2.2.2.2.2.2.2.2.2.1
theorem dX11_wakes_37 : decode cX11_wakes 37 = .ok (.iconst 3, 1) := dX11_wakes_all1.2.2.2.2.2.2.2.2.2.2.2
theorem dX11_wakes_all2 : decode cX11_wakes 38 = .ok (.iload_n 2, 1) ∧ decode cX11_wakes 39 = .ok (.imul, 1) ∧ decode cX11_wakes 40 = .ok (.iconst 1, 1) ∧ decode cX11_wakes 41 = .ok (.iadd, 1) ∧ decode cX11_wakes 42 = .ok (.iaload, 1) ∧ decode cX11_wakes 43 = .ok (.if_icmp .le 5, 3) ∧ decode cX11_wakes 46 = .ok (.iload_n 2, 1) ∧ decode cX11_wakes 47 = .ok (.ireturn, 1) ∧ decode cX11_wakes 48 = .ok (.iinc 2 1, 3) ∧ decode cX11_wakes 51 = .ok (.goto (-49), 3) ∧ decode cX11_wakes 54 = .ok (.ldc 139, 2) ∧ decode cX11_wakes 56 = .ok (.ireturn, 1) := by decide +kernel
theorem dX11_wakes_38 : decode cX11_wakes 38 = .ok (.iload_n 2, 1) := dX11_wakes_all2.1
theorem dX11_wakes_39 : decode cX11_wakes 39 = .ok (.imul, 1) := dX11_wakes_all2.2.1
theorem dX11_wakes_40 : decode cX11_wakes 40 = .ok (.iconst 1, 1) := dX11_wakes_all2.2.2.1
theorem dX11_wakes_41 : decode cX11_wakes 41 = .ok (.iadd, 1) := dX11_wakes_all2.2.2.2.1
theorem dX11_wakes_42 : decode cX11_wakes 42 = .ok (.iaload, 1) := dX11_wakes_all2.2.2.2.2.1
theorem dX11_wakes_43 : decode cX11_wakes 43 = .ok (.if_icmp .le 5, 3) := dX11_wakes_all2.2.2.2.2.2.1
theorem dX11_wakes_46 : decode cX11_wakes 46 = .ok (.iload_n 2, 1) := dX11_wakes_all2.2.2.2.2.2.2.1
theorem dX11_wakes_47 : decode cX11_wakes 47 = .ok (.ireturn, 1) := dX11_wakes_all2.2.2.2.2.2.2.2.1
theorem dX11_wakes_48 : decode cX11_wakes 48 = .ok (.iinc 2 1, 3) := dX11_wakes_all2.2.2.2.2.2.2.2.2.1
theorem dX11_wakes_51 : decode cX11_wakes 51 = .ok (.goto (-49), 3) := dX11_wakes_all2.2.2.2.2.2.2.2.2.2.1
theorem dX11_wakes_54 : decode cX11_wakes 54 = .ok (.ldc 139, 2) := dX11_wakes_all2.2.2.2.2.2.2.2.2.2.2.1
theorem dX11_wakes_56 : decode cX11_wakes 56 = .ok (.ireturn, 1) := dX11_wakes_all2.2.2.2.2.2.2.2.2.2.2.2
theorem ggX11_duty_X11_isCrate : GoodIn wsX11_duty wsX11_isCrate := goodIn_s (fun _ h => wm_t (wm_r (wm_l (wm_r h)))) Gd_X11_isCrate
theorem gX11_duty_X11_isCrate : GoodIn wsX11_duty (wsV RX11 219 RX11 yX11_isCrate wsX11_isCrate) := goodIn_V (own := RX11) (idx := 219) (C := RX11) (y := yX11_isCrate) (wm_t (wm_l (wm_i 9 rfl))) (wm_t (wm_l (wm_i 10 rfl))) (wm_t (wm_l (wm_i 11 rfl))) (wm_t (wm_l (wm_i 12 rfl))) ggX11_duty_X11_isCrate
theorem ggX11_duty_X11_in : GoodIn wsX11_duty wsX11_in := goodIn_s (fun _ h => wm_t (wm_r (wm_r (wm_l h)))) Gd_X11_in
theorem gX11_duty_X11_in : GoodIn wsX11_duty (va_wsS RX11 147 yX11_in wsX11_in) := goodIn_S (own := RX11) (idx := 147) (y := yX11_in) (wm_t (wm_l (wm_i 13 rfl))) (wm_t (wm_l (wm_i 14 rfl))) (wm_t (wm_l (wm_i 12 rfl))) ggX11_duty_X11_in
theorem ggX11_duty_X11_wakes : GoodIn wsX11_duty wsX11_wakes := goodIn_s (fun _ h => wm_t (wm_r (wm_r (wm_r h)))) Gd_X11_wakes
theorem gX11_duty_X11_wakes : GoodIn wsX11_duty (wsV RX11 322 RX11 yX11_wakes wsX11_wakes) := goodIn_V (own := RX11) (idx := 322) (C := RX11) (y := yX11_wakes) (wm_t (wm_l (wm_i 15 rfl))) (wm_t (wm_l (wm_i 16 rfl))) (wm_t (wm_l (wm_i 17 rfl))) (wm_t (wm_l (wm_i 12 rfl))) ggX11_duty_X11_wakes
theorem dX11_duty_all0 : decode cX11_duty 0 = .ok (.aload_n 0, 1) ∧ decode cX11_duty 1 = .ok (.iconst 0, 1) ∧ decode cX11_duty 2 = .ok (.putfield 1, 3) ∧ decode cX11_duty 5 = .ok (.aload_n 0, 1) ∧ decode cX11_duty 6 = .ok (.iload_n 1, 1) ∧ decode cX11_duty 7 = .ok (.invokevirtual 219, 3) ∧ decode cX11_duty 10 = .ok (.ifCond .eq 15, 3) ∧ decode cX11_duty 13 = .ok (.iload_n 2, 1) ∧ decode cX11_duty 14 = .ok (.i2l, 1) ∧ decode cX11_duty 15 = .ok (.lconst 0, 1) ∧ decode cX11_duty 16 = .ok (.ldc2_w 155, 3) ∧ decode cX11_duty 19 = .ok (.invokestatic 147, 3) := by decide +kernel
theorem dX11_duty_0 : decode cX11_duty 0 = .ok (.aload_n 0, 1) := dX11_duty_all0.1
theorem dX11_duty_1 : decode cX11_duty 1 = .ok (.iconst 0, 1) := dX11_duty_all0.2.1
theorem dX11_duty_2 : decode cX11_duty 2 = .ok (.putfield 1, 3) := dX11_duty_all0.2.2.1
theorem dX11_duty_5 : decode cX11_duty 5 = .ok (.aload_n 0, 1) := dX11_duty_all0.2.2.2.1
theorem dX11_duty_6 : decode cX11_duty 6 = .ok (.iload_n 1, 1) := dX11_duty_all0.2.2.2.2.1
theorem dX11_duty_7 : decode cX11_duty 7 = .ok (.invokevirtual 219, 3) := dX11_duty_all0.2.2.2.2.2.1
theorem dX11_duty_10 : decode cX11_duty 10 = .ok (.ifCond .eq 15, 3) := dX11_duty_all0.2.2.2.2.2.2.1
theorem dX11_duty_13 : decode cX11_duty 13 = .ok (.iload_n 2, 1) := dX11_duty_all0.2.2.2.2.2.2.2.1
theorem dX11_duty_14 : decode cX11_duty 14 = .ok (.i2l, 1) := dX11_duty_all0.2.2.2.2.2.2.2.2.1
theorem dX11_duty_15 : decode cX11_duty 15 = .ok (.lconst 0, 1) := dX11_duty_all0.2.2.2.2.2.2.2.2.2.1
theorem dX11_duty_16 : decode cX11_duty 16 = .ok (.ldc2_w 155, 3) := dX11_duty_all0.2.2.2.2.2.2.2.2.2.2.1
theorem dX11_duty_19 : decode cX11_duty 19 = .ok (.invokestatic 147, 3) := dX11_duty_all0.2.2.2.2.2.2.2.2.2.2.2
theorem dX11_duty_all1 : decode cX11_duty 22 = .ok (.ifCond .ne 6, 3) ∧ decode cX11_duty 25 = .ok (.ldc 157, 2) ∧ decode cX11_duty 27 = .ok (.ireturn, 1) ∧ decode cX11_duty 28 = .ok (.ldc 139, 2) ∧ decode cX11_duty 30 = .ok (.istore_n 3, 1) ∧ decode cX11_duty 31 = .ok (.iconst 0, 1) ∧ decode cX11_duty 32 = .ok (.istore 4, 2) ∧ decode cX11_duty 34 = .ok (.iload 4, 2) ∧ decode cX11_duty 36 = .ok (.aload_n 0, 1) ∧ decode cX11_duty 37 = .ok (.getfield 319, 3) ∧ decode cX11_duty 40 = .ok (.if_icmp .ge 72, 3) ∧ decode cX11_duty 43 = .ok (.aload_n 0, 1) := by decide +kernel
theorem dX11_duty_22 : decode cX11_duty 22 = .ok (.ifCond .ne 6, 3) := dX11_duty_all1.1
theorem dX11_duty_25 : decode cX11_duty 25 = .ok (.ldc 157, 2) := dX11_duty_all1.2.1
theorem dX11_duty_27 : decode cX11_duty 27 = .ok (.ireturn, 1) := dX11_duty_all1.2.2.1
theorem dX11_duty_28 : decode cX11_duty 28 = .ok (.ldc 139, 2) := dX11_duty_all1.2.2.2.1
theorem dX11_duty_30 : decode cX11_duty 30 = .ok (.istore_n 3, 1) := dX11_duty_all1.2.2.2.2.1
theorem dX11_duty_31 : decode cX11_duty 31 = .ok (.iconst 0, 1) := dX11_duty_all1.2.2.2.2.2.1
theorem dX11_duty_32 : decode cX11_duty 32 = .ok (.istore 4, 2) := dX11_duty_all1.2.2.2.2.2.2.1
theorem dX11_duty_34 : decode cX11_duty 34 = .ok (.iload 4, 2) := dX11_duty_all1.2.2.2.2.2.2.2.1
theorem dX11_duty_36 : decode cX11_duty 36 = .ok (.aload_n 0, 1) := dX11_duty_all1.2.2.2.2.2.2.2.2.1
theorem dX11_duty_37 : decode cX11_duty 37 = .ok (.getfield 319, 3) := dX11_duty_all1.2.2.2.2.2.2.2.2.2.1
theorem dX11_duty_40 : decode cX11_duty 40 = .ok (.if_icmp .ge 72, 3) := dX11_duty_all1.2.2.2.2.2.2.2.2.2.2.1
theorem dX11_duty_43 : decode cX11_duty 43 = .ok (.aload_n 0, 1) := dX11_duty_all1.2.2.2.2.2.2.2.2.2.2.2
theorem dX11_duty_all2 : decode cX11_duty 44 = .ok (.getfield 90, 3) ∧ decode cX11_duty 47 = .ok (.iload 4, 2) ∧ decode cX11_duty 49 = .ok (.iaload, 1) ∧ decode cX11_duty 50 = .ok (.iload_n 1, 1) ∧ decode cX11_duty 51 = .ok (.if_icmp .ne 18, 3) ∧ decode cX11_duty 54 = .ok (.aload_n 0, 1) ∧ decode cX11_duty 55 = .ok (.iload 4, 2) ∧ decode cX11_duty 57 = .ok (.invokevirtual 322, 3) ∧ decode cX11_duty 60 = .ok (.ldc 139, 2) ∧ decode cX11_duty 62 = .ok (.if_icmp .eq 7, 3) ∧ decode cX11_duty 65 = .ok (.iconst 1, 1) ∧ decode cX11_duty 66 = .ok (.goto 4, 3) := by decide +kernel
theorem dX11_duty_44 : decode cX11_duty 44 = .ok (.getfield 90, 3) := dX11_duty_all2.1
theorem dX11_duty_47 : decode cX11_duty 47 = .ok (.iload 4, 2) := dX11_duty_all2.2.1
theorem dX11_duty_49 : decode cX11_duty 49 = .ok (.iaload, 1) := dX11_duty_all2.2.2.1
theorem dX11_duty_50 : decode cX11_duty 50 = .ok (.iload_n 1, 1) := dX11_duty_all2.2.2.2.1
theorem dX11_duty_51 : decode cX11_duty 51 = .ok (.if_icmp .ne 18, 3) := dX11_duty_all2.2.2.2.2.1
theorem dX11_duty_54 : decode cX11_duty 54 = .ok (.aload_n 0, 1) := dX11_duty_all2.2.2.2.2.2.1
theorem dX11_duty_55 : decode cX11_duty 55 = .ok (.iload 4, 2) := dX11_duty_all2.2.2.2.2.2.2.1
theorem dX11_duty_57 : decode cX11_duty 57 = .ok (.invokevirtual 322, 3) := dX11_duty_all2.2.2.2.2.2.2.2.1
theorem dX11_duty_60 : decode cX11_duty 60 = .ok (.ldc 139, 2) := dX11_duty_all2.2.2.2.2.2.2.2.2.1
theorem dX11_duty_62 : decode cX11_duty 62 = .ok (.if_icmp .eq 7, 3) := dX11_duty_all2.2.2.2.2.2.2.2.2.2.1
theorem dX11_duty_65 : decode cX11_duty 65 = .ok (.iconst 1, 1) := dX11_duty_all2.2.2.2.2.2.2.2.2.2.2.1
theorem dX11_duty_66 : decode cX11_duty 66 = .ok (.goto 4, 3) := dX11_duty_all2.2.2.2.2.2.2.2.2.2.2.2
theorem dX11_duty_all3 : decode cX11_duty 69 = .ok (.iconst 0, 1) ∧ decode cX11_duty 70 = .ok (.istore 5, 2) ∧ decode cX11_duty 72 = .ok (.iload 5, 2) ∧ decode cX11_duty 74 = .ok (.ifCond .eq 30, 3) ∧ decode cX11_duty 77 = .ok (.iload_n 3, 1) ∧ decode cX11_duty 78 = .ok (.ldc 139, 2) ∧ decode cX11_duty 80 = .ok (.if_icmp .eq 19, 3) ∧ decode cX11_duty 83 = .ok (.aload_n 0, 1) ∧ decode cX11_duty 84 = .ok (.getfield 96, 3) ∧ decode cX11_duty 87 = .ok (.iload 4, 2) ∧ decode cX11_duty 89 = .ok (.iaload, 1) ∧ decode cX11_duty 90 = .ok (.aload_n 0, 1) := by decide +kernel
theorem dX11_duty_69 : decode cX11_duty 69 = .ok (.iconst 0, 1) := dX11_duty_all3.1
theorem dX11_duty_70 : decode cX11_duty 70 = .ok (.istore 5, 2) := dX11_duty_all3.2.1
theorem dX11_duty_72 : decode cX11_duty 72 = .ok (.iload 5, 2) := dX11_duty_all3.2.2.1
theorem dX11_duty_74 : decode cX11_duty 74 = .ok (.ifCond .eq 30, 3) := dX11_duty_all3.2.2.2.1
theorem dX11_duty_77 : decode cX11_duty 77 = .ok (.iload_n 3, 1) := dX11_duty_all3.2.2.2.2.1
theorem dX11_duty_78 : decode cX11_duty 78 = .ok (.ldc 139, 2) := dX11_duty_all3.2.2.2.2.2.1
theorem dX11_duty_80 : decode cX11_duty 80 = .ok (.if_icmp .eq 19, 3) := dX11_duty_all3.2.2.2.2.2.2.1
theorem dX11_duty_83 : decode cX11_duty 83 = .ok (.aload_n 0, 1) := dX11_duty_all3.2.2.2.2.2.2.2.1
theorem dX11_duty_84 : decode cX11_duty 84 = .ok (.getfield 96, 3) := dX11_duty_all3.2.2.2.2.2.2.2.2.1
theorem dX11_duty_87 : decode cX11_duty 87 = .ok (.iload 4, 2) := dX11_duty_all3.2.2.2.2.2.2.2.2.2.1
theorem dX11_duty_89 : decode cX11_duty 89 = .ok (.iaload, 1) := dX11_duty_all3.2.2.2.2.2.2.2.2.2.2.1
theorem dX11_duty_90 : decode cX11_duty 90 = .ok (.aload_n 0, 1) := dX11_duty_all3.2.2.2.2.2.2.2.2.2.2.2
theorem dX11_duty_all4 : decode cX11_duty 91 = .ok (.getfield 96, 3) ∧ decode cX11_duty 94 = .ok (.iload_n 3, 1) ∧ decode cX11_duty 95 = .ok (.iaload, 1) ∧ decode cX11_duty 96 = .ok (.if_icmp .ge 8, 3) ∧ decode cX11_duty 99 = .ok (.iload 4, 2) ∧ decode cX11_duty 101 = .ok (.goto 4, 3) ∧ decode cX11_duty 104 = .ok (.iload_n 3, 1) ∧ decode cX11_duty 105 = .ok (.istore_n 3, 1) ∧ decode cX11_duty 106 = .ok (.iinc 4 1, 3) ∧ decode cX11_duty 109 = .ok (.goto (-75), 3) ∧ decode cX11_duty 112 = .ok (.iload_n 3, 1) ∧ decode cX11_duty 113 = .ok (.ldc 139, 2) := by decide +kernel
theorem dX11_duty_91 : decode cX11_duty 91 = .ok (.getfield 96, 3) := dX11_duty_all4.1
theorem dX11_duty_94 : decode cX11_duty 94 = .ok (.iload_n 3, 1) := dX11_duty_all4.2.1
theorem dX11_duty_95 : decode cX11_duty 95 = .ok (.iaload, 1) := dX11_duty_all4.2.2.1
theorem dX11_duty_96 : decode cX11_duty 96 = .ok (.if_icmp .ge 8, 3) := dX11_duty_all4.2.2.2.1
theorem dX11_duty_99 : decode cX11_duty 99 = .ok (.iload 4, 2) := dX11_duty_all4.2.2.2.2.1
theorem dX11_duty_101 : decode cX11_duty 101 = .ok (.goto 4, 3) := dX11_duty_all4.2.2.2.2.2.1
theorem dX11_duty_104 : decode cX11_duty 104 = .ok (.iload_n 3, 1) := dX11_duty_all4.2.2.2.2.2.2.1
theorem dX11_duty_105 : decode cX11_duty 105 = .ok (.istore_n 3, 1) := dX11_duty_all4.2.2.2.2.2.2.2.1
theorem dX11_duty_106 : decode cX11_duty 106 = .ok (.iinc 4 1, 3) := dX11_duty_all4.2.2.2.2.2.2.2.2.1
theorem dX11_duty_109 : decode cX11_duty 109 = .ok (.goto (-75), 3) := dX11_duty_all4.2.2.2.2.2.2.2.2.2.1
theorem dX11_duty_112 : decode cX11_duty 112 = .ok (.iload_n 3, 1) := dX11_duty_all4.2.2.2.2.2.2.2.2.2.2.1
theorem dX11_duty_113 : decode cX11_duty 113 = .ok (.ldc 139, 2) := dX11_duty_all4.2.2.2.2.2.2.2.2.2.2.2
theorem dX11_duty_all5 : decode cX11_duty 115 = .ok (.if_icmp .ne 14, 3) ∧ decode cX11_duty 118 = .ok (.iload_n 2, 1) ∧ decode cX11_duty 119 = .ok (.ifCond .ne 7, 3) ∧ decode cX11_duty 122 = .ok (.iconst 0, 1) ∧ decode cX11_duty 123 = .ok (.goto 5, 3) ∧ decode cX11_duty 126 = .ok (.ldc 139, 2) ∧ decode cX11_duty 128 = .ok (.ireturn, 1) ∧ decode cX11_duty 129 = .ok (.iload_n 2, 1) ∧ decode cX11_duty 130 = .ok (.iconst 1, 1) ∧ decode cX11_duty 131 = .ok (.if_icmp .ne 12, 3) ∧ decode cX11_duty 134 = .ok (.aload_n 0, 1) ∧ decode cX11_duty 135 = .ok (.getfield 96, 3) := by decide +kernel
theorem dX11_duty_115 : decode cX11_duty 115 = .ok (.if_icmp .ne 14, 3) := dX11_duty_all5.1
theorem dX11_duty_118 : decode cX11_duty 118 = .ok (.iload_n 2, 1) := dX11_duty_all5.2.1
theorem dX11_duty_119 : decode cX11_duty 119 = .ok (.ifCond .ne 7, 3) := dX11_duty_all5.2.2.1
theorem dX11_duty_122 : decode cX11_duty 122 = .ok (.iconst 0, 1) := dX11_duty_all5.2.2.2.1
theorem dX11_duty_123 : decode cX11_duty 123 = .ok (.goto 5, 3) := dX11_duty_all5.2.2.2.2.1
theorem dX11_duty_126 : decode cX11_duty 126 = .ok (.ldc 139, 2) := dX11_duty_all5.2.2.2.2.2.1
theorem dX11_duty_128 : decode cX11_duty 128 = .ok (.ireturn, 1) := dX11_duty_all5.2.2.2.2.2.2.1
theorem dX11_duty_129 : decode cX11_duty 129 = .ok (.iload_n 2, 1) := dX11_duty_all5.2.2.2.2.2.2.2.1
theorem dX11_duty_130 : decode cX11_duty 130 = .ok (.iconst 1, 1) := dX11_duty_all5.2.2.2.2.2.2.2.2.1
theorem dX11_duty_131 : decode cX11_duty 131 = .ok (.if_icmp .ne 12, 3) := dX11_duty_all5.2.2.2.2.2.2.2.2.2.1
theorem dX11_duty_134 : decode cX11_duty 134 = .ok (.aload_n 0, 1) := dX11_duty_all5.2.2.2.2.2.2.2.2.2.2.1
theorem dX11_duty_135 : decode cX11_duty 135 = .ok (.getfield 96, 3) := dX11_duty_all5.2.2.2.2.2.2.2.2.2.2.2
theorem dX11_duty_all6 : decode cX11_duty 138 = .ok (.iload_n 3, 1) ∧ decode cX11_duty 139 = .ok (.iaload, 1) ∧ decode cX11_duty 140 = .ok (.goto 40, 3) ∧ decode cX11_duty 143 = .ok (.iload_n 2, 1) ∧ decode cX11_duty 144 = .ok (.iconst 2, 1) ∧ decode cX11_duty 145 = .ok (.if_icmp .ne 11, 3) ∧ decode cX11_duty 148 = .ok (.aload_n 0, 1) ∧ decode cX11_duty 149 = .ok (.iload_n 3, 1) ∧ decode cX11_duty 150 = .ok (.invokevirtual 322, 3) ∧ decode cX11_duty 153 = .ok (.goto 27, 3) ∧ decode cX11_duty 156 = .ok (.aload_n 0, 1) ∧ decode cX11_duty 157 = .ok (.getfield 51, 3) := by decide +kernel
theorem dX11_duty_138 : decode cX11_duty 138 = .ok (.iload_n 3, 1) := dX11_duty_all6.1
theorem dX11_duty_139 : decode cX11_duty 139 = .ok (.iaload, 1) := dX11_duty_all6.2.1
theorem dX11_duty_140 : decode cX11_duty 140 = .ok (.goto 40, 3) := dX11_duty_all6.2.2.1
theorem dX11_duty_143 : decode cX11_duty 143 = .ok (.iload_n 2, 1) := dX11_duty_all6.2.2.2.1
theorem dX11_duty_144 : decode cX11_duty 144 = .ok (.iconst 2, 1) := dX11_duty_all6.2.2.2.2.1
theorem dX11_duty_145 : decode cX11_duty 145 = .ok (.if_icmp .ne 11, 3) := dX11_duty_all6.2.2.2.2.2.1
theorem dX11_duty_148 : decode cX11_duty 148 = .ok (.aload_n 0, 1) := dX11_duty_all6.2.2.2.2.2.2.1
theorem dX11_duty_149 : decode cX11_duty 149 = .ok (.iload_n 3, 1) := dX11_duty_all6.2.2.2.2.2.2.2.1
theorem dX11_duty_150 : decode cX11_duty 150 = .ok (.invokevirtual 322, 3) := dX11_duty_all6.2.2.2.2.2.2.2.2.1
theorem dX11_duty_153 : decode cX11_duty 153 = .ok (.goto 27, 3) := dX11_duty_all6.2.2.2.2.2.2.2.2.2.1
theorem dX11_duty_156 : decode cX11_duty 156 = .ok (.aload_n 0, 1) := dX11_duty_all6.2.2.2.2.2.2.2.2.2.2.1
theorem dX11_duty_157 : decode cX11_duty 157 = .ok (.getfield 51, 3) := dX11_duty_all6.2.2.2.2.2.2.2.2.2.2.2
theorem dX11_duty_all7 : decode cX11_duty 160 = .ok (.iload_n 1, 1) ∧ decode cX11_duty 161 = .ok (.iaload, 1) ∧ decode cX11_duty 162 = .ok (.aload_n 0, 1) ∧ decode cX11_duty 163 = .ok (.getfield 81, 3) ∧ decode cX11_duty 166 = .ok (.iconst 3, 1) ∧ decode cX11_duty 167 = .ok (.aload_n 0, 1) ∧ decode cX11_duty 168 = .ok (.iload_n 3, 1) ∧ decode cX11_duty 169 = .ok (.invokevirtual 322, 3) ∧ decode cX11_duty 172 = .ok (.imul, 1) ∧ decode cX11_duty 173 = .ok (.iconst 2, 1) ∧ decode cX11_duty 174 = .ok (.iadd, 1) ∧ decode cX11_duty 175 = .ok (.iaload, 1) := by decide +kernel
theorem dX11_duty_160 : decode cX11_duty 160 = .ok (.iload_n 1, 1) := dX11_duty_all7.1
theorem dX11_duty_161 : decode cX11_duty 161 = .ok (.iaload, 1) := dX11_duty_all7.2.1
theorem dX11_duty_162 : decode cX11_duty 162 = .ok (.aload_n 0, 1) := dX11_duty_all7.2.2.1
theorem dX11_duty_163 : decode cX11_duty 163 = .ok (.getfield 81, 3) := dX11_duty_all7.2.2.2.1
theorem dX11_duty_166 : decode cX11_duty 166 = .ok (.iconst 3, 1) := dX11_duty_all7.2.2.2.2.1
theorem dX11_duty_167 : decode cX11_duty 167 = .ok (.aload_n 0, 1) := dX11_duty_all7.2.2.2.2.2.1
theorem dX11_duty_168 : decode cX11_duty 168 = .ok (.iload_n 3, 1) := dX11_duty_all7.2.2.2.2.2.2.1
theorem dX11_duty_169 : decode cX11_duty 169 = .ok (.invokevirtual 322, 3) := dX11_duty_all7.2.2.2.2.2.2.2.1
theorem dX11_duty_172 : decode cX11_duty 172 = .ok (.imul, 1) := dX11_duty_all7.2.2.2.2.2.2.2.2.1
theorem dX11_duty_173 : decode cX11_duty 173 = .ok (.iconst 2, 1) := dX11_duty_all7.2.2.2.2.2.2.2.2.2.1
theorem dX11_duty_174 : decode cX11_duty 174 = .ok (.iadd, 1) := dX11_duty_all7.2.2.2.2.2.2.2.2.2.2.1
theorem dX11_duty_175 : decode cX11_duty 175 = .ok (.iaload, 1) := dX11_duty_all7.2.2.2.2.2.2.2.2.2.2.2
theorem dX11_duty_all8 : decode cX11_duty 176 = .ok (.imul, 1) ∧ decode cX11_duty 177 = .ok (.bipush 100, 2) ∧ decode cX11_duty 179 = .ok (.idiv, 1) ∧ decode cX11_duty 180 = .ok (.ireturn, 1) := by decide +kernel
theorem dX11_duty_176 : decode cX11_duty 176 = .ok (.imul, 1) := dX11_duty_all8.1
theorem dX11_duty_177 : decode cX11_duty 177 = .ok (.bipush 100, 2) := dX11_duty_all8.2.1
theorem dX11_duty_179 : decode cX11_duty 179 = .ok (.idiv, 1) := dX11_duty_all8.2.2.1
theorem dX11_duty_180 : decode cX11_duty 180 = .ok (.ireturn, 1) := dX11_duty_all8.2.2.2

/-- the first line that an act of kind x for y days wakes, from line k on -/
def wkF (mli : Nat → Int32) (x y : Int32) : Nat → Nat → Int32
  | 0, _ => -1000000
  | n + 1, k => if (mli (3 * k)).toInt = x.toInt ∧ (mli (3 * k + 1)).toInt < y.toInt then nI k else wkF mli x y n (k + 1)
theorem wkF_rng (mli : Nat → Int32) (x y : Int32) : ∀ n k : Nat, n + k ≤ 12 → (wkF mli x y n k).toInt = -1000000 ∨ (0 ≤ (wkF mli x y n k).toInt ∧ (wkF mli x y n k).toInt < (n + k : Nat))
  | 0, k, h => Or.inl (by unfold wkF; decide)
  | n + 1, k, h => by
    unfold wkF
    split
    · right
      rw [nI_toInt (by omega)]
      omega
    · have := wkF_rng mli x y n (k + 1) (by omega)
      omega

set_option maxHeartbeats 4000000 in
set_option maxRecDepth 100000 in
theorem ct_X11_wakes (l : Launch) (D : va_G) (cI cY cJ cQ : ClassId) (sz : Nat) (md : Nat → Nat) (sd : Int32) (mth mst hn cn pn mq gn mln mnn ln mlt msz mcu mtk mfr mti mfa mfb an un lc td mtn : Int32) (mli ak ah ay az : Nat → Int32) (a : Int32)  (h1 : 0 ≤ mln.toInt) (h2 : mln.toInt ≤ 12) (h3 : 0 ≤ a.toInt) (h4 : a.toInt < 60)  : Met l yX11_wakes wsX11_wakes ({ frames := 0, cells := 0, slots := 0, locals := 0 }) (cPre D (ty4 cI cY cJ cQ) [(moC md sd mth mst hn cn pn mq gn mln mnn ln mlt msz mcu mtk mfr mti mfa mfb an un lc td mtn), (aI cI (md 31) 36 mli), (aI cI (md 45) 60 ak), (aI cI (md 46) 60 ah), (aI cI (md 47) 60 ay), (aI cI (md 48) 60 az)] sz [.ref (md 64), .int a]) (va_Qi (fun (r : Int32) (u : Unit) => r = wkF mli (ah a.toNatClampNeg) (az a.toNatClampNeg) mln.toNatClampNeg 0) (cB D (ty4 cI cY cJ cQ) (fun (u : Unit) => [(moC md sd mth mst hn cn pn mq gn mln mnn ln mlt msz mcu mtk mfr mti mfa mfb an un lc td mtn), (aI cI (md 31) 36 mli), (aI cI (md 45) 60 ak), (aI cI (md 46) 60 ah), (aI cI (md 47) 60 ay), (aI cI (md 48) 60 az)]) (va_A [(moC md sd mth mst hn cn pn mq gn mln mnn ln mlt msz mcu mtk mfr mti mfa mfb an un lc td mtn), (aI cI (md 31) 36 mli), (aI cI (md 45) 60 ak), (aI cI (md 46) 60 ah), (aI cI (md 47) 60 ay), (aI cI (md 48) 60 az)] sz)) (va_A [(moC md sd mth mst hn cn pn mq gn mln mnn ln mlt msz mcu mtk mfr mti mfa mfb an un lc td mtn), (aI cI (md 31) 36 mli), (aI cI (md 45) 60 ak), (aI cI (md 46) 60 ah), (aI cI (md 47) 60 ay), (aI cI (md 48) 60 az)] sz)) 0 0 (va_A [(moC md sd mth mst hn cn pn mq gn mln mnn ln mlt msz mcu mtk mfr mti mfa mfb an un lc td mtn), (aI cI (md 31) 36 mli), (aI cI (md 45) 60 ak), (aI cI (md 46) 60 ah), (aI cI (md 47) 60 ay), (aI cI (md 48) 60 az)] sz) := by
  refine Met.ofW (cc := cX11_wakes) (maxL := 3) (ret := (some .int)) (by decide) rfl ?_
  intro p e s m args below meth c s₁ B hml hv
  obtain ⟨rfl, hsz, hP, hK, hD0, hN⟩ := hv
  have hx := B.exec
  have hb := B.bytes
  have hr := B.returns
  have hts := atoms_spec (ws := wsX11_wakes) B.pre
  have hown : s.vm.findClass RX11 = some m.cls := findClass_of_methodNamed B.named
  have hlocks := B.notSynchronized
  subst hsz
  have hD := hD0.self (sz := s.heap.size)
  generalize hAe : va_A [(moC md sd mth mst hn cn pn mq gn mln mnn ln mlt msz mcu mtk mfr mti mfa mfb an un lc td mtn), (aI cI (md 31) 36 mli), (aI cI (md 45) 60 ak), (aI cI (md 46) 60 ah), (aI cI (md 47) 60 ay), (aI cI (md 48) 60 az)] s.heap.size = A at hD ⊢
  have hA : ∀ q : Nat, s.heap.size ≤ q → A q := fun q h => by rw [← hAe]; exact Or.inr h
  have hS : va_S A s.heap s.heap [] := va_S.rf
  have hP : va_P D vwCl [(moC md sd mth mst hn cn pn mq gn mln mnn ln mlt msz mcu mtk mfr mti mfa mfb an un lc td mtn), (aI cI (md 31) 36 mli), (aI cI (md 45) 60 ak), (aI cI (md 46) 60 ah), (aI cI (md 47) 60 ay), (aI cI (md 48) 60 az)] s.heap := hP
  have hl := lv_entry ([.ref (md 64), .int a]) (n := 3) (Nat.le_of_ble_eq_true rfl)
  rw [lg_entry_eq]
  generalize (lg_sl ([.ref (md 64), .int a]) ++ List.replicate (3 - (lg_sl ([.ref (md 64), .int a])).length) Slot.unset).toArray = ls at hl ⊢
  have hl : lv_has ls 3 [(0, .ref (md 64)), (1, .int a)] := hl
  have k0 : (0 : Int32).toInt = 0 := by decide
  have k1 : (1 : Int32).toInt = 1 := by decide
  have k3 : (3 : Int32).toInt = 3 := by decide
  refine lv_iconst (v := 0) hx hb dX11_wakes_0 (by decide) ?_
  refine lv_istore_n (lv' := [(2, .int 0), (0, .ref (md 64)), (1, .int a)]) hx hb dX11_wakes_1 rfl hl (by decide) rfl (fun ls hl => ?_)
  refine st_loop 2 (fun _ => []) (fun (q2_2 : Int32) (ls : Array Slot) (H : Heap) (locs : List Loc) => (0 ≤ q2_2.toInt) ∧ (q2_2.toInt ≤ mln.toInt) ∧ (wkF mli (ah a.toNatClampNeg) (az a.toNatClampNeg) (mln.toNatClampNeg - q2_2.toNatClampNeg) q2_2.toNatClampNeg = wkF mli (ah a.toNatClampNeg) (az a.toNatClampNeg) mln.toNatClampNeg 0) ∧ lv_has ls 3 [(0, .ref (md 64)), (1, .int a), (2, .int q2_2)] ∧ va_P D vwCl [(moC md sd mth mst hn cn pn mq gn mln mnn ln mlt msz mcu mtk mfr mti mfa mfb an un lc td mtn), (aI cI (md 31) 36 mli), (aI cI (md 45) 60 ak), (aI cI (md 46) 60 ah), (aI cI (md 47) 60 ay), (aI cI (md 48) 60 az)] H ∧ va_D A [(moC md sd mth mst hn cn pn mq gn mln mnn ln mlt msz mcu mtk mfr mti mfa mfb an un lc td mtn), (aI cI (md 31) 36 mli), (aI cI (md 45) 60 ak), (aI cI (md 46) 60 ah), (aI cI (md 47) 60 ay), (aI cI (md 48) 60 az)] ∧ va_S A s.heap H locs) (fun (q2_2 : Int32) => mln.toInt - q2_2.toInt) ?_ ?_ (0 : Int32) ⟨(by omega), (by omega), (by rfl), lv_sub hl [1, 2, 0] rfl, hP, hD, hS⟩
  · rintro q2_2 ls H locs ⟨g1, g2, g3, hl, hP, hD, hS⟩
    show (0 : Int) ≤ mln.toInt - q2_2.toInt
    omega
  · rintro n6 ih4 q2_2 ls H locs ⟨g1, g2, g3, hl, hP, hD, hS⟩ hm5
    have hm5 : mln.toInt - q2_2.toInt < (n6 : Int) + 1 := hm5
    replace hl : lv_has ls 3 [(0, .ref (md 64)), (1, .int a), (2, .int q2_2)] := hl
    replace hP : va_P D vwCl [(moC md sd mth mst hn cn pn mq gn mln mnn ln mlt msz mcu mtk mfr mti mfa mfb an un lc td mtn), (aI cI (md 31) 36 mli), (aI cI (md 45) 60 ak), (aI cI (md 46) 60 ah), (aI cI (md 47) 60 ay), (aI cI (md 48) 60 az)] H := hP
    replace hD : va_D A [(moC md sd mth mst hn cn pn mq gn mln mnn ln mlt msz mcu mtk mfr mti mfa mfb an un lc td mtn), (aI cI (md 31) 36 mli), (aI cI (md 45) 60 ak), (aI cI (md 46) 60 ah), (aI cI (md 47) 60 ay), (aI cI (md 48) 60 az)] := hD
    show W _ _ _ _ _ _ _ _ _ _ _ _ _ _ _ (F0 m 2 ls [])
    refine lv_iload_n hx hb dX11_wakes_2 rfl (lv_at hl 2 rfl) ?_
    refine lv_aload_n hx hb dX11_wakes_3 rfl (lv_at hl 0 rfl) ?_
    refine va_get (D := D) (ci := 11) (v := .int mln) (C := RX11) (T := TX11) (N := 64) hx hb hts inX11_wakes_X11 hown hK hP 0 rfl rfl 30 (by decide) (hts (Cond.fieldLink RX11 314 "PortRoomsModel" "lines" "I") (wm_t (wm_l (wm_i 0 rfl)))) (fun _ h9 => h9) rfl dX11_wakes_4 ?_
    refine lv_icmp_ge (tgt := 54) hx hb dX11_wakes_7 (by decide) (fun c7 => ?_) (fun c7 => ?_)
    · skip
      have f8 := i_le c7
      refine lv_ldc hx hb hown (hts (Cond.constant RX11 139 (-1000000)) (wm_t (wm_l (wm_i 4 rfl)))) dX11_wakes_54 ?_
      have cq9 := i_cl (x := q2_2) (by omega)
      have cm9 := i_cl (x := mln) (by omega)
      have hw9 : (-1000000 : Int32) = wkF mli (ah a.toNatClampNeg) (az a.toNatClampNeg) mln.toNatClampNeg 0 := by rw [← g3, show mln.toNatClampNeg - q2_2.toNatClampNeg = 0 by omega]; rfl
      have hP9 := hP
      have hD9 := hD
      exact W.iret (v := (-1000000)) hx hb hr (fun t ht hW => ⟨⟨(-1000000), (), rfl, hw9, by rw [ht]; exact hP9, va_K.moved hW.alike hK, hD9⟩, hS.F ht⟩) hS.2.2 dX11_wakes_56
    · skip
      have f9 := i_nle c7
      refine lv_aload_n hx hb dX11_wakes_10 rfl (lv_at hl 0 rfl) ?_
      refine va_get (D := D) (ci := 11) (v := .ref (md 31)) (C := RX11) (T := TX11) (N := 64) hx hb hts inX11_wakes_X11 hown hK hP 0 rfl rfl 31 (by decide) (hts (Cond.fieldLink RX11 81 "PortRoomsModel" "line" "[I") (wm_t (wm_l (wm_i 1 rfl)))) (fun _ h9 => h9) rfl dX11_wakes_11 ?_
      refine lv_iconst (v := 3) hx hb dX11_wakes_14 (by decide) ?_
      refine lv_iload_n hx hb dX11_wakes_15 rfl (lv_at hl 2 rfl) ?_
      refine lv_imul hx hb dX11_wakes_16 ?_
      refine lv_topi (fun v10 ev10 => ?_)
      try have tv10 : v10.toInt = 3 * q2_2.toInt := by rw [ev10]; exact (i_mul (x := (3 : Int32)) (y := q2_2) (by rw [k3]; omega) (by rw [k3]; omega)).trans (by rw [k3])
      refine va_iald hx hb hK hP 1 0 rfl rfl (i_in (by omega) (by omega)) dX11_wakes_17 ?_
      refine lv_topi (fun v11 ev11 => ?_)
      have tlv11 : v11.toInt = (mli v10.toNatClampNeg).toInt := by rw [ev11]
      have px12 : v10.toNatClampNeg = 3 * q2_2.toNatClampNeg := by have := i_cl (x := v10) (by omega); have := i_cl (x := q2_2) (by omega); omega
      rw [px12] at tlv11
      refine lv_aload_n hx hb dX11_wakes_18 rfl (lv_at hl 0 rfl) ?_
      refine va_get (D := D) (ci := 11) (v := .ref (md 46)) (C := RX11) (T := TX11) (N := 64) hx hb hts inX11_wakes_X11 hown hK hP 0 rfl rfl 46 (by decide) (hts (Cond.fieldLink RX11 93 "PortRoomsModel" "actWhat" "[I") (wm_t (wm_l (wm_i 2 rfl)))) (fun _ h9 => h9) rfl dX11_wakes_19 ?_
      refine lv_iload_n hx hb dX11_wakes_22 rfl (lv_at hl 1 rfl) ?_
      refine va_iald hx hb hK hP 3 0 rfl rfl (i_in (by omega) (by omega)) dX11_wakes_23 ?_
      refine lv_topi (fun v13 ev13 => ?_)
      have tlv13 : v13.toInt = (ah a.toNatClampNeg).toInt := by rw [ev13]
      refine lv_icmp_ne (tgt := 48) hx hb dX11_wakes_24 (by decide) (fun c14 => ?_) (fun c14 => ?_)
      · skip
        have f15 := i_ne c14
        obtain ⟨v16, ev16⟩ : ∃ y : Int32, y = q2_2 + 1 := ⟨_, rfl⟩
        try have tv16 : v16.toInt = q2_2.toInt + 1 := by rw [ev16]; exact (i_add (x := q2_2) (y := (1 : Int32)) (by rw [k1]; omega) (by rw [k1]; omega)).trans (by rw [k1])
        refine lv_iinc (v := v16) (lv' := [(2, .int v16), (0, .ref (md 64)), (1, .int a)]) hx hb dX11_wakes_48 hl (k := 2) rfl (by rw [ev16]; rfl) (by decide) rfl (fun ls hl => ?_)
        refine lv_goto (tgt := 2) hx hb dX11_wakes_51 (by decide) ?_
        have cq9 := i_cl (x := q2_2) (by omega)
        have cm9 := i_cl (x := mln) (by omega)
        have cb9 := i_cl (x := v16) (by omega)
        have hst9 : wkF mli (ah a.toNatClampNeg) (az a.toNatClampNeg) (mln.toNatClampNeg - v16.toNatClampNeg) v16.toNatClampNeg = wkF mli (ah a.toNatClampNeg) (az a.toNatClampNeg) mln.toNatClampNeg 0 := by
          rw [← g3, show mln.toNatClampNeg - q2_2.toNatClampNeg = (mln.toNatClampNeg - v16.toNatClampNeg) + 1 by omega, show v16.toNatClampNeg = q2_2.toNatClampNeg + 1 by omega]
          conv => rhs; unfold wkF
          rw [if_neg (by omega)]
        exact ih4 v16 ls H locs ⟨(by omega), (by omega), (by exact hst9), lv_sub hl [1, 2, 0] rfl, hP.sub [0, 1, 2, 3, 4, 5] rfl, hD.sub [0, 1, 2, 3, 4, 5] (by decide +kernel) rfl, hS⟩ (by show mln.toInt - v16.toInt < _; omega)
      · skip
        have f17 := i_eq c14
        refine lv_aload_n hx hb dX11_wakes_27 rfl (lv_at hl 0 rfl) ?_
        refine va_get (D := D) (ci := 11) (v := .ref (md 48)) (C := RX11) (T := TX11) (N := 64) hx hb hts inX11_wakes_X11 hown hK hP 0 rfl rfl 48 (by decide) (hts (Cond.fieldLink RX11 99 "PortRoomsModel" "actDays" "[I") (wm_t (wm_l (wm_i 3 rfl)))) (fun _ h9 => h9) rfl dX11_wakes_28 ?_
        refine lv_iload_n hx hb dX11_wakes_31 rfl (lv_at hl 1 rfl) ?_
        refine va_iald hx hb hK hP 5 0 rfl rfl (i_in (by omega) (by omega)) dX11_wakes_32 ?_
        refine lv_topi (fun v18 ev18 => ?_)
        have tlv18 : v18.toInt = (az a.toNatClampNeg).toInt := by rw [ev18]
        refine lv_aload_n hx hb dX11_wakes_33 rfl (lv_at hl 0 rfl) ?_
        refine va_get (D := D) (ci := 11) (v := .ref (md 31)) (C := RX11) (T := TX11) (N := 64) hx hb hts inX11_wakes_X11 hown hK hP 0 rfl rfl 31 (by decide) (hts (Cond.fieldLink RX11 81 "PortRoomsModel" "line" "[I") (wm_t (wm_l (wm_i 1 rfl)))) (fun _ h9 => h9) rfl dX11_wakes_34 ?_
        refine lv_iconst (v := 3) hx hb dX11_wakes_37 (by decide) ?_
        refine lv_iload_n hx hb dX11_wakes_38 rfl (lv_at hl 2 rfl) ?_
        refine lv_imul hx hb dX11_wakes_39 ?_
        refine lv_topi (fun v19 ev19 => ?_)
        try have tv19 : v19.toInt = 3 * q2_2.toInt := by rw [ev19]; exact (i_mul (x := (3 : Int32)) (y := q2_2) (by rw [k3]; omega) (by rw [k3]; omega)).trans (by rw [k3])
        refine lv_iconst (v := 1) hx hb dX11_wakes_40 (by decide) ?_
        refine lv_iadd hx hb dX11_wakes_41 ?_
        refine lv_topi (fun v20 ev20 => ?_)
        try have tv20 : v20.toInt = v19.toInt + 1 := by rw [ev20]; exact (i_add (x := v19) (y := (1 : Int32)) (by rw [k1]; omega) (by rw [k1]; omega)).trans (by rw [k1])
        refine va_iald hx hb hK hP 1 0 rfl rfl (i_in (by omega) (by omega)) dX11_wakes_42 ?_
        refine lv_topi (fun v21 ev21 => ?_)
        have tlv21 : v21.toInt = (mli v20.toNatClampNeg).toInt := by rw [ev21]
        have px22 : v20.toNatClampNeg = 3 * q2_2.toNatClampNeg + 1 := by have := i_cl (x := v20) (by omega); have := i_cl (x := q2_2) (by omega); omega
        rw [px22] at tlv21
        refine lv_icmp_le (tgt := 48) hx hb dX11_wakes_43 (by decide) (fun c23 => ?_) (fun c23 => ?_)
        · skip
          have f24 := i_le c23
          obtain ⟨v25, ev25⟩ : ∃ y : Int32, y = q2_2 + 1 := ⟨_, rfl⟩
          try have tv25 : v25.toInt = q2_2.toInt + 1 := by rw [ev25]; exact (i_add (x := q2_2) (y := (1 : Int32)) (by rw [k1]; omega) (by rw [k1]; omega)).trans (by rw [k1])
          refine lv_iinc (v := v25) (lv' := [(2, .int v25), (0, .ref (md 64)), (1, .int a)]) hx hb dX11_wakes_48 hl (k := 2) rfl (by rw [ev25]; rfl) (by decide) rfl (fun ls hl => ?_)
          refine lv_goto (tgt := 2) hx hb dX11_wakes_51 (by decide) ?_
          have cq9 := i_cl (x := q2_2) (by omega)
          have cm9 := i_cl (x := mln) (by omega)
          have cb9 := i_cl (x := v25) (by omega)
          have hst9 : wkF mli (ah a.toNatClampNeg) (az a.toNatClampNeg) (mln.toNatClampNeg - v25.toNatClampNeg) v25.toNatClampNeg = wkF mli (ah a.toNatClampNeg) (az a.toNatClampNeg) mln.toNatClampNeg 0 := by
            rw [← g3, show mln.toNatClampNeg - q2_2.toNatClampNeg = (mln.toNatClampNeg - v25.toNatClampNeg) + 1 by omega, show v25.toNatClampNeg = q2_2.toNatClampNeg + 1 by omega]
            conv => rhs; unfold wkF
            rw [if_neg (by omega)]
          exact ih4 v25 ls H locs ⟨(by omega), (by omega), (by exact hst9), lv_sub hl [1, 2, 0] rfl, hP.sub [0, 1, 2, 3, 4, 5] rfl, hD.sub [0, 1, 2, 3, 4, 5] (by decide +kernel) rfl, hS⟩ (by show mln.toInt - v25.toInt < _; omega)
        · skip
          have f26 := i_nle c23
          refine lv_iload_n hx hb dX11_wakes_46 rfl (lv_at hl 2 rfl) ?_
          have cq9 := i_cl (x := q2_2) (by omega)
          have cm9 := i_cl (x := mln) (by omega)
          have hw9 : q2_2 = wkF mli (ah a.toNatClampNeg) (az a.toNatClampNeg) mln.toNatClampNeg 0 := by rw [← g3, show mln.toNatClampNeg - q2_2.toNatClampNeg = (mln.toNatClampNeg - q2_2.toNatClampNeg - 1) + 1 by omega]; unfold wkF; rw [if_pos (by first | (constructor <;> omega) | omega)]; exact (i_nI (by omega)).symm
          have hP9 := hP
          have hD9 := hD
          exact W.iret (v := q2_2) hx hb hr (fun t ht hW => ⟨⟨q2_2, (), rfl, hw9, by rw [ht]; exact hP9, va_K.moved hW.alike hK, hD9⟩, hS.F ht⟩) hS.2.2 dX11_wakes_47

set_option maxHeartbeats 4000000 in
set_option maxRecDepth 100000 in
theorem ct_X11_duty (l : Launch) (D : va_G) (cI cY cJ cQ : ClassId) (sz : Nat) (md : Nat → Nat) (sd : Int32) (mth mst hn cn pn mq gn mln mnn ln mlt msz mcu mtk mfr mti mfa mfb an un lc td mtn : Int32) (mli wo ak ah ay az : Nat → Int32) (k : Int32) (w : Int32)  (h1 : 0 ≤ cn.toInt) (h2 : cn.toInt ≤ 12) (h3 : 0 ≤ mln.toInt) (h4 : mln.toInt ≤ 12) (h5 : 0 ≤ an.toInt) (h6 : an.toInt ≤ 60)  : Met l yX11_duty wsX11_duty ({ frames := 2, cells := 0, slots := 0, locals := 46 }) (cPre D (ty4 cI cY cJ cQ) [(moC md sd mth mst hn cn pn mq gn mln mnn ln mlt msz mcu mtk mfr mti mfa mfb an un lc td mtn), (aI cI (md 31) 36 mli), (aI cI (md 17) 12 wo), (aI cI (md 45) 60 ak), (aI cI (md 46) 60 ah), (aI cI (md 47) 60 ay), (aI cI (md 48) 60 az)] sz [.ref (md 64), .int k, .int w]) (va_Qi (fun (r : Int32) (u : Unit) => True) (cB D (ty4 cI cY cJ cQ) (fun (u : Unit) => [(moC md sd 0 mst hn cn pn mq gn mln mnn ln mlt msz mcu mtk mfr mti mfa mfb an un lc td mtn), (aI cI (md 31) 36 mli), (aI cI (md 17) 12 wo), (aI cI (md 45) 60 ak), (aI cI (md 46) 60 ah), (aI cI (md 47) 60 ay), (aI cI (md 48) 60 az)]) (va_A [(moC md sd mth mst hn cn pn mq gn mln mnn ln mlt msz mcu mtk mfr mti mfa mfb an un lc td mtn), (aI cI (md 31) 36 mli), (aI cI (md 17) 12 wo), (aI cI (md 45) 60 ak), (aI cI (md 46) 60 ah), (aI cI (md 47) 60 ay), (aI cI (md 48) 60 az)] sz)) (va_A [(moC md sd mth mst hn cn pn mq gn mln mnn ln mlt msz mcu mtk mfr mti mfa mfb an un lc td mtn), (aI cI (md 31) 36 mli), (aI cI (md 17) 12 wo), (aI cI (md 45) 60 ak), (aI cI (md 46) 60 ah), (aI cI (md 47) 60 ay), (aI cI (md 48) 60 az)] sz)) 0 0 (va_A [(moC md sd mth mst hn cn pn mq gn mln mnn ln mlt msz mcu mtk mfr mti mfa mfb an un lc td mtn), (aI cI (md 31) 36 mli), (aI cI (md 17) 12 wo), (aI cI (md 45) 60 ak), (aI cI (md 46) 60 ah), (aI cI (md 47) 60 ay), (aI cI (md 48) 60 az)] sz) := by
  refine Met.ofW (cc := cX11_duty) (maxL := 6) (ret := (some .int)) (by decide) rfl ?_
  intro p e s m args below meth c s₁ B hml hv
  obtain ⟨rfl, hsz, hP, hK, hD0, hN⟩ := hv
  have hx := B.exec
  have hb := B.bytes
  have hr := B.returns
  have hts := atoms_spec (ws := wsX11_duty) B.pre
  have hown : s.vm.findClass RX11 = some m.cls := findClass_of_methodNamed B.named
  have hlocks := B.notSynchronized
  subst hsz
  have hD := hD0.self (sz := s.heap.size)
  generalize hAe : va_A [(moC md sd mth mst hn cn pn mq gn mln mnn ln mlt msz mcu mtk mfr mti mfa mfb an un lc td mtn), (aI cI (md 31) 36 mli), (aI cI (md 17) 12 wo), (aI cI (md 45) 60 ak), (aI cI (md 46) 60 ah), (aI cI (md 47) 60 ay), (aI cI (md 48) 60 az)] s.heap.size = A at hD ⊢
  have hA : ∀ q : Nat, s.heap.size ≤ q → A q := fun q h => by rw [← hAe]; exact Or.inr h
  have hS : va_S A s.heap s.heap [] := va_S.rf
  have hP : va_P D vwCl [(moC md sd mth mst hn cn pn mq gn mln mnn ln mlt msz mcu mtk mfr mti mfa mfb an un lc td mtn), (aI cI (md 31) 36 mli), (aI cI (md 17) 12 wo), (aI cI (md 45) 60 ak), (aI cI (md 46) 60 ah), (aI cI (md 47) 60 ay), (aI cI (md 48) 60 az)] s.heap := hP
  have hl := lv_entry ([.ref (md 64), .int k, .int w]) (n := 6) (Nat.le_of_ble_eq_true rfl)
  rw [lg_entry_eq]
  generalize (lg_sl ([.ref (md 64), .int k, .int w]) ++ List.replicate (6 - (lg_sl ([.ref (md 64), .int k, .int w])).length) Slot.unset).toArray = ls at hl ⊢
  have hl : lv_has ls 6 [(0, .ref (md 64)), (1, .int k), (2, .int w)] := hl
  have km1000000 : (-1000000 : Int32).toInt = -1000000 := by decide
  have k0 : (0 : Int32).toInt = 0 := by decide
  have k1 : (1 : Int32).toInt = 1 := by decide
  have k2 : (2 : Int32).toInt = 2 := by decide
  have k3 : (3 : Int32).toInt = 3 := by decide
  have kl0 : (0 : Int64).toInt = 0 := by decide
  have kl2 : (2 : Int64).toInt = 2 := by decide
  refine lv_aload_n hx hb dX11_duty_0 rfl (lv_at hl 0 rfl) ?_
  refine lv_iconst (v := 0) hx hb dX11_duty_1 (by decide) ?_
  refine va_put (D := D) (ci := 11) (v := .int 0) (ty := .int) (C := RX11) (T := TX11) (N := 64) hx hb hts inX11_duty_X11 tyX11 tyX11_ok nmX11 hown hK hP hD hS 0 rfl rfl 0 (by decide) (hts (Cond.fieldLink RX11 1 "PortRoomsModel" "thrown" "I") (wm_t (wm_l (wm_i 0 rfl)))) (fun _ h9 => h9) rfl (tyX11_ok 0 (by decide)) rfl rfl (Nat.le_of_ble_eq_true rfl) dX11_duty_2 (fun H locs => ?_)
  clear hP hD hS
  intro hP hD hS
  replace hP : va_P D vwCl [(moC md sd (0) mst hn cn pn mq gn mln mnn ln mlt msz mcu mtk mfr mti mfa mfb an un lc td mtn), (aI cI (md 31) 36 mli), (aI cI (md 17) 12 wo), (aI cI (md 45) 60 ak), (aI cI (md 46) 60 ah), (aI cI (md 47) 60 ay), (aI cI (md 48) 60 az)] H := hP
  replace hD : va_D A [(moC md sd (0) mst hn cn pn mq gn mln mnn ln mlt msz mcu mtk mfr mti mfa mfb an un lc td mtn), (aI cI (md 31) 36 mli), (aI cI (md 17) 12 wo), (aI cI (md 45) 60 ak), (aI cI (md 46) 60 ah), (aI cI (md 47) 60 ay), (aI cI (md 48) 60 az)] := hD
  refine lv_aload_n hx hb dX11_duty_5 rfl (lv_at hl 0 rfl) ?_
  refine lv_iload_n hx hb dX11_duty_6 rfl (lv_at hl 1 rfl) ?_
  refine st_i1 (va_runV (C := RX11) (As := [.int k]) (rest := []) ⟨hx, hb, hml, hown, hts⟩ (ct_X11_isCrate l D cI cY cJ cQ _ md sd 0 mst hn cn pn mq gn mln mnn ln mlt msz mcu mtk mfr mti mfa mfb an un lc td mtn k h1 h2) (cwV 1 hts gX11_duty_X11_isCrate rfl rfl rfl ⟨rfl, cdX11_isCrate⟩ ⟨Nat.le_of_ble_eq_true rfl, Nat.le_of_ble_eq_true rfl⟩) (cPreV (hP.sub [0] rfl) hK (hD.sub [0] (by decide +kernel) rfl) hN (ci := 11) (q0 := 0) rfl rfl) rfl rfl hl.1 rfl (lv_room (Nat.le_of_ble_eq_true rfl)) dX11_duty_7 ⟨Nat.le_of_ble_eq_true rfl, Nat.le_of_ble_eq_true rfl⟩) hP hD hS hA [0] rfl (fun _ => rfl) (fun r3 u1 H locs hw2 => ?_)
  clear hP hS
  intro hP hS
  replace hw2 : r3 = if 0 ≤ k.toInt ∧ k.toInt < cn.toInt then 1 else 0 := hw2
  refine lv_if_eq (tgt := 25) hx hb dX11_duty_10 (by decide) (fun c4 => ?_) (fun c4 => ?_)
  · skip
    have f5 := bo_f hw2 c4
    refine lv_ldc hx hb hown (hts (Cond.constant RX11 157 (-1000001)) (wm_t (wm_l (wm_i 2 rfl)))) dX11_duty_25 ?_
    have hP9 := hP
    have hD9 := hD
    exact W.iret (v := (-1000001)) hx hb hr (fun t ht hW => ⟨⟨(-1000001), (), rfl, trivial, by rw [ht]; exact hP9, va_K.moved hW.alike hK, hD9⟩, hS.F ht⟩) hS.2.2 dX11_duty_27
  · skip
    have f6 := bo_t hw2 c4
    refine lv_iload_n hx hb dX11_duty_13 rfl (lv_at hl 2 rfl) ?_
    refine lv_i2l hx hb dX11_duty_14 rfl ?_
    have w7 := i_w w
    have w8 := i_rng w
    refine lv_lconst (v := 0) hx hb dX11_duty_15 (by decide) ?_
    refine lv_ldc2 hx hb hown (hts (Cond.constantLong RX11 155 (2)) (wm_t (wm_l (wm_i 1 rfl)))) dX11_duty_16 ?_
    refine st_i1 (va_runS (As := [.long (w.toInt64), .long 0, .long 2]) (rest := []) ⟨hx, hb, hml, hown, hts⟩ (ct_X11_in l D cI cY cJ cQ _ w.toInt64 (0 : Int64) (2 : Int64)) (va_cwS 3 hts gX11_duty_X11_in rfl rfl rfl cdX11_in ⟨Nat.le_of_ble_eq_true rfl, Nat.le_of_ble_eq_true rfl⟩) (cPreS (hP.sub [] rfl) hK (hD.sub [] (by decide +kernel) rfl) hN) rfl rfl hl.1 rfl (lv_room (Nat.le_of_ble_eq_true rfl)) dX11_duty_19 ⟨Nat.le_of_ble_eq_true rfl, Nat.le_of_ble_eq_true rfl⟩) hP hD hS hA [] rfl (fun _ => rfl) (fun r11 u9 H locs hw10 => ?_)
    clear hP hS
    intro hP hS
    replace hw10 : r11 = if (0 : Int64).toInt ≤ w.toInt64.toInt ∧ w.toInt64.toInt ≤ (2 : Int64).toInt then 1 else 0 := hw10
    refine lv_if_ne (tgt := 28) hx hb dX11_duty_22 (by decide) (fun c12 => ?_) (fun c12 => ?_)
    · skip
      have f13 := bo_t hw10 c12
      refine lv_ldc hx hb hown (hts (Cond.constant RX11 139 (-1000000)) (wm_t (wm_l (wm_i 3 rfl)))) dX11_duty_28 ?_
      refine lv_istore_n (lv' := [(3, .int (-1000000)), (0, .ref (md 64)), (1, .int k), (2, .int w)]) hx hb dX11_duty_30 rfl hl (by decide) rfl (fun ls hl => ?_)
      refine lv_iconst (v := 0) hx hb dX11_duty_31 (by decide) ?_
      refine lv_istore (lv' := [(4, .int 0), (3, .int (-1000000)), (0, .ref (md 64)), (1, .int k), (2, .int w)]) hx hb dX11_duty_32 hl (by decide) rfl (fun ls hl => ?_)
      refine st_loop 34 (fun _ => []) (fun (z : Int32 × Int32) (ls : Array Slot) (H : Heap) (locs : List Loc) => match z with | (q34_3, q34_4) => (0 ≤ q34_4.toInt) ∧ (q34_4.toInt ≤ an.toInt) ∧ (q34_3.toInt = -1000000 ∨ (0 ≤ q34_3.toInt ∧ q34_3.toInt < an.toInt)) ∧ (0 ≤ q34_3.toInt → ¬ (wkF mli (ah q34_3.toNatClampNeg) (az q34_3.toNatClampNeg) mln.toNatClampNeg 0).toInt = -1000000) ∧ lv_has ls 6 [(0, .ref (md 64)), (1, .int k), (2, .int w), (3, .int q34_3), (4, .int q34_4)] ∧ va_P D vwCl [(moC md sd (0) mst hn cn pn mq gn mln mnn ln mlt msz mcu mtk mfr mti mfa mfb an un lc td mtn), (aI cI (md 31) 36 mli), (aI cI (md 17) 12 wo), (aI cI (md 45) 60 ak), (aI cI (md 46) 60 ah), (aI cI (md 47) 60 ay), (aI cI (md 48) 60 az)] H ∧ va_D A [(moC md sd (0) mst hn cn pn mq gn mln mnn ln mlt msz mcu mtk mfr mti mfa mfb an un lc td mtn), (aI cI (md 31) 36 mli), (aI cI (md 17) 12 wo), (aI cI (md 45) 60 ak), (aI cI (md 46) 60 ah), (aI cI (md 47) 60 ay), (aI cI (md 48) 60 az)] ∧ va_S A s.heap H locs) (fun (z : Int32 × Int32) => match z with | (q34_3, q34_4) => an.toInt - q34_4.toInt) ?_ ?_ (((-1000000) : Int32), (0 : Int32)) ⟨(by omega), (by omega), (by omega), (by intro h9; exfalso; omega), lv_sub hl [2, 3, 4, 1, 0] rfl, hP, hD, hS⟩
      · rintro ⟨q34_3, q34_4⟩ ls H locs ⟨g14, g15, g16, g17, hl, hP, hD, hS⟩
        show (0 : Int) ≤ an.toInt - q34_4.toInt
        omega
      · rintro n20 ih18 ⟨q34_3, q34_4⟩ ls H locs ⟨g14, g15, g16, g17, hl, hP, hD, hS⟩ hm19
        have hm19 : an.toInt - q34_4.toInt < (n20 : Int) + 1 := hm19
        replace hl : lv_has ls 6 [(0, .ref (md 64)), (1, .int k), (2, .int w), (3, .int q34_3), (4, .int q34_4)] := hl
        replace hP : va_P D vwCl [(moC md sd (0) mst hn cn pn mq gn mln mnn ln mlt msz mcu mtk mfr mti mfa mfb an un lc td mtn), (aI cI (md 31) 36 mli), (aI cI (md 17) 12 wo), (aI cI (md 45) 60 ak), (aI cI (md 46) 60 ah), (aI cI (md 47) 60 ay), (aI cI (md 48) 60 az)] H := hP
        replace hD : va_D A [(moC md sd (0) mst hn cn pn mq gn mln mnn ln mlt msz mcu mtk mfr mti mfa mfb an un lc td mtn), (aI cI (md 31) 36 mli), (aI cI (md 17) 12 wo), (aI cI (md 45) 60 ak), (aI cI (md 46) 60 ah), (aI cI (md 47) 60 ay), (aI cI (md 48) 60 az)] := hD
        show W _ _ _ _ _ _ _ _ _ _ _ _ _ _ _ (F0 m 34 ls [])
        refine lv_iload hx hb dX11_duty_34 (lv_at hl 4 rfl) ?_
        refine lv_aload_n hx hb dX11_duty_36 rfl (lv_at hl 0 rfl) ?_
        refine va_get (D := D) (ci := 11) (v := .int an) (C := RX11) (T := TX11) (N := 64) hx hb hts inX11_duty_X11 hown hK hP 0 rfl rfl 44 (by decide) (hts (Cond.fieldLink RX11 319 "PortRoomsModel" "acts" "I") (wm_t (wm_l (wm_i 4 rfl)))) (fun _ h9 => h9) rfl dX11_duty_37 ?_
        refine lv_icmp_ge (tgt := 112) hx hb dX11_duty_40 (by decide) (fun c21 => ?_) (fun c21 => ?_)
        · skip
          have f22 := i_le c21
          refine lv_iload_n hx hb dX11_duty_112 rfl (lv_at hl 3 rfl) ?_
          refine lv_ldc hx hb hown (hts (Cond.constant RX11 139 (-1000000)) (wm_t (wm_l (wm_i 3 rfl)))) dX11_duty_113 ?_
          refine lv_icmp_ne (tgt := 129) hx hb dX11_duty_115 (by decide) (fun c23 => ?_) (fun c23 => ?_)
          · skip
            have f24 := i_ne c23
            refine lv_iload_n hx hb dX11_duty_129 rfl (lv_at hl 2 rfl) ?_
            refine lv_iconst (v := 1) hx hb dX11_duty_130 (by decide) ?_
            refine lv_icmp_ne (tgt := 143) hx hb dX11_duty_131 (by decide) (fun c25 => ?_) (fun c25 => ?_)
            · skip
              have f26 := i_ne c25
              refine lv_iload_n hx hb dX11_duty_143 rfl (lv_at hl 2 rfl) ?_
              refine lv_iconst (v := 2) hx hb dX11_duty_144 (by decide) ?_
              refine lv_icmp_ne (tgt := 156) hx hb dX11_duty_145 (by decide) (fun c27 => ?_) (fun c27 => ?_)
              · skip
                have f28 := i_ne c27
                refine lv_aload_n hx hb dX11_duty_156 rfl (lv_at hl 0 rfl) ?_
                refine va_get (D := D) (ci := 11) (v := .ref (md 17)) (C := RX11) (T := TX11) (N := 64) hx hb hts inX11_duty_X11 hown hK hP 0 rfl rfl 17 (by decide) (hts (Cond.fieldLink RX11 51 "PortRoomsModel" "worth" "[I") (wm_t (wm_l (wm_i 7 rfl)))) (fun _ h9 => h9) rfl dX11_duty_157 ?_
                refine lv_iload_n hx hb dX11_duty_160 rfl (lv_at hl 1 rfl) ?_
                refine va_iald hx hb hK hP 2 0 rfl rfl (i_in (by omega) (by omega)) dX11_duty_161 ?_
                refine lv_topi (fun v29 ev29 => ?_)
                refine lv_aload_n hx hb dX11_duty_162 rfl (lv_at hl 0 rfl) ?_
                refine va_get (D := D) (ci := 11) (v := .ref (md 31)) (C := RX11) (T := TX11) (N := 64) hx hb hts inX11_duty_X11 hown hK hP 0 rfl rfl 31 (by decide) (hts (Cond.fieldLink RX11 81 "PortRoomsModel" "line" "[I") (wm_t (wm_l (wm_i 8 rfl)))) (fun _ h9 => h9) rfl dX11_duty_163 ?_
                refine lv_iconst (v := 3) hx hb dX11_duty_166 (by decide) ?_
                refine lv_aload_n hx hb dX11_duty_167 rfl (lv_at hl 0 rfl) ?_
                refine lv_iload_n hx hb dX11_duty_168 rfl (lv_at hl 3 rfl) ?_
                refine st_i1 (va_runV (C := RX11) (As := [.int q34_3]) (rest := [.int 3, .ref (md 31), .int v29]) ⟨hx, hb, hml, hown, hts⟩ (ct_X11_wakes l D cI cY cJ cQ _ md sd 0 mst hn cn pn mq gn mln mnn ln mlt msz mcu mtk mfr mti mfa mfb an un lc td mtn mli ak ah ay az q34_3 h3 h4 (by omega) (by omega)) (cwV 1 hts gX11_duty_X11_wakes rfl rfl rfl ⟨rfl, cdX11_wakes⟩ ⟨Nat.le_of_ble_eq_true rfl, Nat.le_of_ble_eq_true rfl⟩) (cPreV (hP.sub [0, 1, 3, 4, 5, 6] rfl) hK (hD.sub [0, 1, 3, 4, 5, 6] (by decide +kernel) rfl) hN (ci := 11) (q0 := 0) rfl rfl) rfl rfl hl.1 rfl (lv_room (Nat.le_of_ble_eq_true rfl)) dX11_duty_169 ⟨Nat.le_of_ble_eq_true rfl, Nat.le_of_ble_eq_true rfl⟩) hP hD hS hA [0, 1, 3, 4, 5, 6] rfl (fun _ => rfl) (fun r32 u30 H locs hw31 => ?_)
                clear hP hS
                intro hP hS
                replace hw31 : r32 = wkF mli (ah q34_3.toNatClampNeg) (az q34_3.toNatClampNeg) mln.toNatClampNeg 0 := hw31
                have hw31r := wkF_rng mli (ah q34_3.toNatClampNeg) (az q34_3.toNatClampNeg) mln.toNatClampNeg 0 (by have := i_cl (x := mln) (by omega); omega)
                have hw31t := i_eq hw31
                have cmhw31 := i_cl (x := mln) (by omega)
                refine lv_imul hx hb dX11_duty_172 ?_
                refine lv_topi (fun v33 ev33 => ?_)
                try have tv33 : v33.toInt = 3 * r32.toInt := by rw [ev33]; exact (i_mul (x := (3 : Int32)) (y := r32) (by rw [k3]; omega) (by rw [k3]; omega)).trans (by rw [k3])
                refine lv_iconst (v := 2) hx hb dX11_duty_173 (by decide) ?_
                refine lv_iadd hx hb dX11_duty_174 ?_
                refine lv_topi (fun v34 ev34 => ?_)
                try have tv34 : v34.toInt = v33.toInt + 2 := by rw [ev34]; exact (i_add (x := v33) (y := (2 : Int32)) (by rw [k2]; omega) (by rw [k2]; omega)).trans (by rw [k2])
                refine va_iald hx hb hK hP 1 0 rfl rfl (i_in (by omega) (by omega)) dX11_duty_175 ?_
                refine lv_topi (fun v35 ev35 => ?_)
                refine lv_imul hx hb dX11_duty_176 ?_
                refine lv_topi (fun v36 ev36 => ?_)
                refine lv_bipush (v := 100) hx hb dX11_duty_177 (by decide) ?_
                refine lv_idiv hx hb dX11_duty_179 (by decide) ?_
                refine lv_topi (fun v37 ev37 => ?_)
                have hP9 := hP
                have hD9 := hD
                exact W.iret (v := v37) hx hb hr (fun t ht hW => ⟨⟨v37, (), rfl, trivial, by rw [ht]; exact hP9, va_K.moved hW.alike hK, hD9⟩, hS.F ht⟩) hS.2.2 dX11_duty_180
              · skip
                have f38 := i_eq c27
                refine lv_aload_n hx hb dX11_duty_148 rfl (lv_at hl 0 rfl) ?_
                refine lv_iload_n hx hb dX11_duty_149 rfl (lv_at hl 3 rfl) ?_
                refine st_i1 (va_runV (C := RX11) (As := [.int q34_3]) (rest := []) ⟨hx, hb, hml, hown, hts⟩ (ct_X11_wakes l D cI cY cJ cQ _ md sd 0 mst hn cn pn mq gn mln mnn ln mlt msz mcu mtk mfr mti mfa mfb an un lc td mtn mli ak ah ay az q34_3 h3 h4 (by omega) (by omega)) (cwV 1 hts gX11_duty_X11_wakes rfl rfl rfl ⟨rfl, cdX11_wakes⟩ ⟨Nat.le_of_ble_eq_true rfl, Nat.le_of_ble_eq_true rfl⟩) (cPreV (hP.sub [0, 1, 3, 4, 5, 6] rfl) hK (hD.sub [0, 1, 3, 4, 5, 6] (by decide +kernel) rfl) hN (ci := 11) (q0 := 0) rfl rfl) rfl rfl hl.1 rfl (lv_room (Nat.le_of_ble_eq_true rfl)) dX11_duty_150 ⟨Nat.le_of_ble_eq_true rfl, Nat.le_of_ble_eq_true rfl⟩) hP hD hS hA [0, 1, 3, 4, 5, 6] rfl (fun _ => rfl) (fun r41 u39 H locs hw40 => ?_)
                clear hP hS
                intro hP hS
                replace hw40 : r41 = wkF mli (ah q34_3.toNatClampNeg) (az q34_3.toNatClampNeg) mln.toNatClampNeg 0 := hw40
                have hw40r := wkF_rng mli (ah q34_3.toNatClampNeg) (az q34_3.toNatClampNeg) mln.toNatClampNeg 0 (by have := i_cl (x := mln) (by omega); omega)
                have hw40t := i_eq hw40
                have cmhw40 := i_cl (x := mln) (by omega)
                refine lv_goto (tgt := 180) hx hb dX11_duty_153 (by decide) ?_
                have hP9 := hP
                have hD9 := hD
                exact W.iret (v := r41) hx hb hr (fun t ht hW => ⟨⟨r41, (), rfl, trivial, by rw [ht]; exact hP9, va_K.moved hW.alike hK, hD9⟩, hS.F ht⟩) hS.2.2 dX11_duty_180
            · skip
              have f42 := i_eq c25
              refine lv_aload_n hx hb dX11_duty_134 rfl (lv_at hl 0 rfl) ?_
              refine va_get (D := D) (ci := 11) (v := .ref (md 47)) (C := RX11) (T := TX11) (N := 64) hx hb hts inX11_duty_X11 hown hK hP 0 rfl rfl 47 (by decide) (hts (Cond.fieldLink RX11 96 "PortRoomsModel" "actDay" "[I") (wm_t (wm_l (wm_i 6 rfl)))) (fun _ h9 => h9) rfl dX11_duty_135 ?_
              refine lv_iload_n hx hb dX11_duty_138 rfl (lv_at hl 3 rfl) ?_
              refine va_iald hx hb hK hP 5 0 rfl rfl (i_in (by omega) (by omega)) dX11_duty_139 ?_
              refine lv_topi (fun v43 ev43 => ?_)
              refine lv_goto (tgt := 180) hx hb dX11_duty_140 (by decide) ?_
              have hP9 := hP
              have hD9 := hD
              exact W.iret (v := v43) hx hb hr (fun t ht hW => ⟨⟨v43, (), rfl, trivial, by rw [ht]; exact hP9, va_K.moved hW.alike hK, hD9⟩, hS.F ht⟩) hS.2.2 dX11_duty_180
          · skip
            have f44 := i_eq c23
            refine lv_iload_n hx hb dX11_duty_118 rfl (lv_at hl 2 rfl) ?_
            refine lv_if_ne (tgt := 126) hx hb dX11_duty_119 (by decide) (fun c45 => ?_) (fun c45 => ?_)
            · skip
              have f46 := i_ne c45
              refine lv_ldc hx hb hown (hts (Cond.constant RX11 139 (-1000000)) (wm_t (wm_l (wm_i 3 rfl)))) dX11_duty_126 ?_
              have hP9 := hP
              have hD9 := hD
              exact W.iret (v := (-1000000)) hx hb hr (fun t ht hW => ⟨⟨(-1000000), (), rfl, trivial, by rw [ht]; exact hP9, va_K.moved hW.alike hK, hD9⟩, hS.F ht⟩) hS.2.2 dX11_duty_128
            · skip
              have f47 := i_eq c45
              refine lv_iconst (v := 0) hx hb dX11_duty_122 (by decide) ?_
              refine lv_goto (tgt := 128) hx hb dX11_duty_123 (by decide) ?_
              have hP9 := hP
              have hD9 := hD
              exact W.iret (v := 0) hx hb hr (fun t ht hW => ⟨⟨0, (), rfl, trivial, by rw [ht]; exact hP9, va_K.moved hW.alike hK, hD9⟩, hS.F ht⟩) hS.2.2 dX11_duty_128
        · skip
          have f48 := i_nle c21
          refine lv_aload_n hx hb dX11_duty_43 rfl (lv_at hl 0 rfl) ?_
          refine va_get (D := D) (ci := 11) (v := .ref (md 45)) (C := RX11) (T := TX11) (N := 64) hx hb hts inX11_duty_X11 hown hK hP 0 rfl rfl 45 (by decide) (hts (Cond.fieldLink RX11 90 "PortRoomsModel" "actCrate" "[I") (wm_t (wm_l (wm_i 5 rfl)))) (fun _ h9 => h9) rfl dX11_duty_44 ?_
          refine lv_iload hx hb dX11_duty_47 (lv_at hl 4 rfl) ?_
          refine va_iald hx hb hK hP 3 0 rfl rfl (i_in (by omega) (by omega)) dX11_duty_49 ?_
          refine lv_topi (fun v49 ev49 => ?_)
          refine lv_iload_n hx hb dX11_duty_50 rfl (lv_at hl 1 rfl) ?_
          refine lv_icmp_ne (tgt := 69) hx hb dX11_duty_51 (by decide) (fun c50 => ?_) (fun c50 => ?_)
          · skip
            have f51 := i_ne c50
            refine lv_iconst (v := 0) hx hb dX11_duty_69 (by decide) ?_
            refine lv_istore (lv' := [(5, .int 0), (0, .ref (md 64)), (1, .int k), (2, .int w), (3, .int q34_3), (4, .int q34_4)]) hx hb dX11_duty_70 hl (by decide) rfl (fun ls hl => ?_)
            refine lv_iload hx hb dX11_duty_72 (lv_at hl 0 rfl) ?_
            refine lv_if_eq (tgt := 104) hx hb dX11_duty_74 (by decide) (fun _ => ?_) (fun c => absurd (by decide) c)
            refine lv_iload_n hx hb dX11_duty_104 rfl (lv_at hl 4 rfl) ?_
            refine lv_istore_n (lv' := [(3, .int q34_3), (5, .int 0), (0, .ref (md 64)), (1, .int k), (2, .int w), (4, .int q34_4)]) hx hb dX11_duty_105 rfl hl (by decide) rfl (fun ls hl => ?_)
            obtain ⟨v52, ev52⟩ : ∃ y : Int32, y = q34_4 + 1 := ⟨_, rfl⟩
            try have tv52 : v52.toInt = q34_4.toInt + 1 := by rw [ev52]; exact (i_add (x := q34_4) (y := (1 : Int32)) (by rw [k1]; omega) (by rw [k1]; omega)).trans (by rw [k1])
            refine lv_iinc (v := v52) (lv' := [(4, .int v52), (3, .int q34_3), (5, .int 0), (0, .ref (md 64)), (1, .int k), (2, .int w)]) hx hb dX11_duty_106 hl (k := 5) rfl (by rw [ev52]; rfl) (by decide) rfl (fun ls hl => ?_)
            refine lv_goto (tgt := 34) hx hb dX11_duty_109 (by decide) ?_
            exact ih18 (q34_3, v52) ls H locs ⟨(by omega), (by omega), (by omega), (by first | exact g17 | (intro _; omega) | (intro _; simp only [← ‹_ = wkF _ _ _ _ _›]; omega)), lv_sub hl [3, 4, 5, 1, 0] rfl, hP.sub [0, 1, 2, 3, 4, 5, 6] rfl, hD.sub [0, 1, 2, 3, 4, 5, 6] (by decide +kernel) rfl, hS⟩ (by show an.toInt - v52.toInt < _; omega)
          · skip
            have f53 := i_eq c50
            refine lv_aload_n hx hb dX11_duty_54 rfl (lv_at hl 0 rfl) ?_
            refine lv_iload hx hb dX11_duty_55 (lv_at hl 4 rfl) ?_
            refine st_i1 (va_runV (C := RX11) (As := [.int q34_4]) (rest := []) ⟨hx, hb, hml, hown, hts⟩ (ct_X11_wakes l D cI cY cJ cQ _ md sd 0 mst hn cn pn mq gn mln mnn ln mlt msz mcu mtk mfr mti mfa mfb an un lc td mtn mli ak ah ay az q34_4 h3 h4 (by omega) (by omega)) (cwV 1 hts gX11_duty_X11_wakes rfl rfl rfl ⟨rfl, cdX11_wakes⟩ ⟨Nat.le_of_ble_eq_true rfl, Nat.le_of_ble_eq_true rfl⟩) (cPreV (hP.sub [0, 1, 3, 4, 5, 6] rfl) hK (hD.sub [0, 1, 3, 4, 5, 6] (by decide +kernel) rfl) hN (ci := 11) (q0 := 0) rfl rfl) rfl rfl hl.1 rfl (lv_room (Nat.le_of_ble_eq_true rfl)) dX11_duty_57 ⟨Nat.le_of_ble_eq_true rfl, Nat.le_of_ble_eq_true rfl⟩) hP hD hS hA [0, 1, 3, 4, 5, 6] rfl (fun _ => rfl) (fun r56 u54 H locs hw55 => ?_)
            clear hP hS
            intro hP hS
            replace hw55 : r56 = wkF mli (ah q34_4.toNatClampNeg) (az q34_4.toNatClampNeg) mln.toNatClampNeg 0 := hw55
            have hw55r := wkF_rng mli (ah q34_4.toNatClampNeg) (az q34_4.toNatClampNeg) mln.toNatClampNeg 0 (by have := i_cl (x := mln) (by omega); omega)
            have hw55t := i_eq hw55
            have cmhw55 := i_cl (x := mln) (by omega)
            refine lv_ldc hx hb hown (hts (Cond.constant RX11 139 (-1000000)) (wm_t (wm_l (wm_i 3 rfl)))) dX11_duty_60 ?_
            refine lv_icmp_eq (tgt := 69) hx hb dX11_duty_62 (by decide) (fun c57 => ?_) (fun c57 => ?_)
            · skip
              have f58 := i_eq c57
              refine lv_iconst (v := 0) hx hb dX11_duty_69 (by decide) ?_
              refine lv_istore (lv' := [(5, .int 0), (0, .ref (md 64)), (1, .int k), (2, .int w), (3, .int q34_3), (4, .int q34_4)]) hx hb dX11_duty_70 hl (by decide) rfl (fun ls hl => ?_)
              refine lv_iload hx hb dX11_duty_72 (lv_at hl 0 rfl) ?_
              refine lv_if_eq (tgt := 104) hx hb dX11_duty_74 (by decide) (fun _ => ?_) (fun c => absurd (by decide) c)
              refine lv_iload_n hx hb dX11_duty_104 rfl (lv_at hl 4 rfl) ?_
              refine lv_istore_n (lv' := [(3, .int q34_3), (5, .int 0), (0, .ref (md 64)), (1, .int k), (2, .int w), (4, .int q34_4)]) hx hb dX11_duty_105 rfl hl (by decide) rfl (fun ls hl => ?_)
              obtain ⟨v59, ev59⟩ : ∃ y : Int32, y = q34_4 + 1 := ⟨_, rfl⟩
              try have tv59 : v59.toInt = q34_4.toInt + 1 := by rw [ev59]; exact (i_add (x := q34_4) (y := (1 : Int32)) (by rw [k1]; omega) (by rw [k1]; omega)).trans (by rw [k1])
              refine lv_iinc (v := v59) (lv' := [(4, .int v59), (3, .int q34_3), (5, .int 0), (0, .ref (md 64)), (1, .int k), (2, .int w)]) hx hb dX11_duty_106 hl (k := 5) rfl (by rw [ev59]; rfl) (by decide) rfl (fun ls hl => ?_)
              refine lv_goto (tgt := 34) hx hb dX11_duty_109 (by decide) ?_
              exact ih18 (q34_3, v59) ls H locs ⟨(by omega), (by omega), (by omega), (by first | exact g17 | (intro _; omega) | (intro _; simp only [← ‹_ = wkF _ _ _ _ _›]; omega)), lv_sub hl [3, 4, 5, 1, 0] rfl, hP.sub [0, 1, 2, 3, 4, 5, 6] rfl, hD.sub [0, 1, 2, 3, 4, 5, 6] (by decide +kernel) rfl, hS⟩ (by show an.toInt - v59.toInt < _; omega)
            · skip
              have f60 := i_ne c57
              refine lv_iconst (v := 1) hx hb dX11_duty_65 (by decide) ?_
              refine lv_goto (tgt := 70) hx hb dX11_duty_66 (by decide) ?_
              refine lv_istore (lv' := [(5, .int 1), (0, .ref (md 64)), (1, .int k), (2, .int w), (3, .int q34_3), (4, .int q34_4)]) hx hb dX11_duty_70 hl (by decide) rfl (fun ls hl => ?_)
              refine lv_iload hx hb dX11_duty_72 (lv_at hl 0 rfl) ?_
              refine lv_if_eq (tgt := 104) hx hb dX11_duty_74 (by decide) (fun c => absurd c (by decide)) (fun _ => ?_)
              refine lv_iload_n hx hb dX11_duty_77 rfl (lv_at hl 4 rfl) ?_
              refine lv_ldc hx hb hown (hts (Cond.constant RX11 139 (-1000000)) (wm_t (wm_l (wm_i 3 rfl)))) dX11_duty_78 ?_
              refine lv_icmp_eq (tgt := 99) hx hb dX11_duty_80 (by decide) (fun c61 => ?_) (fun c61 => ?_)
              · skip
                have f62 := i_eq c61
                refine lv_iload hx hb dX11_duty_99 (lv_at hl 5 rfl) ?_
                refine lv_goto (tgt := 105) hx hb dX11_duty_101 (by decide) ?_
                refine lv_istore_n (lv' := [(3, .int q34_4), (5, .int 1), (0, .ref (md 64)), (1, .int k), (2, .int w), (4, .int q34_4)]) hx hb dX11_duty_105 rfl hl (by decide) rfl (fun ls hl => ?_)
                obtain ⟨v63, ev63⟩ : ∃ y : Int32, y = q34_4 + 1 := ⟨_, rfl⟩
                try have tv63 : v63.toInt = q34_4.toInt + 1 := by rw [ev63]; exact (i_add (x := q34_4) (y := (1 : Int32)) (by rw [k1]; omega) (by rw [k1]; omega)).trans (by rw [k1])
                refine lv_iinc (v := v63) (lv' := [(4, .int v63), (3, .int q34_4), (5, .int 1), (0, .ref (md 64)), (1, .int k), (2, .int w)]) hx hb dX11_duty_106 hl (k := 5) rfl (by rw [ev63]; rfl) (by decide) rfl (fun ls hl => ?_)
                refine lv_goto (tgt := 34) hx hb dX11_duty_109 (by decide) ?_
                exact ih18 (q34_4, v63) ls H locs ⟨(by omega), (by omega), (by omega), (by first | exact g17 | (intro _; omega) | (intro _; simp only [← ‹_ = wkF _ _ _ _ _›]; omega)), lv_sub hl [3, 4, 5, 1, 0] rfl, hP.sub [0, 1, 2, 3, 4, 5, 6] rfl, hD.sub [0, 1, 2, 3, 4, 5, 6] (by decide +kernel) rfl, hS⟩ (by show an.toInt - v63.toInt < _; omega)
              · skip
                have f64 := i_ne c61
                refine lv_aload_n hx hb dX11_duty_83 rfl (lv_at hl 1 rfl) ?_
                refine va_get (D := D) (ci := 11) (v := .ref (md 47)) (C := RX11) (T := TX11) (N := 64) hx hb hts inX11_duty_X11 hown hK hP 0 rfl rfl 47 (by decide) (hts (Cond.fieldLink RX11 96 "PortRoomsModel" "actDay" "[I") (wm_t (wm_l (wm_i 6 rfl)))) (fun _ h9 => h9) rfl dX11_duty_84 ?_
                refine lv_iload hx hb dX11_duty_87 (lv_at hl 5 rfl) ?_
                refine va_iald hx hb hK hP 5 0 rfl rfl (i_in (by omega) (by omega)) dX11_duty_89 ?_
                refine lv_topi (fun v65 ev65 => ?_)
                refine lv_aload_n hx hb dX11_duty_90 rfl (lv_at hl 1 rfl) ?_
                refine va_get (D := D) (ci := 11) (v := .ref (md 47)) (C := RX11) (T := TX11) (N := 64) hx hb hts inX11_duty_X11 hown hK hP 0 rfl rfl 47 (by decide) (hts (Cond.fieldLink RX11 96 "PortRoomsModel" "actDay" "[I") (wm_t (wm_l (wm_i 6 rfl)))) (fun _ h9 => h9) rfl dX11_duty_91 ?_
                refine lv_iload_n hx hb dX11_duty_94 rfl (lv_at hl 4 rfl) ?_
                refine va_iald hx hb hK hP 5 0 rfl rfl (i_in (by omega) (by omega)) dX11_duty_95 ?_
                refine lv_topi (fun v66 ev66 => ?_)
                refine lv_icmp_ge (tgt := 104) hx hb dX11_duty_96 (by decide) (fun c67 => ?_) (fun c67 => ?_)
                · skip
                  have f68 := i_le c67
                  refine lv_iload_n hx hb dX11_duty_104 rfl (lv_at hl 4 rfl) ?_
                  refine lv_istore_n (lv' := [(3, .int q34_3), (5, .int 1), (0, .ref (md 64)), (1, .int k), (2, .int w), (4, .int q34_4)]) hx hb dX11_duty_105 rfl hl (by decide) rfl (fun ls hl => ?_)
                  obtain ⟨v69, ev69⟩ : ∃ y : Int32, y = q34_4 + 1 := ⟨_, rfl⟩
                  try have tv69 : v69.toInt = q34_4.toInt + 1 := by rw [ev69]; exact (i_add (x := q34_4) (y := (1 : Int32)) (by rw [k1]; omega) (by rw [k1]; omega)).trans (by rw [k1])
                  refine lv_iinc (v := v69) (lv' := [(4, .int v69), (3, .int q34_3), (5, .int 1), (0, .ref (md 64)), (1, .int k), (2, .int w)]) hx hb dX11_duty_106 hl (k := 5) rfl (by rw [ev69]; rfl) (by decide) rfl (fun ls hl => ?_)
                  refine lv_goto (tgt := 34) hx hb dX11_duty_109 (by decide) ?_
                  exact ih18 (q34_3, v69) ls H locs ⟨(by omega), (by omega), (by omega), (by first | exact g17 | (intro _; omega) | (intro _; simp only [← ‹_ = wkF _ _ _ _ _›]; omega)), lv_sub hl [3, 4, 5, 1, 0] rfl, hP.sub [0, 1, 2, 3, 4, 5, 6] rfl, hD.sub [0, 1, 2, 3, 4, 5, 6] (by decide +kernel) rfl, hS⟩ (by show an.toInt - v69.toInt < _; omega)
                · skip
                  have f70 := i_nle c67
                  refine lv_iload hx hb dX11_duty_99 (lv_at hl 5 rfl) ?_
                  refine lv_goto (tgt := 105) hx hb dX11_duty_101 (by decide) ?_
                  refine lv_istore_n (lv' := [(3, .int q34_4), (5, .int 1), (0, .ref (md 64)), (1, .int k), (2, .int w), (4, .int q34_4)]) hx hb dX11_duty_105 rfl hl (by decide) rfl (fun ls hl => ?_)
                  obtain ⟨v71, ev71⟩ : ∃ y : Int32, y = q34_4 + 1 := ⟨_, rfl⟩
                  try have tv71 : v71.toInt = q34_4.toInt + 1 := by rw [ev71]; exact (i_add (x := q34_4) (y := (1 : Int32)) (by rw [k1]; omega) (by rw [k1]; omega)).trans (by rw [k1])
                  refine lv_iinc (v := v71) (lv' := [(4, .int v71), (3, .int q34_4), (5, .int 1), (0, .ref (md 64)), (1, .int k), (2, .int w)]) hx hb dX11_duty_106 hl (k := 5) rfl (by rw [ev71]; rfl) (by decide) rfl (fun ls hl => ?_)
                  refine lv_goto (tgt := 34) hx hb dX11_duty_109 (by decide) ?_
                  exact ih18 (q34_4, v71) ls H locs ⟨(by omega), (by omega), (by omega), (by first | exact g17 | (intro _; omega) | (intro _; simp only [← ‹_ = wkF _ _ _ _ _›]; omega)), lv_sub hl [3, 4, 5, 1, 0] rfl, hP.sub [0, 1, 2, 3, 4, 5, 6] rfl, hD.sub [0, 1, 2, 3, 4, 5, 6] (by decide +kernel) rfl, hS⟩ (by show an.toInt - v71.toInt < _; omega)
    · skip
      have f72 := bo_f hw10 c12
      refine lv_ldc hx hb hown (hts (Cond.constant RX11 157 (-1000001)) (wm_t (wm_l (wm_i 2 rfl)))) dX11_duty_25 ?_
      have hP9 := hP
      have hD9 := hD
      exact W.iret (v := (-1000001)) hx hb hr (fun t ht hW => ⟨⟨(-1000001), (), rfl, trivial, by rw [ht]; exact hP9, va_K.moved hW.alike hK, hD9⟩, hS.F ht⟩) hS.2.2 dX11_duty_27
end
