theorem cdX11_found : yX11_found.cls ≠ "java/lang/invoke/MethodHandle" ∧ yX11_found.cls ≠ "java/lang/invoke/VarHandle" ∧ (parseMethodDescriptor yX11_found.desc).map (fun d => d.parameters.length) = some 1 := by decide +kernel
theorem cdX11_isSheet : yX11_isSheet.cls ≠ "java/lang/invoke/MethodHandle" ∧ yX11_isSheet.cls ≠ "java/lang/invoke/VarHandle" ∧ (parseMethodDescriptor yX11_isSheet.desc).map (fun d => d.parameters.length) = some 1 := by decide +kernel
theorem Gd_X11_found : gdA wsX11_found := gd_cons (by decide +kernel) (gd_app (gd_all (ws := wsX11_found_o1) (by decide +kernel)) Gd_X110)
theorem Gd_X11_isSheet : gdA wsX11_isSheet := gd_cons (by decide +kernel) (gd_app (gd_all (ws := wsX11_isSheet_o1) (by decide +kernel)) Gd_X11_in)
theorem inX11_sheet_X11 : ∀ w ∈ u_ws RX11 TX11 64, w ∈ wsX11_sheet := fun _ h => (List.mem_cons_of_mem _ (List.mem_append_right _ (List.mem_append_left _ (List.mem_append_left _ h))))
theorem inX11_set_X11 : ∀ w ∈ u_ws RX11 TX11 64, w ∈ wsX11_set := fun _ h => (List.mem_cons_of_mem _ (List.mem_append_right _ (List.mem_append_left _ (List.mem_append_left _ h))))
theorem inX11_copy_X11 : ∀ w ∈ u_ws RX11 TX11 64, w ∈ wsX11_copy := fun _ h => (List.mem_cons_of_mem _ (List.mem_append_right _ (List.mem_append_left _ (List.mem_append_left _ h))))
theorem inX11_drop_X11 : ∀ w ∈ u_ws RX11 TX11 64, w ∈ wsX11_drop := fun _ h => (List.mem_cons_of_mem _ (List.mem_append_right _ (List.mem_append_left _ (List.mem_append_left _ h))))
theorem inX11_holds_X11 : ∀ w ∈ u_ws RX11 TX11 64, w ∈ wsX11_holds := fun _ h => (List.mem_cons_of_mem _ (List.mem_append_right _ (List.mem_append_left _ (List.mem_append_left _ (List.mem_append_left _ h)))))
theorem ggX11_sheet_X11_isSheet : GoodIn wsX11_sheet wsX11_isSheet := goodIn_s (fun _ h => wm_t (wm_r (wm_l (wm_r h)))) Gd_X11_isSheet
theorem gX11_sheet_X11_isSheet : GoodIn wsX11_sheet (va_wsS RX11 151 yX11_isSheet wsX11_isSheet) := goodIn_S (own := RX11) (idx := 151) (y := yX11_isSheet) (wm_t (wm_l (wm_i 7 rfl))) (wm_t (wm_l (wm_i 8 rfl))) (wm_t (wm_l (wm_i 9 rfl))) ggX11_sheet_X11_isSheet
theorem ggX11_sheet_X11_in : GoodIn wsX11_sheet wsX11_in := goodIn_s (fun _ h => wm_t (wm_r (wm_r (wm_l h)))) Gd_X11_in
theorem gX11_sheet_X11_in : GoodIn wsX11_sheet (va_wsS RX11 147 yX11_in wsX11_in) := goodIn_S (own := RX11) (idx := 147) (y := yX11_in) (wm_t (wm_l (wm_i 10 rfl))) (wm_t (wm_l (wm_i 11 rfl))) (wm_t (wm_l (wm_i 9 rfl))) ggX11_sheet_X11_in
theorem ggX11_sheet_X11_found : GoodIn wsX11_sheet wsX11_found := goodIn_s (fun _ h => wm_t (wm_r (wm_r (wm_r h)))) Gd_X11_found
theorem gX11_sheet_X11_found : GoodIn wsX11_sheet (wsV RX11 158 RX11 yX11_found wsX11_found) := goodIn_V (own := RX11) (idx := 158) (C := RX11) (y := yX11_found) (wm_t (wm_l (wm_i 12 rfl))) (wm_t (wm_l (wm_i 13 rfl))) (wm_t (wm_l (wm_i 14 rfl))) (wm_t (wm_l (wm_i 9 rfl))) ggX11_sheet_X11_found
theorem dX11_sheet_all0 : decode cX11_sheet 0 = .ok (.aload_n 0, 1) ∧ decode cX11_sheet 1 = .ok (.iconst 0, 1) ∧ decode cX11_sheet 2 = .ok (.putfield 1, 3) ∧ decode cX11_sheet 5 = .ok (.iload_n 1, 1) ∧ decode cX11_sheet 6 = .ok (.invokestatic 151, 3) ∧ decode cX11_sheet 9 = .ok (.ifCond .eq 21, 3) ∧ decode cX11_sheet 12 = .ok (.iload_n 2, 1) ∧ decode cX11_sheet 13 = .ok (.i2l, 1) ∧ decode cX11_sheet 14 = .ok (.lconst 0, 1) ∧ decode cX11_sheet 15 = .ok (.ldc2_w 155, 3) ∧ decode cX11_sheet 18 = .ok (.invokestatic 147, 3) ∧ decode cX11_sheet 21 = .ok (.ifCond .eq 9, 3) := by decide +kernel
theorem dX11_sheet_0 : decode cX11_sheet 0 = .ok (.aload_n 0, 1) := dX11_sheet_all0.1
theorem dX11_sheet_1 : decode cX11_sheet 1 = .ok (.iconst 0, 1) := dX11_sheet_all0.2.1
theorem dX11_sheet_2 : decode cX11_sheet 2 = .ok (.putfield 1, 3) := dX11_sheet_all0.2.2.1
theorem dX11_sheet_5 : decode cX11_sheet 5 = .ok (.iload_n 1, 1) := dX11_sheet_all0.2.2.2.1
theorem dX11_sheet_6 : decode cX11_sheet 6 = .ok (.invokestatic 151, 3) := dX11_sheet_all0.2.2.2.2.1
theorem dX11_sheet_9 : decode cX11_sheet 9 = .ok (.ifCond .eq 21, 3) := dX11_sheet_all0.2.2.2.2.2.1
theorem dX11_sheet_12 : decode cX11_sheet 12 = .ok (.iload_n 2, 1) := dX11_sheet_all0.2.2.2.2.2.2.1
theorem dX11_sheet_13 : decode cX11_sheet 13 = .ok (.i2l, 1) := dX11_sheet_all0.2.2.2.2.2.2.2.1
theorem dX11_sheet_14 : decode cX11_sheet 14 = .ok (.lconst 0, 1) := dX11_sheet_all0.2.2.2.2.2.2.2.2.1
theorem dX11_sheet_15 : decode cX11_sheet 15 = .ok (.ldc2_w 155, 3) := dX11_sheet_all0.2.2.2.2.2.2.2.2.2.1
theorem dX11_sheet_18 : decode cX11_sheet 18 = .ok (.invokestatic 147, 3) := dX11_sheet_all0.2.2.2.2.2.2.2.2.2.2.1
theorem dX11_sheet_21 : decode cX11_sheet 21 = .ok (.ifCond .eq 9, 3) := dX11_sheet_all0.2.2.2.2.2.2.2.2.2.2.2
theorem dX11_sheet_all1 : decode cX11_sheet 24 = .ok (.iload_n 3, 1) ∧ decode cX11_sheet 25 = .ok (.bipush 60, 2) ∧ decode cX11_sheet 27 = .ok (.if_icmp .le 6, 3) ∧ decode cX11_sheet 30 = .ok (.ldc 157, 2) ∧ decode cX11_sheet 32 = .ok (.ireturn, 1) ∧ decode cX11_sheet 33 = .ok (.aload_n 0, 1) ∧ decode cX11_sheet 34 = .ok (.iconst 0, 1) ∧ decode cX11_sheet 35 = .ok (.putfield 141, 3) ∧ decode cX11_sheet 38 = .ok (.iload_n 3, 1) ∧ decode cX11_sheet 39 = .ok (.ifCond .ge 9, 3) ∧ decode cX11_sheet 42 = .ok (.aload_n 0, 1) ∧ decode cX11_sheet 43 = .ok (.iconst 4, 1) := by decide +kernel
theorem dX11_sheet_24 : decode cX11_sheet 24 = .ok (.iload_n 3, 1) := dX11_sheet_all1.1
theorem dX11_sheet_25 : decode cX11_sheet 25 = .ok (.bipush 60, 2) := dX11_sheet_all1.2.1
theorem dX11_sheet_27 : decode cX11_sheet 27 = .ok (.if_icmp .le 6, 3) := dX11_sheet_all1.2.2.1
theorem dX11_sheet_30 : decode cX11_sheet 30 = .ok (.ldc 157, 2) := dX11_sheet_all1.2.2.2.1
theorem dX11_sheet_32 : decode cX11_sheet 32 = .ok (.ireturn, 1) := dX11_sheet_all1.2.2.2.2.1
theorem dX11_sheet_33 : decode cX11_sheet 33 = .ok (.aload_n 0, 1) := dX11_sheet_all1.2.2.2.2.2.1
theorem dX11_sheet_34 : decode cX11_sheet 34 = .ok (.iconst 0, 1) := dX11_sheet_all1.2.2.2.2.2.2.1
theorem dX11_sheet_35 : decode cX11_sheet 35 = .ok (.putfield 141, 3) := dX11_sheet_all1.2.2.2.2.2.2.2.1
theorem dX11_sheet_38 : decode cX11_sheet 38 = .ok (.iload_n 3, 1) := dX11_sheet_all1.2.2.2.2.2.2.2.2.1
theorem dX11_sheet_39 : decode cX11_sheet 39 = .ok (.ifCond .ge 9, 3) := dX11_sheet_all1.2.2.2.2.2.2.2.2.2.1
theorem dX11_sheet_42 : decode cX11_sheet 42 = .ok (.aload_n 0, 1) := dX11_sheet_all1.2.2.2.2.2.2.2.2.2.2.1
theorem dX11_sheet_43 : decode cX11_sheet 43 = .ok (.iconst 4, 1) := dX11_sheet_all1.2.2.2.2.2.2.2.2.2.2.2
theorem dX11_sheet_all2 : decode cX11_sheet 44 = .ok (.invokevirtual 158, 3) ∧ decode cX11_sheet 47 = .ok (.ireturn, 1) ∧ decode cX11_sheet 48 = .ok (.aload_n 0, 1) ∧ decode cX11_sheet 49 = .ok (.getfield 13, 3) ∧ decode cX11_sheet 52 = .ok (.iload_n 1, 1) ∧ decode cX11_sheet 53 = .ok (.iload_n 2, 1) ∧ decode cX11_sheet 54 = .ok (.iastore, 1) ∧ decode cX11_sheet 55 = .ok (.aload_n 0, 1) ∧ decode cX11_sheet 56 = .ok (.getfield 17, 3) ∧ decode cX11_sheet 59 = .ok (.iload_n 1, 1) ∧ decode cX11_sheet 60 = .ok (.iload_n 3, 1) ∧ decode cX11_sheet 61 = .ok (.iastore, 1) := by decide +kernel
theorem dX11_sheet_44 : decode cX11_sheet 44 = .ok (.invokevirtual 158, 3) := dX11_sheet_all2.1
theorem dX11_sheet_47 : decode cX11_sheet 47 = .ok (.ireturn, 1) := dX11_sheet_all2.2.1
theorem dX11_sheet_48 : decode cX11_sheet 48 = .ok (.aload_n 0, 1) := dX11_sheet_all2.2.2.1
theorem dX11_sheet_49 : decode cX11_sheet 49 = .ok (.getfield 13, 3) := dX11_sheet_all2.2.2.2.1
theorem dX11_sheet_52 : decode cX11_sheet 52 = .ok (.iload_n 1, 1) := dX11_sheet_all2.2.2.2.2.1
theorem dX11_sheet_53 : decode cX11_sheet 53 = .ok (.iload_n 2, 1) := dX11_sheet_all2.2.2.2.2.2.1
theorem dX11_sheet_54 : decode cX11_sheet 54 = .ok (.iastore, 1) := dX11_sheet_all2.2.2.2.2.2.2.1
theorem dX11_sheet_55 : decode cX11_sheet 55 = .ok (.aload_n 0, 1) := dX11_sheet_all2.2.2.2.2.2.2.2.1
theorem dX11_sheet_56 : decode cX11_sheet 56 = .ok (.getfield 17, 3) := dX11_sheet_all2.2.2.2.2.2.2.2.2.1
theorem dX11_sheet_59 : decode cX11_sheet 59 = .ok (.iload_n 1, 1) := dX11_sheet_all2.2.2.2.2.2.2.2.2.2.1
theorem dX11_sheet_60 : decode cX11_sheet 60 = .ok (.iload_n 3, 1) := dX11_sheet_all2.2.2.2.2.2.2.2.2.2.2.1
theorem dX11_sheet_61 : decode cX11_sheet 61 = .ok (.iastore, 1) := dX11_sheet_all2.2.2.2.2.2.2.2.2.2.2.2
theorem dX11_sheet_all3 : decode cX11_sheet 62 = .ok (.iconst 0, 1) ∧ decode cX11_sheet 63 = .ok (.istore 4, 2) ∧ decode cX11_sheet 65 = .ok (.iload 4, 2) ∧ decode cX11_sheet 67 = .ok (.bipush 60, 2) ∧ decode cX11_sheet 69 = .ok (.if_icmp .ge 22, 3) ∧ decode cX11_sheet 72 = .ok (.aload_n 0, 1) ∧ decode cX11_sheet 73 = .ok (.getfield 20, 3) ∧ decode cX11_sheet 76 = .ok (.bipush 60, 2) ∧ decode cX11_sheet 78 = .ok (.iload_n 1, 1) ∧ decode cX11_sheet 79 = .ok (.imul, 1) ∧ decode cX11_sheet 80 = .ok (.iload 4, 2) ∧ decode cX11_sheet 82 = .ok (.iadd, 1) := by decide +kernel
theorem dX11_sheet_62 : decode cX11_sheet 62 = .ok (.iconst 0, 1) := dX11_sheet_all3.1
theorem dX11_sheet_63 : decode cX11_sheet 63 = .ok (.istore 4, 2) := dX11_sheet_all3.2.1
theorem dX11_sheet_65 : decode cX11_sheet 65 = .ok (.iload 4, 2) := dX11_sheet_all3.2.2.1
theorem dX11_sheet_67 : decode cX11_sheet 67 = .ok (.bipush 60, 2) := dX11_sheet_all3.2.2.2.1
theorem dX11_sheet_69 : decode cX11_sheet 69 = .ok (.if_icmp .ge 22, 3) := dX11_sheet_all3.2.2.2.2.1
theorem dX11_sheet_72 : decode cX11_sheet 72 = .ok (.aload_n 0, 1) := dX11_sheet_all3.2.2.2.2.2.1
theorem dX11_sheet_73 : decode cX11_sheet 73 = .ok (.getfield 20, 3) := dX11_sheet_all3.2.2.2.2.2.2.1
theorem dX11_sheet_76 : decode cX11_sheet 76 = .ok (.bipush 60, 2) := dX11_sheet_all3.2.2.2.2.2.2.2.1
theorem dX11_sheet_78 : decode cX11_sheet 78 = .ok (.iload_n 1, 1) := dX11_sheet_all3.2.2.2.2.2.2.2.2.1
theorem dX11_sheet_79 : decode cX11_sheet 79 = .ok (.imul, 1) := dX11_sheet_all3.2.2.2.2.2.2.2.2.2.1
theorem dX11_sheet_80 : decode cX11_sheet 80 = .ok (.iload 4, 2) := dX11_sheet_all3.2.2.2.2.2.2.2.2.2.2.1
theorem dX11_sheet_82 : decode cX11_sheet 82 = .ok (.iadd, 1) := dX11_sheet_all3.2.2.2.2.2.2.2.2.2.2.2
theorem dX11_sheet_all4 : decode cX11_sheet 83 = .ok (.iconst 0, 1) ∧ decode cX11_sheet 84 = .ok (.iastore, 1) ∧ decode cX11_sheet 85 = .ok (.iinc 4 1, 3) ∧ decode cX11_sheet 88 = .ok (.goto (-23), 3) ∧ decode cX11_sheet 91 = .ok (.iload_n 3, 1) ∧ decode cX11_sheet 92 = .ok (.ireturn, 1) := by decide +kernel
theorem dX11_sheet_83 : decode cX11_sheet 83 = .ok (.iconst 0, 1) := dX11_sheet_all4.1
theorem dX11_sheet_84 : decode cX11_sheet 84 = .ok (.iastore, 1) := dX11_sheet_all4.2.1
theorem dX11_sheet_85 : decode cX11_sheet 85 = .ok (.iinc 4 1, 3) := dX11_sheet_all4.2.2.1
theorem dX11_sheet_88 : decode cX11_sheet 88 = .ok (.goto (-23), 3) := dX11_sheet_all4.2.2.2.1
theorem dX11_sheet_91 : decode cX11_sheet 91 = .ok (.iload_n 3, 1) := dX11_sheet_all4.2.2.2.2.1
theorem dX11_sheet_92 : decode cX11_sheet 92 = .ok (.ireturn, 1) := dX11_sheet_all4.2.2.2.2.2
theorem ggX11_set_X11_isSheet : GoodIn wsX11_set wsX11_isSheet := goodIn_s (fun _ h => wm_t (wm_r (wm_l (wm_r h)))) Gd_X11_isSheet
theorem gX11_set_X11_isSheet : GoodIn wsX11_set (va_wsS RX11 151 yX11_isSheet wsX11_isSheet) := goodIn_S (own := RX11) (idx := 151) (y := yX11_isSheet) (wm_t (wm_l (wm_i 6 rfl))) (wm_t (wm_l (wm_i 7 rfl))) (wm_t (wm_l (wm_i 8 rfl))) ggX11_set_X11_isSheet
theorem ggX11_set_X11_found : GoodIn wsX11_set wsX11_found := goodIn_s (fun _ h => wm_t (wm_r (wm_r (wm_l h)))) Gd_X11_found
theorem gX11_set_X11_found : GoodIn wsX11_set (wsV RX11 158 RX11 yX11_found wsX11_found) := goodIn_V (own := RX11) (idx := 158) (C := RX11) (y := yX11_found) (wm_t (wm_l (wm_i 11 rfl))) (wm_t (wm_l (wm_i 12 rfl))) (wm_t (wm_l (wm_i 13 rfl))) (wm_t (wm_l (wm_i 8 rfl))) ggX11_set_X11_found
theorem ggX11_set_X11_in : GoodIn wsX11_set wsX11_in := goodIn_s (fun _ h => wm_t (wm_r (wm_r (wm_r h)))) Gd_X11_in
theorem gX11_set_X11_in : GoodIn wsX11_set (va_wsS RX11 147 yX11_in wsX11_in) := goodIn_S (own := RX11) (idx := 147) (y := yX11_in) (wm_t (wm_l (wm_i 9 rfl))) (wm_t (wm_l (wm_i 10 rfl))) (wm_t (wm_l (wm_i 8 rfl))) ggX11_set_X11_in
theorem dX11_set_all0 : decode cX11_set 0 = .ok (.aload_n 0, 1) ∧ decode cX11_set 1 = .ok (.iconst 0, 1) ∧ decode cX11_set 2 = .ok (.putfield 1, 3) ∧ decode cX11_set 5 = .ok (.iload_n 1, 1) ∧ decode cX11_set 6 = .ok (.invokestatic 151, 3) ∧ decode cX11_set 9 = .ok (.ifCond .ne 6, 3) ∧ decode cX11_set 12 = .ok (.ldc 157, 2) ∧ decode cX11_set 14 = .ok (.ireturn, 1) ∧ decode cX11_set 15 = .ok (.aload_n 0, 1) ∧ decode cX11_set 16 = .ok (.iconst 0, 1) ∧ decode cX11_set 17 = .ok (.putfield 141, 3) ∧ decode cX11_set 20 = .ok (.aload_n 0, 1) := by decide +kernel
theorem dX11_set_0 : decode cX11_set 0 = .ok (.aload_n 0, 1) := dX11_set_all0.1
theorem dX11_set_1 : decode cX11_set 1 = .ok (.iconst 0, 1) := dX11_set_all0.2.1
theorem dX11_set_2 : decode cX11_set 2 = .ok (.putfield 1, 3) := dX11_set_all0.2.2.1
theorem dX11_set_5 : decode cX11_set 5 = .ok (.iload_n 1, 1) := dX11_set_all0.2.2.2.1
theorem dX11_set_6 : decode cX11_set 6 = .ok (.invokestatic 151, 3) := dX11_set_all0.2.2.2.2.1
theorem dX11_set_9 : decode cX11_set 9 = .ok (.ifCond .ne 6, 3) := dX11_set_all0.2.2.2.2.2.1
theorem dX11_set_12 : decode cX11_set 12 = .ok (.ldc 157, 2) := dX11_set_all0.2.2.2.2.2.2.1
theorem dX11_set_14 : decode cX11_set 14 = .ok (.ireturn, 1) := dX11_set_all0.2.2.2.2.2.2.2.1
theorem dX11_set_15 : decode cX11_set 15 = .ok (.aload_n 0, 1) := dX11_set_all0.2.2.2.2.2.2.2.2.1
theorem dX11_set_16 : decode cX11_set 16 = .ok (.iconst 0, 1) := dX11_set_all0.2.2.2.2.2.2.2.2.2.1
theorem dX11_set_17 : decode cX11_set 17 = .ok (.putfield 141, 3) := dX11_set_all0.2.2.2.2.2.2.2.2.2.2.1
theorem dX11_set_20 : decode cX11_set 20 = .ok (.aload_n 0, 1) := dX11_set_all0.2.2.2.2.2.2.2.2.2.2.2
theorem dX11_set_all1 : decode cX11_set 21 = .ok (.getfield 13, 3) ∧ decode cX11_set 24 = .ok (.iload_n 1, 1) ∧ decode cX11_set 25 = .ok (.iaload, 1) ∧ decode cX11_set 26 = .ok (.ifCond .ge 9, 3) ∧ decode cX11_set 29 = .ok (.aload_n 0, 1) ∧ decode cX11_set 30 = .ok (.iconst 1, 1) ∧ decode cX11_set 31 = .ok (.invokevirtual 158, 3) ∧ decode cX11_set 34 = .ok (.ireturn, 1) ∧ decode cX11_set 35 = .ok (.iload_n 2, 1) ∧ decode cX11_set 36 = .ok (.i2l, 1) ∧ decode cX11_set 37 = .ok (.lconst 0, 1) ∧ decode cX11_set 38 = .ok (.aload_n 0, 1) := by decide +kernel
theorem dX11_set_21 : decode cX11_set 21 = .ok (.getfield 13, 3) := dX11_set_all1.1
theorem dX11_set_24 : decode cX11_set 24 = .ok (.iload_n 1, 1) := dX11_set_all1.2.1
theorem dX11_set_25 : decode cX11_set 25 = .ok (.iaload, 1) := dX11_set_all1.2.2.1
theorem dX11_set_26 : decode cX11_set 26 = .ok (.ifCond .ge 9, 3) := dX11_set_all1.2.2.2.1
theorem dX11_set_29 : decode cX11_set 29 = .ok (.aload_n 0, 1) := dX11_set_all1.2.2.2.2.1
theorem dX11_set_30 : decode cX11_set 30 = .ok (.iconst 1, 1) := dX11_set_all1.2.2.2.2.2.1
theorem dX11_set_31 : decode cX11_set 31 = .ok (.invokevirtual 158, 3) := dX11_set_all1.2.2.2.2.2.2.1
theorem dX11_set_34 : decode cX11_set 34 = .ok (.ireturn, 1) := dX11_set_all1.2.2.2.2.2.2.2.1
theorem dX11_set_35 : decode cX11_set 35 = .ok (.iload_n 2, 1) := dX11_set_all1.2.2.2.2.2.2.2.2.1
theorem dX11_set_36 : decode cX11_set 36 = .ok (.i2l, 1) := dX11_set_all1.2.2.2.2.2.2.2.2.2.1
theorem dX11_set_37 : decode cX11_set 37 = .ok (.lconst 0, 1) := dX11_set_all1.2.2.2.2.2.2.2.2.2.2.1
theorem dX11_set_38 : decode cX11_set 38 = .ok (.aload_n 0, 1) := dX11_set_all1.2.2.2.2.2.2.2.2.2.2.2
theorem dX11_set_all2 : decode cX11_set 39 = .ok (.getfield 17, 3) ∧ decode cX11_set 42 = .ok (.iload_n 1, 1) ∧ decode cX11_set 43 = .ok (.iaload, 1) ∧ decode cX11_set 44 = .ok (.iconst 1, 1) ∧ decode cX11_set 45 = .ok (.isub, 1) ∧ decode cX11_set 46 = .ok (.i2l, 1) ∧ decode cX11_set 47 = .ok (.invokestatic 147, 3) ∧ decode cX11_set 50 = .ok (.ifCond .ne 9, 3) ∧ decode cX11_set 53 = .ok (.aload_n 0, 1) ∧ decode cX11_set 54 = .ok (.iconst 2, 1) ∧ decode cX11_set 55 = .ok (.invokevirtual 158, 3) ∧ decode cX11_set 58 = .ok (.ireturn, 1) := by decide +kernel
theorem dX11_set_39 : decode cX11_set 39 = .ok (.getfield 17, 3) := dX11_set_all2.1
theorem dX11_set_42 : decode cX11_set 42 = .ok (.iload_n 1, 1) := dX11_set_all2.2.1
theorem dX11_set_43 : decode cX11_set 43 = .ok (.iaload, 1) := dX11_set_all2.2.2.1
theorem dX11_set_44 : decode cX11_set 44 = .ok (.iconst 1, 1) := dX11_set_all2.2.2.2.1
theorem dX11_set_45 : decode cX11_set 45 = .ok (.isub, 1) := dX11_set_all2.2.2.2.2.1
theorem dX11_set_46 : decode cX11_set 46 = .ok (.i2l, 1) := dX11_set_all2.2.2.2.2.2.1
theorem dX11_set_47 : decode cX11_set 47 = .ok (.invokestatic 147, 3) := dX11_set_all2.2.2.2.2.2.2.1
theorem dX11_set_50 : decode cX11_set 50 = .ok (.ifCond .ne 9, 3) := dX11_set_all2.2.2.2.2.2.2.2.1
theorem dX11_set_53 : decode cX11_set 53 = .ok (.aload_n 0, 1) := dX11_set_all2.2.2.2.2.2.2.2.2.1
theorem dX11_set_54 : decode cX11_set 54 = .ok (.iconst 2, 1) := dX11_set_all2.2.2.2.2.2.2.2.2.2.1
theorem dX11_set_55 : decode cX11_set 55 = .ok (.invokevirtual 158, 3) := dX11_set_all2.2.2.2.2.2.2.2.2.2.2.1
theorem dX11_set_58 : decode cX11_set 58 = .ok (.ireturn, 1) := dX11_set_all2.2.2.2.2.2.2.2.2.2.2.2
theorem dX11_set_all3 : decode cX11_set 59 = .ok (.aload_n 0, 1) ∧ decode cX11_set 60 = .ok (.getfield 20, 3) ∧ decode cX11_set 63 = .ok (.bipush 60, 2) ∧ decode cX11_set 65 = .ok (.iload_n 1, 1) ∧ decode cX11_set 66 = .ok (.imul, 1) ∧ decode cX11_set 67 = .ok (.iload_n 2, 1) ∧ decode cX11_set 68 = .ok (.iadd, 1) ∧ decode cX11_set 69 = .ok (.aload_n 0, 1) ∧ decode cX11_set 70 = .ok (.getfield 13, 3) ∧ decode cX11_set 73 = .ok (.iload_n 1, 1) ∧ decode cX11_set 74 = .ok (.iaload, 1) ∧ decode cX11_set 75 = .ok (.ifCond .ne 8, 3) := by decide +kernel
theorem dX11_set_59 : decode cX11_set 59 = .ok (.aload_n 0, 1) := dX11_set_all3.1
theorem dX11_set_60 : decode cX11_set 60 = .ok (.getfield 20, 3) := dX11_set_all3.2.1
theorem dX11_set_63 : decode cX11_set 63 = .ok (.bipush 60, 2) := dX11_set_all3.2.2.1
theorem dX11_set_65 : decode cX11_set 65 = .ok (.iload_n 1, 1) := dX11_set_all3.2.2.2.1
theorem dX11_set_66 : decode cX11_set 66 = .ok (.imul, 1) := dX11_set_all3.2.2.2.2.1
theorem dX11_set_67 : decode cX11_set 67 = .ok (.iload_n 2, 1) := dX11_set_all3.2.2.2.2.2.1
theorem dX11_set_68 : decode cX11_set 68 = .ok (.iadd, 1) := dX11_set_all3.2.2.2.2.2.2.1
theorem dX11_set_69 : decode cX11_set 69 = .ok (.aload_n 0, 1) := dX11_set_all3.2.2.2.2.2.2.2.1
theorem dX11_set_70 : decode cX11_set 70 = .ok (.getfield 13, 3) := dX11_set_all3.2.2.2.2.2.2.2.2.1
theorem dX11_set_73 : decode cX11_set 73 = .ok (.iload_n 1, 1) := dX11_set_all3.2.2.2.2.2.2.2.2.2.1
theorem dX11_set_74 : decode cX11_set 74 = .ok (.iaload, 1) := dX11_set_all3.2.2.2.2.2.2.2.2.2.2.1
theorem dX11_set_75 : decode cX11_set 75 = .ok (.ifCond .ne 8, 3) := dX11_set_all3.2.2.2.2.2.2.2.2.2.2.2
theorem dX11_set_all4 : decode cX11_set 78 = .ok (.iload_n 3, 1) ∧ decode cX11_set 79 = .ok (.i2b, 1) ∧ decode cX11_set 80 = .ok (.goto 19, 3) ∧ decode cX11_set 83 = .ok (.aload_n 0, 1) ∧ decode cX11_set 84 = .ok (.getfield 13, 3) ∧ decode cX11_set 87 = .ok (.iload_n 1, 1) ∧ decode cX11_set 88 = .ok (.iaload, 1) ∧ decode cX11_set 89 = .ok (.iconst 1, 1) ∧ decode cX11_set 90 = .ok (.if_icmp .ne 8, 3) ∧ decode cX11_set 93 = .ok (.iload_n 3, 1) ∧ decode cX11_set 94 = .ok (.i2s, 1) ∧ decode cX11_set 95 = .ok (.goto 4, 3) := by decide +kernel
theorem dX11_set_78 : decode cX11_set 78 = .ok (.iload_n 3, 1) := dX11_set_all4.1
theorem dX11_set_79 : decode cX11_set 79 = .ok (.i2b, 1) := dX11_set_all4.2.1
theorem dX11_set_80 : decode cX11_set 80 = .ok (.goto 19, 3) := dX11_set_all4.2.2.1
theorem dX11_set_83 : decode cX11_set 83 = .ok (.aload_n 0, 1) := dX11_set_all4.2.2.2.1
theorem dX11_set_84 : decode cX11_set 84 = .ok (.getfield 13, 3) := dX11_set_all4.2.2.2.2.1
theorem dX11_set_87 : decode cX11_set 87 = .ok (.iload_n 1, 1) := dX11_set_all4.2.2.2.2.2.1
theorem dX11_set_88 : decode cX11_set 88 = .ok (.iaload, 1) := dX11_set_all4.2.2.2.2.2.2.1
theorem dX11_set_89 : decode cX11_set 89 = .ok (.iconst 1, 1) := dX11_set_all4.2.2.2.2.2.2.2.1
theorem dX11_set_90 : decode cX11_set 90 = .ok (.if_icmp .ne 8, 3) := dX11_set_all4.2.2.2.2.2.2.2.2.1
theorem dX11_set_93 : decode cX11_set 93 = .ok (.iload_n 3, 1) := dX11_set_all4.2.2.2.2.2.2.2.2.2.1
theorem dX11_set_94 : decode cX11_set 94 = .ok (.i2s, 1) := dX11_set_all4.2.2.2.2.2.2.2.2.2.2.1
theorem dX11_set_95 : decode cX11_set 95 = .ok (.goto 4, 3) := dX11_set_all4.2.2.2.2.2.2.2.2.2.2.2
theorem dX11_set_all5 : decode cX11_set 98 = .ok (.iload_n 3, 1) ∧ decode cX11_set 99 = .ok (.iastore, 1) ∧ decode cX11_set 100 = .ok (.aload_n 0, 1) ∧ decode cX11_set 101 = .ok (.getfield 20, 3) ∧ decode cX11_set 104 = .ok (.bipush 60, 2) ∧ decode cX11_set 106 = .ok (.iload_n 1, 1) ∧ decode cX11_set 107 = .ok (.imul, 1) ∧ decode cX11_set 108 = .ok (.iload_n 2, 1) ∧ decode cX11_set 109 = .ok (.iadd, 1) ∧ decode cX11_set 110 = .ok (.iaload, 1) ∧ decode cX11_set 111 = .ok (.ireturn, 1) := by decide +kernel
theorem dX11_set_98 : decode cX11_set 98 = .ok (.iload_n 3, 1) := dX11_set_all5.1
theorem dX11_set_99 : decode cX11_set 99 = .ok (.iastore, 1) := dX11_set_all5.2.1
theorem dX11_set_100 : decode cX11_set 100 = .ok (.aload_n 0, 1) := dX11_set_all5.2.2.1
theorem dX11_set_101 : decode cX11_set 101 = .ok (.getfield 20, 3) := dX11_set_all5.2.2.2.1
theorem dX11_set_104 : decode cX11_set 104 = .ok (.bipush 60, 2) := dX11_set_all5.2.2.2.2.1
theorem dX11_set_106 : decode cX11_set 106 = .ok (.iload_n 1, 1) := dX11_set_all5.2.2.2.2.2.1
theorem dX11_set_107 : decode cX11_set 107 = .ok (.imul, 1) := dX11_set_all5.2.2.2.2.2.2.1
theorem dX11_set_108 : decode cX11_set 108 = .ok (.iload_n 2, 1) := dX11_set_all5.2.2.2.2.2.2.2.1
theorem dX11_set_109 : decode cX11_set 109 = .ok (.iadd, 1) := dX11_set_all5.2.2.2.2.2.2.2.2.1
theorem dX11_set_110 : decode cX11_set 110 = .ok (.iaload, 1) := dX11_set_all5.2.2.2.2.2.2.2.2.2.1
theorem dX11_set_111 : decode cX11_set 111 = .ok (.ireturn, 1) := dX11_set_all5.2.2.2.2.2.2.2.2.2.2
theorem ggX11_copy_X11_isSheet : GoodIn wsX11_copy wsX11_isSheet := goodIn_s (fun _ h => wm_t (wm_r (wm_l (wm_r h)))) Gd_X11_isSheet
theorem gX11_copy_X11_isSheet : GoodIn wsX11_copy (va_wsS RX11 151 yX11_isSheet wsX11_isSheet) := goodIn_S (own := RX11) (idx := 151) (y := yX11_isSheet) (wm_t (wm_l (wm_i 6 rfl))) (wm_t (wm_l (wm_i 7 rfl))) (wm_t (wm_l (wm_i 8 rfl))) ggX11_copy_X11_isSheet
theorem ggX11_copy_X11_found : GoodIn wsX11_copy wsX11_found := goodIn_s (fun _ h => wm_t (wm_r (wm_r h))) Gd_X11_found
theorem gX11_copy_X11_found : GoodIn wsX11_copy (wsV RX11 158 RX11 yX11_found wsX11_found) := goodIn_V (own := RX11) (idx := 158) (C := RX11) (y := yX11_found) (wm_t (wm_l (wm_i 9 rfl))) (wm_t (wm_l (wm_i 10 rfl))) (wm_t (wm_l (wm_i 11 rfl))) (wm_t (wm_l (wm_i 8 rfl))) ggX11_copy_X11_found
theorem dX11_copy_all0 : decode cX11_copy 0 = .ok (.aload_n 0, 1) ∧ decode cX11_copy 1 = .ok (.iconst 0, 1) ∧ decode cX11_copy 2 = .ok (.putfield 1, 3) ∧ decode cX11_copy 5 = .ok (.iload_n 1, 1) ∧ decode cX11_copy 6 = .ok (.invokestatic 151, 3) ∧ decode cX11_copy 9 = .ok (.ifCond .eq 10, 3) ∧ decode cX11_copy 12 = .ok (.iload_n 3, 1) ∧ decode cX11_copy 13 = .ok (.invokestatic 151, 3) ∧ decode cX11_copy 16 = .ok (.ifCond .ne 6, 3) ∧ decode cX11_copy 19 = .ok (.ldc 157, 2) ∧ decode cX11_copy 21 = .ok (.ireturn, 1) ∧ decode cX11_copy 22 = .ok (.aload_n 0, 1) := by decide +kernel
theorem dX11_copy_0 : decode cX11_copy 0 = .ok (.aload_n 0, 1) := dX11_copy_all0.1
theorem dX11_copy_1 : decode cX11_copy 1 = .ok (.iconst 0, 1) := dX11_copy_all0.2.1
theorem dX11_copy_2 : decode cX11_copy 2 = .ok (.putfield 1, 3) := dX11_copy_all0.2.2.1
theorem dX11_copy_5 : decode cX11_copy 5 = .ok (.iload_n 1, 1) := dX11_copy_all0.2.2.2.1
theorem dX11_copy_6 : decode cX11_copy 6 = .ok (.invokestatic 151, 3) := dX11_copy_all0.2.2.2.2.1
theorem dX11_copy_9 : decode cX11_copy 9 = .ok (.ifCond .eq 10, 3) := dX11_copy_all0.2.2.2.2.2.1
theorem dX11_copy_12 : decode cX11_copy 12 = .ok (.iload_n 3, 1) := dX11_copy_all0.2.2.2.2.2.2.1
theorem dX11_copy_13 : decode cX11_copy 13 = .ok (.invokestatic 151, 3) := dX11_copy_all0.2.2.2.2.2.2.2.1
theorem dX11_copy_16 : decode cX11_copy 16 = .ok (.ifCond .ne 6, 3) := dX11_copy_all0.2.2.2.2.2.2.2.2.1
theorem dX11_copy_19 : decode cX11_copy 19 = .ok (.ldc 157, 2) := dX11_copy_all0.2.2.2.2.2.2.2.2.2.1
theorem dX11_copy_21 : decode cX11_copy 21 = .ok (.ireturn, 1) := dX11_copy_all0.2.2.2.2.2.2.2.2.2.2.1
theorem dX11_copy_22 : decode cX11_copy 22 = .ok (.aload_n 0, 1) := dX11_copy_all0.2.2.2.2.2.2.2.2.2.2.2
theorem dX11_copy_all1 : decode cX11_copy 23 = .ok (.iconst 0, 1) ∧ decode cX11_copy 24 = .ok (.putfield 141, 3) ∧ decode cX11_copy 27 = .ok (.aload_n 0, 1) ∧ decode cX11_copy 28 = .ok (.getfield 13, 3) ∧ decode cX11_copy 31 = .ok (.iload_n 1, 1) ∧ decode cX11_copy 32 = .ok (.iaload, 1) ∧ decode cX11_copy 33 = .ok (.ifCond .lt 12, 3) ∧ decode cX11_copy 36 = .ok (.aload_n 0, 1) ∧ decode cX11_copy 37 = .ok (.getfield 13, 3) ∧ decode cX11_copy 40 = .ok (.iload_n 3, 1) ∧ decode cX11_copy 41 = .ok (.iaload, 1) ∧ decode cX11_copy 42 = .ok (.ifCond .ge 9, 3) := by decide +kernel
theorem dX11_copy_23 : decode cX11_copy 23 = .ok (.iconst 0, 1) := dX11_copy_all1.1
theorem dX11_copy_24 : decode cX11_copy 24 = .ok (.putfield 141, 3) := dX11_copy_all1.2.1
theorem dX11_copy_27 : decode cX11_copy 27 = .ok (.aload_n 0, 1) := dX11_copy_all1.2.2.1
theorem dX11_copy_28 : decode cX11_copy 28 = .ok (.getfield 13, 3) := dX11_copy_all1.2.2.2.1
theorem dX11_copy_31 : decode cX11_copy 31 = .ok (.iload_n 1, 1) := dX11_copy_all1.2.2.2.2.1
theorem dX11_copy_32 : decode cX11_copy 32 = .ok (.iaload, 1) := dX11_copy_all1.2.2.2.2.2.1
theorem dX11_copy_33 : decode cX11_copy 33 = .ok (.ifCond .lt 12, 3) := dX11_copy_all1.2.2.2.2.2.2.1
theorem dX11_copy_36 : decode cX11_copy 36 = .ok (.aload_n 0, 1) := dX11_copy_all1.2.2.2.2.2.2.2.1
theorem dX11_copy_37 : decode cX11_copy 37 = .ok (.getfield 13, 3) := dX11_copy_all1.2.2.2.2.2.2.2.2.1
theorem dX11_copy_40 : decode cX11_copy 40 = .ok (.iload_n 3, 1) := dX11_copy_all1.2.2.2.2.2.2.2.2.2.1
theorem dX11_copy_41 : decode cX11_copy 41 = .ok (.iaload, 1) := dX11_copy_all1.2.2.2.2.2.2.2.2.2.2.1
theorem dX11_copy_42 : decode cX11_copy 42 = .ok (.ifCond .ge 9, 3) := dX11_copy_all1.2.2.2.2.2.2.2.2.2.2.2
theorem dX11_copy_all2 : decode cX11_copy 45 = .ok (.aload_n 0, 1) ∧ decode cX11_copy 46 = .ok (.iconst 1, 1) ∧ decode cX11_copy 47 = .ok (.invokevirtual 158, 3) ∧ decode cX11_copy 50 = .ok (.ireturn, 1) ∧ decode cX11_copy 51 = .ok (.aload_n 0, 1) ∧ decode cX11_copy 52 = .ok (.getfield 13, 3) ∧ decode cX11_copy 55 = .ok (.iload_n 1, 1) ∧ decode cX11_copy 56 = .ok (.iaload, 1) ∧ decode cX11_copy 57 = .ok (.aload_n 0, 1) ∧ decode cX11_copy 58 = .ok (.getfield 13, 3) ∧ decode cX11_copy 61 = .ok (.iload_n 3, 1) ∧ decode cX11_copy 62 = .ok (.iaload, 1) := by decide +kernel
theorem dX11_copy_45 : decode cX11_copy 45 = .ok (.aload_n 0, 1) := dX11_copy_all2.1
theorem dX11_copy_46 : decode cX11_copy 46 = .ok (.iconst 1, 1) := dX11_copy_all2.2.1
theorem dX11_copy_47 : decode cX11_copy 47 = .ok (.invokevirtual 158, 3) := dX11_copy_all2.2.2.1
theorem dX11_copy_50 : decode cX11_copy 50 = .ok (.ireturn, 1) := dX11_copy_all2.2.2.2.1
theorem dX11_copy_51 : decode cX11_copy 51 = .ok (.aload_n 0, 1) := dX11_copy_all2.2.2.2.2.1
theorem dX11_copy_52 : decode cX11_copy 52 = .ok (.getfield 13, 3) := dX11_copy_all2.2.2.2.2.2.1
theorem dX11_copy_55 : decode cX11_copy 55 = .ok (.iload_n 1, 1) := dX11_copy_all2.2.2.2.2.2.2.1
theorem dX11_copy_56 : decode cX11_copy 56 = .ok (.iaload, 1) := dX11_copy_all2.2.2.2.2.2.2.2.1
theorem dX11_copy_57 : decode cX11_copy 57 = .ok (.aload_n 0, 1) := dX11_copy_all2.2.2.2.2.2.2.2.2.1
theorem dX11_copy_58 : decode cX11_copy 58 = .ok (.getfield 13, 3) := dX11_copy_all2.2.2.2.2.2.2.2.2.2.1
theorem dX11_copy_61 : decode cX11_copy 61 = .ok (.iload_n 3, 1) := dX11_copy_all2.2.2.2.2.2.2.2.2.2.2.1
theorem dX11_copy_62 : decode cX11_copy 62 = .ok (.iaload, 1) := dX11_copy_all2.2.2.2.2.2.2.2.2.2.2.2
theorem dX11_copy_all3 : decode cX11_copy 63 = .ok (.if_icmp .eq 9, 3) ∧ decode cX11_copy 66 = .ok (.aload_n 0, 1) ∧ decode cX11_copy 67 = .ok (.iconst 5, 1) ∧ decode cX11_copy 68 = .ok (.invokevirtual 158, 3) ∧ decode cX11_copy 71 = .ok (.ireturn, 1) ∧ decode cX11_copy 72 = .ok (.iload_n 2, 1) ∧ decode cX11_copy 73 = .ok (.ifCond .lt 48, 3) ∧ decode cX11_copy 76 = .ok (.iload 4, 2) ∧ decode cX11_copy 78 = .ok (.ifCond .lt 43, 3) ∧ decode cX11_copy 81 = .ok (.iload 5, 2) ∧ decode cX11_copy 83 = .ok (.ifCond .lt 38, 3) ∧ decode cX11_copy 86 = .ok (.iload_n 2, 1) := by decide +kernel
theorem dX11_copy_63 : decode cX11_copy 63 = .ok (.if_icmp .eq 9, 3) := dX11_copy_all3.1
theorem dX11_copy_66 : decode cX11_copy 66 = .ok (.aload_n 0, 1) := dX11_copy_all3.2.1
theorem dX11_copy_67 : decode cX11_copy 67 = .ok (.iconst 5, 1) := dX11_copy_all3.2.2.1
theorem dX11_copy_68 : decode cX11_copy 68 = .ok (.invokevirtual 158, 3) := dX11_copy_all3.2.2.2.1
theorem dX11_copy_71 : decode cX11_copy 71 = .ok (.ireturn, 1) := dX11_copy_all3.2.2.2.2.1
theorem dX11_copy_72 : decode cX11_copy 72 = .ok (.iload_n 2, 1) := dX11_copy_all3.2.2.2.2.2.1
theorem dX11_copy_73 : decode cX11_copy 73 = .ok (.ifCond .lt 48, 3) := dX11_copy_all3.2.2.2.2.2.2.1
theorem dX11_copy_76 : decode cX11_copy 76 = .ok (.iload 4, 2) := dX11_copy_all3.2.2.2.2.2.2.2.1
theorem dX11_copy_78 : decode cX11_copy 78 = .ok (.ifCond .lt 43, 3) := dX11_copy_all3.2.2.2.2.2.2.2.2.1
theorem dX11_copy_81 : decode cX11_copy 81 = .ok (.iload 5, 2) := dX11_copy_all3.2.2.2.2.2.2.2.2.2.1
theorem dX11_copy_83 : decode cX11_copy 83 = .ok (.ifCond .lt 38, 3) := dX11_copy_all3.2.2.2.2.2.2.2.2.2.2.1
theorem dX11_copy_86 : decode cX11_copy 86 = .ok (.iload_n 2, 1) := dX11_copy_all3.2.2.2.2.2.2.2.2.2.2.2
theorem dX11_copy_all4 : decode cX11_copy 87 = .ok (.i2l, 1) ∧ decode cX11_copy 88 = .ok (.iload 5, 2) ∧ decode cX11_copy 90 = .ok (.i2l, 1) ∧ decode cX11_copy 91 = .ok (.ladd, 1) ∧ decode cX11_copy 92 = .ok (.aload_n 0, 1) ∧ decode cX11_copy 93 = .ok (.getfield 17, 3) ∧ decode cX11_copy 96 = .ok (.iload_n 1, 1) ∧ decode cX11_copy 97 = .ok (.iaload, 1) ∧ decode cX11_copy 98 = .ok (.i2l, 1) ∧ decode cX11_copy 99 = .ok (.lcmp, 1) ∧ decode cX11_copy 100 = .ok (.ifCond .gt 21, 3) ∧ decode cX11_copy 103 = .ok (.iload 4, 2) := by decide +kernel
theorem dX11_copy_87 : decode cX11_copy 87 = .ok (.i2l, 1) := dX11_copy_all4.1
theorem dX11_copy_88 : decode cX11_copy 88 = .ok (.iload 5, 2) := dX11_copy_all4.2.1
theorem dX11_copy_90 : decode cX11_copy 90 = .ok (.i2l, 1) := dX11_copy_all4.2.2.1
theorem dX11_copy_91 : decode cX11_copy 91 = .ok (.ladd, 1) := dX11_copy_all4.2.2.2.1
theorem dX11_copy_92 : decode cX11_copy 92 = .ok (.aload_n 0, 1) := dX11_copy_all4.2.2.2.2.1
theorem dX11_copy_93 : decode cX11_copy 93 = .ok (.getfield 17, 3) := dX11_copy_all4.2.2.2.2.2.1
theorem dX11_copy_96 : decode cX11_copy 96 = .ok (.iload_n 1, 1) := dX11_copy_all4.2.2.2.2.2.2.1
theorem dX11_copy_97 : decode cX11_copy 97 = .ok (.iaload, 1) := dX11_copy_all4.2.2.2.2.2.2.2.1
theorem dX11_copy_98 : decode cX11_copy 98 = .ok (.i2l, 1) := dX11_copy_all4.2.2.2.2.2.2.2.2.1
theorem dX11_copy_99 : decode cX11_copy 99 = .ok (.lcmp, 1) := dX11_copy_all4.2.2.2.2.2.2.2.2.2.1
theorem dX11_copy_100 : decode cX11_copy 100 = .ok (.ifCond .gt 21, 3) := dX11_copy_all4.2.2.2.2.2.2.2.2.2.2.1
theorem dX11_copy_103 : decode cX11_copy 103 = .ok (.iload 4, 2) := dX11_copy_all4.2.2.2.2.2.2.2.2.2.2.2
theorem dX11_copy_all5 : decode cX11_copy 105 = .ok (.i2l, 1) ∧ decode cX11_copy 106 = .ok (.iload 5, 2) ∧ decode cX11_copy 108 = .ok (.i2l, 1) ∧ decode cX11_copy 109 = .ok (.ladd, 1) ∧ decode cX11_copy 110 = .ok (.aload_n 0, 1) ∧ decode cX11_copy 111 = .ok (.getfield 17, 3) ∧ decode cX11_copy 114 = .ok (.iload_n 3, 1) ∧ decode cX11_copy 115 = .ok (.iaload, 1) ∧ decode cX11_copy 116 = .ok (.i2l, 1) ∧ decode cX11_copy 117 = .ok (.lcmp, 1) ∧ decode cX11_copy 118 = .ok (.ifCond .le 9, 3) ∧ decode cX11_copy 121 = .ok (.aload_n 0, 1) := by decide +kernel
theorem dX11_copy_105 : decode cX11_copy 105 = .ok (.i2l, 1) := dX11_copy_all5.1
theorem dX11_copy_106 : decode cX11_copy 106 = .ok (.iload 5, 2) := dX11_copy_all5.2.1
theorem dX11_copy_108 : decode cX11_copy 108 = .ok (.i2l, 1) := dX11_copy_all5.2.2.1
theorem dX11_copy_109 : decode cX11_copy 109 = .ok (.ladd, 1) := dX11_copy_all5.2.2.2.1
theorem dX11_copy_110 : decode cX11_copy 110 = .ok (.aload_n 0, 1) := dX11_copy_all5.2.2.2.2.1
theorem dX11_copy_111 : decode cX11_copy 111 = .ok (.getfield 17, 3) := dX11_copy_all5.2.2.2.2.2.1
theorem dX11_copy_114 : decode cX11_copy 114 = .ok (.iload_n 3, 1) := dX11_copy_all5.2.2.2.2.2.2.1
theorem dX11_copy_115 : decode cX11_copy 115 = .ok (.iaload, 1) := dX11_copy_all5.2.2.2.2.2.2.2.1
theorem dX11_copy_116 : decode cX11_copy 116 = .ok (.i2l, 1) := dX11_copy_all5.2.2.2.2.2.2.2.2.1
theorem dX11_copy_117 : decode cX11_copy 117 = .ok (.lcmp, 1) := dX11_copy_all5.2.2.2.2.2.2.2.2.2.1
theorem dX11_copy_118 : decode cX11_copy 118 = .ok (.ifCond .le 9, 3) := dX11_copy_all5.2.2.2.2.2.2.2.2.2.2.1
theorem dX11_copy_121 : decode cX11_copy 121 = .ok (.aload_n 0, 1) := dX11_copy_all5.2.2.2.2.2.2.2.2.2.2.2
theorem dX11_copy_all6 : decode cX11_copy 122 = .ok (.iconst 2, 1) ∧ decode cX11_copy 123 = .ok (.invokevirtual 158, 3) ∧ decode cX11_copy 126 = .ok (.ireturn, 1) ∧ decode cX11_copy 127 = .ok (.iload_n 2, 1) ∧ decode cX11_copy 128 = .ok (.iload 4, 2) ∧ decode cX11_copy 130 = .ok (.if_icmp .lt 7, 3) ∧ decode cX11_copy 133 = .ok (.iconst 1, 1) ∧ decode cX11_copy 134 = .ok (.goto 4, 3) ∧ decode cX11_copy 137 = .ok (.iconst 0, 1) ∧ decode cX11_copy 138 = .ok (.istore 6, 2) ∧ decode cX11_copy 140 = .ok (.iconst 0, 1) ∧ decode cX11_copy 141 = .ok (.istore 7, 2) := by decide +kernel
theorem dX11_copy_122 : decode cX11_copy 122 = .ok (.iconst 2, 1) := dX11_copy_all6.1
theorem dX11_copy_123 : decode cX11_copy 123 = .ok (.invokevirtual 158, 3) := dX11_copy_all6.2.1
theorem dX11_copy_126 : decode cX11_copy 126 = .ok (.ireturn, 1) := dX11_copy_all6.2.2.1
theorem dX11_copy_127 : decode cX11_copy 127 = .ok (.iload_n 2, 1) := dX11_copy_all6.2.2.2.1
theorem dX11_copy_128 : decode cX11_copy 128 = .ok (.iload 4, 2) := dX11_copy_all6.2.2.2.2.1
theorem dX11_copy_130 : decode cX11_copy 130 = .ok (.if_icmp .lt 7, 3) := dX11_copy_all6.2.2.2.2.2.1
theorem dX11_copy_133 : decode cX11_copy 133 = .ok (.iconst 1, 1) := dX11_copy_all6.2.2.2.2.2.2.1
theorem dX11_copy_134 : decode cX11_copy 134 = .ok (.goto 4, 3) := dX11_copy_all6.2.2.2.2.2.2.2.1
theorem dX11_copy_137 : decode cX11_copy 137 = .ok (.iconst 0, 1) := dX11_copy_all6.2.2.2.2.2.2.2.2.1
theorem dX11_copy_138 : decode cX11_copy 138 = .ok (.istore 6, 2) := dX11_copy_all6.2.2.2.2.2.2.2.2.2.1
theorem dX11_copy_140 : decode cX11_copy 140 = .ok (.iconst 0, 1) := dX11_copy_all6.2.2.2.2.2.2.2.2.2.2.1
theorem dX11_copy_141 : decode cX11_copy 141 = .ok (.istore 7, 2) := dX11_copy_all6.2.2.2.2.2.2.2.2.2.2.2
theorem dX11_copy_all7 : decode cX11_copy 143 = .ok (.iload 7, 2) ∧ decode cX11_copy 145 = .ok (.iload 5, 2) ∧ decode cX11_copy 147 = .ok (.if_icmp .ge 57, 3) ∧ decode cX11_copy 150 = .ok (.iload 6, 2) ∧ decode cX11_copy 152 = .ok (.ifCond .eq 8, 3) ∧ decode cX11_copy 155 = .ok (.iload 7, 2) ∧ decode cX11_copy 157 = .ok (.goto 10, 3) ∧ decode cX11_copy 160 = .ok (.iload 5, 2) ∧ decode cX11_copy 162 = .ok (.iconst 1, 1) ∧ decode cX11_copy 163 = .ok (.isub, 1) ∧ decode cX11_copy 164 = .ok (.iload 7, 2) ∧ decode cX11_copy 166 = .ok (.isub, 1) := by decide +kernel
theorem dX11_copy_143 : decode cX11_copy 143 = .ok (.iload 7, 2) := dX11_copy_all7.1
theorem dX11_copy_145 : decode cX11_copy 145 = .ok (.iload 5, 2) := dX11_copy_all7.2.1
theorem dX11_copy_147 : decode cX11_copy 147 = .ok (.if_icmp .ge 57, 3) := dX11_copy_all7.2.2.1
theorem dX11_copy_150 : decode cX11_copy 150 = .ok (.iload 6, 2) := dX11_copy_all7.2.2.2.1
theorem dX11_copy_152 : decode cX11_copy 152 = .ok (.ifCond .eq 8, 3) := dX11_copy_all7.2.2.2.2.1
theorem dX11_copy_155 : decode cX11_copy 155 = .ok (.iload 7, 2) := dX11_copy_all7.2.2.2.2.2.1
theorem dX11_copy_157 : decode cX11_copy 157 = .ok (.goto 10, 3) := dX11_copy_all7.2.2.2.2.2.2.1
theorem dX11_copy_160 : decode cX11_copy 160 = .ok (.iload 5, 2) := dX11_copy_all7.2.2.2.2.2.2.2.1
theorem dX11_copy_162 : decode cX11_copy 162 = .ok (.iconst 1, 1) := dX11_copy_all7.2.2.2.2.2.2.2.2.1
theorem dX11_copy_163 : decode cX11_copy 163 = .ok (.isub, 1) := dX11_copy_all7.2.2.2.2.2.2.2.2.2.1
theorem dX11_copy_164 : decode cX11_copy 164 = .ok (.iload 7, 2) := dX11_copy_all7.2.2.2.2.2.2.2.2.2.2.1
theorem dX11_copy_166 : decode cX11_copy 166 = .ok (.isub, 1) := dX11_copy_all7.2.2.2.2.2.2.2.2.2.2.2
theorem dX11_copy_all8 : decode cX11_copy 167 = .ok (.istore 8, 2) ∧ decode cX11_copy 169 = .ok (.aload_n 0, 1) ∧ decode cX11_copy 170 = .ok (.getfield 20, 3) ∧ decode cX11_copy 173 = .ok (.bipush 60, 2) ∧ decode cX11_copy 175 = .ok (.iload_n 3, 1) ∧ decode cX11_copy 176 = .ok (.imul, 1) ∧ decode cX11_copy 177 = .ok (.iload 4, 2) ∧ decode cX11_copy 179 = .ok (.iadd, 1) ∧ decode cX11_copy 180 = .ok (.iload 8, 2) ∧ decode cX11_copy 182 = .ok (.iadd, 1) ∧ decode cX11_copy 183 = .ok (.aload_n 0, 1) ∧ decode cX11_copy 184 = .ok (.getfield 20, 3) := by decide +kernel
theorem dX11_copy_167 : decode cX11_copy 167 = .ok (.istore 8, 2) := dX11_copy_all8.1
theorem dX11_copy_169 : decode cX11_copy 169 = .ok (.aload_n 0, 1) := dX11_copy_all8.2.1
theorem dX11_copy_170 : decode cX11_copy 170 = .ok (.getfield 20, 3) := dX11_copy_all8.2.2.1
theorem dX11_copy_173 : decode cX11_copy 173 = .ok (.bipush 60, 2) := dX11_copy_all8.2.2.2.1
theorem dX11_copy_175 : decode cX11_copy 175 = .ok (.iload_n 3, 1) := dX11_copy_all8.2.2.2.2.1
theorem dX11_copy_176 : decode cX11_copy 176 = .ok (.imul, 1) := dX11_copy_all8.2.2.2.2.2.1
theorem dX11_copy_177 : decode cX11_copy 177 = .ok (.iload 4, 2) := dX11_copy_all8.2.2.2.2.2.2.1
theorem dX11_copy_179 : decode cX11_copy 179 = .ok (.iadd, 1) := dX11_copy_all8.2.2.2.2.2.2.2.1
theorem dX11_copy_180 : decode cX11_copy 180 = .ok (.iload 8, 2) := dX11_copy_all8.2.2.2.2.2.2.2.2.1
theorem dX11_copy_182 : decode cX11_copy 182 = .ok (.iadd, 1) := dX11_copy_all8.2.2.2.2.2.2.2.2.2.1
theorem dX11_copy_183 : decode cX11_copy 183 = .ok (.aload_n 0, 1) := dX11_copy_all8.2.2.2.2.2.2.2.2.2.2.1
theorem dX11_copy_184 : decode cX11_copy 184 = .ok (.getfield 20, 3) := dX11_copy_all8.2.2.2.2.2.2.2.2.2.2.2
theorem dX11_copy_all9 : decode cX11_copy 187 = .ok (.bipush 60, 2) ∧ decode cX11_copy 189 = .ok (.iload_n 1, 1) ∧ decode cX11_copy 190 = .ok (.imul, 1) ∧ decode cX11_copy 191 = .ok (.iload_n 2, 1) ∧ decode cX11_copy 192 = .ok (.iadd, 1) ∧ decode cX11_copy 193 = .ok (.iload 8, 2) ∧ decode cX11_copy 195 = .ok (.iadd, 1) ∧ decode cX11_copy 196 = .ok (.iaload, 1) ∧ decode cX11_copy 197 = .ok (.iastore, 1) ∧ decode cX11_copy 198 = .ok (.iinc 7 1, 3) ∧ decode cX11_copy 201 = .ok (.goto (-58), 3) ∧ decode cX11_copy 204 = .ok (.iload 5, 2) := by decide +kernel
theorem dX11_copy_187 : decode cX11_copy 187 = .ok (.bipush 60, 2) := dX11_copy_all9.1
theorem dX11_copy_189 : decode cX11_copy 189 = .ok (.iload_n 1, 1) := dX11_copy_all9.2.1
theorem dX11_copy_190 : decode cX11_copy 190 = .ok (.imul, 1) := dX11_copy_all9.2.2.1
theorem dX11_copy_191 : decode cX11_copy 191 = .ok (.iload_n 2, 1) := dX11_copy_all9.2.2.2.1
theorem dX11_copy_192 : decode cX11_copy 192 = .ok (.iadd, 1) := dX11_copy_all9.2.2.2.2.1
theorem dX11_copy_193 : decode cX11_copy 193 = .ok (.iload 8, 2) := dX11_copy_all9.2.2.2.2.2.1
theorem dX11_copy_195 : decode cX11_copy 195 = .ok (.iadd, 1) := dX11_copy_all9.2.2.2.2.2.2.1
theorem dX11_copy_196 : decode cX11_copy 196 = .ok (.iaload, 1) := dX11_copy_all9.2.2.2.2.2.2.2.1
theorem dX11_copy_197 : decode cX11_copy 197 = .ok (.iastore, 1) := dX11_copy_all9.2.2.2.2.2.2.2.2.1
theorem dX11_copy_198 : decode cX11_copy 198 = .ok (.iinc 7 1, 3) := dX11_copy_all9.2.2.2.2.2.2.2.2.2.1
theorem dX11_copy_201 : decode cX11_copy 201 = .ok (.goto (-58), 3) := dX11_copy_all9.2.2.2.2.2.2.2.2.2.2.1
theorem dX11_copy_204 : decode cX11_copy 204 = .ok (.iload 5, 2) := dX11_copy_all9.2.2.2.2.2.2.2.2.2.2.2
theorem dX11_copy_206 : decode cX11_copy 206 = .ok (.ireturn, 1) := by decide +kernel
theorem ggX11_drop_X11_isSheet : GoodIn wsX11_drop wsX11_isSheet := goodIn_s (fun _ h => wm_t (wm_r (wm_l (wm_r h)))) Gd_X11_isSheet
theorem gX11_drop_X11_isSheet : GoodIn wsX11_drop (va_wsS RX11 151 yX11_isSheet wsX11_isSheet) := goodIn_S (own := RX11) (idx := 151) (y := yX11_isSheet) (wm_t (wm_l (wm_i 5 rfl))) (wm_t (wm_l (wm_i 6 rfl))) (wm_t (wm_l (wm_i 7 rfl))) ggX11_drop_X11_isSheet
theorem ggX11_drop_X11_found : GoodIn wsX11_drop wsX11_found := goodIn_s (fun _ h => wm_t (wm_r (wm_r h))) Gd_X11_found
theorem gX11_drop_X11_found : GoodIn wsX11_drop (wsV RX11 158 RX11 yX11_found wsX11_found) := goodIn_V (own := RX11) (idx := 158) (C := RX11) (y := yX11_found) (wm_t (wm_l (wm_i 8 rfl))) (wm_t (wm_l (wm_i 9 rfl))) (wm_t (wm_l (wm_i 10 rfl))) (wm_t (wm_l (wm_i 7 rfl))) ggX11_drop_X11_found
theorem dX11_drop_all0 : decode cX11_drop 0 = .ok (.aload_n 0, 1) ∧ decode cX11_drop 1 = .ok (.iconst 0, 1) ∧ decode cX11_drop 2 = .ok (.putfield 1, 3) ∧ decode cX11_drop 5 = .ok (.iload_n 1, 1) ∧ decode cX11_drop 6 = .ok (.invokestatic 151, 3) ∧ decode cX11_drop 9 = .ok (.ifCond .ne 6, 3) ∧ decode cX11_drop 12 = .ok (.ldc 157, 2) ∧ decode cX11_drop 14 = .ok (.ireturn, 1) ∧ decode cX11_drop 15 = .ok (.aload_n 0, 1) ∧ decode cX11_drop 16 = .ok (.iconst 0, 1) ∧ decode cX11_drop 17 = .ok (.putfield 141, 3) ∧ decode cX11_drop 20 = .ok (.aload_n 0, 1) := by decide +kernel
theorem dX11_drop_0 : decode cX11_drop 0 = .ok (.aload_n 0, 1) := dX11_drop_all0.1
theorem dX11_drop_1 : decode cX11_drop 1 = .ok (.iconst 0, 1) := dX11_drop_all0.2.1
theorem dX11_drop_2 : decode cX11_drop 2 = .ok (.putfield 1, 3) := dX11_drop_all0.2.2.1
theorem dX11_drop_5 : decode cX11_drop 5 = .ok (.iload_n 1, 1) := dX11_drop_all0.2.2.2.1
theorem dX11_drop_6 : decode cX11_drop 6 = .ok (.invokestatic 151, 3) := dX11_drop_all0.2.2.2.2.1
theorem dX11_drop_9 : decode cX11_drop 9 = .ok (.ifCond .ne 6, 3) := dX11_drop_all0.2.2.2.2.2.1
theorem dX11_drop_12 : decode cX11_drop 12 = .ok (.ldc 157, 2) := dX11_drop_all0.2.2.2.2.2.2.1
theorem dX11_drop_14 : decode cX11_drop 14 = .ok (.ireturn, 1) := dX11_drop_all0.2.2.2.2.2.2.2.1
theorem dX11_drop_15 : decode cX11_drop 15 = .ok (.aload_n 0, 1) := dX11_drop_all0.2.2.2.2.2.2.2.2.1
theorem dX11_drop_16 : decode cX11_drop 16 = .ok (.iconst 0, 1) := dX11_drop_all0.2.2.2.2.2.2.2.2.2.1
theorem dX11_drop_17 : decode cX11_drop 17 = .ok (.putfield 141, 3) := dX11_drop_all0.2.2.2.2.2.2.2.2.2.2.1
theorem dX11_drop_20 : decode cX11_drop 20 = .ok (.aload_n 0, 1) := dX11_drop_all0.2.2.2.2.2.2.2.2.2.2.2
theorem dX11_drop_all1 : decode cX11_drop 21 = .ok (.getfield 13, 3) ∧ decode cX11_drop 24 = .ok (.iload_n 1, 1) ∧ decode cX11_drop 25 = .ok (.iaload, 1) ∧ decode cX11_drop 26 = .ok (.ifCond .ge 9, 3) ∧ decode cX11_drop 29 = .ok (.aload_n 0, 1) ∧ decode cX11_drop 30 = .ok (.iconst 1, 1) ∧ decode cX11_drop 31 = .ok (.invokevirtual 158, 3) ∧ decode cX11_drop 34 = .ok (.ireturn, 1) ∧ decode cX11_drop 35 = .ok (.aload_n 0, 1) ∧ decode cX11_drop 36 = .ok (.getfield 13, 3) ∧ decode cX11_drop 39 = .ok (.iload_n 1, 1) ∧ decode cX11_drop 40 = .ok (.iconst (-1), 1) := by decide +kernel
theorem dX11_drop_21 : decode cX11_drop 21 = .ok (.getfield 13, 3) := dX11_drop_all1.1
theorem dX11_drop_24 : decode cX11_drop 24 = .ok (.iload_n 1, 1) := dX11_drop_all1.2.1
theorem dX11_drop_25 : decode cX11_drop 25 = .ok (.iaload, 1) := dX11_drop_all1.2.2.1
theorem dX11_drop_26 : decode cX11_drop 26 = .ok (.ifCond .ge 9, 3) := dX11_drop_all1.2.2.2.1
theorem dX11_drop_29 : decode cX11_drop 29 = .ok (.aload_n 0, 1) := dX11_drop_all1.2.2.2.2.1
theorem dX11_drop_30 : decode cX11_drop 30 = .ok (.iconst 1, 1) := dX11_drop_all1.2.2.2.2.2.1
theorem dX11_drop_31 : decode cX11_drop 31 = .ok (.invokevirtual 158, 3) := dX11_drop_all1.2.2.2.2.2.2.1
theorem dX11_drop_34 : decode cX11_drop 34 = .ok (.ireturn, 1) := dX11_drop_all1.2.2.2.2.2.2.2.1
theorem dX11_drop_35 : decode cX11_drop 35 = .ok (.aload_n 0, 1) := dX11_drop_all1.2.2.2.2.2.2.2.2.1
theorem dX11_drop_36 : decode cX11_drop 36 = .ok (.getfield 13, 3) := dX11_drop_all1.2.2.2.2.2.2.2.2.2.1
theorem dX11_drop_39 : decode cX11_drop 39 = .ok (.iload_n 1, 1) := dX11_drop_all1.2.2.2.2.2.2.2.2.2.2.1
theorem dX11_drop_40 : decode cX11_drop 40 = .ok (.iconst (-1), 1) := dX11_drop_all1.2.2.2.2.2.2.2.2.2.2.2
theorem dX11_drop_all2 : decode cX11_drop 41 = .ok (.iastore, 1) ∧ decode cX11_drop 42 = .ok (.aload_n 0, 1) ∧ decode cX11_drop 43 = .ok (.getfield 17, 3) ∧ decode cX11_drop 46 = .ok (.iload_n 1, 1) ∧ decode cX11_drop 47 = .ok (.iaload, 1) ∧ decode cX11_drop 48 = .ok (.ireturn, 1) := by decide +kernel
theorem dX11_drop_41 : decode cX11_drop 41 = .ok (.iastore, 1) := dX11_drop_all2.1
theorem dX11_drop_42 : decode cX11_drop 42 = .ok (.aload_n 0, 1) := dX11_drop_all2.2.1
theorem dX11_drop_43 : decode cX11_drop 43 = .ok (.getfield 17, 3) := dX11_drop_all2.2.2.1
theorem dX11_drop_46 : decode cX11_drop 46 = .ok (.iload_n 1, 1) := dX11_drop_all2.2.2.2.1
theorem dX11_drop_47 : decode cX11_drop 47 = .ok (.iaload, 1) := dX11_drop_all2.2.2.2.2.1
theorem dX11_drop_48 : decode cX11_drop 48 = .ok (.ireturn, 1) := dX11_drop_all2.2.2.2.2.2
theorem ggX11_holds_X11_isSheet : GoodIn wsX11_holds wsX11_isSheet := goodIn_s (fun _ h => wm_t (wm_r (wm_l (wm_l (wm_r h))))) Gd_X11_isSheet
theorem gX11_holds_X11_isSheet : GoodIn wsX11_holds (va_wsS RX11 151 yX11_isSheet wsX11_isSheet) := goodIn_S (own := RX11) (idx := 151) (y := yX11_isSheet) (wm_t (wm_l (wm_i 7 rfl))) (wm_t (wm_l (wm_i 8 rfl))) (wm_t (wm_l (wm_i 9 rfl))) ggX11_holds_X11_isSheet
theorem ggX11_holds_X11_in : GoodIn wsX11_holds wsX11_in := goodIn_s (fun _ h => wm_t (wm_r (wm_l (wm_r h)))) Gd_X11_in
theorem gX11_holds_X11_in : GoodIn wsX11_holds (va_wsS RX11 147 yX11_in wsX11_in) := goodIn_S (own := RX11) (idx := 147) (y := yX11_in) (wm_t (wm_l (wm_i 10 rfl))) (wm_t (wm_l (wm_i 11 rfl))) (wm_t (wm_l (wm_i 9 rfl))) ggX11_holds_X11_in
theorem ggX11_holds_X11_found : GoodIn wsX11_holds wsX11_found := goodIn_s (fun _ h => wm_t (wm_r (wm_r (wm_l h)))) Gd_X11_found
theorem gX11_holds_X11_found : GoodIn wsX11_holds (wsV RX11 158 RX11 yX11_found wsX11_found) := goodIn_V (own := RX11) (idx := 158) (C := RX11) (y := yX11_found) (wm_t (wm_l (wm_i 12 rfl))) (wm_t (wm_l (wm_i 13 rfl))) (wm_t (wm_l (wm_i 14 rfl))) (wm_t (wm_l (wm_i 9 rfl))) ggX11_holds_X11_found
theorem ggX11_holds_X11_holding : GoodIn wsX11_holds wsX11_holding := goodIn_s (fun _ h => wm_t (wm_r (wm_r (wm_r h)))) Gd_X11_holding
theorem gX11_holds_X11_holding : GoodIn wsX11_holds (wsV RX11 185 RX11 yX11_holding wsX11_holding) := goodIn_V (own := RX11) (idx := 185) (C := RX11) (y := yX11_holding) (wm_t (wm_l (wm_i 15 rfl))) (wm_t (wm_l (wm_i 16 rfl))) (wm_t (wm_l (wm_i 17 rfl))) (wm_t (wm_l (wm_i 9 rfl))) ggX11_holds_X11_holding
theorem dX11_holds_all0 : decode cX11_holds 0 = .ok (.aload_n 0, 1) ∧ decode cX11_holds 1 = .ok (.iconst 0, 1) ∧ decode cX11_holds 2 = .ok (.putfield 1, 3) ∧ decode cX11_holds 5 = .ok (.iload_n 1, 1) ∧ decode cX11_holds 6 = .ok (.invokestatic 151, 3) ∧ decode cX11_holds 9 = .ok (.ifCond .eq 15, 3) ∧ decode cX11_holds 12 = .ok (.iload_n 3, 1) ∧ decode cX11_holds 13 = .ok (.i2l, 1) ∧ decode cX11_holds 14 = .ok (.lconst 1, 1) ∧ decode cX11_holds 15 = .ok (.ldc2_w 189, 3) ∧ decode cX11_holds 18 = .ok (.invokestatic 147, 3) ∧ decode cX11_holds 21 = .ok (.ifCond .ne 6, 3) := by decide +kernel
theorem dX11_holds_0 : decode cX11_holds 0 = .ok (.aload_n 0, 1) := dX11_holds_all0.1
theorem dX11_holds_1 : decode cX11_holds 1 = .ok (.iconst 0, 1) := dX11_holds_all0.2.1
theorem dX11_holds_2 : decode cX11_holds 2 = .ok (.putfield 1, 3) := dX11_holds_all0.2.2.1
theorem dX11_holds_5 : decode cX11_holds 5 = .ok (.iload_n 1, 1) := dX11_holds_all0.2.2.2.1
theorem dX11_holds_6 : decode cX11_holds 6 = .ok (.invokestatic 151, 3) := dX11_holds_all0.2.2.2.2.1
theorem dX11_holds_9 : decode cX11_holds 9 = .ok (.ifCond .eq 15, 3) := dX11_holds_all0.2.2.2.2.2.1
theorem dX11_holds_12 : decode cX11_holds 12 = .ok (.iload_n 3, 1) := dX11_holds_all0.2.2.2.2.2.2.1
theorem dX11_holds_13 : decode cX11_holds 13 = .ok (.i2l, 1) := dX11_holds_all0.2.2.2.2.2.2.2.1
theorem dX11_holds_14 : decode cX11_holds 14 = .ok (.lconst 1, 1) := dX11_holds_all0.2.2.2.2.2.2.2.2.1
theorem dX11_holds_15 : decode cX11_holds 15 = .ok (.ldc2_w 189, 3) := dX11_holds_all0.2.2.2.2.2.2.2.2.2.1
theorem dX11_holds_18 : decode cX11_holds 18 = .ok (.invokestatic 147, 3) := dX11_holds_all0.2.2.2.2.2.2.2.2.2.2.1
theorem dX11_holds_21 : decode cX11_holds 21 = .ok (.ifCond .ne 6, 3) := dX11_holds_all0.2.2.2.2.2.2.2.2.2.2.2
theorem dX11_holds_all1 : decode cX11_holds 24 = .ok (.ldc 157, 2) ∧ decode cX11_holds 26 = .ok (.ireturn, 1) ∧ decode cX11_holds 27 = .ok (.aload_n 0, 1) ∧ decode cX11_holds 28 = .ok (.iconst 0, 1) ∧ decode cX11_holds 29 = .ok (.putfield 141, 3) ∧ decode cX11_holds 32 = .ok (.aload_n 0, 1) ∧ decode cX11_holds 33 = .ok (.getfield 13, 3) ∧ decode cX11_holds 36 = .ok (.iload_n 1, 1) ∧ decode cX11_holds 37 = .ok (.iaload, 1) ∧ decode cX11_holds 38 = .ok (.ifCond .ge 9, 3) ∧ decode cX11_holds 41 = .ok (.aload_n 0, 1) ∧ decode cX11_holds 42 = .ok (.iconst 1, 1) := by decide +kernel
theorem dX11_holds_24 : decode cX11_holds 24 = .ok (.ldc 157, 2) := dX11_holds_all1.1
theorem dX11_holds_26 : decode cX11_holds 26 = .ok (.ireturn, 1) := dX11_holds_all1.2.1
theorem dX11_holds_27 : decode cX11_holds 27 = .ok (.aload_n 0, 1) := dX11_holds_all1.2.2.1
theorem dX11_holds_28 : decode cX11_holds 28 = .ok (.iconst 0, 1) := dX11_holds_all1.2.2.2.1
theorem dX11_holds_29 : decode cX11_holds 29 = .ok (.putfield 141, 3) := dX11_holds_all1.2.2.2.2.1
theorem dX11_holds_32 : decode cX11_holds 32 = .ok (.aload_n 0, 1) := dX11_holds_all1.2.2.2.2.2.1
theorem dX11_holds_33 : decode cX11_holds 33 = .ok (.getfield 13, 3) := dX11_holds_all1.2.2.2.2.2.2.1
theorem dX11_holds_36 : decode cX11_holds 36 = .ok (.iload_n 1, 1) := dX11_holds_all1.2.2.2.2.2.2.2.1
theorem dX11_holds_37 : decode cX11_holds 37 = .ok (.iaload, 1) := dX11_holds_all1.2.2.2.2.2.2.2.2.1
theorem dX11_holds_38 : decode cX11_holds 38 = .ok (.ifCond .ge 9, 3) := dX11_holds_all1.2.2.2.2.2.2.2.2.2.1
theorem dX11_holds_41 : decode cX11_holds 41 = .ok (.aload_n 0, 1) := dX11_holds_all1.2.2.2.2.2.2.2.2.2.2.1
theorem dX11_holds_42 : decode cX11_holds 42 = .ok (.iconst 1, 1) := dX11_holds_all1.2.2.2.2.2.2.2.2.2.2.2
theorem dX11_holds_all2 : decode cX11_holds 43 = .ok (.invokevirtual 158, 3) ∧ decode cX11_holds 46 = .ok (.ireturn, 1) ∧ decode cX11_holds 47 = .ok (.iload_n 2, 1) ∧ decode cX11_holds 48 = .ok (.ifCond .lt 21, 3) ∧ decode cX11_holds 51 = .ok (.iload_n 2, 1) ∧ decode cX11_holds 52 = .ok (.i2l, 1) ∧ decode cX11_holds 53 = .ok (.iconst 4, 1) ∧ decode cX11_holds 54 = .ok (.iload_n 3, 1) ∧ decode cX11_holds 55 = .ok (.imul, 1) ∧ decode cX11_holds 56 = .ok (.i2l, 1) ∧ decode cX11_holds 57 = .ok (.ladd, 1) ∧ decode cX11_holds 58 = .ok (.aload_n 0, 1) := by decide +kernel
theorem dX11_holds_43 : decode cX11_holds 43 = .ok (.invokevirtual 158, 3) := dX11_holds_all2.1
theorem dX11_holds_46 : decode cX11_holds 46 = .ok (.ireturn, 1) := dX11_holds_all2.2.1
theorem dX11_holds_47 : decode cX11_holds 47 = .ok (.iload_n 2, 1) := dX11_holds_all2.2.2.1
theorem dX11_holds_48 : decode cX11_holds 48 = .ok (.ifCond .lt 21, 3) := dX11_holds_all2.2.2.2.1
theorem dX11_holds_51 : decode cX11_holds 51 = .ok (.iload_n 2, 1) := dX11_holds_all2.2.2.2.2.1
theorem dX11_holds_52 : decode cX11_holds 52 = .ok (.i2l, 1) := dX11_holds_all2.2.2.2.2.2.1
theorem dX11_holds_53 : decode cX11_holds 53 = .ok (.iconst 4, 1) := dX11_holds_all2.2.2.2.2.2.2.1
theorem dX11_holds_54 : decode cX11_holds 54 = .ok (.iload_n 3, 1) := dX11_holds_all2.2.2.2.2.2.2.2.1
theorem dX11_holds_55 : decode cX11_holds 55 = .ok (.imul, 1) := dX11_holds_all2.2.2.2.2.2.2.2.2.1
theorem dX11_holds_56 : decode cX11_holds 56 = .ok (.i2l, 1) := dX11_holds_all2.2.2.2.2.2.2.2.2.2.1
theorem dX11_holds_57 : decode cX11_holds 57 = .ok (.ladd, 1) := dX11_holds_all2.2.2.2.2.2.2.2.2.2.2.1
theorem dX11_holds_58 : decode cX11_holds 58 = .ok (.aload_n 0, 1) := dX11_holds_all2.2.2.2.2.2.2.2.2.2.2.2
theorem dX11_holds_all3 : decode cX11_holds 59 = .ok (.getfield 17, 3) ∧ decode cX11_holds 62 = .ok (.iload_n 1, 1) ∧ decode cX11_holds 63 = .ok (.iaload, 1) ∧ decode cX11_holds 64 = .ok (.i2l, 1) ∧ decode cX11_holds 65 = .ok (.lcmp, 1) ∧ decode cX11_holds 66 = .ok (.ifCond .le 9, 3) ∧ decode cX11_holds 69 = .ok (.aload_n 0, 1) ∧ decode cX11_holds 70 = .ok (.iconst 2, 1) ∧ decode cX11_holds 71 = .ok (.invokevirtual 158, 3) ∧ decode cX11_holds 74 = .ok (.ireturn, 1) ∧ decode cX11_holds 75 = .ok (.iconst 0, 1) ∧ decode cX11_holds 76 = .ok (.istore 4, 2) := by decide +kernel
theorem dX11_holds_59 : decode cX11_holds 59 = .ok (.getfield 17, 3) := dX11_holds_all3.1
theorem dX11_holds_62 : decode cX11_holds 62 = .ok (.iload_n 1, 1) := dX11_holds_all3.2.1
theorem dX11_holds_63 : decode cX11_holds 63 = .ok (.iaload, 1) := dX11_holds_all3.2.2.1
theorem dX11_holds_64 : decode cX11_holds 64 = .ok (.i2l, 1) := dX11_holds_all3.2.2.2.1
theorem dX11_holds_65 : decode cX11_holds 65 = .ok (.lcmp, 1) := dX11_holds_all3.2.2.2.2.1
theorem dX11_holds_66 : decode cX11_holds 66 = .ok (.ifCond .le 9, 3) := dX11_holds_all3.2.2.2.2.2.1
theorem dX11_holds_69 : decode cX11_holds 69 = .ok (.aload_n 0, 1) := dX11_holds_all3.2.2.2.2.2.2.1
theorem dX11_holds_70 : decode cX11_holds 70 = .ok (.iconst 2, 1) := dX11_holds_all3.2.2.2.2.2.2.2.1
theorem dX11_holds_71 : decode cX11_holds 71 = .ok (.invokevirtual 158, 3) := dX11_holds_all3.2.2.2.2.2.2.2.2.1
theorem dX11_holds_74 : decode cX11_holds 74 = .ok (.ireturn, 1) := dX11_holds_all3.2.2.2.2.2.2.2.2.2.1
theorem dX11_holds_75 : decode cX11_holds 75 = .ok (.iconst 0, 1) := dX11_holds_all3.2.2.2.2.2.2.2.2.2.2.1
theorem dX11_holds_76 : decode cX11_holds 76 = .ok (.istore 4, 2) := dX11_holds_all3.2.2.2.2.2.2.2.2.2.2.2
theorem dX11_holds_all4 : decode cX11_holds 78 = .ok (.iconst 0, 1) ∧ decode cX11_holds 79 = .ok (.istore 5, 2) ∧ decode cX11_holds 81 = .ok (.iload 5, 2) ∧ decode cX11_holds 83 = .ok (.iload_n 3, 1) ∧ decode cX11_holds 84 = .ok (.if_icmp .ge 73, 3) ∧ decode cX11_holds 87 = .ok (.bipush 60, 2) ∧ decode cX11_holds 89 = .ok (.iload_n 1, 1) ∧ decode cX11_holds 90 = .ok (.imul, 1) ∧ decode cX11_holds 91 = .ok (.iload_n 2, 1) ∧ decode cX11_holds 92 = .ok (.iadd, 1) ∧ decode cX11_holds 93 = .ok (.iconst 4, 1) ∧ decode cX11_holds 94 = .ok (.iload 5, 2) := by decide +kernel
theorem dX11_holds_78 : decode cX11_holds 78 = .ok (.iconst 0, 1) := dX11_holds_all4.1
theorem dX11_holds_79 : decode cX11_holds 79 = .ok (.istore 5, 2) := dX11_holds_all4.2.1
theorem dX11_holds_81 : decode cX11_holds 81 = .ok (.iload 5, 2) := dX11_holds_all4.2.2.1
theorem dX11_holds_83 : decode cX11_holds 83 = .ok (.iload_n 3, 1) := dX11_holds_all4.2.2.2.1
theorem dX11_holds_84 : decode cX11_holds 84 = .ok (.if_icmp .ge 73, 3) := dX11_holds_all4.2.2.2.2.1
theorem dX11_holds_87 : decode cX11_holds 87 = .ok (.bipush 60, 2) := dX11_holds_all4.2.2.2.2.2.1
theorem dX11_holds_89 : decode cX11_holds 89 = .ok (.iload_n 1, 1) := dX11_holds_all4.2.2.2.2.2.2.1
theorem dX11_holds_90 : decode cX11_holds 90 = .ok (.imul, 1) := dX11_holds_all4.2.2.2.2.2.2.2.1
theorem dX11_holds_91 : decode cX11_holds 91 = .ok (.iload_n 2, 1) := dX11_holds_all4.2.2.2.2.2.2.2.2.1
theorem dX11_holds_92 : decode cX11_holds 92 = .ok (.iadd, 1) := dX11_holds_all4.2.2.2.2.2.2.2.2.2.1
theorem dX11_holds_93 : decode cX11_holds 93 = .ok (.iconst 4, 1) := dX11_holds_all4.2.2.2.2.2.2.2.2.2.2.1
theorem dX11_holds_94 : decode cX11_holds 94 = .ok (.iload 5, 2) := dX11_holds_all4.2.2.2.2.2.2.2.2.2.2.2
theorem dX11_holds_all5 : decode cX11_holds 96 = .ok (.imul, 1) ∧ decode cX11_holds 97 = .ok (.iadd, 1) ∧ decode cX11_holds 98 = .ok (.istore 6, 2) ∧ decode cX11_holds 100 = .ok (.iload 4, 2) ∧ decode cX11_holds 102 = .ok (.aload_n 0, 1) ∧ decode cX11_holds 103 = .ok (.aload_n 0, 1) ∧ decode cX11_holds 104 = .ok (.getfield 20, 3) ∧ decode cX11_holds 107 = .ok (.iload 6, 2) ∧ decode cX11_holds 109 = .ok (.iaload, 1) ∧ decode cX11_holds 110 = .ok (.aload_n 0, 1) ∧ decode cX11_holds 111 = .ok (.getfield 20, 3) ∧ decode cX11_holds 114 = .ok (.iload 6, 2) := by decide +kernel
theorem dX11_holds_96 : decode cX11_holds 96 = .ok (.imul, 1) := dX11_holds_all5.1
theorem dX11_holds_97 : decode cX11_holds 97 = .ok (.iadd, 1) := dX11_holds_all5.2.1
theorem dX11_holds_98 : decode cX11_holds 98 = .ok (.istore 6, 2) := dX11_holds_all5.2.2.1
theorem dX11_holds_100 : decode cX11_holds 100 = .ok (.iload 4, 2) := dX11_holds_all5.2.2.2.1
theorem dX11_holds_102 : decode cX11_holds 102 = .ok (.aload_n 0, 1) := dX11_holds_all5.2.2.2.2.1
theorem dX11_holds_103 : decode cX11_holds 103 = .ok (.aload_n 0, 1) := dX11_holds_all5.2.2.2.2.2.1
theorem dX11_holds_104 : decode cX11_holds 104 = .ok (.getfield 20, 3) := dX11_holds_all5.2.2.2.2.2.2.1
theorem dX11_holds_107 : decode cX11_holds 107 = .ok (.iload 6, 2) := dX11_holds_all5.2.2.2.2.2.2.2.1
theorem dX11_holds_109 : decode cX11_holds 109 = .ok (.iaload, 1) := dX11_holds_all5.2.2.2.2.2.2.2.2.1
theorem dX11_holds_110 : decode cX11_holds 110 = .ok (.aload_n 0, 1) := dX11_holds_all5.2.2.2.2.2.2.2.2.2.1
theorem dX11_holds_111 : decode cX11_holds 111 = .ok (.getfield 20, 3) := dX11_holds_all5.2.2.2.2.2.2.2.2.2.2.1
theorem dX11_holds_114 : decode cX11_holds 114 = .ok (.iload 6, 2) := dX11_holds_all5.2.2.2.2.2.2.2.2.2.2.2
theorem dX11_holds_all6 : decode cX11_holds 116 = .ok (.iconst 1, 1) ∧ decode cX11_holds 117 = .ok (.iadd, 1) ∧ decode cX11_holds 118 = .ok (.iaload, 1) ∧ decode cX11_holds 119 = .ok (.aload_n 0, 1) ∧ decode cX11_holds 120 = .ok (.getfield 20, 3) ∧ decode cX11_holds 123 = .ok (.iload 6, 2) ∧ decode cX11_holds 125 = .ok (.iconst 2, 1) ∧ decode cX11_holds 126 = .ok (.iadd, 1) ∧ decode cX11_holds 127 = .ok (.iaload, 1) ∧ decode cX11_holds 128 = .ok (.aload_n 0, 1) ∧ decode cX11_holds 129 = .ok (.getfield 20, 3) ∧ decode cX11_holds 132 = .ok (.iload 6, 2) := by decide +kernel
theorem dX11_holds_116 : decode cX11_holds 116 = .ok (.iconst 1, 1) := dX11_holds_all6.1
theorem dX11_holds_117 : decode cX11_holds 117 = .ok (.iadd, 1) := dX11_holds_all6.2.1
theorem dX11_holds_118 : decode cX11_holds 118 = .ok (.iaload, 1) := dX11_holds_all6.2.2.1
theorem dX11_holds_119 : decode cX11_holds 119 = .ok (.aload_n 0, 1) := dX11_holds_all6.2.2.2.1
theorem dX11_holds_120 : decode cX11_holds 120 = .ok (.getfield 20, 3) := dX11_holds_all6.2.2.2.2.1
theorem dX11_holds_123 : decode cX11_holds 123 = .ok (.iload 6, 2) := dX11_holds_all6.2.2.2.2.2.1
theorem dX11_holds_125 : decode cX11_holds 125 = .ok (.iconst 2, 1) := dX11_holds_all6.2.2.2.2.2.2.1
theorem dX11_holds_126 : decode cX11_holds 126 = .ok (.iadd, 1) := dX11_holds_all6.2.2.2.2.2.2.2.1
theorem dX11_holds_127 : decode cX11_holds 127 = .ok (.iaload, 1) := dX11_holds_all6.2.2.2.2.2.2.2.2.1
theorem dX11_holds_128 : decode cX11_holds 128 = .ok (.aload_n 0, 1) := dX11_holds_all6.2.2.2.2.2.2.2.2.2.1
theorem dX11_holds_129 : decode cX11_holds 129 = .ok (.getfield 20, 3) := dX11_holds_all6.2.2.2.2.2.2.2.2.2.2.1
theorem dX11_holds_132 : decode cX11_holds 132 = .ok (.iload 6, 2) := dX11_holds_all6.2.2.2.2.2.2.2.2.2.2.2
theorem dX11_holds_all7 : decode cX11_holds 134 = .ok (.iconst 3, 1) ∧ decode cX11_holds 135 = .ok (.iadd, 1) ∧ decode cX11_holds 136 = .ok (.iaload, 1) ∧ decode cX11_holds 137 = .ok (.invokevirtual 185, 3) ∧ decode cX11_holds 140 = .ok (.ifCond .lt 7, 3) ∧ decode cX11_holds 143 = .ok (.iconst 1, 1) ∧ decode cX11_holds 144 = .ok (.goto 4, 3) ∧ decode cX11_holds 147 = .ok (.iconst 0, 1) ∧ decode cX11_holds 148 = .ok (.iadd, 1) ∧ decode cX11_holds 149 = .ok (.istore 4, 2) ∧ decode cX11_holds 151 = .ok (.iinc 5 1, 3) ∧ decode cX11_holds 154 = .ok (.goto (-73), 3) := by decide +kernel
theorem dX11_holds_134 : decode cX11_holds 134 = .ok (.iconst 3, 1) := dX11_holds_all7.1
theorem dX11_holds_135 : decode cX11_holds 135 = .ok (.iadd, 1) := dX11_holds_all7.2.1
theorem dX11_holds_136 : decode cX11_holds 136 = .ok (.iaload, 1) := dX11_holds_all7.2.2.1
theorem dX11_holds_137 : decode cX11_holds 137 = .ok (.invokevirtual 185, 3) := dX11_holds_all7.2.2.2.1
theorem dX11_holds_140 : decode cX11_holds 140 = .ok (.ifCond .lt 7, 3) := dX11_holds_all7.2.2.2.2.1
theorem dX11_holds_143 : decode cX11_holds 143 = .ok (.iconst 1, 1) := dX11_holds_all7.2.2.2.2.2.1
theorem dX11_holds_144 : decode cX11_holds 144 = .ok (.goto 4, 3) := dX11_holds_all7.2.2.2.2.2.2.1
theorem dX11_holds_147 : decode cX11_holds 147 = .ok (.iconst 0, 1) := dX11_holds_all7.2.2.2.2.2.2.2.1
theorem dX11_holds_148 : decode cX11_holds 148 = .ok (.iadd, 1) := dX11_holds_all7.2.2.2.2.2.2.2.2.1
theorem dX11_holds_149 : decode cX11_holds 149 = .ok (.istore 4, 2) := dX11_holds_all7.2.2.2.2.2.2.2.2.2.1
theorem dX11_holds_151 : decode cX11_holds 151 = .ok (.iinc 5 1, 3) := dX11_holds_all7.2.2.2.2.2.2.2.2.2.2.1
theorem dX11_holds_154 : decode cX11_holds 154 = .ok (.goto (-73), 3) := dX11_holds_all7.2.2.2.2.2.2.2.2.2.2.2
theorem dX11_holds_all8 : decode cX11_holds 157 = .ok (.iload 4, 2) ∧ decode cX11_holds 159 = .ok (.ireturn, 1) := by decide +kernel
theorem dX11_holds_157 : decode cX11_holds 157 = .ok (.iload 4, 2) := dX11_holds_all8.1
theorem dX11_holds_159 : decode cX11_holds 159 = .ok (.ireturn, 1) := dX11_holds_all8.2

def okM (mm : Nat → Int32) : Prop := ∀ j : Nat, j < 8 → 0 ≤ (mm j).toInt ∧ (mm j).toInt ≤ 60
theorem okM_at {ss : Nat → Int32} (h : okM ss) {i v : Int32} (e : v = ss i.toNatClampNeg) (h0 : 0 ≤ i.toInt) (h1 : i.toInt < 8) : 0 ≤ v.toInt ∧ v.toInt ≤ 60 := by
  have := i_cl h0
  rw [e]
  exact h _ (by omega)
theorem okM_up {ss : Nat → Int32} (h : okM ss) {n : Int32} (k : Nat) (h0 : 0 ≤ n.toInt) (h1 : n.toInt ≤ 60) : okM (upd ss k n) := by
  intro j hj
  by_cases e : j = k
  · subst e; rw [upd_s]; exact ⟨h0, h1⟩
  · rw [upd_n _ _ e]; exact h j hj
def an_sheet (a b n : Int32) : Int32 := if 0 ≤ a.toInt ∧ a.toInt < 8 ∧ 0 ≤ b.toInt ∧ b.toInt < 3 ∧ n.toInt ≤ 60 then (if n.toInt < 0 then -1000014 else n) else -1000001
/-- what sheet leaves -/
def ps_sheet (mst : Int32) (ml mm mi : Nat → Int32) (a b n mst' : Int32) (ml' mm' mi' : Nat → Int32) : Prop :=
  if 0 ≤ a.toInt ∧ a.toInt < 8 ∧ 0 ≤ b.toInt ∧ b.toInt < 3 ∧ n.toInt ≤ 60 then
    (if n.toInt < 0 then mst' = 4 ∧ ml' = ml ∧ mm' = mm ∧ mi' = mi
     else mst' = 0 ∧ ml' = upd ml a.toNatClampNeg b ∧ mm' = upd mm a.toNatClampNeg n ∧ ∀ q : Nat, mi' q = if 60 * a.toInt ≤ (q : Int) ∧ (q : Int) < 60 * a.toInt + 60 then 0 else mi q)
  else mst' = mst ∧ ml' = ml ∧ mm' = mm ∧ mi' = mi
theorem fillz {m mi : Nat → Int32} {A k k' : Int} {i : Nat} (h : ∀ q : Nat, m q = if A ≤ (q : Int) ∧ (q : Int) < A + k then 0 else mi q) (hi : (i : Int) = A + k) (hk : k' = k + 1) (h0 : 0 ≤ k) : ∀ q : Nat, upd m i 0 q = if A ≤ (q : Int) ∧ (q : Int) < A + k' then 0 else mi q := by
  intro q
  by_cases e : q = i
  · subst e
    rw [upd_s, if_pos (by omega)]
  · rw [upd_n _ _ e, h q]
    by_cases c : A ≤ (q : Int) ∧ (q : Int) < A + k
    · rw [if_pos c, if_pos (by omega)]
    · rw [if_neg c, if_neg (by omega)]
/-- what set answers and leaves -/
def ps_set (mst : Int32) (ml mm mi : Nat → Int32) (a i v r mst' : Int32) (mi' : Nat → Int32) : Prop :=
  if 0 ≤ a.toInt ∧ a.toInt < 8 then
    (if (ml a.toNatClampNeg).toInt < 0 then r = -1000011 ∧ mst' = 1 ∧ mi' = mi
     else if 0 ≤ i.toInt ∧ i.toInt + 1 ≤ (mm a.toNatClampNeg).toInt then r = kept (ml a.toNatClampNeg) v ∧ mst' = 0 ∧ mi' = upd mi (60 * a.toNatClampNeg + i.toNatClampNeg) r
     else r = -1000012 ∧ mst' = 2 ∧ mi' = mi)
  else r = -1000001 ∧ mst' = mst ∧ mi' = mi
def cpyd (mi : Nat → Int32) (A B : Nat) (lo hi : Int) : Nat → Int32 := fun q => if lo ≤ (q : Int) ∧ (q : Int) < hi then mi (q + A - B) else mi q
theorem cpyd_0 {mi : Nat → Int32} {A B : Nat} {lo hi : Int} (h : hi ≤ lo) : mi = cpyd mi A B lo hi := by
  funext q
  unfold cpyd
  rw [if_neg (by omega)]
theorem cpyd_up {m mi : Nat → Int32} {A B d s : Nat} {lo hi hi' : Int} (h : m = cpyd mi A B lo hi) (hd : (d : Int) = hi) (hh : hi' = hi + 1) (hl : lo ≤ hi) (hs : s + B = d + A) (hn : ¬ (lo ≤ (s : Int) ∧ (s : Int) < hi)) : upd m d (m s) = cpyd mi A B lo hi' := by
  subst h
  funext q
  by_cases e : q = d
  · subst e
    rw [upd_s]
    unfold cpyd
    rw [if_neg hn, if_pos (by omega)]
    congr 1
    omega
  · rw [upd_n _ _ e]
    unfold cpyd
    by_cases c : lo ≤ (q : Int) ∧ (q : Int) < hi
    · rw [if_pos c, if_pos (by omega)]
    · rw [if_neg c, if_neg (by omega)]
theorem cpyd_dn {m mi : Nat → Int32} {A B d s : Nat} {lo lo' hi : Int} (h : m = cpyd mi A B lo hi) (hd : (d : Int) + 1 = lo) (hh : lo' + 1 = lo) (hl : lo ≤ hi) (hs : s + B = d + A) (hn : ¬ (lo ≤ (s : Int) ∧ (s : Int) < hi)) : upd m d (m s) = cpyd mi A B lo' hi := by
  subst h
  funext q
  by_cases e : q = d
  · subst e
    rw [upd_s]
    unfold cpyd
    rw [if_neg hn, if_pos (by omega)]
    congr 1
    omega
  · rw [upd_n _ _ e]
    unfold cpyd
    by_cases c : lo ≤ (q : Int) ∧ (q : Int) < hi
    · rw [if_pos c, if_pos (by omega)]
    · rw [if_neg c, if_neg (by omega)]
/-- what copy answers and leaves -/
def ps_copy (mst : Int32) (ml mm mi : Nat → Int32) (a i b j n r mst' : Int32) (mi' : Nat → Int32) : Prop :=
  if 0 ≤ a.toInt ∧ a.toInt < 8 ∧ 0 ≤ b.toInt ∧ b.toInt < 8 then
    (if (ml a.toNatClampNeg).toInt < 0 ∨ (ml b.toNatClampNeg).toInt < 0 then r = -1000011 ∧ mst' = 1 ∧ mi' = mi
     else if ¬ (ml a.toNatClampNeg).toInt = (ml b.toNatClampNeg).toInt then r = -1000015 ∧ mst' = 5 ∧ mi' = mi
     else if 0 ≤ i.toInt ∧ 0 ≤ n.toInt ∧ i.toInt + n.toInt ≤ (mm a.toNatClampNeg).toInt ∧ 0 ≤ j.toInt ∧ j.toInt + n.toInt ≤ (mm b.toNatClampNeg).toInt then r = n ∧ mst' = 0 ∧ mi' = cpyd mi (60 * a.toNatClampNeg + i.toNatClampNeg) (60 * b.toNatClampNeg + j.toNatClampNeg) (60 * b.toInt + j.toInt) (60 * b.toInt + j.toInt + n.toInt)
     else r = -1000012 ∧ mst' = 2 ∧ mi' = mi)
  else r = -1000001 ∧ mst' = mst ∧ mi' = mi
def sm_holds (mst : Int32) (ml mm mi : Nat → Int32) (hn : Int32) (ho hc hp hs : Nat → Int32) (a i n : Int32) : Int32 × Int32 × Int32 × (Nat → Int32) × (Nat → Int32) × (Nat → Int32) × (Nat → Int32) :=
  if 0 ≤ a.toInt ∧ a.toInt < 8 ∧ 1 ≤ n.toInt ∧ n.toInt ≤ 15 then
    (if (ml a.toNatClampNeg).toInt < 0 then (-1000011, 1, hn, ho, hc, hp, hs)
     else if 0 ≤ i.toInt ∧ i.toInt + 4 * n.toInt ≤ (mm a.toNatClampNeg).toInt then ((foldH mi (60 * a.toNatClampNeg + i.toNatClampNeg) hn ho hc hp hs n.toNatClampNeg).1, 0, (foldH mi (60 * a.toNatClampNeg + i.toNatClampNeg) hn ho hc hp hs n.toNatClampNeg).2)
     else (-1000012, 2, hn, ho, hc, hp, hs))
  else (-1000001, mst, hn, ho, hc, hp, hs)
/-- what drop answers and leaves -/
def ps_drop (mst : Int32) (ml mm : Nat → Int32) (a r mst' : Int32) (ml' : Nat → Int32) : Prop :=
  if 0 ≤ a.toInt ∧ a.toInt < 8 then
    (if (ml a.toNatClampNeg).toInt < 0 then r = -1000011 ∧ mst' = 1 ∧ ml' = ml else r = mm a.toNatClampNeg ∧ mst' = 0 ∧ ml' = upd ml a.toNatClampNeg (-1))
  else r = -1000001 ∧ mst' = mst ∧ ml' = ml

set_option maxHeartbeats 4000000 in
set_option maxRecDepth 100000 in
theorem ct_X11_sheet (l : Launch) (D : va_G) (cI cY cJ cQ : ClassId) (sz : Nat) (md : Nat → Nat) (sd : Int32) (mth mst hn cn pn mq gn mln mnn ln mlt msz mcu mtk mfr mti mfa mfb an un lc td mtn : Int32) (ml mm mi : Nat → Int32) (a : Int32) (b : Int32) (n : Int32)  (h1 : okM mm)  : Met l yX11_sheet wsX11_sheet ({ frames := 2, cells := 0, slots := 0, locals := 45 }) (cPre D (ty4 cI cY cJ cQ) [(moC md sd mth mst hn cn pn mq gn mln mnn ln mlt msz mcu mtk mfr mti mfa mfb an un lc td mtn), (aI cI (md 3) 8 ml), (aI cI (md 4) 8 mm), (aI cI (md 5) 480 mi)] sz [.ref (md 64), .int a, .int b, .int n]) (va_Qi (fun (r : Int32) (u : Int32 × (Nat → Int32) × (Nat → Int32) × (Nat → Int32)) => r = an_sheet a b n ∧ okM u.2.2.1 ∧ ps_sheet mst ml mm mi a b n u.1 u.2.1 u.2.2.1 u.2.2.2) (cB D (ty4 cI cY cJ cQ) (fun (u : Int32 × (Nat → Int32) × (Nat → Int32) × (Nat → Int32)) => [(moC md sd 0 u.1 hn cn pn mq gn mln mnn ln mlt msz mcu mtk mfr mti mfa mfb an un lc td mtn), (aI cI (md 3) 8 u.2.1), (aI cI (md 4) 8 u.2.2.1), (aI cI (md 5) 480 u.2.2.2)]) (va_A [(moC md sd mth mst hn cn pn mq gn mln mnn ln mlt msz mcu mtk mfr mti mfa mfb an un lc td mtn), (aI cI (md 3) 8 ml), (aI cI (md 4) 8 mm), (aI cI (md 5) 480 mi)] sz)) (va_A [(moC md sd mth mst hn cn pn mq gn mln mnn ln mlt msz mcu mtk mfr mti mfa mfb an un lc td mtn), (aI cI (md 3) 8 ml), (aI cI (md 4) 8 mm), (aI cI (md 5) 480 mi)] sz)) 0 0 (va_A [(moC md sd mth mst hn cn pn mq gn mln mnn ln mlt msz mcu mtk mfr mti mfa mfb an un lc td mtn), (aI cI (md 3) 8 ml), (aI cI (md 4) 8 mm), (aI cI (md 5) 480 mi)] sz) := by
  refine Met.ofW (cc := cX11_sheet) (maxL := 5) (ret := (some .int)) (by decide) rfl ?_
  intro p e s m args below meth c s₁ B hml hv
  obtain ⟨rfl, hsz, hP, hK, hD0, hN⟩ := hv
  have hx := B.exec
  have hb := B.bytes
  have hr := B.returns
  have hts := atoms_spec (ws := wsX11_sheet) B.pre
  have hown : s.vm.findClass RX11 = some m.cls := findClass_of_methodNamed B.named
  have hlocks := B.notSynchronized
  subst hsz
  have hD := hD0.self (sz := s.heap.size)
  generalize hAe : va_A [(moC md sd mth mst hn cn pn mq gn mln mnn ln mlt msz mcu mtk mfr mti mfa mfb an un lc td mtn), (aI cI (md 3) 8 ml), (aI cI (md 4) 8 mm), (aI cI (md 5) 480 mi)] s.heap.size = A at hD ⊢
  have hA : ∀ q : Nat, s.heap.size ≤ q → A q := fun q h => by rw [← hAe]; exact Or.inr h
  have hS : va_S A s.heap s.heap [] := va_S.rf
  have hP : va_P D vwCl [(moC md sd mth mst hn cn pn mq gn mln mnn ln mlt msz mcu mtk mfr mti mfa mfb an un lc td mtn), (aI cI (md 3) 8 ml), (aI cI (md 4) 8 mm), (aI cI (md 5) 480 mi)] s.heap := hP
  have hl := lv_entry ([.ref (md 64), .int a, .int b, .int n]) (n := 5) (Nat.le_of_ble_eq_true rfl)
  rw [lg_entry_eq]
  generalize (lg_sl ([.ref (md 64), .int a, .int b, .int n]) ++ List.replicate (5 - (lg_sl ([.ref (md 64), .int a, .int b, .int n])).length) Slot.unset).toArray = ls at hl ⊢
  have hl : lv_has ls 5 [(0, .ref (md 64)), (1, .int a), (2, .int b), (3, .int n)] := hl
  have k0 : (0 : Int32).toInt = 0 := by decide
  have k1 : (1 : Int32).toInt = 1 := by decide
  have k4 : (4 : Int32).toInt = 4 := by decide
  have k60 : (60 : Int32).toInt = 60 := by decide
  have kl0 : (0 : Int64).toInt = 0 := by decide
  have kl2 : (2 : Int64).toInt = 2 := by decide
  refine lv_aload_n hx hb dX11_sheet_0 rfl (lv_at hl 0 rfl) ?_
  refine lv_iconst (v := 0) hx hb dX11_sheet_1 (by decide) ?_
  refine va_put (D := D) (ci := 11) (v := .int 0) (ty := .int) (C := RX11) (T := TX11) (N := 64) hx hb hts inX11_sheet_X11 tyX11 tyX11_ok nmX11 hown hK hP hD hS 0 rfl rfl 0 (by decide) (hts (Cond.fieldLink RX11 1 "PortRoomsModel" "thrown" "I") (wm_t (wm_l (wm_i 0 rfl)))) (fun _ h9 => h9) rfl (tyX11_ok 0 (by decide)) rfl rfl (Nat.le_of_ble_eq_true rfl) dX11_sheet_2 (fun H locs => ?_)
  clear hP hD hS
  intro hP hD hS
  replace hP : va_P D vwCl [(moC md sd (0) mst hn cn pn mq gn mln mnn ln mlt msz mcu mtk mfr mti mfa mfb an un lc td mtn), (aI cI (md 3) 8 ml), (aI cI (md 4) 8 mm), (aI cI (md 5) 480 mi)] H := hP
  replace hD : va_D A [(moC md sd (0) mst hn cn pn mq gn mln mnn ln mlt msz mcu mtk mfr mti mfa mfb an un lc td mtn), (aI cI (md 3) 8 ml), (aI cI (md 4) 8 mm), (aI cI (md 5) 480 mi)] := hD
  refine lv_iload_n hx hb dX11_sheet_5 rfl (lv_at hl 1 rfl) ?_
  refine st_i1 (va_runS (As := [.int a]) (rest := []) ⟨hx, hb, hml, hown, hts⟩ (ct_X11_isSheet l D cI cY cJ cQ _ a) (va_cwS 1 hts gX11_sheet_X11_isSheet rfl rfl rfl cdX11_isSheet ⟨Nat.le_of_ble_eq_true rfl, Nat.le_of_ble_eq_true rfl⟩) (cPreS (hP.sub [] rfl) hK (hD.sub [] (by decide +kernel) rfl) hN) rfl rfl hl.1 rfl (lv_room (Nat.le_of_ble_eq_true rfl)) dX11_sheet_6 ⟨Nat.le_of_ble_eq_true rfl, Nat.le_of_ble_eq_true rfl⟩) hP hD hS hA [] rfl (fun _ => rfl) (fun r3 u1 H locs hw2 => ?_)
  clear hP hS
  intro hP hS
  replace hw2 : r3 = if 0 ≤ a.toInt ∧ a.toInt ≤ 7 then 1 else 0 := hw2
  refine lv_if_eq (tgt := 30) hx hb dX11_sheet_9 (by decide) (fun c4 => ?_) (fun c4 => ?_)
  · skip
    have f5 := bo_f hw2 c4
    refine lv_ldc hx hb hown (hts (Cond.constant RX11 157 (-1000001)) (wm_t (wm_l (wm_i 2 rfl)))) dX11_sheet_30 ?_
    have hP9 := hP
    have hD9 := hD
    exact W.iret (v := (-1000001)) hx hb hr (fun t ht hW => ⟨⟨(-1000001), (mst, ml, mm, mi), rfl, ⟨(by unfold an_sheet; (repeat' split) <;> first | (exfalso; omega) | rfl), (by first | exact h1 | exact okM_up h1 _ (by omega) (by omega)), (by unfold ps_sheet; (repeat' split) <;> first | (exfalso; omega) | exact ⟨rfl, rfl, rfl, rfl⟩)⟩, by rw [ht]; exact hP9, va_K.moved hW.alike hK, hD9⟩, hS.F ht⟩) hS.2.2 dX11_sheet_32
  · skip
    have f6 := bo_t hw2 c4
    refine lv_iload_n hx hb dX11_sheet_12 rfl (lv_at hl 2 rfl) ?_
    refine lv_i2l hx hb dX11_sheet_13 rfl ?_
    have w7 := i_w b
    have w8 := i_rng b
    refine lv_lconst (v := 0) hx hb dX11_sheet_14 (by decide) ?_
    refine lv_ldc2 hx hb hown (hts (Cond.constantLong RX11 155 (2)) (wm_t (wm_l (wm_i 1 rfl)))) dX11_sheet_15 ?_
    refine st_i1 (va_runS (As := [.long (b.toInt64), .long 0, .long 2]) (rest := []) ⟨hx, hb, hml, hown, hts⟩ (ct_X11_in l D cI cY cJ cQ _ b.toInt64 (0 : Int64) (2 : Int64)) (va_cwS 3 hts gX11_sheet_X11_in rfl rfl rfl cdX11_in ⟨Nat.le_of_ble_eq_true rfl, Nat.le_of_ble_eq_true rfl⟩) (cPreS (hP.sub [] rfl) hK (hD.sub [] (by decide +kernel) rfl) hN) rfl rfl hl.1 rfl (lv_room (Nat.le_of_ble_eq_true rfl)) dX11_sheet_18 ⟨Nat.le_of_ble_eq_true rfl, Nat.le_of_ble_eq_true rfl⟩) hP hD hS hA [] rfl (fun _ => rfl) (fun r11 u9 H locs hw10 => ?_)
    clear hP hS
    intro hP hS
    replace hw10 : r11 = if (0 : Int64).toInt ≤ b.toInt64.toInt ∧ b.toInt64.toInt ≤ (2 : Int64).toInt then 1 else 0 := hw10
    refine lv_if_eq (tgt := 30) hx hb dX11_sheet_21 (by decide) (fun c12 => ?_) (fun c12 => ?_)
    · skip
      have f13 := bo_f hw10 c12
      refine lv_ldc hx hb hown (hts (Cond.constant RX11 157 (-1000001)) (wm_t (wm_l (wm_i 2 rfl)))) dX11_sheet_30 ?_
      have hP9 := hP
      have hD9 := hD
      exact W.iret (v := (-1000001)) hx hb hr (fun t ht hW => ⟨⟨(-1000001), (mst, ml, mm, mi), rfl, ⟨(by unfold an_sheet; (repeat' split) <;> first | (exfalso; omega) | rfl), (by first | exact h1 | exact okM_up h1 _ (by omega) (by omega)), (by unfold ps_sheet; (repeat' split) <;> first | (exfalso; omega) | exact ⟨rfl, rfl, rfl, rfl⟩)⟩, by rw [ht]; exact hP9, va_K.moved hW.alike hK, hD9⟩, hS.F ht⟩) hS.2.2 dX11_sheet_32
    · skip
      have f14 := bo_t hw10 c12
      refine lv_iload_n hx hb dX11_sheet_24 rfl (lv_at hl 3 rfl) ?_
      refine lv_bipush (v := 60) hx hb dX11_sheet_25 (by decide) ?_
      refine lv_icmp_le (tgt := 33) hx hb dX11_sheet_27 (by decide) (fun c15 => ?_) (fun c15 => ?_)
      · skip
        have f16 := i_le c15
        refine lv_aload_n hx hb dX11_sheet_33 rfl (lv_at hl 0 rfl) ?_
        refine lv_iconst (v := 0) hx hb dX11_sheet_34 (by decide) ?_
        refine va_put (D := D) (ci := 11) (v := .int 0) (ty := .int) (C := RX11) (T := TX11) (N := 64) hx hb hts inX11_sheet_X11 tyX11 tyX11_ok nmX11 hown hK hP hD hS 0 rfl rfl 2 (by decide) (hts (Cond.fieldLink RX11 141 "PortRoomsModel" "status" "I") (wm_t (wm_l (wm_i 3 rfl)))) (fun _ h9 => h9) rfl (tyX11_ok 2 (by decide)) rfl rfl (Nat.le_of_ble_eq_true rfl) dX11_sheet_35 (fun H locs => ?_)
        clear hP hD hS
        intro hP hD hS
        replace hP : va_P D vwCl [(moC md sd (0) (0) hn cn pn mq gn mln mnn ln mlt msz mcu mtk mfr mti mfa mfb an un lc td mtn), (aI cI (md 3) 8 ml), (aI cI (md 4) 8 mm), (aI cI (md 5) 480 mi)] H := hP
        replace hD : va_D A [(moC md sd (0) (0) hn cn pn mq gn mln mnn ln mlt msz mcu mtk mfr mti mfa mfb an un lc td mtn), (aI cI (md 3) 8 ml), (aI cI (md 4) 8 mm), (aI cI (md 5) 480 mi)] := hD
        refine lv_iload_n hx hb dX11_sheet_38 rfl (lv_at hl 3 rfl) ?_
        refine lv_if_ge (tgt := 48) hx hb dX11_sheet_39 (by decide) (fun c17 => ?_) (fun c17 => ?_)
        · skip
          have f18 := i_le c17
          refine lv_aload_n hx hb dX11_sheet_48 rfl (lv_at hl 0 rfl) ?_
          refine va_get (D := D) (ci := 11) (v := .ref (md 3)) (C := RX11) (T := TX11) (N := 64) hx hb hts inX11_sheet_X11 hown hK hP 0 rfl rfl 3 (by decide) (hts (Cond.fieldLink RX11 13 "PortRoomsModel" "lane" "[I") (wm_t (wm_l (wm_i 4 rfl)))) (fun _ h9 => h9) rfl dX11_sheet_49 ?_
          refine lv_iload_n hx hb dX11_sheet_52 rfl (lv_at hl 1 rfl) ?_
          refine lv_iload_n hx hb dX11_sheet_53 rfl (lv_at hl 2 rfl) ?_
          refine va_iast hx hb hK hP hD hS 1 0 rfl rfl (i_in (by omega) (by omega)) dX11_sheet_54 (fun H locs => ?_)
          clear hP hD hS
          intro hP hD hS
          replace hP : va_P D vwCl [(moC md sd (0) (0) hn cn pn mq gn mln mnn ln mlt msz mcu mtk mfr mti mfa mfb an un lc td mtn), (aI cI (md 3) 8 (upd ml a.toNatClampNeg b)), (aI cI (md 4) 8 mm), (aI cI (md 5) 480 mi)] H := hP
          replace hD : va_D A [(moC md sd (0) (0) hn cn pn mq gn mln mnn ln mlt msz mcu mtk mfr mti mfa mfb an un lc td mtn), (aI cI (md 3) 8 (upd ml a.toNatClampNeg b)), (aI cI (md 4) 8 mm), (aI cI (md 5) 480 mi)] := hD
          refine lv_aload_n hx hb dX11_sheet_55 rfl (lv_at hl 0 rfl) ?_
          refine va_get (D := D) (ci := 11) (v := .ref (md 4)) (C := RX11) (T := TX11) (N := 64) hx hb hts inX11_sheet_X11 hown hK hP 0 rfl rfl 4 (by decide) (hts (Cond.fieldLink RX11 17 "PortRoomsModel" "many" "[I") (wm_t (wm_l (wm_i 5 rfl)))) (fun _ h9 => h9) rfl dX11_sheet_56 ?_
          refine lv_iload_n hx hb dX11_sheet_59 rfl (lv_at hl 1 rfl) ?_
          refine lv_iload_n hx hb dX11_sheet_60 rfl (lv_at hl 3 rfl) ?_
          refine va_iast hx hb hK hP hD hS 2 0 rfl rfl (i_in (by omega) (by omega)) dX11_sheet_61 (fun H locs => ?_)
          clear hP hD hS
          intro hP hD hS
          replace hP : va_P D vwCl [(moC md sd (0) (0) hn cn pn mq gn mln mnn ln mlt msz mcu mtk mfr mti mfa mfb an un lc td mtn), (aI cI (md 3) 8 (upd ml a.toNatClampNeg b)), (aI cI (md 4) 8 (upd mm a.toNatClampNeg n)), (aI cI (md 5) 480 mi)] H := hP
          replace hD : va_D A [(moC md sd (0) (0) hn cn pn mq gn mln mnn ln mlt msz mcu mtk mfr mti mfa mfb an un lc td mtn), (aI cI (md 3) 8 (upd ml a.toNatClampNeg b)), (aI cI (md 4) 8 (upd mm a.toNatClampNeg n)), (aI cI (md 5) 480 mi)] := hD
          refine lv_iconst (v := 0) hx hb dX11_sheet_62 (by decide) ?_
          refine lv_istore (lv' := [(4, .int 0), (0, .ref (md 64)), (1, .int a), (2, .int b), (3, .int n)]) hx hb dX11_sheet_63 hl (by decide) rfl (fun ls hl => ?_)
          refine st_loop 65 (fun _ => []) (fun (z : Int32 × (Nat → Int32)) (ls : Array Slot) (H : Heap) (locs : List Loc) => match z with | (q65_4, mitq) => (0 ≤ q65_4.toInt) ∧ (q65_4.toInt ≤ 60) ∧ (∀ q : Nat, mitq q = if 60 * a.toInt ≤ (q : Int) ∧ (q : Int) < 60 * a.toInt + q65_4.toInt then 0 else mi q) ∧ lv_has ls 5 [(0, .ref (md 64)), (1, .int a), (2, .int b), (3, .int n), (4, .int q65_4)] ∧ va_P D vwCl [(moC md sd (0) (0) hn cn pn mq gn mln mnn ln mlt msz mcu mtk mfr mti mfa mfb an un lc td mtn), (aI cI (md 3) 8 (upd ml a.toNatClampNeg b)), (aI cI (md 4) 8 (upd mm a.toNatClampNeg n)), (aI cI (md 5) 480 mitq)] H ∧ va_D A [(moC md sd (0) (0) hn cn pn mq gn mln mnn ln mlt msz mcu mtk mfr mti mfa mfb an un lc td mtn), (aI cI (md 3) 8 (upd ml a.toNatClampNeg b)), (aI cI (md 4) 8 (upd mm a.toNatClampNeg n)), (aI cI (md 5) 480 mitq)] ∧ va_S A s.heap H locs) (fun (z : Int32 × (Nat → Int32)) => match z with | (q65_4, mitq) => 60 - q65_4.toInt) ?_ ?_ ((0 : Int32), mi) ⟨(by omega), (by omega), (by intro q; rw [if_neg (by omega)]), lv_sub hl [1, 2, 3, 4, 0] rfl, hP, hD, hS⟩
          · rintro ⟨q65_4, mitq⟩ ls H locs ⟨g19, g20, g21, hl, hP, hD, hS⟩
            show (0 : Int) ≤ 60 - q65_4.toInt
            omega
          · rintro n24 ih22 ⟨q65_4, mitq⟩ ls H locs ⟨g19, g20, g21, hl, hP, hD, hS⟩ hm23
            have hm23 : 60 - q65_4.toInt < (n24 : Int) + 1 := hm23
            replace hl : lv_has ls 5 [(0, .ref (md 64)), (1, .int a), (2, .int b), (3, .int n), (4, .int q65_4)] := hl
            replace hP : va_P D vwCl [(moC md sd (0) (0) hn cn pn mq gn mln mnn ln mlt msz mcu mtk mfr mti mfa mfb an un lc td mtn), (aI cI (md 3) 8 (upd ml a.toNatClampNeg b)), (aI cI (md 4) 8 (upd mm a.toNatClampNeg n)), (aI cI (md 5) 480 mitq)] H := hP
            replace hD : va_D A [(moC md sd (0) (0) hn cn pn mq gn mln mnn ln mlt msz mcu mtk mfr mti mfa mfb an un lc td mtn), (aI cI (md 3) 8 (upd ml a.toNatClampNeg b)), (aI cI (md 4) 8 (upd mm a.toNatClampNeg n)), (aI cI (md 5) 480 mitq)] := hD
            show W _ _ _ _ _ _ _ _ _ _ _ _ _ _ _ (F0 m 65 ls [])
            refine lv_iload hx hb dX11_sheet_65 (lv_at hl 4 rfl) ?_
            refine lv_bipush (v := 60) hx hb dX11_sheet_67 (by decide) ?_
            refine lv_icmp_ge (tgt := 91) hx hb dX11_sheet_69 (by decide) (fun c25 => ?_) (fun c25 => ?_)
            · skip
              have f26 := i_le c25
              refine lv_iload_n hx hb dX11_sheet_91 rfl (lv_at hl 3 rfl) ?_
              have hP9 := hP
              have hD9 := hD
              exact W.iret (v := n) hx hb hr (fun t ht hW => ⟨⟨n, (0, upd ml a.toNatClampNeg b, upd mm a.toNatClampNeg n, mitq), rfl, ⟨(by unfold an_sheet; (repeat' split) <;> first | (exfalso; omega) | rfl), (by first | exact h1 | exact okM_up h1 _ (by omega) (by omega)), (by unfold ps_sheet; rw [if_pos (by omega), if_neg (by omega)]; exact ⟨rfl, rfl, rfl, fun q => by have h9 := g21 q; rw [show q65_4.toInt = 60 by omega] at h9; exact h9⟩)⟩, by rw [ht]; exact hP9, va_K.moved hW.alike hK, hD9⟩, hS.F ht⟩) hS.2.2 dX11_sheet_92
            · skip
              have f27 := i_nle c25
              refine lv_aload_n hx hb dX11_sheet_72 rfl (lv_at hl 0 rfl) ?_
              refine va_get (D := D) (ci := 11) (v := .ref (md 5)) (C := RX11) (T := TX11) (N := 64) hx hb hts inX11_sheet_X11 hown hK hP 0 rfl rfl 5 (by decide) (hts (Cond.fieldLink RX11 20 "PortRoomsModel" "item" "[I") (wm_t (wm_l (wm_i 6 rfl)))) (fun _ h9 => h9) rfl dX11_sheet_73 ?_
              refine lv_bipush (v := 60) hx hb dX11_sheet_76 (by decide) ?_
              refine lv_iload_n hx hb dX11_sheet_78 rfl (lv_at hl 1 rfl) ?_
              refine lv_imul hx hb dX11_sheet_79 ?_
              refine lv_topi (fun v28 ev28 => ?_)
              try have tv28 : v28.toInt = 60 * a.toInt := by rw [ev28]; exact (i_mul (x := (60 : Int32)) (y := a) (by rw [k60]; omega) (by rw [k60]; omega)).trans (by rw [k60])
              refine lv_iload hx hb dX11_sheet_80 (lv_at hl 4 rfl) ?_
              refine lv_iadd hx hb dX11_sheet_82 ?_
              refine lv_topi (fun v29 ev29 => ?_)
              try have tv29 : v29.toInt = v28.toInt + q65_4.toInt := by rw [ev29]; exact (i_add (x := v28) (y := q65_4) (by omega) (by omega))
              refine lv_iconst (v := 0) hx hb dX11_sheet_83 (by decide) ?_
              refine va_iast hx hb hK hP hD hS 3 0 rfl rfl (i_in (by omega) (by omega)) dX11_sheet_84 (fun H locs => ?_)
              clear hP hD hS
              intro hP hD hS
              replace hP : va_P D vwCl [(moC md sd (0) (0) hn cn pn mq gn mln mnn ln mlt msz mcu mtk mfr mti mfa mfb an un lc td mtn), (aI cI (md 3) 8 (upd ml a.toNatClampNeg b)), (aI cI (md 4) 8 (upd mm a.toNatClampNeg n)), (aI cI (md 5) 480 (upd mitq v29.toNatClampNeg 0))] H := hP
              replace hD : va_D A [(moC md sd (0) (0) hn cn pn mq gn mln mnn ln mlt msz mcu mtk mfr mti mfa mfb an un lc td mtn), (aI cI (md 3) 8 (upd ml a.toNatClampNeg b)), (aI cI (md 4) 8 (upd mm a.toNatClampNeg n)), (aI cI (md 5) 480 (upd mitq v29.toNatClampNeg 0))] := hD
              obtain ⟨v30, ev30⟩ : ∃ y : Int32, y = q65_4 + 1 := ⟨_, rfl⟩
              try have tv30 : v30.toInt = q65_4.toInt + 1 := by rw [ev30]; exact (i_add (x := q65_4) (y := (1 : Int32)) (by rw [k1]; omega) (by rw [k1]; omega)).trans (by rw [k1])
              refine lv_iinc (v := v30) (lv' := [(4, .int v30), (0, .ref (md 64)), (1, .int a), (2, .int b), (3, .int n)]) hx hb dX11_sheet_85 hl (k := 4) rfl (by rw [ev30]; rfl) (by decide) rfl (fun ls hl => ?_)
              refine lv_goto (tgt := 65) hx hb dX11_sheet_88 (by decide) ?_
              have cl9 := i_cl (x := v29) (by omega)
              exact ih22 (v30, upd mitq v29.toNatClampNeg 0) ls H locs ⟨(by omega), (by omega), (by exact fillz g21 (by omega) (by omega) (by omega)), lv_sub hl [1, 2, 3, 4, 0] rfl, hP.sub [0, 1, 2, 3] rfl, hD.sub [0, 1, 2, 3] (by decide +kernel) rfl, hS⟩ (by show 60 - v30.toInt < _; omega)
        · skip
          have f31 := i_nle c17
          refine lv_aload_n hx hb dX11_sheet_42 rfl (lv_at hl 0 rfl) ?_
          refine lv_iconst (v := 4) hx hb dX11_sheet_43 (by decide) ?_
          refine st_i (wr := [(aI cI (md 3) 8 ml), (aI cI (md 4) 8 mm), (aI cI (md 5) 480 mi)]) (va_runV (C := RX11) (As := [.int 4]) (rest := []) ⟨hx, hb, hml, hown, hts⟩ (ct_X11_found l D cI cY cJ cQ _ md sd 0 0 hn cn pn mq gn mln mnn ln mlt msz mcu mtk mfr mti mfa mfb an un lc td mtn (4 : Int32)) (cwV 1 hts gX11_sheet_X11_found rfl rfl rfl ⟨rfl, cdX11_found⟩ ⟨Nat.le_of_ble_eq_true rfl, Nat.le_of_ble_eq_true rfl⟩) (cPreV (hP.sub [0] rfl) hK (hD.sub [0] (by decide +kernel) rfl) hN (ci := 11) (q0 := 0) rfl rfl) rfl rfl hl.1 rfl (lv_room (Nat.le_of_ble_eq_true rfl)) dX11_sheet_44 ⟨Nat.le_of_ble_eq_true rfl, Nat.le_of_ble_eq_true rfl⟩) hP hD hS hA [0] [1, 2, 3] rfl rfl (by decide +kernel) (by decide +kernel) (fun r34 u32 H locs hw33 => ?_)
          clear hP hD hS
          intro hP hD hS
          replace hw33 : r34 = (-1000010) - (4 : Int32) := hw33
          replace hP : va_P D vwCl [(aI cI (md 3) 8 ml), (aI cI (md 4) 8 mm), (aI cI (md 5) 480 mi), (moC md sd (0) (4 : Int32) hn cn pn mq gn mln mnn ln mlt msz mcu mtk mfr mti mfa mfb an un lc td mtn)] H := hP
          replace hD : va_D A [(aI cI (md 3) 8 ml), (aI cI (md 4) 8 mm), (aI cI (md 5) 480 mi), (moC md sd (0) (4 : Int32) hn cn pn mq gn mln mnn ln mlt msz mcu mtk mfr mti mfa mfb an un lc td mtn)] := hD
          subst hw33
          have hP9 := hP.sub (ws' := [(moC md sd (0) (4 : Int32) hn cn pn mq gn mln mnn ln mlt msz mcu mtk mfr mti mfa mfb an un lc td mtn), (aI cI (md 3) 8 ml), (aI cI (md 4) 8 mm), (aI cI (md 5) 480 mi)]) [3, 0, 1, 2] rfl
          have hD9 := hD.sub (ws' := [(moC md sd (0) (4 : Int32) hn cn pn mq gn mln mnn ln mlt msz mcu mtk mfr mti mfa mfb an un lc td mtn), (aI cI (md 3) 8 ml), (aI cI (md 4) 8 mm), (aI cI (md 5) 480 mi)]) [3, 0, 1, 2] (by decide +kernel) rfl
          exact W.iret (v := (-1000010) - (4 : Int32)) hx hb hr (fun t ht hW => ⟨⟨(-1000010) - (4 : Int32), ((4 : Int32), ml, mm, mi), rfl, ⟨(by unfold an_sheet; (repeat' split) <;> first | (exfalso; omega) | rfl), (by first | exact h1 | exact okM_up h1 _ (by omega) (by omega)), (by unfold ps_sheet; (repeat' split) <;> first | (exfalso; omega) | exact ⟨rfl, rfl, rfl, rfl⟩)⟩, by rw [ht]; exact hP9, va_K.moved hW.alike hK, hD9⟩, hS.F ht⟩) hS.2.2 dX11_sheet_47
      · skip
        have f35 := i_nle c15
        refine lv_ldc hx hb hown (hts (Cond.constant RX11 157 (-1000001)) (wm_t (wm_l (wm_i 2 rfl)))) dX11_sheet_30 ?_
        have hP9 := hP
        have hD9 := hD
        exact W.iret (v := (-1000001)) hx hb hr (fun t ht hW => ⟨⟨(-1000001), (mst, ml, mm, mi), rfl, ⟨(by unfold an_sheet; (repeat' split) <;> first | (exfalso; omega) | rfl), (by first | exact h1 | exact okM_up h1 _ (by omega) (by omega)), (by unfold ps_sheet; (repeat' split) <;> first | (exfalso; omega) | exact ⟨rfl, rfl, rfl, rfl⟩)⟩, by rw [ht]; exact hP9, va_K.moved hW.alike hK, hD9⟩, hS.F ht⟩) hS.2.2 dX11_sheet_32

set_option maxHeartbeats 4000000 in
set_option maxRecDepth 100000 in
theorem ct_X11_set (l : Launch) (D : va_G) (cI cY cJ cQ : ClassId) (sz : Nat) (md : Nat → Nat) (sd : Int32) (mth mst hn cn pn mq gn mln mnn ln mlt msz mcu mtk mfr mti mfa mfb an un lc td mtn : Int32) (ml mm mi : Nat → Int32) (a : Int32) (i : Int32) (v : Int32)  (h1 : okM mm)  : Met l yX11_set wsX11_set ({ frames := 2, cells := 0, slots := 0, locals := 45 }) (cPre D (ty4 cI cY cJ cQ) [(moC md sd mth mst hn cn pn mq gn mln mnn ln mlt msz mcu mtk mfr mti mfa mfb an un lc td mtn), (aI cI (md 3) 8 ml), (aI cI (md 4) 8 mm), (aI cI (md 5) 480 mi)] sz [.ref (md 64), .int a, .int i, .int v]) (va_Qi (fun (r : Int32) (u : Int32 × (Nat → Int32)) => ps_set mst ml mm mi a i v r u.1 u.2) (cB D (ty4 cI cY cJ cQ) (fun (u : Int32 × (Nat → Int32)) => [(moC md sd 0 u.1 hn cn pn mq gn mln mnn ln mlt msz mcu mtk mfr mti mfa mfb an un lc td mtn), (aI cI (md 3) 8 ml), (aI cI (md 4) 8 mm), (aI cI (md 5) 480 u.2)]) (va_A [(moC md sd mth mst hn cn pn mq gn mln mnn ln mlt msz mcu mtk mfr mti mfa mfb an un lc td mtn), (aI cI (md 3) 8 ml), (aI cI (md 4) 8 mm), (aI cI (md 5) 480 mi)] sz)) (va_A [(moC md sd mth mst hn cn pn mq gn mln mnn ln mlt msz mcu mtk mfr mti mfa mfb an un lc td mtn), (aI cI (md 3) 8 ml), (aI cI (md 4) 8 mm), (aI cI (md 5) 480 mi)] sz)) 0 0 (va_A [(moC md sd mth mst hn cn pn mq gn mln mnn ln mlt msz mcu mtk mfr mti mfa mfb an un lc td mtn), (aI cI (md 3) 8 ml), (aI cI (md 4) 8 mm), (aI cI (md 5) 480 mi)] sz) := by
  refine Met.ofW (cc := cX11_set) (maxL := 4) (ret := (some .int)) (by decide) rfl ?_
  intro p e s m args below meth c s₁ B hml hv
  obtain ⟨rfl, hsz, hP, hK, hD0, hN⟩ := hv
  have hx := B.exec
  have hb := B.bytes
  have hr := B.returns
  have hts := atoms_spec (ws := wsX11_set) B.pre
  have hown : s.vm.findClass RX11 = some m.cls := findClass_of_methodNamed B.named
  have hlocks := B.notSynchronized
  subst hsz
  have hD := hD0.self (sz := s.heap.size)
  generalize hAe : va_A [(moC md sd mth mst hn cn pn mq gn mln mnn ln mlt msz mcu mtk mfr mti mfa mfb an un lc td mtn), (aI cI (md 3) 8 ml), (aI cI (md 4) 8 mm), (aI cI (md 5) 480 mi)] s.heap.size = A at hD ⊢
  have hA : ∀ q : Nat, s.heap.size ≤ q → A q := fun q h => by rw [← hAe]; exact Or.inr h
  have hS : va_S A s.heap s.heap [] := va_S.rf
  have hP : va_P D vwCl [(moC md sd mth mst hn cn pn mq gn mln mnn ln mlt msz mcu mtk mfr mti mfa mfb an un lc td mtn), (aI cI (md 3) 8 ml), (aI cI (md 4) 8 mm), (aI cI (md 5) 480 mi)] s.heap := hP
  have hl := lv_entry ([.ref (md 64), .int a, .int i, .int v]) (n := 4) (Nat.le_of_ble_eq_true rfl)
  rw [lg_entry_eq]
  generalize (lg_sl ([.ref (md 64), .int a, .int i, .int v]) ++ List.replicate (4 - (lg_sl ([.ref (md 64), .int a, .int i, .int v])).length) Slot.unset).toArray = ls at hl ⊢
  have hl : lv_has ls 4 [(0, .ref (md 64)), (1, .int a), (2, .int i), (3, .int v)] := hl
  have k0 : (0 : Int32).toInt = 0 := by decide
  have k1 : (1 : Int32).toInt = 1 := by decide
  have k2 : (2 : Int32).toInt = 2 := by decide
  have k60 : (60 : Int32).toInt = 60 := by decide
  have kl0 : (0 : Int64).toInt = 0 := by decide
  refine lv_aload_n hx hb dX11_set_0 rfl (lv_at hl 0 rfl) ?_
  refine lv_iconst (v := 0) hx hb dX11_set_1 (by decide) ?_
  refine va_put (D := D) (ci := 11) (v := .int 0) (ty := .int) (C := RX11) (T := TX11) (N := 64) hx hb hts inX11_set_X11 tyX11 tyX11_ok nmX11 hown hK hP hD hS 0 rfl rfl 0 (by decide) (hts (Cond.fieldLink RX11 1 "PortRoomsModel" "thrown" "I") (wm_t (wm_l (wm_i 0 rfl)))) (fun _ h9 => h9) rfl (tyX11_ok 0 (by decide)) rfl rfl (Nat.le_of_ble_eq_true rfl) dX11_set_2 (fun H locs => ?_)
  clear hP hD hS
  intro hP hD hS
  replace hP : va_P D vwCl [(moC md sd (0) mst hn cn pn mq gn mln mnn ln mlt msz mcu mtk mfr mti mfa mfb an un lc td mtn), (aI cI (md 3) 8 ml), (aI cI (md 4) 8 mm), (aI cI (md 5) 480 mi)] H := hP
  replace hD : va_D A [(moC md sd (0) mst hn cn pn mq gn mln mnn ln mlt msz mcu mtk mfr mti mfa mfb an un lc td mtn), (aI cI (md 3) 8 ml), (aI cI (md 4) 8 mm), (aI cI (md 5) 480 mi)] := hD
  refine lv_iload_n hx hb dX11_set_5 rfl (lv_at hl 1 rfl) ?_
  refine st_i1 (va_runS (As := [.int a]) (rest := []) ⟨hx, hb, hml, hown, hts⟩ (ct_X11_isSheet l D cI cY cJ cQ _ a) (va_cwS 1 hts gX11_set_X11_isSheet rfl rfl rfl cdX11_isSheet ⟨Nat.le_of_ble_eq_true rfl, Nat.le_of_ble_eq_true rfl⟩) (cPreS (hP.sub [] rfl) hK (hD.sub [] (by decide +kernel) rfl) hN) rfl rfl hl.1 rfl (lv_room (Nat.le_of_ble_eq_true rfl)) dX11_set_6 ⟨Nat.le_of_ble_eq_true rfl, Nat.le_of_ble_eq_true rfl⟩) hP hD hS hA [] rfl (fun _ => rfl) (fun r3 u1 H locs hw2 => ?_)
  clear hP hS
  intro hP hS
  replace hw2 : r3 = if 0 ≤ a.toInt ∧ a.toInt ≤ 7 then 1 else 0 := hw2
  refine lv_if_ne (tgt := 15) hx hb dX11_set_9 (by decide) (fun c4 => ?_) (fun c4 => ?_)
  · skip
    have f5 := bo_t hw2 c4
    refine lv_aload_n hx hb dX11_set_15 rfl (lv_at hl 0 rfl) ?_
    refine lv_iconst (v := 0) hx hb dX11_set_16 (by decide) ?_
    refine va_put (D := D) (ci := 11) (v := .int 0) (ty := .int) (C := RX11) (T := TX11) (N := 64) hx hb hts inX11_set_X11 tyX11 tyX11_ok nmX11 hown hK hP hD hS 0 rfl rfl 2 (by decide) (hts (Cond.fieldLink RX11 141 "PortRoomsModel" "status" "I") (wm_t (wm_l (wm_i 2 rfl)))) (fun _ h9 => h9) rfl (tyX11_ok 2 (by decide)) rfl rfl (Nat.le_of_ble_eq_true rfl) dX11_set_17 (fun H locs => ?_)
    clear hP hD hS
    intro hP hD hS
    replace hP : va_P D vwCl [(moC md sd (0) (0) hn cn pn mq gn mln mnn ln mlt msz mcu mtk mfr mti mfa mfb an un lc td mtn), (aI cI (md 3) 8 ml), (aI cI (md 4) 8 mm), (aI cI (md 5) 480 mi)] H := hP
    replace hD : va_D A [(moC md sd (0) (0) hn cn pn mq gn mln mnn ln mlt msz mcu mtk mfr mti mfa mfb an un lc td mtn), (aI cI (md 3) 8 ml), (aI cI (md 4) 8 mm), (aI cI (md 5) 480 mi)] := hD
    refine lv_aload_n hx hb dX11_set_20 rfl (lv_at hl 0 rfl) ?_
    refine va_get (D := D) (ci := 11) (v := .ref (md 3)) (C := RX11) (T := TX11) (N := 64) hx hb hts inX11_set_X11 hown hK hP 0 rfl rfl 3 (by decide) (hts (Cond.fieldLink RX11 13 "PortRoomsModel" "lane" "[I") (wm_t (wm_l (wm_i 3 rfl)))) (fun _ h9 => h9) rfl dX11_set_21 ?_
    refine lv_iload_n hx hb dX11_set_24 rfl (lv_at hl 1 rfl) ?_
    refine va_iald hx hb hK hP 1 0 rfl rfl (i_in (by omega) (by omega)) dX11_set_25 ?_
    refine lv_topi (fun v6 ev6 => ?_)
    have tlv6 : v6.toInt = (ml a.toNatClampNeg).toInt := by rw [ev6]
    refine lv_if_ge (tgt := 35) hx hb dX11_set_26 (by decide) (fun c7 => ?_) (fun c7 => ?_)
    · skip
      have f8 := i_le c7
      refine lv_iload_n hx hb dX11_set_35 rfl (lv_at hl 2 rfl) ?_
      refine lv_i2l hx hb dX11_set_36 rfl ?_
      have w9 := i_w i
      have w10 := i_rng i
      refine lv_lconst (v := 0) hx hb dX11_set_37 (by decide) ?_
      refine lv_aload_n hx hb dX11_set_38 rfl (lv_at hl 0 rfl) ?_
      refine va_get (D := D) (ci := 11) (v := .ref (md 4)) (C := RX11) (T := TX11) (N := 64) hx hb hts inX11_set_X11 hown hK hP 0 rfl rfl 4 (by decide) (hts (Cond.fieldLink RX11 17 "PortRoomsModel" "many" "[I") (wm_t (wm_l (wm_i 4 rfl)))) (fun _ h9 => h9) rfl dX11_set_39 ?_
      refine lv_iload_n hx hb dX11_set_42 rfl (lv_at hl 1 rfl) ?_
      refine va_iald hx hb hK hP 2 0 rfl rfl (i_in (by omega) (by omega)) dX11_set_43 ?_
      refine lv_topi (fun v11 ev11 => ?_)
      have tlv11 : v11.toInt = (mm a.toNatClampNeg).toInt := by rw [ev11]
      have qv11 := okM_at h1 ev11 (by omega) (by omega)
      refine lv_iconst (v := 1) hx hb dX11_set_44 (by decide) ?_
      refine lv_isub hx hb dX11_set_45 ?_
      refine lv_topi (fun v12 ev12 => ?_)
      try have tv12 : v12.toInt = v11.toInt - 1 := by rw [ev12]; exact (i_sub (x := v11) (y := (1 : Int32)) (by rw [k1]; omega) (by rw [k1]; omega)).trans (by rw [k1])
      refine lv_i2l hx hb dX11_set_46 rfl ?_
      have w13 := i_w v12
      have w14 := i_rng v12
      refine st_i1 (va_runS (As := [.long (i.toInt64), .long 0, .long (v12.toInt64)]) (rest := []) ⟨hx, hb, hml, hown, hts⟩ (ct_X11_in l D cI cY cJ cQ _ i.toInt64 (0 : Int64) v12.toInt64) (va_cwS 3 hts gX11_set_X11_in rfl rfl rfl cdX11_in ⟨Nat.le_of_ble_eq_true rfl, Nat.le_of_ble_eq_true rfl⟩) (cPreS (hP.sub [] rfl) hK (hD.sub [] (by decide +kernel) rfl) hN) rfl rfl hl.1 rfl (lv_room (Nat.le_of_ble_eq_true rfl)) dX11_set_47 ⟨Nat.le_of_ble_eq_true rfl, Nat.le_of_ble_eq_true rfl⟩) hP hD hS hA [] rfl (fun _ => rfl) (fun r17 u15 H locs hw16 => ?_)
      clear hP hS
      intro hP hS
      replace hw16 : r17 = if (0 : Int64).toInt ≤ i.toInt64.toInt ∧ i.toInt64.toInt ≤ v12.toInt64.toInt then 1 else 0 := hw16
      refine lv_if_ne (tgt := 59) hx hb dX11_set_50 (by decide) (fun c18 => ?_) (fun c18 => ?_)
      · skip
        have f19 := bo_t hw16 c18
        refine lv_aload_n hx hb dX11_set_59 rfl (lv_at hl 0 rfl) ?_
        refine va_get (D := D) (ci := 11) (v := .ref (md 5)) (C := RX11) (T := TX11) (N := 64) hx hb hts inX11_set_X11 hown hK hP 0 rfl rfl 5 (by decide) (hts (Cond.fieldLink RX11 20 "PortRoomsModel" "item" "[I") (wm_t (wm_l (wm_i 5 rfl)))) (fun _ h9 => h9) rfl dX11_set_60 ?_
        refine lv_bipush (v := 60) hx hb dX11_set_63 (by decide) ?_
        refine lv_iload_n hx hb dX11_set_65 rfl (lv_at hl 1 rfl) ?_
        refine lv_imul hx hb dX11_set_66 ?_
        refine lv_topi (fun v20 ev20 => ?_)
        try have tv20 : v20.toInt = 60 * a.toInt := by rw [ev20]; exact (i_mul (x := (60 : Int32)) (y := a) (by rw [k60]; omega) (by rw [k60]; omega)).trans (by rw [k60])
        refine lv_iload_n hx hb dX11_set_67 rfl (lv_at hl 2 rfl) ?_
        refine lv_iadd hx hb dX11_set_68 ?_
        refine lv_topi (fun v21 ev21 => ?_)
        try have tv21 : v21.toInt = v20.toInt + i.toInt := by rw [ev21]; exact (i_add (x := v20) (y := i) (by omega) (by omega))
        refine lv_aload_n hx hb dX11_set_69 rfl (lv_at hl 0 rfl) ?_
        refine va_get (D := D) (ci := 11) (v := .ref (md 3)) (C := RX11) (T := TX11) (N := 64) hx hb hts inX11_set_X11 hown hK hP 0 rfl rfl 3 (by decide) (hts (Cond.fieldLink RX11 13 "PortRoomsModel" "lane" "[I") (wm_t (wm_l (wm_i 3 rfl)))) (fun _ h9 => h9) rfl dX11_set_70 ?_
        refine lv_iload_n hx hb dX11_set_73 rfl (lv_at hl 1 rfl) ?_
        refine va_iald hx hb hK hP 1 0 rfl rfl (i_in (by omega) (by omega)) dX11_set_74 ?_
        refine lv_topi (fun v22 ev22 => ?_)
        have tlv22 : v22.toInt = (ml a.toNatClampNeg).toInt := by rw [ev22]
        refine lv_if_ne (tgt := 83) hx hb dX11_set_75 (by decide) (fun c23 => ?_) (fun c23 => ?_)
        · skip
          have f24 := i_ne c23
          refine lv_aload_n hx hb dX11_set_83 rfl (lv_at hl 0 rfl) ?_
          refine va_get (D := D) (ci := 11) (v := .ref (md 3)) (C := RX11) (T := TX11) (N := 64) hx hb hts inX11_set_X11 hown hK hP 0 rfl rfl 3 (by decide) (hts (Cond.fieldLink RX11 13 "PortRoomsModel" "lane" "[I") (wm_t (wm_l (wm_i 3 rfl)))) (fun _ h9 => h9) rfl dX11_set_84 ?_
          refine lv_iload_n hx hb dX11_set_87 rfl (lv_at hl 1 rfl) ?_
          refine va_iald hx hb hK hP 1 0 rfl rfl (i_in (by omega) (by omega)) dX11_set_88 ?_
          refine lv_topi (fun v25 ev25 => ?_)
          have tlv25 : v25.toInt = (ml a.toNatClampNeg).toInt := by rw [ev25]
          refine lv_iconst (v := 1) hx hb dX11_set_89 (by decide) ?_
          refine lv_icmp_ne (tgt := 98) hx hb dX11_set_90 (by decide) (fun c26 => ?_) (fun c26 => ?_)
          · skip
            have f27 := i_ne c26
            refine lv_iload_n hx hb dX11_set_98 rfl (lv_at hl 3 rfl) ?_
            refine va_iast hx hb hK hP hD hS 3 0 rfl rfl (i_in (by omega) (by omega)) dX11_set_99 (fun H locs => ?_)
            clear hP hD hS
            intro hP hD hS
            replace hP : va_P D vwCl [(moC md sd (0) (0) hn cn pn mq gn mln mnn ln mlt msz mcu mtk mfr mti mfa mfb an un lc td mtn), (aI cI (md 3) 8 ml), (aI cI (md 4) 8 mm), (aI cI (md 5) 480 (upd mi v21.toNatClampNeg v))] H := hP
            replace hD : va_D A [(moC md sd (0) (0) hn cn pn mq gn mln mnn ln mlt msz mcu mtk mfr mti mfa mfb an un lc td mtn), (aI cI (md 3) 8 ml), (aI cI (md 4) 8 mm), (aI cI (md 5) 480 (upd mi v21.toNatClampNeg v))] := hD
            refine lv_aload_n hx hb dX11_set_100 rfl (lv_at hl 0 rfl) ?_
            refine va_get (D := D) (ci := 11) (v := .ref (md 5)) (C := RX11) (T := TX11) (N := 64) hx hb hts inX11_set_X11 hown hK hP 0 rfl rfl 5 (by decide) (hts (Cond.fieldLink RX11 20 "PortRoomsModel" "item" "[I") (wm_t (wm_l (wm_i 5 rfl)))) (fun _ h9 => h9) rfl dX11_set_101 ?_
            refine lv_bipush (v := 60) hx hb dX11_set_104 (by decide) ?_
            refine lv_iload_n hx hb dX11_set_106 rfl (lv_at hl 1 rfl) ?_
            refine lv_imul hx hb dX11_set_107 ?_
            refine lv_topi (fun v28 ev28 => ?_)
            try have tv28 : v28.toInt = 60 * a.toInt := by rw [ev28]; exact (i_mul (x := (60 : Int32)) (y := a) (by rw [k60]; omega) (by rw [k60]; omega)).trans (by rw [k60])
            refine lv_iload_n hx hb dX11_set_108 rfl (lv_at hl 2 rfl) ?_
            refine lv_iadd hx hb dX11_set_109 ?_
            refine lv_topi (fun v29 ev29 => ?_)
            try have tv29 : v29.toInt = v28.toInt + i.toInt := by rw [ev29]; exact (i_add (x := v28) (y := i) (by omega) (by omega))
            refine va_iald hx hb hK hP 3 0 rfl rfl (i_in (by omega) (by omega)) dX11_set_110 ?_
            refine lv_topi (fun v30 ev30 => ?_)
            have tlv30 : v30.toInt = ((upd mi v21.toNatClampNeg v) v29.toNatClampNeg).toInt := by rw [ev30]
            have cla := i_cl (x := a) (by omega)
            have cli := i_cl (x := i) (by omega)
            have clv21 := i_cl (x := v21) (by omega)
            have clv29 := i_cl (x := v29) (by omega)
            have hi2 : v29.toNatClampNeg = v21.toNatClampNeg := by omega
            have hi1 : v21.toNatClampNeg = 60 * a.toNatClampNeg + i.toNatClampNeg := by omega
            rw [hi2, upd_s] at ev30
            have hk9 : v = kept (ml a.toNatClampNeg) v := by unfold kept; (repeat' split) <;> first | (exfalso; omega) | (subst_vars; rfl)
            have h99 : ps_set mst ml mm mi a i v v30 0 (upd mi v21.toNatClampNeg v) := by unfold ps_set; rw [if_pos (by omega), if_neg (by omega), if_pos (by omega)]; exact ⟨ev30.trans hk9, rfl, by rw [hi1, ev30]⟩
            have hP9 := hP
            have hD9 := hD
            exact W.iret (v := v30) hx hb hr (fun t ht hW => ⟨⟨v30, (0, upd mi v21.toNatClampNeg v), rfl, h99, by rw [ht]; exact hP9, va_K.moved hW.alike hK, hD9⟩, hS.F ht⟩) hS.2.2 dX11_set_111
          · skip
            have f31 := i_eq c26
            refine lv_iload_n hx hb dX11_set_93 rfl (lv_at hl 3 rfl) ?_
            refine lv_i2s hx hb dX11_set_94 rfl ?_
            refine lv_topi (fun v32 ev32 => ?_)
            refine lv_goto (tgt := 99) hx hb dX11_set_95 (by decide) ?_
            refine va_iast hx hb hK hP hD hS 3 0 rfl rfl (i_in (by omega) (by omega)) dX11_set_99 (fun H locs => ?_)
            clear hP hD hS
            intro hP hD hS
            replace hP : va_P D vwCl [(moC md sd (0) (0) hn cn pn mq gn mln mnn ln mlt msz mcu mtk mfr mti mfa mfb an un lc td mtn), (aI cI (md 3) 8 ml), (aI cI (md 4) 8 mm), (aI cI (md 5) 480 (upd mi v21.toNatClampNeg v32))] H := hP
            replace hD : va_D A [(moC md sd (0) (0) hn cn pn mq gn mln mnn ln mlt msz mcu mtk mfr mti mfa mfb an un lc td mtn), (aI cI (md 3) 8 ml), (aI cI (md 4) 8 mm), (aI cI (md 5) 480 (upd mi v21.toNatClampNeg v32))] := hD
            refine lv_aload_n hx hb dX11_set_100 rfl (lv_at hl 0 rfl) ?_
            refine va_get (D := D) (ci := 11) (v := .ref (md 5)) (C := RX11) (T := TX11) (N := 64) hx hb hts inX11_set_X11 hown hK hP 0 rfl rfl 5 (by decide) (hts (Cond.fieldLink RX11 20 "PortRoomsModel" "item" "[I") (wm_t (wm_l (wm_i 5 rfl)))) (fun _ h9 => h9) rfl dX11_set_101 ?_
            refine lv_bipush (v := 60) hx hb dX11_set_104 (by decide) ?_
            refine lv_iload_n hx hb dX11_set_106 rfl (lv_at hl 1 rfl) ?_
            refine lv_imul hx hb dX11_set_107 ?_
            refine lv_topi (fun v33 ev33 => ?_)
            try have tv33 : v33.toInt = 60 * a.toInt := by rw [ev33]; exact (i_mul (x := (60 : Int32)) (y := a) (by rw [k60]; omega) (by rw [k60]; omega)).trans (by rw [k60])
            refine lv_iload_n hx hb dX11_set_108 rfl (lv_at hl 2 rfl) ?_
            refine lv_iadd hx hb dX11_set_109 ?_
            refine lv_topi (fun v34 ev34 => ?_)
            try have tv34 : v34.toInt = v33.toInt + i.toInt := by rw [ev34]; exact (i_add (x := v33) (y := i) (by omega) (by omega))
            refine va_iald hx hb hK hP 3 0 rfl rfl (i_in (by omega) (by omega)) dX11_set_110 ?_
            refine lv_topi (fun v35 ev35 => ?_)
            have tlv35 : v35.toInt = ((upd mi v21.toNatClampNeg v32) v34.toNatClampNeg).toInt := by rw [ev35]
            have cla := i_cl (x := a) (by omega)
            have cli := i_cl (x := i) (by omega)
            have clv21 := i_cl (x := v21) (by omega)
            have clv34 := i_cl (x := v34) (by omega)
            have hi2 : v34.toNatClampNeg = v21.toNatClampNeg := by omega
            have hi1 : v21.toNatClampNeg = 60 * a.toNatClampNeg + i.toNatClampNeg := by omega
            rw [hi2, upd_s] at ev35
            have hk9 : v32 = kept (ml a.toNatClampNeg) v := by unfold kept; (repeat' split) <;> first | (exfalso; omega) | (subst_vars; rfl)
            have h99 : ps_set mst ml mm mi a i v v35 0 (upd mi v21.toNatClampNeg v32) := by unfold ps_set; rw [if_pos (by omega), if_neg (by omega), if_pos (by omega)]; exact ⟨ev35.trans hk9, rfl, by rw [hi1, ev35]⟩
            have hP9 := hP
            have hD9 := hD
            exact W.iret (v := v35) hx hb hr (fun t ht hW => ⟨⟨v35, (0, upd mi v21.toNatClampNeg v32), rfl, h99, by rw [ht]; exact hP9, va_K.moved hW.alike hK, hD9⟩, hS.F ht⟩) hS.2.2 dX11_set_111
        · skip
          have f36 := i_eq c23
          refine lv_iload_n hx hb dX11_set_78 rfl (lv_at hl 3 rfl) ?_
          refine lv_i2b hx hb dX11_set_79 rfl ?_
          refine lv_topi (fun v37 ev37 => ?_)
          refine lv_goto (tgt := 99) hx hb dX11_set_80 (by decide) ?_
          refine va_iast hx hb hK hP hD hS 3 0 rfl rfl (i_in (by omega) (by omega)) dX11_set_99 (fun H locs => ?_)
          clear hP hD hS
          intro hP hD hS
          replace hP : va_P D vwCl [(moC md sd (0) (0) hn cn pn mq gn mln mnn ln mlt msz mcu mtk mfr mti mfa mfb an un lc td mtn), (aI cI (md 3) 8 ml), (aI cI (md 4) 8 mm), (aI cI (md 5) 480 (upd mi v21.toNatClampNeg v37))] H := hP
          replace hD : va_D A [(moC md sd (0) (0) hn cn pn mq gn mln mnn ln mlt msz mcu mtk mfr mti mfa mfb an un lc td mtn), (aI cI (md 3) 8 ml), (aI cI (md 4) 8 mm), (aI cI (md 5) 480 (upd mi v21.toNatClampNeg v37))] := hD
          refine lv_aload_n hx hb dX11_set_100 rfl (lv_at hl 0 rfl) ?_
          refine va_get (D := D) (ci := 11) (v := .ref (md 5)) (C := RX11) (T := TX11) (N := 64) hx hb hts inX11_set_X11 hown hK hP 0 rfl rfl 5 (by decide) (hts (Cond.fieldLink RX11 20 "PortRoomsModel" "item" "[I") (wm_t (wm_l (wm_i 5 rfl)))) (fun _ h9 => h9) rfl dX11_set_101 ?_
          refine lv_bipush (v := 60) hx hb dX11_set_104 (by decide) ?_
          refine lv_iload_n hx hb dX11_set_106 rfl (lv_at hl 1 rfl) ?_
          refine lv_imul hx hb dX11_set_107 ?_
          refine lv_topi (fun v38 ev38 => ?_)
          try have tv38 : v38.toInt = 60 * a.toInt := by rw [ev38]; exact (i_mul (x := (60 : Int32)) (y := a) (by rw [k60]; omega) (by rw [k60]; omega)).trans (by rw [k60])
          refine lv_iload_n hx hb dX11_set_108 rfl (lv_at hl 2 rfl) ?_
          refine lv_iadd hx hb dX11_set_109 ?_
          refine lv_topi (fun v39 ev39 => ?_)
          try have tv39 : v39.toInt = v38.toInt + i.toInt := by rw [ev39]; exact (i_add (x := v38) (y := i) (by omega) (by omega))
          refine va_iald hx hb hK hP 3 0 rfl rfl (i_in (by omega) (by omega)) dX11_set_110 ?_
          refine lv_topi (fun v40 ev40 => ?_)
          have tlv40 : v40.toInt = ((upd mi v21.toNatClampNeg v37) v39.toNatClampNeg).toInt := by rw [ev40]
          have cla := i_cl (x := a) (by omega)
          have cli := i_cl (x := i) (by omega)
          have clv21 := i_cl (x := v21) (by omega)
          have clv39 := i_cl (x := v39) (by omega)
          have hi2 : v39.toNatClampNeg = v21.toNatClampNeg := by omega
          have hi1 : v21.toNatClampNeg = 60 * a.toNatClampNeg + i.toNatClampNeg := by omega
          rw [hi2, upd_s] at ev40
          have hk9 : v37 = kept (ml a.toNatClampNeg) v := by unfold kept; (repeat' split) <;> first | (exfalso; omega) | (subst_vars; rfl)
          have h99 : ps_set mst ml mm mi a i v v40 0 (upd mi v21.toNatClampNeg v37) := by unfold ps_set; rw [if_pos (by omega), if_neg (by omega), if_pos (by omega)]; exact ⟨ev40.trans hk9, rfl, by rw [hi1, ev40]⟩
          have hP9 := hP
          have hD9 := hD
          exact W.iret (v := v40) hx hb hr (fun t ht hW => ⟨⟨v40, (0, upd mi v21.toNatClampNeg v37), rfl, h99, by rw [ht]; exact hP9, va_K.moved hW.alike hK, hD9⟩, hS.F ht⟩) hS.2.2 dX11_set_111
      · skip
        have f41 := bo_f hw16 c18
        refine lv_aload_n hx hb dX11_set_53 rfl (lv_at hl 0 rfl) ?_
        refine lv_iconst (v := 2) hx hb dX11_set_54 (by decide) ?_
        refine st_i (wr := [(aI cI (md 3) 8 ml), (aI cI (md 4) 8 mm), (aI cI (md 5) 480 mi)]) (va_runV (C := RX11) (As := [.int 2]) (rest := []) ⟨hx, hb, hml, hown, hts⟩ (ct_X11_found l D cI cY cJ cQ _ md sd 0 0 hn cn pn mq gn mln mnn ln mlt msz mcu mtk mfr mti mfa mfb an un lc td mtn (2 : Int32)) (cwV 1 hts gX11_set_X11_found rfl rfl rfl ⟨rfl, cdX11_found⟩ ⟨Nat.le_of_ble_eq_true rfl, Nat.le_of_ble_eq_true rfl⟩) (cPreV (hP.sub [0] rfl) hK (hD.sub [0] (by decide +kernel) rfl) hN (ci := 11) (q0 := 0) rfl rfl) rfl rfl hl.1 rfl (lv_room (Nat.le_of_ble_eq_true rfl)) dX11_set_55 ⟨Nat.le_of_ble_eq_true rfl, Nat.le_of_ble_eq_true rfl⟩) hP hD hS hA [0] [1, 2, 3] rfl rfl (by decide +kernel) (by decide +kernel) (fun r44 u42 H locs hw43 => ?_)
        clear hP hD hS
        intro hP hD hS
        replace hw43 : r44 = (-1000010) - (2 : Int32) := hw43
        replace hP : va_P D vwCl [(aI cI (md 3) 8 ml), (aI cI (md 4) 8 mm), (aI cI (md 5) 480 mi), (moC md sd (0) (2 : Int32) hn cn pn mq gn mln mnn ln mlt msz mcu mtk mfr mti mfa mfb an un lc td mtn)] H := hP
        replace hD : va_D A [(aI cI (md 3) 8 ml), (aI cI (md 4) 8 mm), (aI cI (md 5) 480 mi), (moC md sd (0) (2 : Int32) hn cn pn mq gn mln mnn ln mlt msz mcu mtk mfr mti mfa mfb an un lc td mtn)] := hD
        subst hw43
        have hP9 := hP.sub (ws' := [(moC md sd (0) (2 : Int32) hn cn pn mq gn mln mnn ln mlt msz mcu mtk mfr mti mfa mfb an un lc td mtn), (aI cI (md 3) 8 ml), (aI cI (md 4) 8 mm), (aI cI (md 5) 480 mi)]) [3, 0, 1, 2] rfl
        have hD9 := hD.sub (ws' := [(moC md sd (0) (2 : Int32) hn cn pn mq gn mln mnn ln mlt msz mcu mtk mfr mti mfa mfb an un lc td mtn), (aI cI (md 3) 8 ml), (aI cI (md 4) 8 mm), (aI cI (md 5) 480 mi)]) [3, 0, 1, 2] (by decide +kernel) rfl
        exact W.iret (v := (-1000010) - (2 : Int32)) hx hb hr (fun t ht hW => ⟨⟨(-1000010) - (2 : Int32), ((2 : Int32), mi), rfl, (by unfold ps_set; (repeat' split) <;> first | (exfalso; omega) | exact ⟨rfl, rfl, rfl⟩), by rw [ht]; exact hP9, va_K.moved hW.alike hK, hD9⟩, hS.F ht⟩) hS.2.2 dX11_set_58
    · skip
      have f45 := i_nle c7
      refine lv_aload_n hx hb dX11_set_29 rfl (lv_at hl 0 rfl) ?_
      refine lv_iconst (v := 1) hx hb dX11_set_30 (by decide) ?_
      refine st_i (wr := [(aI cI (md 3) 8 ml), (aI cI (md 4) 8 mm), (aI cI (md 5) 480 mi)]) (va_runV (C := RX11) (As := [.int 1]) (rest := []) ⟨hx, hb, hml, hown, hts⟩ (ct_X11_found l D cI cY cJ cQ _ md sd 0 0 hn cn pn mq gn mln mnn ln mlt msz mcu mtk mfr mti mfa mfb an un lc td mtn (1 : Int32)) (cwV 1 hts gX11_set_X11_found rfl rfl rfl ⟨rfl, cdX11_found⟩ ⟨Nat.le_of_ble_eq_true rfl, Nat.le_of_ble_eq_true rfl⟩) (cPreV (hP.sub [0] rfl) hK (hD.sub [0] (by decide +kernel) rfl) hN (ci := 11) (q0 := 0) rfl rfl) rfl rfl hl.1 rfl (lv_room (Nat.le_of_ble_eq_true rfl)) dX11_set_31 ⟨Nat.le_of_ble_eq_true rfl, Nat.le_of_ble_eq_true rfl⟩) hP hD hS hA [0] [1, 2, 3] rfl rfl (by decide +kernel) (by decide +kernel) (fun r48 u46 H locs hw47 => ?_)
      clear hP hD hS
      intro hP hD hS
      replace hw47 : r48 = (-1000010) - (1 : Int32) := hw47
      replace hP : va_P D vwCl [(aI cI (md 3) 8 ml), (aI cI (md 4) 8 mm), (aI cI (md 5) 480 mi), (moC md sd (0) (1 : Int32) hn cn pn mq gn mln mnn ln mlt msz mcu mtk mfr mti mfa mfb an un lc td mtn)] H := hP
      replace hD : va_D A [(aI cI (md 3) 8 ml), (aI cI (md 4) 8 mm), (aI cI (md 5) 480 mi), (moC md sd (0) (1 : Int32) hn cn pn mq gn mln mnn ln mlt msz mcu mtk mfr mti mfa mfb an un lc td mtn)] := hD
      subst hw47
      have hP9 := hP.sub (ws' := [(moC md sd (0) (1 : Int32) hn cn pn mq gn mln mnn ln mlt msz mcu mtk mfr mti mfa mfb an un lc td mtn), (aI cI (md 3) 8 ml), (aI cI (md 4) 8 mm), (aI cI (md 5) 480 mi)]) [3, 0, 1, 2] rfl
      have hD9 := hD.sub (ws' := [(moC md sd (0) (1 : Int32) hn cn pn mq gn mln mnn ln mlt msz mcu mtk mfr mti mfa mfb an un lc td mtn), (aI cI (md 3) 8 ml), (aI cI (md 4) 8 mm), (aI cI (md 5) 480 mi)]) [3, 0, 1, 2] (by decide +kernel) rfl
      exact W.iret (v := (-1000010) - (1 : Int32)) hx hb hr (fun t ht hW => ⟨⟨(-1000010) - (1 : Int32), ((1 : Int32), mi), rfl, (by unfold ps_set; (repeat' split) <;> first | (exfalso; omega) | exact ⟨rfl, rfl, rfl⟩), by rw [ht]; exact hP9, va_K.moved hW.alike hK, hD9⟩, hS.F ht⟩) hS.2.2 dX11_set_34
  · skip
    have f49 := bo_f hw2 c4
    refine lv_ldc hx hb hown (hts (Cond.constant RX11 157 (-1000001)) (wm_t (wm_l (wm_i 1 rfl)))) dX11_set_12 ?_
    have hP9 := hP
    have hD9 := hD
    exact W.iret (v := (-1000001)) hx hb hr (fun t ht hW => ⟨⟨(-1000001), (mst, mi), rfl, (by unfold ps_set; (repeat' split) <;> first | (exfalso; omega) | exact ⟨rfl, rfl, rfl⟩), by rw [ht]; exact hP9, va_K.moved hW.alike hK, hD9⟩, hS.F ht⟩) hS.2.2 dX11_set_14

set_option maxHeartbeats 4000000 in
set_option maxRecDepth 100000 in
theorem ct_X11_copy (l : Launch) (D : va_G) (cI cY cJ cQ : ClassId) (sz : Nat) (md : Nat → Nat) (sd : Int32) (mth mst hn cn pn mq gn mln mnn ln mlt msz mcu mtk mfr mti mfa mfb an un lc td mtn : Int32) (ml mm mi : Nat → Int32) (a : Int32) (i : Int32) (b : Int32) (j : Int32) (n : Int32)  (h1 : okM mm)  : Met l yX11_copy wsX11_copy ({ frames := 2, cells := 0, slots := 0, locals := 45 }) (cPre D (ty4 cI cY cJ cQ) [(moC md sd mth mst hn cn pn mq gn mln mnn ln mlt msz mcu mtk mfr mti mfa mfb an un lc td mtn), (aI cI (md 3) 8 ml), (aI cI (md 4) 8 mm), (aI cI (md 5) 480 mi)] sz [.ref (md 64), .int a, .int i, .int b, .int j, .int n]) (va_Qi (fun (r : Int32) (u : Int32 × (Nat → Int32)) => ps_copy mst ml mm mi a i b j n r u.1 u.2) (cB D (ty4 cI cY cJ cQ) (fun (u : Int32 × (Nat → Int32)) => [(moC md sd 0 u.1 hn cn pn mq gn mln mnn ln mlt msz mcu mtk mfr mti mfa mfb an un lc td mtn), (aI cI (md 3) 8 ml), (aI cI (md 4) 8 mm), (aI cI (md 5) 480 u.2)]) (va_A [(moC md sd mth mst hn cn pn mq gn mln mnn ln mlt msz mcu mtk mfr mti mfa mfb an un lc td mtn), (aI cI (md 3) 8 ml), (aI cI (md 4) 8 mm), (aI cI (md 5) 480 mi)] sz)) (va_A [(moC md sd mth mst hn cn pn mq gn mln mnn ln mlt msz mcu mtk mfr mti mfa mfb an un lc td mtn), (aI cI (md 3) 8 ml), (aI cI (md 4) 8 mm), (aI cI (md 5) 480 mi)] sz)) 0 0 (va_A [(moC md sd mth mst hn cn pn mq gn mln mnn ln mlt msz mcu mtk mfr mti mfa mfb an un lc td mtn), (aI cI (md 3) 8 ml), (aI cI (md 4) 8 mm), (aI cI (md 5) 480 mi)] sz) := by
  refine Met.ofW (cc := cX11_copy) (maxL := 9) (ret := (some .int)) (by decide) rfl ?_
  intro p e s m args below meth c s₁ B hml hv
  obtain ⟨rfl, hsz, hP, hK, hD0, hN⟩ := hv
  have hx := B.exec
  have hb := B.bytes
  have hr := B.returns
  have hts := atoms_spec (ws := wsX11_copy) B.pre
  have hown : s.vm.findClass RX11 = some m.cls := findClass_of_methodNamed B.named
  have hlocks := B.notSynchronized
  subst hsz
  have hD := hD0.self (sz := s.heap.size)
  generalize hAe : va_A [(moC md sd mth mst hn cn pn mq gn mln mnn ln mlt msz mcu mtk mfr mti mfa mfb an un lc td mtn), (aI cI (md 3) 8 ml), (aI cI (md 4) 8 mm), (aI cI (md 5) 480 mi)] s.heap.size = A at hD ⊢
  have hA : ∀ q : Nat, s.heap.size ≤ q → A q := fun q h => by rw [← hAe]; exact Or.inr h
  have hS : va_S A s.heap s.heap [] := va_S.rf
  have hP : va_P D vwCl [(moC md sd mth mst hn cn pn mq gn mln mnn ln mlt msz mcu mtk mfr mti mfa mfb an un lc td mtn), (aI cI (md 3) 8 ml), (aI cI (md 4) 8 mm), (aI cI (md 5) 480 mi)] s.heap := hP
  have hl := lv_entry ([.ref (md 64), .int a, .int i, .int b, .int j, .int n]) (n := 9) (Nat.le_of_ble_eq_true rfl)
  rw [lg_entry_eq]
  generalize (lg_sl ([.ref (md 64), .int a, .int i, .int b, .int j, .int n]) ++ List.replicate (9 - (lg_sl ([.ref (md 64), .int a, .int i, .int b, .int j, .int n])).length) Slot.unset).toArray = ls at hl ⊢
  have hl : lv_has ls 9 [(0, .ref (md 64)), (1, .int a), (2, .int i), (3, .int b), (4, .int j), (5, .int n)] := hl
  have k0 : (0 : Int32).toInt = 0 := by decide
  have k1 : (1 : Int32).toInt = 1 := by decide
  have k2 : (2 : Int32).toInt = 2 := by decide
  have k5 : (5 : Int32).toInt = 5 := by decide
  have k60 : (60 : Int32).toInt = 60 := by decide
  refine lv_aload_n hx hb dX11_copy_0 rfl (lv_at hl 0 rfl) ?_
  refine lv_iconst (v := 0) hx hb dX11_copy_1 (by decide) ?_
  refine va_put (D := D) (ci := 11) (v := .int 0) (ty := .int) (C := RX11) (T := TX11) (N := 64) hx hb hts inX11_copy_X11 tyX11 tyX11_ok nmX11 hown hK hP hD hS 0 rfl rfl 0 (by decide) (hts (Cond.fieldLink RX11 1 "PortRoomsModel" "thrown" "I") (wm_t (wm_l (wm_i 0 rfl)))) (fun _ h9 => h9) rfl (tyX11_ok 0 (by decide)) rfl rfl (Nat.le_of_ble_eq_true rfl) dX11_copy_2 (fun H locs => ?_)
  clear hP hD hS
  intro hP hD hS
  replace hP : va_P D vwCl [(moC md sd (0) mst hn cn pn mq gn mln mnn ln mlt msz mcu mtk mfr mti mfa mfb an un lc td mtn), (aI cI (md 3) 8 ml), (aI cI (md 4) 8 mm), (aI cI (md 5) 480 mi)] H := hP
  replace hD : va_D A [(moC md sd (0) mst hn cn pn mq gn mln mnn ln mlt msz mcu mtk mfr mti mfa mfb an un lc td mtn), (aI cI (md 3) 8 ml), (aI cI (md 4) 8 mm), (aI cI (md 5) 480 mi)] := hD
  refine lv_iload_n hx hb dX11_copy_5 rfl (lv_at hl 1 rfl) ?_
  refine st_i1 (va_runS (As := [.int a]) (rest := []) ⟨hx, hb, hml, hown, hts⟩ (ct_X11_isSheet l D cI cY cJ cQ _ a) (va_cwS 1 hts gX11_copy_X11_isSheet rfl rfl rfl cdX11_isSheet ⟨Nat.le_of_ble_eq_true rfl, Nat.le_of_ble_eq_true rfl⟩) (cPreS (hP.sub [] rfl) hK (hD.sub [] (by decide +kernel) rfl) hN) rfl rfl hl.1 rfl (lv_room (Nat.le_of_ble_eq_true rfl)) dX11_copy_6 ⟨Nat.le_of_ble_eq_true rfl, Nat.le_of_ble_eq_true rfl⟩) hP hD hS hA [] rfl (fun _ => rfl) (fun r3 u1 H locs hw2 => ?_)
  clear hP hS
  intro hP hS
  replace hw2 : r3 = if 0 ≤ a.toInt ∧ a.toInt ≤ 7 then 1 else 0 := hw2
  refine lv_if_eq (tgt := 19) hx hb dX11_copy_9 (by decide) (fun c4 => ?_) (fun c4 => ?_)
  · skip
    have f5 := bo_f hw2 c4
    refine lv_ldc hx hb hown (hts (Cond.constant RX11 157 (-1000001)) (wm_t (wm_l (wm_i 1 rfl)))) dX11_copy_19 ?_
    have hP9 := hP
    have hD9 := hD
    exact W.iret (v := (-1000001)) hx hb hr (fun t ht hW => ⟨⟨(-1000001), (mst, mi), rfl, (by unfold ps_copy; (repeat' split) <;> first | (exfalso; omega) | exact ⟨rfl, rfl, rfl⟩), by rw [ht]; exact hP9, va_K.moved hW.alike hK, hD9⟩, hS.F ht⟩) hS.2.2 dX11_copy_21
  · skip
    have f6 := bo_t hw2 c4
    refine lv_iload_n hx hb dX11_copy_12 rfl (lv_at hl 3 rfl) ?_
    refine st_i1 (va_runS (As := [.int b]) (rest := []) ⟨hx, hb, hml, hown, hts⟩ (ct_X11_isSheet l D cI cY cJ cQ _ b) (va_cwS 1 hts gX11_copy_X11_isSheet rfl rfl rfl cdX11_isSheet ⟨Nat.le_of_ble_eq_true rfl, Nat.le_of_ble_eq_true rfl⟩) (cPreS (hP.sub [] rfl) hK (hD.sub [] (by decide +kernel) rfl) hN) rfl rfl hl.1 rfl (lv_room (Nat.le_of_ble_eq_true rfl)) dX11_copy_13 ⟨Nat.le_of_ble_eq_true rfl, Nat.le_of_ble_eq_true rfl⟩) hP hD hS hA [] rfl (fun _ => rfl) (fun r9 u7 H locs hw8 => ?_)
    clear hP hS
    intro hP hS
    replace hw8 : r9 = if 0 ≤ b.toInt ∧ b.toInt ≤ 7 then 1 else 0 := hw8
    refine lv_if_ne (tgt := 22) hx hb dX11_copy_16 (by decide) (fun c10 => ?_) (fun c10 => ?_)
    · skip
      have f11 := bo_t hw8 c10
      refine lv_aload_n hx hb dX11_copy_22 rfl (lv_at hl 0 rfl) ?_
      refine lv_iconst (v := 0) hx hb dX11_copy_23 (by decide) ?_
      refine va_put (D := D) (ci := 11) (v := .int 0) (ty := .int) (C := RX11) (T := TX11) (N := 64) hx hb hts inX11_copy_X11 tyX11 tyX11_ok nmX11 hown hK hP hD hS 0 rfl rfl 2 (by decide) (hts (Cond.fieldLink RX11 141 "PortRoomsModel" "status" "I") (wm_t (wm_l (wm_i 2 rfl)))) (fun _ h9 => h9) rfl (tyX11_ok 2 (by decide)) rfl rfl (Nat.le_of_ble_eq_true rfl) dX11_copy_24 (fun H locs => ?_)
      clear hP hD hS
      intro hP hD hS
      replace hP : va_P D vwCl [(moC md sd (0) (0) hn cn pn mq gn mln mnn ln mlt msz mcu mtk mfr mti mfa mfb an un lc td mtn), (aI cI (md 3) 8 ml), (aI cI (md 4) 8 mm), (aI cI (md 5) 480 mi)] H := hP
      replace hD : va_D A [(moC md sd (0) (0) hn cn pn mq gn mln mnn ln mlt msz mcu mtk mfr mti mfa mfb an un lc td mtn), (aI cI (md 3) 8 ml), (aI cI (md 4) 8 mm), (aI cI (md 5) 480 mi)] := hD
      refine lv_aload_n hx hb dX11_copy_27 rfl (lv_at hl 0 rfl) ?_
      refine va_get (D := D) (ci := 11) (v := .ref (md 3)) (C := RX11) (T := TX11) (N := 64) hx hb hts inX11_copy_X11 hown hK hP 0 rfl rfl 3 (by decide) (hts (Cond.fieldLink RX11 13 "PortRoomsModel" "lane" "[I") (wm_t (wm_l (wm_i 3 rfl)))) (fun _ h9 => h9) rfl dX11_copy_28 ?_
      refine lv_iload_n hx hb dX11_copy_31 rfl (lv_at hl 1 rfl) ?_
      refine va_iald hx hb hK hP 1 0 rfl rfl (i_in (by omega) (by omega)) dX11_copy_32 ?_
      refine lv_topi (fun v12 ev12 => ?_)
      have tlv12 : v12.toInt = (ml a.toNatClampNeg).toInt := by rw [ev12]
      refine lv_if_lt (tgt := 45) hx hb dX11_copy_33 (by decide) (fun c13 => ?_) (fun c13 => ?_)
      · skip
        have f14 := i_lt c13
        refine lv_aload_n hx hb dX11_copy_45 rfl (lv_at hl 0 rfl) ?_
        refine lv_iconst (v := 1) hx hb dX11_copy_46 (by decide) ?_
        refine st_i (wr := [(aI cI (md 3) 8 ml), (aI cI (md 4) 8 mm), (aI cI (md 5) 480 mi)]) (va_runV (C := RX11) (As := [.int 1]) (rest := []) ⟨hx, hb, hml, hown, hts⟩ (ct_X11_found l D cI cY cJ cQ _ md sd 0 0 hn cn pn mq gn mln mnn ln mlt msz mcu mtk mfr mti mfa mfb an un lc td mtn (1 : Int32)) (cwV 1 hts gX11_copy_X11_found rfl rfl rfl ⟨rfl, cdX11_found⟩ ⟨Nat.le_of_ble_eq_true rfl, Nat.le_of_ble_eq_true rfl⟩) (cPreV (hP.sub [0] rfl) hK (hD.sub [0] (by decide +kernel) rfl) hN (ci := 11) (q0 := 0) rfl rfl) rfl rfl hl.1 rfl (lv_room (Nat.le_of_ble_eq_true rfl)) dX11_copy_47 ⟨Nat.le_of_ble_eq_true rfl, Nat.le_of_ble_eq_true rfl⟩) hP hD hS hA [0] [1, 2, 3] rfl rfl (by decide +kernel) (by decide +kernel) (fun r17 u15 H locs hw16 => ?_)
        clear hP hD hS
        intro hP hD hS
        replace hw16 : r17 = (-1000010) - (1 : Int32) := hw16
        replace hP : va_P D vwCl [(aI cI (md 3) 8 ml), (aI cI (md 4) 8 mm), (aI cI (md 5) 480 mi), (moC md sd (0) (1 : Int32) hn cn pn mq gn mln mnn ln mlt msz mcu mtk mfr mti mfa mfb an un lc td mtn)] H := hP
        replace hD : va_D A [(aI cI (md 3) 8 ml), (aI cI (md 4) 8 mm), (aI cI (md 5) 480 mi), (moC md sd (0) (1 : Int32) hn cn pn mq gn mln mnn ln mlt msz mcu mtk mfr mti mfa mfb an un lc td mtn)] := hD
        subst hw16
        have hP9 := hP.sub (ws' := [(moC md sd (0) (1 : Int32) hn cn pn mq gn mln mnn ln mlt msz mcu mtk mfr mti mfa mfb an un lc td mtn), (aI cI (md 3) 8 ml), (aI cI (md 4) 8 mm), (aI cI (md 5) 480 mi)]) [3, 0, 1, 2] rfl
        have hD9 := hD.sub (ws' := [(moC md sd (0) (1 : Int32) hn cn pn mq gn mln mnn ln mlt msz mcu mtk mfr mti mfa mfb an un lc td mtn), (aI cI (md 3) 8 ml), (aI cI (md 4) 8 mm), (aI cI (md 5) 480 mi)]) [3, 0, 1, 2] (by decide +kernel) rfl
        exact W.iret (v := (-1000010) - (1 : Int32)) hx hb hr (fun t ht hW => ⟨⟨(-1000010) - (1 : Int32), ((1 : Int32), mi), rfl, (by unfold ps_copy; (repeat' split) <;> first | (exfalso; omega) | exact ⟨rfl, rfl, rfl⟩), by rw [ht]; exact hP9, va_K.moved hW.alike hK, hD9⟩, hS.F ht⟩) hS.2.2 dX11_copy_50
      · skip
        have f18 := i_nlt c13
        refine lv_aload_n hx hb dX11_copy_36 rfl (lv_at hl 0 rfl) ?_
        refine va_get (D := D) (ci := 11) (v := .ref (md 3)) (C := RX11) (T := TX11) (N := 64) hx hb hts inX11_copy_X11 hown hK hP 0 rfl rfl 3 (by decide) (hts (Cond.fieldLink RX11 13 "PortRoomsModel" "lane" "[I") (wm_t (wm_l (wm_i 3 rfl)))) (fun _ h9 => h9) rfl dX11_copy_37 ?_
        refine lv_iload_n hx hb dX11_copy_40 rfl (lv_at hl 3 rfl) ?_
        refine va_iald hx hb hK hP 1 0 rfl rfl (i_in (by omega) (by omega)) dX11_copy_41 ?_
        refine lv_topi (fun v19 ev19 => ?_)
        have tlv19 : v19.toInt = (ml b.toNatClampNeg).toInt := by rw [ev19]
        refine lv_if_ge (tgt := 51) hx hb dX11_copy_42 (by decide) (fun c20 => ?_) (fun c20 => ?_)
        · skip
          have f21 := i_le c20
          refine lv_aload_n hx hb dX11_copy_51 rfl (lv_at hl 0 rfl) ?_
          refine va_get (D := D) (ci := 11) (v := .ref (md 3)) (C := RX11) (T := TX11) (N := 64) hx hb hts inX11_copy_X11 hown hK hP 0 rfl rfl 3 (by decide) (hts (Cond.fieldLink RX11 13 "PortRoomsModel" "lane" "[I") (wm_t (wm_l (wm_i 3 rfl)))) (fun _ h9 => h9) rfl dX11_copy_52 ?_
          refine lv_iload_n hx hb dX11_copy_55 rfl (lv_at hl 1 rfl) ?_
          refine va_iald hx hb hK hP 1 0 rfl rfl (i_in (by omega) (by omega)) dX11_copy_56 ?_
          refine lv_topi (fun v22 ev22 => ?_)
          have tlv22 : v22.toInt = (ml a.toNatClampNeg).toInt := by rw [ev22]
          refine lv_aload_n hx hb dX11_copy_57 rfl (lv_at hl 0 rfl) ?_
          refine va_get (D := D) (ci := 11) (v := .ref (md 3)) (C := RX11) (T := TX11) (N := 64) hx hb hts inX11_copy_X11 hown hK hP 0 rfl rfl 3 (by decide) (hts (Cond.fieldLink RX11 13 "PortRoomsModel" "lane" "[I") (wm_t (wm_l (wm_i 3 rfl)))) (fun _ h9 => h9) rfl dX11_copy_58 ?_
          refine lv_iload_n hx hb dX11_copy_61 rfl (lv_at hl 3 rfl) ?_
          refine va_iald hx hb hK hP 1 0 rfl rfl (i_in (by omega) (by omega)) dX11_copy_62 ?_
          refine lv_topi (fun v23 ev23 => ?_)
          have tlv23 : v23.toInt = (ml b.toNatClampNeg).toInt := by rw [ev23]
          refine lv_icmp_eq (tgt := 72) hx hb dX11_copy_63 (by decide) (fun c24 => ?_) (fun c24 => ?_)
          · skip
            have f25 := i_eq c24
            refine lv_iload_n hx hb dX11_copy_72 rfl (lv_at hl 2 rfl) ?_
            refine lv_if_lt (tgt := 121) hx hb dX11_copy_73 (by decide) (fun c26 => ?_) (fun c26 => ?_)
            · skip
              have f27 := i_lt c26
              refine lv_aload_n hx hb dX11_copy_121 rfl (lv_at hl 0 rfl) ?_
              refine lv_iconst (v := 2) hx hb dX11_copy_122 (by decide) ?_
              refine st_i (wr := [(aI cI (md 3) 8 ml), (aI cI (md 4) 8 mm), (aI cI (md 5) 480 mi)]) (va_runV (C := RX11) (As := [.int 2]) (rest := []) ⟨hx, hb, hml, hown, hts⟩ (ct_X11_found l D cI cY cJ cQ _ md sd 0 0 hn cn pn mq gn mln mnn ln mlt msz mcu mtk mfr mti mfa mfb an un lc td mtn (2 : Int32)) (cwV 1 hts gX11_copy_X11_found rfl rfl rfl ⟨rfl, cdX11_found⟩ ⟨Nat.le_of_ble_eq_true rfl, Nat.le_of_ble_eq_true rfl⟩) (cPreV (hP.sub [0] rfl) hK (hD.sub [0] (by decide +kernel) rfl) hN (ci := 11) (q0 := 0) rfl rfl) rfl rfl hl.1 rfl (lv_room (Nat.le_of_ble_eq_true rfl)) dX11_copy_123 ⟨Nat.le_of_ble_eq_true rfl, Nat.le_of_ble_eq_true rfl⟩) hP hD hS hA [0] [1, 2, 3] rfl rfl (by decide +kernel) (by decide +kernel) (fun r30 u28 H locs hw29 => ?_)
              clear hP hD hS
              intro hP hD hS
              replace hw29 : r30 = (-1000010) - (2 : Int32) := hw29
              replace hP : va_P D vwCl [(aI cI (md 3) 8 ml), (aI cI (md 4) 8 mm), (aI cI (md 5) 480 mi), (moC md sd (0) (2 : Int32) hn cn pn mq gn mln mnn ln mlt msz mcu mtk mfr mti mfa mfb an un lc td mtn)] H := hP
              replace hD : va_D A [(aI cI (md 3) 8 ml), (aI cI (md 4) 8 mm), (aI cI (md 5) 480 mi), (moC md sd (0) (2 : Int32) hn cn pn mq gn mln mnn ln mlt msz mcu mtk mfr mti mfa mfb an un lc td mtn)] := hD
              subst hw29
              have hP9 := hP.sub (ws' := [(moC md sd (0) (2 : Int32) hn cn pn mq gn mln mnn ln mlt msz mcu mtk mfr mti mfa mfb an un lc td mtn), (aI cI (md 3) 8 ml), (aI cI (md 4) 8 mm), (aI cI (md 5) 480 mi)]) [3, 0, 1, 2] rfl
              have hD9 := hD.sub (ws' := [(moC md sd (0) (2 : Int32) hn cn pn mq gn mln mnn ln mlt msz mcu mtk mfr mti mfa mfb an un lc td mtn), (aI cI (md 3) 8 ml), (aI cI (md 4) 8 mm), (aI cI (md 5) 480 mi)]) [3, 0, 1, 2] (by decide +kernel) rfl
              exact W.iret (v := (-1000010) - (2 : Int32)) hx hb hr (fun t ht hW => ⟨⟨(-1000010) - (2 : Int32), ((2 : Int32), mi), rfl, (by unfold ps_copy; (repeat' split) <;> first | (exfalso; omega) | exact ⟨rfl, rfl, rfl⟩), by rw [ht]; exact hP9, va_K.moved hW.alike hK, hD9⟩, hS.F ht⟩) hS.2.2 dX11_copy_126
            · skip
              have f31 := i_nlt c26
              refine lv_iload hx hb dX11_copy_76 (lv_at hl 4 rfl) ?_
              refine lv_if_lt (tgt := 121) hx hb dX11_copy_78 (by decide) (fun c32 => ?_) (fun c32 => ?_)
              · skip
                have f33 := i_lt c32
                refine lv_aload_n hx hb dX11_copy_121 rfl (lv_at hl 0 rfl) ?_
                refine lv_iconst (v := 2) hx hb dX11_copy_122 (by decide) ?_
                refine st_i (wr := [(aI cI (md 3) 8 ml), (aI cI (md 4) 8 mm), (aI cI (md 5) 480 mi)]) (va_runV (C := RX11) (As := [.int 2]) (rest := []) ⟨hx, hb, hml, hown, hts⟩ (ct_X11_found l D cI cY cJ cQ _ md sd 0 0 hn cn pn mq gn mln mnn ln mlt msz mcu mtk mfr mti mfa mfb an un lc td mtn (2 : Int32)) (cwV 1 hts gX11_copy_X11_found rfl rfl rfl ⟨rfl, cdX11_found⟩ ⟨Nat.le_of_ble_eq_true rfl, Nat.le_of_ble_eq_true rfl⟩) (cPreV (hP.sub [0] rfl) hK (hD.sub [0] (by decide +kernel) rfl) hN (ci := 11) (q0 := 0) rfl rfl) rfl rfl hl.1 rfl (lv_room (Nat.le_of_ble_eq_true rfl)) dX11_copy_123 ⟨Nat.le_of_ble_eq_true rfl, Nat.le_of_ble_eq_true rfl⟩) hP hD hS hA [0] [1, 2, 3] rfl rfl (by decide +kernel) (by decide +kernel) (fun r36 u34 H locs hw35 => ?_)
                clear hP hD hS
                intro hP hD hS
                replace hw35 : r36 = (-1000010) - (2 : Int32) := hw35
                replace hP : va_P D vwCl [(aI cI (md 3) 8 ml), (aI cI (md 4) 8 mm), (aI cI (md 5) 480 mi), (moC md sd (0) (2 : Int32) hn cn pn mq gn mln mnn ln mlt msz mcu mtk mfr mti mfa mfb an un lc td mtn)] H := hP
                replace hD : va_D A [(aI cI (md 3) 8 ml), (aI cI (md 4) 8 mm), (aI cI (md 5) 480 mi), (moC md sd (0) (2 : Int32) hn cn pn mq gn mln mnn ln mlt msz mcu mtk mfr mti mfa mfb an un lc td mtn)] := hD
                subst hw35
                have hP9 := hP.sub (ws' := [(moC md sd (0) (2 : Int32) hn cn pn mq gn mln mnn ln mlt msz mcu mtk mfr mti mfa mfb an un lc td mtn), (aI cI (md 3) 8 ml), (aI cI (md 4) 8 mm), (aI cI (md 5) 480 mi)]) [3, 0, 1, 2] rfl
                have hD9 := hD.sub (ws' := [(moC md sd (0) (2 : Int32) hn cn pn mq gn mln mnn ln mlt msz mcu mtk mfr mti mfa mfb an un lc td mtn), (aI cI (md 3) 8 ml), (aI cI (md 4) 8 mm), (aI cI (md 5) 480 mi)]) [3, 0, 1, 2] (by decide +kernel) rfl
                exact W.iret (v := (-1000010) - (2 : Int32)) hx hb hr (fun t ht hW => ⟨⟨(-1000010) - (2 : Int32), ((2 : Int32), mi), rfl, (by unfold ps_copy; (repeat' split) <;> first | (exfalso; omega) | exact ⟨rfl, rfl, rfl⟩), by rw [ht]; exact hP9, va_K.moved hW.alike hK, hD9⟩, hS.F ht⟩) hS.2.2 dX11_copy_126
              · skip
                have f37 := i_nlt c32
                refine lv_iload hx hb dX11_copy_81 (lv_at hl 5 rfl) ?_
                refine lv_if_lt (tgt := 121) hx hb dX11_copy_83 (by decide) (fun c38 => ?_) (fun c38 => ?_)
                · skip
                  have f39 := i_lt c38
                  refine lv_aload_n hx hb dX11_copy_121 rfl (lv_at hl 0 rfl) ?_
                  refine lv_iconst (v := 2) hx hb dX11_copy_122 (by decide) ?_
                  refine st_i (wr := [(aI cI (md 3) 8 ml), (aI cI (md 4) 8 mm), (aI cI (md 5) 480 mi)]) (va_runV (C := RX11) (As := [.int 2]) (rest := []) ⟨hx, hb, hml, hown, hts⟩ (ct_X11_found l D cI cY cJ cQ _ md sd 0 0 hn cn pn mq gn mln mnn ln mlt msz mcu mtk mfr mti mfa mfb an un lc td mtn (2 : Int32)) (cwV 1 hts gX11_copy_X11_found rfl rfl rfl ⟨rfl, cdX11_found⟩ ⟨Nat.le_of_ble_eq_true rfl, Nat.le_of_ble_eq_true rfl⟩) (cPreV (hP.sub [0] rfl) hK (hD.sub [0] (by decide +kernel) rfl) hN (ci := 11) (q0 := 0) rfl rfl) rfl rfl hl.1 rfl (lv_room (Nat.le_of_ble_eq_true rfl)) dX11_copy_123 ⟨Nat.le_of_ble_eq_true rfl, Nat.le_of_ble_eq_true rfl⟩) hP hD hS hA [0] [1, 2, 3] rfl rfl (by decide +kernel) (by decide +kernel) (fun r42 u40 H locs hw41 => ?_)
                  clear hP hD hS
                  intro hP hD hS
                  replace hw41 : r42 = (-1000010) - (2 : Int32) := hw41
                  replace hP : va_P D vwCl [(aI cI (md 3) 8 ml), (aI cI (md 4) 8 mm), (aI cI (md 5) 480 mi), (moC md sd (0) (2 : Int32) hn cn pn mq gn mln mnn ln mlt msz mcu mtk mfr mti mfa mfb an un lc td mtn)] H := hP
                  replace hD : va_D A [(aI cI (md 3) 8 ml), (aI cI (md 4) 8 mm), (aI cI (md 5) 480 mi), (moC md sd (0) (2 : Int32) hn cn pn mq gn mln mnn ln mlt msz mcu mtk mfr mti mfa mfb an un lc td mtn)] := hD
                  subst hw41
                  have hP9 := hP.sub (ws' := [(moC md sd (0) (2 : Int32) hn cn pn mq gn mln mnn ln mlt msz mcu mtk mfr mti mfa mfb an un lc td mtn), (aI cI (md 3) 8 ml), (aI cI (md 4) 8 mm), (aI cI (md 5) 480 mi)]) [3, 0, 1, 2] rfl
                  have hD9 := hD.sub (ws' := [(moC md sd (0) (2 : Int32) hn cn pn mq gn mln mnn ln mlt msz mcu mtk mfr mti mfa mfb an un lc td mtn), (aI cI (md 3) 8 ml), (aI cI (md 4) 8 mm), (aI cI (md 5) 480 mi)]) [3, 0, 1, 2] (by decide +kernel) rfl
                  exact W.iret (v := (-1000010) - (2 : Int32)) hx hb hr (fun t ht hW => ⟨⟨(-1000010) - (2 : Int32), ((2 : Int32), mi), rfl, (by unfold ps_copy; (repeat' split) <;> first | (exfalso; omega) | exact ⟨rfl, rfl, rfl⟩), by rw [ht]; exact hP9, va_K.moved hW.alike hK, hD9⟩, hS.F ht⟩) hS.2.2 dX11_copy_126
                · skip
                  have f43 := i_nlt c38
                  refine lv_iload_n hx hb dX11_copy_86 rfl (lv_at hl 2 rfl) ?_
                  refine lv_i2l hx hb dX11_copy_87 rfl ?_
                  have w44 := i_w i
                  have w45 := i_rng i
                  refine lv_iload hx hb dX11_copy_88 (lv_at hl 5 rfl) ?_
                  refine lv_i2l hx hb dX11_copy_90 rfl ?_
                  have w46 := i_w n
                  have w47 := i_rng n
                  refine lv_ladd hx hb dX11_copy_91 ?_
                  refine lv_topl (fun z48 ez48 => ?_)
                  try have tz48 : z48.toInt = i.toInt64.toInt + n.toInt64.toInt := by rw [ez48]; exact l_add (by omega) (by omega)
                  refine lv_aload_n hx hb dX11_copy_92 rfl (lv_at hl 0 rfl) ?_
                  refine va_get (D := D) (ci := 11) (v := .ref (md 4)) (C := RX11) (T := TX11) (N := 64) hx hb hts inX11_copy_X11 hown hK hP 0 rfl rfl 4 (by decide) (hts (Cond.fieldLink RX11 17 "PortRoomsModel" "many" "[I") (wm_t (wm_l (wm_i 4 rfl)))) (fun _ h9 => h9) rfl dX11_copy_93 ?_
                  refine lv_iload_n hx hb dX11_copy_96 rfl (lv_at hl 1 rfl) ?_
                  refine va_iald hx hb hK hP 2 0 rfl rfl (i_in (by omega) (by omega)) dX11_copy_97 ?_
                  refine lv_topi (fun v49 ev49 => ?_)
                  have tlv49 : v49.toInt = (mm a.toNatClampNeg).toInt := by rw [ev49]
                  have qv49 := okM_at h1 ev49 (by omega) (by omega)
                  refine lv_i2l hx hb dX11_copy_98 rfl ?_
                  have w50 := i_w v49
                  have w51 := i_rng v49
                  refine W.lcmp hx hb dX11_copy_99 ?_
                  refine lv_topi (fun v52 ev52 => ?_)
                  refine lv_if_gt (tgt := 121) hx hb dX11_copy_100 (by decide) (fun c53 => ?_) (fun c53 => ?_)
                  · skip
                    have f54 := lc_gt ev52 c53
                    refine lv_aload_n hx hb dX11_copy_121 rfl (lv_at hl 0 rfl) ?_
                    refine lv_iconst (v := 2) hx hb dX11_copy_122 (by decide) ?_
                    refine st_i (wr := [(aI cI (md 3) 8 ml), (aI cI (md 4) 8 mm), (aI cI (md 5) 480 mi)]) (va_runV (C := RX11) (As := [.int 2]) (rest := []) ⟨hx, hb, hml, hown, hts⟩ (ct_X11_found l D cI cY cJ cQ _ md sd 0 0 hn cn pn mq gn mln mnn ln mlt msz mcu mtk mfr mti mfa mfb an un lc td mtn (2 : Int32)) (cwV 1 hts gX11_copy_X11_found rfl rfl rfl ⟨rfl, cdX11_found⟩ ⟨Nat.le_of_ble_eq_true rfl, Nat.le_of_ble_eq_true rfl⟩) (cPreV (hP.sub [0] rfl) hK (hD.sub [0] (by decide +kernel) rfl) hN (ci := 11) (q0 := 0) rfl rfl) rfl rfl hl.1 rfl (lv_room (Nat.le_of_ble_eq_true rfl)) dX11_copy_123 ⟨Nat.le_of_ble_eq_true rfl, Nat.le_of_ble_eq_true rfl⟩) hP hD hS hA [0] [1, 2, 3] rfl rfl (by decide +kernel) (by decide +kernel) (fun r57 u55 H locs hw56 => ?_)
                    clear hP hD hS
                    intro hP hD hS
                    replace hw56 : r57 = (-1000010) - (2 : Int32) := hw56
                    replace hP : va_P D vwCl [(aI cI (md 3) 8 ml), (aI cI (md 4) 8 mm), (aI cI (md 5) 480 mi), (moC md sd (0) (2 : Int32) hn cn pn mq gn mln mnn ln mlt msz mcu mtk mfr mti mfa mfb an un lc td mtn)] H := hP
                    replace hD : va_D A [(aI cI (md 3) 8 ml), (aI cI (md 4) 8 mm), (aI cI (md 5) 480 mi), (moC md sd (0) (2 : Int32) hn cn pn mq gn mln mnn ln mlt msz mcu mtk mfr mti mfa mfb an un lc td mtn)] := hD
                    subst hw56
                    have hP9 := hP.sub (ws' := [(moC md sd (0) (2 : Int32) hn cn pn mq gn mln mnn ln mlt msz mcu mtk mfr mti mfa mfb an un lc td mtn), (aI cI (md 3) 8 ml), (aI cI (md 4) 8 mm), (aI cI (md 5) 480 mi)]) [3, 0, 1, 2] rfl
                    have hD9 := hD.sub (ws' := [(moC md sd (0) (2 : Int32) hn cn pn mq gn mln mnn ln mlt msz mcu mtk mfr mti mfa mfb an un lc td mtn), (aI cI (md 3) 8 ml), (aI cI (md 4) 8 mm), (aI cI (md 5) 480 mi)]) [3, 0, 1, 2] (by decide +kernel) rfl
                    exact W.iret (v := (-1000010) - (2 : Int32)) hx hb hr (fun t ht hW => ⟨⟨(-1000010) - (2 : Int32), ((2 : Int32), mi), rfl, (by unfold ps_copy; (repeat' split) <;> first | (exfalso; omega) | exact ⟨rfl, rfl, rfl⟩), by rw [ht]; exact hP9, va_K.moved hW.alike hK, hD9⟩, hS.F ht⟩) hS.2.2 dX11_copy_126
                  · skip
                    have f58 := lc_gtN ev52 c53
                    refine lv_iload hx hb dX11_copy_103 (lv_at hl 4 rfl) ?_
                    refine lv_i2l hx hb dX11_copy_105 rfl ?_
                    have w59 := i_w j
                    have w60 := i_rng j
                    refine lv_iload hx hb dX11_copy_106 (lv_at hl 5 rfl) ?_
                    refine lv_i2l hx hb dX11_copy_108 rfl ?_
                    have w61 := i_w n
                    have w62 := i_rng n
                    refine lv_ladd hx hb dX11_copy_109 ?_
                    refine lv_topl (fun z63 ez63 => ?_)
                    try have tz63 : z63.toInt = j.toInt64.toInt + n.toInt64.toInt := by rw [ez63]; exact l_add (by omega) (by omega)
                    refine lv_aload_n hx hb dX11_copy_110 rfl (lv_at hl 0 rfl) ?_
                    refine va_get (D := D) (ci := 11) (v := .ref (md 4)) (C := RX11) (T := TX11) (N := 64) hx hb hts inX11_copy_X11 hown hK hP 0 rfl rfl 4 (by decide) (hts (Cond.fieldLink RX11 17 "PortRoomsModel" "many" "[I") (wm_t (wm_l (wm_i 4 rfl)))) (fun _ h9 => h9) rfl dX11_copy_111 ?_
                    refine lv_iload_n hx hb dX11_copy_114 rfl (lv_at hl 3 rfl) ?_
                    refine va_iald hx hb hK hP 2 0 rfl rfl (i_in (by omega) (by omega)) dX11_copy_115 ?_
                    refine lv_topi (fun v64 ev64 => ?_)
                    have tlv64 : v64.toInt = (mm b.toNatClampNeg).toInt := by rw [ev64]
                    have qv64 := okM_at h1 ev64 (by omega) (by omega)
                    refine lv_i2l hx hb dX11_copy_116 rfl ?_
                    have w65 := i_w v64
                    have w66 := i_rng v64
                    refine W.lcmp hx hb dX11_copy_117 ?_
                    refine lv_topi (fun v67 ev67 => ?_)
                    refine lv_if_le (tgt := 127) hx hb dX11_copy_118 (by decide) (fun c68 => ?_) (fun c68 => ?_)
                    · skip
                      have f69 := lc_le ev67 c68
                      refine lv_iload_n hx hb dX11_copy_127 rfl (lv_at hl 2 rfl) ?_
                      refine lv_iload hx hb dX11_copy_128 (lv_at hl 4 rfl) ?_
                      refine lv_icmp_lt (tgt := 137) hx hb dX11_copy_130 (by decide) (fun c70 => ?_) (fun c70 => ?_)
                      · skip
                        have f71 := i_lt c70
                        refine lv_iconst (v := 0) hx hb dX11_copy_137 (by decide) ?_
                        refine lv_istore (lv' := [(6, .int 0), (0, .ref (md 64)), (1, .int a), (2, .int i), (3, .int b), (4, .int j), (5, .int n)]) hx hb dX11_copy_138 hl (by decide) rfl (fun ls hl => ?_)
                        refine lv_iconst (v := 0) hx hb dX11_copy_140 (by decide) ?_
                        refine lv_istore (lv' := [(7, .int 0), (6, .int 0), (0, .ref (md 64)), (1, .int a), (2, .int i), (3, .int b), (4, .int j), (5, .int n)]) hx hb dX11_copy_141 hl (by decide) rfl (fun ls hl => ?_)
                        refine st_loop 143 (fun _ => []) (fun (z : Int32 × (Nat → Int32)) (ls : Array Slot) (H : Heap) (locs : List Loc) => match z with | (q143_7, mitq) => (0 ≤ q143_7.toInt) ∧ (q143_7.toInt ≤ n.toInt) ∧ (mitq = cpyd mi (60 * a.toNatClampNeg + i.toNatClampNeg) (60 * b.toNatClampNeg + j.toNatClampNeg) (60 * b.toInt + j.toInt + n.toInt - q143_7.toInt) (60 * b.toInt + j.toInt + n.toInt)) ∧ lv_has ls 9 [(0, .ref (md 64)), (1, .int a), (2, .int i), (3, .int b), (4, .int j), (5, .int n), (6, .int 0), (7, .int q143_7)] ∧ va_P D vwCl [(moC md sd (0) (0) hn cn pn mq gn mln mnn ln mlt msz mcu mtk mfr mti mfa mfb an un lc td mtn), (aI cI (md 3) 8 ml), (aI cI (md 4) 8 mm), (aI cI (md 5) 480 mitq)] H ∧ va_D A [(moC md sd (0) (0) hn cn pn mq gn mln mnn ln mlt msz mcu mtk mfr mti mfa mfb an un lc td mtn), (aI cI (md 3) 8 ml), (aI cI (md 4) 8 mm), (aI cI (md 5) 480 mitq)] ∧ va_S A s.heap H locs) (fun (z : Int32 × (Nat → Int32)) => match z with | (q143_7, mitq) => n.toInt - q143_7.toInt) ?_ ?_ ((0 : Int32), mi) ⟨(by omega), (by omega), (by exact cpyd_0 (by omega)), lv_sub hl [2, 3, 4, 5, 6, 7, 1, 0] rfl, hP, hD, hS⟩
                        · rintro ⟨q143_7, mitq⟩ ls H locs ⟨g72, g73, g74, hl, hP, hD, hS⟩
                          show (0 : Int) ≤ n.toInt - q143_7.toInt
                          omega
                        · rintro n77 ih75 ⟨q143_7, mitq⟩ ls H locs ⟨g72, g73, g74, hl, hP, hD, hS⟩ hm76
                          have hm76 : n.toInt - q143_7.toInt < (n77 : Int) + 1 := hm76
                          replace hl : lv_has ls 9 [(0, .ref (md 64)), (1, .int a), (2, .int i), (3, .int b), (4, .int j), (5, .int n), (6, .int 0), (7, .int q143_7)] := hl
                          replace hP : va_P D vwCl [(moC md sd (0) (0) hn cn pn mq gn mln mnn ln mlt msz mcu mtk mfr mti mfa mfb an un lc td mtn), (aI cI (md 3) 8 ml), (aI cI (md 4) 8 mm), (aI cI (md 5) 480 mitq)] H := hP
                          replace hD : va_D A [(moC md sd (0) (0) hn cn pn mq gn mln mnn ln mlt msz mcu mtk mfr mti mfa mfb an un lc td mtn), (aI cI (md 3) 8 ml), (aI cI (md 4) 8 mm), (aI cI (md 5) 480 mitq)] := hD
                          show W _ _ _ _ _ _ _ _ _ _ _ _ _ _ _ (F0 m 143 ls [])
                          refine lv_iload hx hb dX11_copy_143 (lv_at hl 7 rfl) ?_
                          refine lv_iload hx hb dX11_copy_145 (lv_at hl 5 rfl) ?_
                          refine lv_icmp_ge (tgt := 204) hx hb dX11_copy_147 (by decide) (fun c78 => ?_) (fun c78 => ?_)
                          · skip
                            have f79 := i_le c78
                            refine lv_iload hx hb dX11_copy_204 (lv_at hl 5 rfl) ?_
                            have en9 : q143_7.toInt = n.toInt := by omega
                            have h99 : ps_copy mst ml mm mi a i b j n n 0 mitq := by unfold ps_copy; rw [if_pos (by omega), if_neg (by omega), if_neg (by omega), if_pos (by omega)]; exact ⟨rfl, rfl, g74.trans (by congr 1 <;> omega)⟩
                            have hP9 := hP
                            have hD9 := hD
                            exact W.iret (v := n) hx hb hr (fun t ht hW => ⟨⟨n, (0, mitq), rfl, h99, by rw [ht]; exact hP9, va_K.moved hW.alike hK, hD9⟩, hS.F ht⟩) hS.2.2 dX11_copy_206
                          · skip
                            have f80 := i_nle c78
                            refine lv_iload hx hb dX11_copy_150 (lv_at hl 6 rfl) ?_
                            refine lv_if_eq (tgt := 160) hx hb dX11_copy_152 (by decide) (fun _ => ?_) (fun c => absurd (by decide) c)
                            refine lv_iload hx hb dX11_copy_160 (lv_at hl 5 rfl) ?_
                            refine lv_iconst (v := 1) hx hb dX11_copy_162 (by decide) ?_
                            refine lv_isub hx hb dX11_copy_163 ?_
                            refine lv_topi (fun v81 ev81 => ?_)
                            try have tv81 : v81.toInt = n.toInt - 1 := by rw [ev81]; exact (i_sub (x := n) (y := (1 : Int32)) (by rw [k1]; omega) (by rw [k1]; omega)).trans (by rw [k1])
                            refine lv_iload hx hb dX11_copy_164 (lv_at hl 7 rfl) ?_
                            refine lv_isub hx hb dX11_copy_166 ?_
                            refine lv_topi (fun v82 ev82 => ?_)
                            try have tv82 : v82.toInt = v81.toInt - q143_7.toInt := by rw [ev82]; exact (i_sub (x := v81) (y := q143_7) (by omega) (by omega))
                            refine lv_istore (lv' := [(8, .int v82), (0, .ref (md 64)), (1, .int a), (2, .int i), (3, .int b), (4, .int j), (5, .int n), (6, .int 0), (7, .int q143_7)]) hx hb dX11_copy_167 hl (by decide) rfl (fun ls hl => ?_)
                            refine lv_aload_n hx hb dX11_copy_169 rfl (lv_at hl 1 rfl) ?_
                            refine va_get (D := D) (ci := 11) (v := .ref (md 5)) (C := RX11) (T := TX11) (N := 64) hx hb hts inX11_copy_X11 hown hK hP 0 rfl rfl 5 (by decide) (hts (Cond.fieldLink RX11 20 "PortRoomsModel" "item" "[I") (wm_t (wm_l (wm_i 5 rfl)))) (fun _ h9 => h9) rfl dX11_copy_170 ?_
                            refine lv_bipush (v := 60) hx hb dX11_copy_173 (by decide) ?_
                            refine lv_iload_n hx hb dX11_copy_175 rfl (lv_at hl 4 rfl) ?_
                            refine lv_imul hx hb dX11_copy_176 ?_
                            refine lv_topi (fun v83 ev83 => ?_)
                            try have tv83 : v83.toInt = 60 * b.toInt := by rw [ev83]; exact (i_mul (x := (60 : Int32)) (y := b) (by rw [k60]; omega) (by rw [k60]; omega)).trans (by rw [k60])
                            refine lv_iload hx hb dX11_copy_177 (lv_at hl 5 rfl) ?_
                            refine lv_iadd hx hb dX11_copy_179 ?_
                            refine lv_topi (fun v84 ev84 => ?_)
                            try have tv84 : v84.toInt = v83.toInt + j.toInt := by rw [ev84]; exact (i_add (x := v83) (y := j) (by omega) (by omega))
                            refine lv_iload hx hb dX11_copy_180 (lv_at hl 0 rfl) ?_
                            refine lv_iadd hx hb dX11_copy_182 ?_
                            refine lv_topi (fun v85 ev85 => ?_)
                            try have tv85 : v85.toInt = v84.toInt + v82.toInt := by rw [ev85]; exact (i_add (x := v84) (y := v82) (by omega) (by omega))
                            refine lv_aload_n hx hb dX11_copy_183 rfl (lv_at hl 1 rfl) ?_
                            refine va_get (D := D) (ci := 11) (v := .ref (md 5)) (C := RX11) (T := TX11) (N := 64) hx hb hts inX11_copy_X11 hown hK hP 0 rfl rfl 5 (by decide) (hts (Cond.fieldLink RX11 20 "PortRoomsModel" "item" "[I") (wm_t (wm_l (wm_i 5 rfl)))) (fun _ h9 => h9) rfl dX11_copy_184 ?_
                            refine lv_bipush (v := 60) hx hb dX11_copy_187 (by decide) ?_
                            refine lv_iload_n hx hb dX11_copy_189 rfl (lv_at hl 2 rfl) ?_
                            refine lv_imul hx hb dX11_copy_190 ?_
                            refine lv_topi (fun v86 ev86 => ?_)
                            try have tv86 : v86.toInt = 60 * a.toInt := by rw [ev86]; exact (i_mul (x := (60 : Int32)) (y := a) (by rw [k60]; omega) (by rw [k60]; omega)).trans (by rw [k60])
                            refine lv_iload_n hx hb dX11_copy_191 rfl (lv_at hl 3 rfl) ?_
                            refine lv_iadd hx hb dX11_copy_192 ?_
                            refine lv_topi (fun v87 ev87 => ?_)
                            try have tv87 : v87.toInt = v86.toInt + i.toInt := by rw [ev87]; exact (i_add (x := v86) (y := i) (by omega) (by omega))
                            refine lv_iload hx hb dX11_copy_193 (lv_at hl 0 rfl) ?_
                            refine lv_iadd hx hb dX11_copy_195 ?_
                            refine lv_topi (fun v88 ev88 => ?_)
                            try have tv88 : v88.toInt = v87.toInt + v82.toInt := by rw [ev88]; exact (i_add (x := v87) (y := v82) (by omega) (by omega))
                            refine va_iald hx hb hK hP 3 0 rfl rfl (i_in (by omega) (by omega)) dX11_copy_196 ?_
                            refine lv_topi (fun v89 ev89 => ?_)
                            have tlv89 : v89.toInt = (mitq v88.toNatClampNeg).toInt := by rw [ev89]
                            refine va_iast hx hb hK hP hD hS 3 0 rfl rfl (i_in (by omega) (by omega)) dX11_copy_197 (fun H locs => ?_)
                            clear hP hD hS
                            intro hP hD hS
                            replace hP : va_P D vwCl [(moC md sd (0) (0) hn cn pn mq gn mln mnn ln mlt msz mcu mtk mfr mti mfa mfb an un lc td mtn), (aI cI (md 3) 8 ml), (aI cI (md 4) 8 mm), (aI cI (md 5) 480 (upd mitq v85.toNatClampNeg v89))] H := hP
                            replace hD : va_D A [(moC md sd (0) (0) hn cn pn mq gn mln mnn ln mlt msz mcu mtk mfr mti mfa mfb an un lc td mtn), (aI cI (md 3) 8 ml), (aI cI (md 4) 8 mm), (aI cI (md 5) 480 (upd mitq v85.toNatClampNeg v89))] := hD
                            obtain ⟨v90, ev90⟩ : ∃ y : Int32, y = q143_7 + 1 := ⟨_, rfl⟩
                            try have tv90 : v90.toInt = q143_7.toInt + 1 := by rw [ev90]; exact (i_add (x := q143_7) (y := (1 : Int32)) (by rw [k1]; omega) (by rw [k1]; omega)).trans (by rw [k1])
                            refine lv_iinc (v := v90) (lv' := [(7, .int v90), (8, .int v82), (0, .ref (md 64)), (1, .int a), (2, .int i), (3, .int b), (4, .int j), (5, .int n), (6, .int 0)]) hx hb dX11_copy_198 hl (k := 8) rfl (by rw [ev90]; rfl) (by decide) rfl (fun ls hl => ?_)
                            refine lv_goto (tgt := 143) hx hb dX11_copy_201 (by decide) ?_
                            have cla := i_cl (x := a) (by omega)
                            have cli := i_cl (x := i) (by omega)
                            have clb := i_cl (x := b) (by omega)
                            have clj := i_cl (x := j) (by omega)
                            have clv85 := i_cl (x := v85) (by omega)
                            have clv88 := i_cl (x := v88) (by omega)
                            exact ih75 (v90, upd mitq v85.toNatClampNeg v89) ls H locs ⟨(by omega), (by omega), (by rw [ev89]; exact cpyd_dn g74 (by omega) (by omega) (by omega) (by omega) (by omega)), lv_sub hl [2, 3, 4, 5, 6, 7, 8, 0] rfl, hP.sub [0, 1, 2, 3] rfl, hD.sub [0, 1, 2, 3] (by decide +kernel) rfl, hS⟩ (by show n.toInt - v90.toInt < _; omega)
                      · skip
                        have f91 := i_nlt c70
                        refine lv_iconst (v := 1) hx hb dX11_copy_133 (by decide) ?_
                        refine lv_goto (tgt := 138) hx hb dX11_copy_134 (by decide) ?_
                        refine lv_istore (lv' := [(6, .int 1), (0, .ref (md 64)), (1, .int a), (2, .int i), (3, .int b), (4, .int j), (5, .int n)]) hx hb dX11_copy_138 hl (by decide) rfl (fun ls hl => ?_)
                        refine lv_iconst (v := 0) hx hb dX11_copy_140 (by decide) ?_
                        refine lv_istore (lv' := [(7, .int 0), (6, .int 1), (0, .ref (md 64)), (1, .int a), (2, .int i), (3, .int b), (4, .int j), (5, .int n)]) hx hb dX11_copy_141 hl (by decide) rfl (fun ls hl => ?_)
                        refine st_loop 143 (fun _ => []) (fun (z : Int32 × (Nat → Int32)) (ls : Array Slot) (H : Heap) (locs : List Loc) => match z with | (q143_7, mitq) => (0 ≤ q143_7.toInt) ∧ (q143_7.toInt ≤ n.toInt) ∧ (mitq = cpyd mi (60 * a.toNatClampNeg + i.toNatClampNeg) (60 * b.toNatClampNeg + j.toNatClampNeg) (60 * b.toInt + j.toInt) (60 * b.toInt + j.toInt + q143_7.toInt)) ∧ lv_has ls 9 [(0, .ref (md 64)), (1, .int a), (2, .int i), (3, .int b), (4, .int j), (5, .int n), (6, .int 1), (7, .int q143_7)] ∧ va_P D vwCl [(moC md sd (0) (0) hn cn pn mq gn mln mnn ln mlt msz mcu mtk mfr mti mfa mfb an un lc td mtn), (aI cI (md 3) 8 ml), (aI cI (md 4) 8 mm), (aI cI (md 5) 480 mitq)] H ∧ va_D A [(moC md sd (0) (0) hn cn pn mq gn mln mnn ln mlt msz mcu mtk mfr mti mfa mfb an un lc td mtn), (aI cI (md 3) 8 ml), (aI cI (md 4) 8 mm), (aI cI (md 5) 480 mitq)] ∧ va_S A s.heap H locs) (fun (z : Int32 × (Nat → Int32)) => match z with | (q143_7, mitq) => n.toInt - q143_7.toInt) ?_ ?_ ((0 : Int32), mi) ⟨(by omega), (by omega), (by exact cpyd_0 (by omega)), lv_sub hl [2, 3, 4, 5, 6, 7, 1, 0] rfl, hP, hD, hS⟩
                        · rintro ⟨q143_7, mitq⟩ ls H locs ⟨g92, g93, g94, hl, hP, hD, hS⟩
                          show (0 : Int) ≤ n.toInt - q143_7.toInt
                          omega
                        · rintro n97 ih95 ⟨q143_7, mitq⟩ ls H locs ⟨g92, g93, g94, hl, hP, hD, hS⟩ hm96
                          have hm96 : n.toInt - q143_7.toInt < (n97 : Int) + 1 := hm96
                          replace hl : lv_has ls 9 [(0, .ref (md 64)), (1, .int a), (2, .int i), (3, .int b), (4, .int j), (5, .int n), (6, .int 1), (7, .int q143_7)] := hl
                          replace hP : va_P D vwCl [(moC md sd (0) (0) hn cn pn mq gn mln mnn ln mlt msz mcu mtk mfr mti mfa mfb an un lc td mtn), (aI cI (md 3) 8 ml), (aI cI (md 4) 8 mm), (aI cI (md 5) 480 mitq)] H := hP
                          replace hD : va_D A [(moC md sd (0) (0) hn cn pn mq gn mln mnn ln mlt msz mcu mtk mfr mti mfa mfb an un lc td mtn), (aI cI (md 3) 8 ml), (aI cI (md 4) 8 mm), (aI cI (md 5) 480 mitq)] := hD
                          show W _ _ _ _ _ _ _ _ _ _ _ _ _ _ _ (F0 m 143 ls [])
                          refine lv_iload hx hb dX11_copy_143 (lv_at hl 7 rfl) ?_
                          refine lv_iload hx hb dX11_copy_145 (lv_at hl 5 rfl) ?_
                          refine lv_icmp_ge (tgt := 204) hx hb dX11_copy_147 (by decide) (fun c98 => ?_) (fun c98 => ?_)
                          · skip
                            have f99 := i_le c98
                            refine lv_iload hx hb dX11_copy_204 (lv_at hl 5 rfl) ?_
                            have en9 : q143_7.toInt = n.toInt := by omega
                            have h99 : ps_copy mst ml mm mi a i b j n n 0 mitq := by unfold ps_copy; rw [if_pos (by omega), if_neg (by omega), if_neg (by omega), if_pos (by omega)]; exact ⟨rfl, rfl, g94.trans (by congr 1 <;> omega)⟩
                            have hP9 := hP
                            have hD9 := hD
                            exact W.iret (v := n) hx hb hr (fun t ht hW => ⟨⟨n, (0, mitq), rfl, h99, by rw [ht]; exact hP9, va_K.moved hW.alike hK, hD9⟩, hS.F ht⟩) hS.2.2 dX11_copy_206
                          · skip
                            have f100 := i_nle c98
                            refine lv_iload hx hb dX11_copy_150 (lv_at hl 6 rfl) ?_
                            refine lv_if_eq (tgt := 160) hx hb dX11_copy_152 (by decide) (fun c => absurd c (by decide)) (fun _ => ?_)
                            refine lv_iload hx hb dX11_copy_155 (lv_at hl 7 rfl) ?_
                            refine lv_goto (tgt := 167) hx hb dX11_copy_157 (by decide) ?_
                            refine lv_istore (lv' := [(8, .int q143_7), (0, .ref (md 64)), (1, .int a), (2, .int i), (3, .int b), (4, .int j), (5, .int n), (6, .int 1), (7, .int q143_7)]) hx hb dX11_copy_167 hl (by decide) rfl (fun ls hl => ?_)
                            refine lv_aload_n hx hb dX11_copy_169 rfl (lv_at hl 1 rfl) ?_
                            refine va_get (D := D) (ci := 11) (v := .ref (md 5)) (C := RX11) (T := TX11) (N := 64) hx hb hts inX11_copy_X11 hown hK hP 0 rfl rfl 5 (by decide) (hts (Cond.fieldLink RX11 20 "PortRoomsModel" "item" "[I") (wm_t (wm_l (wm_i 5 rfl)))) (fun _ h9 => h9) rfl dX11_copy_170 ?_
                            refine lv_bipush (v := 60) hx hb dX11_copy_173 (by decide) ?_
                            refine lv_iload_n hx hb dX11_copy_175 rfl (lv_at hl 4 rfl) ?_
                            refine lv_imul hx hb dX11_copy_176 ?_
                            refine lv_topi (fun v101 ev101 => ?_)
                            try have tv101 : v101.toInt = 60 * b.toInt := by rw [ev101]; exact (i_mul (x := (60 : Int32)) (y := b) (by rw [k60]; omega) (by rw [k60]; omega)).trans (by rw [k60])
                            refine lv_iload hx hb dX11_copy_177 (lv_at hl 5 rfl) ?_
                            refine lv_iadd hx hb dX11_copy_179 ?_
                            refine lv_topi (fun v102 ev102 => ?_)
                            try have tv102 : v102.toInt = v101.toInt + j.toInt := by rw [ev102]; exact (i_add (x := v101) (y := j) (by omega) (by omega))
                            refine lv_iload hx hb dX11_copy_180 (lv_at hl 0 rfl) ?_
                            refine lv_iadd hx hb dX11_copy_182 ?_
                            refine lv_topi (fun v103 ev103 => ?_)
                            try have tv103 : v103.toInt = v102.toInt + q143_7.toInt := by rw [ev103]; exact (i_add (x := v102) (y := q143_7) (by omega) (by omega))
                            refine lv_aload_n hx hb dX11_copy_183 rfl (lv_at hl 1 rfl) ?_
                            refine va_get (D := D) (ci := 11) (v := .ref (md 5)) (C := RX11) (T := TX11) (N := 64) hx hb hts inX11_copy_X11 hown hK hP 0 rfl rfl 5 (by decide) (hts (Cond.fieldLink RX11 20 "PortRoomsModel" "item" "[I") (wm_t (wm_l (wm_i 5 rfl)))) (fun _ h9 => h9) rfl dX11_copy_184 ?_
                            refine lv_bipush (v := 60) hx hb dX11_copy_187 (by decide) ?_
                            refine lv_iload_n hx hb dX11_copy_189 rfl (lv_at hl 2 rfl) ?_
                            refine lv_imul hx hb dX11_copy_190 ?_
                            refine lv_topi (fun v104 ev104 => ?_)
                            try have tv104 : v104.toInt = 60 * a.toInt := by rw [ev104]; exact (i_mul (x := (60 : Int32)) (y := a) (by rw [k60]; omega) (by rw [k60]; omega)).trans (by rw [k60])
                            refine lv_iload_n hx hb dX11_copy_191 rfl (lv_at hl 3 rfl) ?_
                            refine lv_iadd hx hb dX11_copy_192 ?_
                            refine lv_topi (fun v105 ev105 => ?_)
                            try have tv105 : v105.toInt = v104.toInt + i.toInt := by rw [ev105]; exact (i_add (x := v104) (y := i) (by omega) (by omega))
                            refine lv_iload hx hb dX11_copy_193 (lv_at hl 0 rfl) ?_
                            refine lv_iadd hx hb dX11_copy_195 ?_
                            refine lv_topi (fun v106 ev106 => ?_)
                            try have tv106 : v106.toInt = v105.toInt + q143_7.toInt := by rw [ev106]; exact (i_add (x := v105) (y := q143_7) (by omega) (by omega))
                            refine va_iald hx hb hK hP 3 0 rfl rfl (i_in (by omega) (by omega)) dX11_copy_196 ?_
                            refine lv_topi (fun v107 ev107 => ?_)
                            have tlv107 : v107.toInt = (mitq v106.toNatClampNeg).toInt := by rw [ev107]
                            refine va_iast hx hb hK hP hD hS 3 0 rfl rfl (i_in (by omega) (by omega)) dX11_copy_197 (fun H locs => ?_)
                            clear hP hD hS
                            intro hP hD hS
                            replace hP : va_P D vwCl [(moC md sd (0) (0) hn cn pn mq gn mln mnn ln mlt msz mcu mtk mfr mti mfa mfb an un lc td mtn), (aI cI (md 3) 8 ml), (aI cI (md 4) 8 mm), (aI cI (md 5) 480 (upd mitq v103.toNatClampNeg v107))] H := hP
                            replace hD : va_D A [(moC md sd (0) (0) hn cn pn mq gn mln mnn ln mlt msz mcu mtk mfr mti mfa mfb an un lc td mtn), (aI cI (md 3) 8 ml), (aI cI (md 4) 8 mm), (aI cI (md 5) 480 (upd mitq v103.toNatClampNeg v107))] := hD
                            obtain ⟨v108, ev108⟩ : ∃ y : Int32, y = q143_7 + 1 := ⟨_, rfl⟩
                            try have tv108 : v108.toInt = q143_7.toInt + 1 := by rw [ev108]; exact (i_add (x := q143_7) (y := (1 : Int32)) (by rw [k1]; omega) (by rw [k1]; omega)).trans (by rw [k1])
                            refine lv_iinc (v := v108) (lv' := [(7, .int v108), (8, .int q143_7), (0, .ref (md 64)), (1, .int a), (2, .int i), (3, .int b), (4, .int j), (5, .int n), (6, .int 1)]) hx hb dX11_copy_198 hl (k := 8) rfl (by rw [ev108]; rfl) (by decide) rfl (fun ls hl => ?_)
                            refine lv_goto (tgt := 143) hx hb dX11_copy_201 (by decide) ?_
                            have cla := i_cl (x := a) (by omega)
                            have cli := i_cl (x := i) (by omega)
                            have clb := i_cl (x := b) (by omega)
                            have clj := i_cl (x := j) (by omega)
                            have clv103 := i_cl (x := v103) (by omega)
                            have clv106 := i_cl (x := v106) (by omega)
                            exact ih95 (v108, upd mitq v103.toNatClampNeg v107) ls H locs ⟨(by omega), (by omega), (by rw [ev107]; exact cpyd_up g94 (by omega) (by omega) (by omega) (by omega) (by omega)), lv_sub hl [2, 3, 4, 5, 6, 7, 8, 0] rfl, hP.sub [0, 1, 2, 3] rfl, hD.sub [0, 1, 2, 3] (by decide +kernel) rfl, hS⟩ (by show n.toInt - v108.toInt < _; omega)
                    · skip
                      have f109 := lc_leN ev67 c68
                      refine lv_aload_n hx hb dX11_copy_121 rfl (lv_at hl 0 rfl) ?_
                      refine lv_iconst (v := 2) hx hb dX11_copy_122 (by decide) ?_
                      refine st_i (wr := [(aI cI (md 3) 8 ml), (aI cI (md 4) 8 mm), (aI cI (md 5) 480 mi)]) (va_runV (C := RX11) (As := [.int 2]) (rest := []) ⟨hx, hb, hml, hown, hts⟩ (ct_X11_found l D cI cY cJ cQ _ md sd 0 0 hn cn pn mq gn mln mnn ln mlt msz mcu mtk mfr mti mfa mfb an un lc td mtn (2 : Int32)) (cwV 1 hts gX11_copy_X11_found rfl rfl rfl ⟨rfl, cdX11_found⟩ ⟨Nat.le_of_ble_eq_true rfl, Nat.le_of_ble_eq_true rfl⟩) (cPreV (hP.sub [0] rfl) hK (hD.sub [0] (by decide +kernel) rfl) hN (ci := 11) (q0 := 0) rfl rfl) rfl rfl hl.1 rfl (lv_room (Nat.le_of_ble_eq_true rfl)) dX11_copy_123 ⟨Nat.le_of_ble_eq_true rfl, Nat.le_of_ble_eq_true rfl⟩) hP hD hS hA [0] [1, 2, 3] rfl rfl (by decide +kernel) (by decide +kernel) (fun r112 u110 H locs hw111 => ?_)
                      clear hP hD hS
                      intro hP hD hS
                      replace hw111 : r112 = (-1000010) - (2 : Int32) := hw111
                      replace hP : va_P D vwCl [(aI cI (md 3) 8 ml), (aI cI (md 4) 8 mm), (aI cI (md 5) 480 mi), (moC md sd (0) (2 : Int32) hn cn pn mq gn mln mnn ln mlt msz mcu mtk mfr mti mfa mfb an un lc td mtn)] H := hP
                      replace hD : va_D A [(aI cI (md 3) 8 ml), (aI cI (md 4) 8 mm), (aI cI (md 5) 480 mi), (moC md sd (0) (2 : Int32) hn cn pn mq gn mln mnn ln mlt msz mcu mtk mfr mti mfa mfb an un lc td mtn)] := hD
                      subst hw111
                      have hP9 := hP.sub (ws' := [(moC md sd (0) (2 : Int32) hn cn pn mq gn mln mnn ln mlt msz mcu mtk mfr mti mfa mfb an un lc td mtn), (aI cI (md 3) 8 ml), (aI cI (md 4) 8 mm), (aI cI (md 5) 480 mi)]) [3, 0, 1, 2] rfl
                      have hD9 := hD.sub (ws' := [(moC md sd (0) (2 : Int32) hn cn pn mq gn mln mnn ln mlt msz mcu mtk mfr mti mfa mfb an un lc td mtn), (aI cI (md 3) 8 ml), (aI cI (md 4) 8 mm), (aI cI (md 5) 480 mi)]) [3, 0, 1, 2] (by decide +kernel) rfl
                      exact W.iret (v := (-1000010) - (2 : Int32)) hx hb hr (fun t ht hW => ⟨⟨(-1000010) - (2 : Int32), ((2 : Int32), mi), rfl, (by unfold ps_copy; (repeat' split) <;> first | (exfalso; omega) | exact ⟨rfl, rfl, rfl⟩), by rw [ht]; exact hP9, va_K.moved hW.alike hK, hD9⟩, hS.F ht⟩) hS.2.2 dX11_copy_126
          · skip
            have f113 := i_ne c24
            refine lv_aload_n hx hb dX11_copy_66 rfl (lv_at hl 0 rfl) ?_
            refine lv_iconst (v := 5) hx hb dX11_copy_67 (by decide) ?_
            refine st_i (wr := [(aI cI (md 3) 8 ml), (aI cI (md 4) 8 mm), (aI cI (md 5) 480 mi)]) (va_runV (C := RX11) (As := [.int 5]) (rest := []) ⟨hx, hb, hml, hown, hts⟩ (ct_X11_found l D cI cY cJ cQ _ md sd 0 0 hn cn pn mq gn mln mnn ln mlt msz mcu mtk mfr mti mfa mfb an un lc td mtn (5 : Int32)) (cwV 1 hts gX11_copy_X11_found rfl rfl rfl ⟨rfl, cdX11_found⟩ ⟨Nat.le_of_ble_eq_true rfl, Nat.le_of_ble_eq_true rfl⟩) (cPreV (hP.sub [0] rfl) hK (hD.sub [0] (by decide +kernel) rfl) hN (ci := 11) (q0 := 0) rfl rfl) rfl rfl hl.1 rfl (lv_room (Nat.le_of_ble_eq_true rfl)) dX11_copy_68 ⟨Nat.le_of_ble_eq_true rfl, Nat.le_of_ble_eq_true rfl⟩) hP hD hS hA [0] [1, 2, 3] rfl rfl (by decide +kernel) (by decide +kernel) (fun r116 u114 H locs hw115 => ?_)
            clear hP hD hS
            intro hP hD hS
            replace hw115 : r116 = (-1000010) - (5 : Int32) := hw115
            replace hP : va_P D vwCl [(aI cI (md 3) 8 ml), (aI cI (md 4) 8 mm), (aI cI (md 5) 480 mi), (moC md sd (0) (5 : Int32) hn cn pn mq gn mln mnn ln mlt msz mcu mtk mfr mti mfa mfb an un lc td mtn)] H := hP
            replace hD : va_D A [(aI cI (md 3) 8 ml), (aI cI (md 4) 8 mm), (aI cI (md 5) 480 mi), (moC md sd (0) (5 : Int32) hn cn pn mq gn mln mnn ln mlt msz mcu mtk mfr mti mfa mfb an un lc td mtn)] := hD
            subst hw115
            have hP9 := hP.sub (ws' := [(moC md sd (0) (5 : Int32) hn cn pn mq gn mln mnn ln mlt msz mcu mtk mfr mti mfa mfb an un lc td mtn), (aI cI (md 3) 8 ml), (aI cI (md 4) 8 mm), (aI cI (md 5) 480 mi)]) [3, 0, 1, 2] rfl
            have hD9 := hD.sub (ws' := [(moC md sd (0) (5 : Int32) hn cn pn mq gn mln mnn ln mlt msz mcu mtk mfr mti mfa mfb an un lc td mtn), (aI cI (md 3) 8 ml), (aI cI (md 4) 8 mm), (aI cI (md 5) 480 mi)]) [3, 0, 1, 2] (by decide +kernel) rfl
            exact W.iret (v := (-1000010) - (5 : Int32)) hx hb hr (fun t ht hW => ⟨⟨(-1000010) - (5 : Int32), ((5 : Int32), mi), rfl, (by unfold ps_copy; (repeat' split) <;> first | (exfalso; omega) | exact ⟨rfl, rfl, rfl⟩), by rw [ht]; exact hP9, va_K.moved hW.alike hK, hD9⟩, hS.F ht⟩) hS.2.2 dX11_copy_71
        · skip
          have f117 := i_nle c20
          refine lv_aload_n hx hb dX11_copy_45 rfl (lv_at hl 0 rfl) ?_
          refine lv_iconst (v := 1) hx hb dX11_copy_46 (by decide) ?_
          refine st_i (wr := [(aI cI (md 3) 8 ml), (aI cI (md 4) 8 mm), (aI cI (md 5) 480 mi)]) (va_runV (C := RX11) (As := [.int 1]) (rest := []) ⟨hx, hb, hml, hown, hts⟩ (ct_X11_found l D cI cY cJ cQ _ md sd 0 0 hn cn pn mq gn mln mnn ln mlt msz mcu mtk mfr mti mfa mfb an un lc td mtn (1 : Int32)) (cwV 1 hts gX11_copy_X11_found rfl rfl rfl ⟨rfl, cdX11_found⟩ ⟨Nat.le_of_ble_eq_true rfl, Nat.le_of_ble_eq_true rfl⟩) (cPreV (hP.sub [0] rfl) hK (hD.sub [0] (by decide +kernel) rfl) hN (ci := 11) (q0 := 0) rfl rfl) rfl rfl hl.1 rfl (lv_room (Nat.le_of_ble_eq_true rfl)) dX11_copy_47 ⟨Nat.le_of_ble_eq_true rfl, Nat.le_of_ble_eq_true rfl⟩) hP hD hS hA [0] [1, 2, 3] rfl rfl (by decide +kernel) (by decide +kernel) (fun r120 u118 H locs hw119 => ?_)
          clear hP hD hS
          intro hP hD hS
          replace hw119 : r120 = (-1000010) - (1 : Int32) := hw119
          replace hP : va_P D vwCl [(aI cI (md 3) 8 ml), (aI cI (md 4) 8 mm), (aI cI (md 5) 480 mi), (moC md sd (0) (1 : Int32) hn cn pn mq gn mln mnn ln mlt msz mcu mtk mfr mti mfa mfb an un lc td mtn)] H := hP
          replace hD : va_D A [(aI cI (md 3) 8 ml), (aI cI (md 4) 8 mm), (aI cI (md 5) 480 mi), (moC md sd (0) (1 : Int32) hn cn pn mq gn mln mnn ln mlt msz mcu mtk mfr mti mfa mfb an un lc td mtn)] := hD
          subst hw119
          have hP9 := hP.sub (ws' := [(moC md sd (0) (1 : Int32) hn cn pn mq gn mln mnn ln mlt msz mcu mtk mfr mti mfa mfb an un lc td mtn), (aI cI (md 3) 8 ml), (aI cI (md 4) 8 mm), (aI cI (md 5) 480 mi)]) [3, 0, 1, 2] rfl
          have hD9 := hD.sub (ws' := [(moC md sd (0) (1 : Int32) hn cn pn mq gn mln mnn ln mlt msz mcu mtk mfr mti mfa mfb an un lc td mtn), (aI cI (md 3) 8 ml), (aI cI (md 4) 8 mm), (aI cI (md 5) 480 mi)]) [3, 0, 1, 2] (by decide +kernel) rfl
          exact W.iret (v := (-1000010) - (1 : Int32)) hx hb hr (fun t ht hW => ⟨⟨(-1000010) - (1 : Int32), ((1 : Int32), mi), rfl, (by unfold ps_copy; (repeat' split) <;> first | (exfalso; omega) | exact ⟨rfl, rfl, rfl⟩), by rw [ht]; exact hP9, va_K.moved hW.alike hK, hD9⟩, hS.F ht⟩) hS.2.2 dX11_copy_50
    · skip
      have f121 := bo_f hw8 c10
      refine lv_ldc hx hb hown (hts (Cond.constant RX11 157 (-1000001)) (wm_t (wm_l (wm_i 1 rfl)))) dX11_copy_19 ?_
      have hP9 := hP
      have hD9 := hD
      exact W.iret (v := (-1000001)) hx hb hr (fun t ht hW => ⟨⟨(-1000001), (mst, mi), rfl, (by unfold ps_copy; (repeat' split) <;> first | (exfalso; omega) | exact ⟨rfl, rfl, rfl⟩), by rw [ht]; exact hP9, va_K.moved hW.alike hK, hD9⟩, hS.F ht⟩) hS.2.2 dX11_copy_21

set_option maxHeartbeats 4000000 in
set_option maxRecDepth 100000 in
theorem ct_X11_drop (l : Launch) (D : va_G) (cI cY cJ cQ : ClassId) (sz : Nat) (md : Nat → Nat) (sd : Int32) (mth mst hn cn pn mq gn mln mnn ln mlt msz mcu mtk mfr mti mfa mfb an un lc td mtn : Int32) (ml mm : Nat → Int32) (a : Int32)   : Met l yX11_drop wsX11_drop ({ frames := 2, cells := 0, slots := 0, locals := 45 }) (cPre D (ty4 cI cY cJ cQ) [(moC md sd mth mst hn cn pn mq gn mln mnn ln mlt msz mcu mtk mfr mti mfa mfb an un lc td mtn), (aI cI (md 3) 8 ml), (aI cI (md 4) 8 mm)] sz [.ref (md 64), .int a]) (va_Qi (fun (r : Int32) (u : Int32 × (Nat → Int32)) => ps_drop mst ml mm a r u.1 u.2) (cB D (ty4 cI cY cJ cQ) (fun (u : Int32 × (Nat → Int32)) => [(moC md sd 0 u.1 hn cn pn mq gn mln mnn ln mlt msz mcu mtk mfr mti mfa mfb an un lc td mtn), (aI cI (md 3) 8 u.2), (aI cI (md 4) 8 mm)]) (va_A [(moC md sd mth mst hn cn pn mq gn mln mnn ln mlt msz mcu mtk mfr mti mfa mfb an un lc td mtn), (aI cI (md 3) 8 ml), (aI cI (md 4) 8 mm)] sz)) (va_A [(moC md sd mth mst hn cn pn mq gn mln mnn ln mlt msz mcu mtk mfr mti mfa mfb an un lc td mtn), (aI cI (md 3) 8 ml), (aI cI (md 4) 8 mm)] sz)) 0 0 (va_A [(moC md sd mth mst hn cn pn mq gn mln mnn ln mlt msz mcu mtk mfr mti mfa mfb an un lc td mtn), (aI cI (md 3) 8 ml), (aI cI (md 4) 8 mm)] sz) := by
  refine Met.ofW (cc := cX11_drop) (maxL := 2) (ret := (some .int)) (by decide) rfl ?_
  intro p e s m args below meth c s₁ B hml hv
  obtain ⟨rfl, hsz, hP, hK, hD0, hN⟩ := hv
  have hx := B.exec
  have hb := B.bytes
  have hr := B.returns
  have hts := atoms_spec (ws := wsX11_drop) B.pre
  have hown : s.vm.findClass RX11 = some m.cls := findClass_of_methodNamed B.named
  have hlocks := B.notSynchronized
  subst hsz
  have hD := hD0.self (sz := s.heap.size)
  generalize hAe : va_A [(moC md sd mth mst hn cn pn mq gn mln mnn ln mlt msz mcu mtk mfr mti mfa mfb an un lc td mtn), (aI cI (md 3) 8 ml), (aI cI (md 4) 8 mm)] s.heap.size = A at hD ⊢
  have hA : ∀ q : Nat, s.heap.size ≤ q → A q := fun q h => by rw [← hAe]; exact Or.inr h
  have hS : va_S A s.heap s.heap [] := va_S.rf
  have hP : va_P D vwCl [(moC md sd mth mst hn cn pn mq gn mln mnn ln mlt msz mcu mtk mfr mti mfa mfb an un lc td mtn), (aI cI (md 3) 8 ml), (aI cI (md 4) 8 mm)] s.heap := hP
  have hl := lv_entry ([.ref (md 64), .int a]) (n := 2) (Nat.le_of_ble_eq_true rfl)
  rw [lg_entry_eq]
  generalize (lg_sl ([.ref (md 64), .int a]) ++ List.replicate (2 - (lg_sl ([.ref (md 64), .int a])).length) Slot.unset).toArray = ls at hl ⊢
  have hl : lv_has ls 2 [(0, .ref (md 64)), (1, .int a)] := hl
  have k0 : (0 : Int32).toInt = 0 := by decide
  have k1 : (1 : Int32).toInt = 1 := by decide
  refine lv_aload_n hx hb dX11_drop_0 rfl (lv_at hl 0 rfl) ?_
  refine lv_iconst (v := 0) hx hb dX11_drop_1 (by decide) ?_
  refine va_put (D := D) (ci := 11) (v := .int 0) (ty := .int) (C := RX11) (T := TX11) (N := 64) hx hb hts inX11_drop_X11 tyX11 tyX11_ok nmX11 hown hK hP hD hS 0 rfl rfl 0 (by decide) (hts (Cond.fieldLink RX11 1 "PortRoomsModel" "thrown" "I") (wm_t (wm_l (wm_i 0 rfl)))) (fun _ h9 => h9) rfl (tyX11_ok 0 (by decide)) rfl rfl (Nat.le_of_ble_eq_true rfl) dX11_drop_2 (fun H locs => ?_)
  clear hP hD hS
  intro hP hD hS
  replace hP : va_P D vwCl [(moC md sd (0) mst hn cn pn mq gn mln mnn ln mlt msz mcu mtk mfr mti mfa mfb an un lc td mtn), (aI cI (md 3) 8 ml), (aI cI (md 4) 8 mm)] H := hP
  replace hD : va_D A [(moC md sd (0) mst hn cn pn mq gn mln mnn ln mlt msz mcu mtk mfr mti mfa mfb an un lc td mtn), (aI cI (md 3) 8 ml), (aI cI (md 4) 8 mm)] := hD
  refine lv_iload_n hx hb dX11_drop_5 rfl (lv_at hl 1 rfl) ?_
  refine st_i1 (va_runS (As := [.int a]) (rest := []) ⟨hx, hb, hml, hown, hts⟩ (ct_X11_isSheet l D cI cY cJ cQ _ a) (va_cwS 1 hts gX11_drop_X11_isSheet rfl rfl rfl cdX11_isSheet ⟨Nat.le_of_ble_eq_true rfl, Nat.le_of_ble_eq_true rfl⟩) (cPreS (hP.sub [] rfl) hK (hD.sub [] (by decide +kernel) rfl) hN) rfl rfl hl.1 rfl (lv_room (Nat.le_of_ble_eq_true rfl)) dX11_drop_6 ⟨Nat.le_of_ble_eq_true rfl, Nat.le_of_ble_eq_true rfl⟩) hP hD hS hA [] rfl (fun _ => rfl) (fun r3 u1 H locs hw2 => ?_)
  clear hP hS
  intro hP hS
  replace hw2 : r3 = if 0 ≤ a.toInt ∧ a.toInt ≤ 7 then 1 else 0 := hw2
  refine lv_if_ne (tgt := 15) hx hb dX11_drop_9 (by decide) (fun c4 => ?_) (fun c4 => ?_)
  · skip
    have f5 := bo_t hw2 c4
    refine lv_aload_n hx hb dX11_drop_15 rfl (lv_at hl 0 rfl) ?_
    refine lv_iconst (v := 0) hx hb dX11_drop_16 (by decide) ?_
    refine va_put (D := D) (ci := 11) (v := .int 0) (ty := .int) (C := RX11) (T := TX11) (N := 64) hx hb hts inX11_drop_X11 tyX11 tyX11_ok nmX11 hown hK hP hD hS 0 rfl rfl 2 (by decide) (hts (Cond.fieldLink RX11 141 "PortRoomsModel" "status" "I") (wm_t (wm_l (wm_i 2 rfl)))) (fun _ h9 => h9) rfl (tyX11_ok 2 (by decide)) rfl rfl (Nat.le_of_ble_eq_true rfl) dX11_drop_17 (fun H locs => ?_)
    clear hP hD hS
    intro hP hD hS
    replace hP : va_P D vwCl [(moC md sd (0) (0) hn cn pn mq gn mln mnn ln mlt msz mcu mtk mfr mti mfa mfb an un lc td mtn), (aI cI (md 3) 8 ml), (aI cI (md 4) 8 mm)] H := hP
    replace hD : va_D A [(moC md sd (0) (0) hn cn pn mq gn mln mnn ln mlt msz mcu mtk mfr mti mfa mfb an un lc td mtn), (aI cI (md 3) 8 ml), (aI cI (md 4) 8 mm)] := hD
    refine lv_aload_n hx hb dX11_drop_20 rfl (lv_at hl 0 rfl) ?_
    refine va_get (D := D) (ci := 11) (v := .ref (md 3)) (C := RX11) (T := TX11) (N := 64) hx hb hts inX11_drop_X11 hown hK hP 0 rfl rfl 3 (by decide) (hts (Cond.fieldLink RX11 13 "PortRoomsModel" "lane" "[I") (wm_t (wm_l (wm_i 3 rfl)))) (fun _ h9 => h9) rfl dX11_drop_21 ?_
    refine lv_iload_n hx hb dX11_drop_24 rfl (lv_at hl 1 rfl) ?_
    refine va_iald hx hb hK hP 1 0 rfl rfl (i_in (by omega) (by omega)) dX11_drop_25 ?_
    refine lv_topi (fun v6 ev6 => ?_)
    have tlv6 : v6.toInt = (ml a.toNatClampNeg).toInt := by rw [ev6]
    refine lv_if_ge (tgt := 35) hx hb dX11_drop_26 (by decide) (fun c7 => ?_) (fun c7 => ?_)
    · skip
      have f8 := i_le c7
      refine lv_aload_n hx hb dX11_drop_35 rfl (lv_at hl 0 rfl) ?_
      refine va_get (D := D) (ci := 11) (v := .ref (md 3)) (C := RX11) (T := TX11) (N := 64) hx hb hts inX11_drop_X11 hown hK hP 0 rfl rfl 3 (by decide) (hts (Cond.fieldLink RX11 13 "PortRoomsModel" "lane" "[I") (wm_t (wm_l (wm_i 3 rfl)))) (fun _ h9 => h9) rfl dX11_drop_36 ?_
      refine lv_iload_n hx hb dX11_drop_39 rfl (lv_at hl 1 rfl) ?_
      refine lv_iconst (v := (-1)) hx hb dX11_drop_40 (by decide) ?_
      refine va_iast hx hb hK hP hD hS 1 0 rfl rfl (i_in (by omega) (by omega)) dX11_drop_41 (fun H locs => ?_)
      clear hP hD hS
      intro hP hD hS
      replace hP : va_P D vwCl [(moC md sd (0) (0) hn cn pn mq gn mln mnn ln mlt msz mcu mtk mfr mti mfa mfb an un lc td mtn), (aI cI (md 3) 8 (upd ml a.toNatClampNeg (-1))), (aI cI (md 4) 8 mm)] H := hP
      replace hD : va_D A [(moC md sd (0) (0) hn cn pn mq gn mln mnn ln mlt msz mcu mtk mfr mti mfa mfb an un lc td mtn), (aI cI (md 3) 8 (upd ml a.toNatClampNeg (-1))), (aI cI (md 4) 8 mm)] := hD
      refine lv_aload_n hx hb dX11_drop_42 rfl (lv_at hl 0 rfl) ?_
      refine va_get (D := D) (ci := 11) (v := .ref (md 4)) (C := RX11) (T := TX11) (N := 64) hx hb hts inX11_drop_X11 hown hK hP 0 rfl rfl 4 (by decide) (hts (Cond.fieldLink RX11 17 "PortRoomsModel" "many" "[I") (wm_t (wm_l (wm_i 4 rfl)))) (fun _ h9 => h9) rfl dX11_drop_43 ?_
      refine lv_iload_n hx hb dX11_drop_46 rfl (lv_at hl 1 rfl) ?_
      refine va_iald hx hb hK hP 2 0 rfl rfl (i_in (by omega) (by omega)) dX11_drop_47 ?_
      refine lv_topi (fun v9 ev9 => ?_)
      have tlv9 : v9.toInt = (mm a.toNatClampNeg).toInt := by rw [ev9]
      have hP9 := hP
      have hD9 := hD
      exact W.iret (v := v9) hx hb hr (fun t ht hW => ⟨⟨v9, (0, upd ml a.toNatClampNeg (-1)), rfl, (by unfold ps_drop; (repeat' split) <;> first | exact ⟨rfl, rfl, rfl⟩ | exact ⟨ev9, rfl, rfl⟩ | (exfalso; omega)), by rw [ht]; exact hP9, va_K.moved hW.alike hK, hD9⟩, hS.F ht⟩) hS.2.2 dX11_drop_48
    · skip
      have f10 := i_nle c7
      refine lv_aload_n hx hb dX11_drop_29 rfl (lv_at hl 0 rfl) ?_
      refine lv_iconst (v := 1) hx hb dX11_drop_30 (by decide) ?_
      refine st_i (wr := [(aI cI (md 3) 8 ml), (aI cI (md 4) 8 mm)]) (va_runV (C := RX11) (As := [.int 1]) (rest := []) ⟨hx, hb, hml, hown, hts⟩ (ct_X11_found l D cI cY cJ cQ _ md sd 0 0 hn cn pn mq gn mln mnn ln mlt msz mcu mtk mfr mti mfa mfb an un lc td mtn (1 : Int32)) (cwV 1 hts gX11_drop_X11_found rfl rfl rfl ⟨rfl, cdX11_found⟩ ⟨Nat.le_of_ble_eq_true rfl, Nat.le_of_ble_eq_true rfl⟩) (cPreV (hP.sub [0] rfl) hK (hD.sub [0] (by decide +kernel) rfl) hN (ci := 11) (q0 := 0) rfl rfl) rfl rfl hl.1 rfl (lv_room (Nat.le_of_ble_eq_true rfl)) dX11_drop_31 ⟨Nat.le_of_ble_eq_true rfl, Nat.le_of_ble_eq_true rfl⟩) hP hD hS hA [0] [1, 2] rfl rfl (by decide +kernel) (by decide +kernel) (fun r13 u11 H locs hw12 => ?_)
      clear hP hD hS
      intro hP hD hS
      replace hw12 : r13 = (-1000010) - (1 : Int32) := hw12
      replace hP : va_P D vwCl [(aI cI (md 3) 8 ml), (aI cI (md 4) 8 mm), (moC md sd (0) (1 : Int32) hn cn pn mq gn mln mnn ln mlt msz mcu mtk mfr mti mfa mfb an un lc td mtn)] H := hP
      replace hD : va_D A [(aI cI (md 3) 8 ml), (aI cI (md 4) 8 mm), (moC md sd (0) (1 : Int32) hn cn pn mq gn mln mnn ln mlt msz mcu mtk mfr mti mfa mfb an un lc td mtn)] := hD
      subst hw12
      have hP9 := hP.sub (ws' := [(moC md sd (0) (1 : Int32) hn cn pn mq gn mln mnn ln mlt msz mcu mtk mfr mti mfa mfb an un lc td mtn), (aI cI (md 3) 8 ml), (aI cI (md 4) 8 mm)]) [2, 0, 1] rfl
      have hD9 := hD.sub (ws' := [(moC md sd (0) (1 : Int32) hn cn pn mq gn mln mnn ln mlt msz mcu mtk mfr mti mfa mfb an un lc td mtn), (aI cI (md 3) 8 ml), (aI cI (md 4) 8 mm)]) [2, 0, 1] (by decide +kernel) rfl
      exact W.iret (v := (-1000010) - (1 : Int32)) hx hb hr (fun t ht hW => ⟨⟨(-1000010) - (1 : Int32), ((1 : Int32), ml), rfl, (by unfold ps_drop; (repeat' split) <;> first | (exfalso; omega) | exact ⟨rfl, rfl, rfl⟩), by rw [ht]; exact hP9, va_K.moved hW.alike hK, hD9⟩, hS.F ht⟩) hS.2.2 dX11_drop_34
  · skip
    have f14 := bo_f hw2 c4
    refine lv_ldc hx hb hown (hts (Cond.constant RX11 157 (-1000001)) (wm_t (wm_l (wm_i 1 rfl)))) dX11_drop_12 ?_
    have hP9 := hP
    have hD9 := hD
    exact W.iret (v := (-1000001)) hx hb hr (fun t ht hW => ⟨⟨(-1000001), (mst, ml), rfl, (by unfold ps_drop; (repeat' split) <;> first | (exfalso; omega) | exact ⟨rfl, rfl, rfl⟩), by rw [ht]; exact hP9, va_K.moved hW.alike hK, hD9⟩, hS.F ht⟩) hS.2.2 dX11_drop_14

set_option maxHeartbeats 4000000 in
set_option maxRecDepth 100000 in
theorem ct_X11_holds (l : Launch) (D : va_G) (cI cY cJ cQ : ClassId) (sz : Nat) (md : Nat → Nat) (sd : Int32) (mth mst hn cn pn mq gn mln mnn ln mlt msz mcu mtk mfr mti mfa mfb an un lc td mtn : Int32) (ml mm mi ho hc hp hs : Nat → Int32) (a : Int32) (i : Int32) (n : Int32)  (h1 : okM mm) (h2 : 0 ≤ hn.toInt) (h3 : hn.toInt ≤ 40) (h4 : okH hn ho hc)  : Met l yX11_holds wsX11_holds ({ frames := 3, cells := 0, slots := 0, locals := 69 }) (cPre D (ty4 cI cY cJ cQ) [(moC md sd mth mst hn cn pn mq gn mln mnn ln mlt msz mcu mtk mfr mti mfa mfb an un lc td mtn), (aI cI (md 3) 8 ml), (aI cI (md 4) 8 mm), (aI cI (md 5) 480 mi), (aI cI (md 7) 40 ho), (aI cI (md 8) 40 hc), (aI cI (md 9) 40 hp), (aI cI (md 10) 40 hs)] sz [.ref (md 64), .int a, .int i, .int n]) (va_Qi (fun (r : Int32) (u : Int32 × Int32 × (Nat → Int32) × (Nat → Int32) × (Nat → Int32) × (Nat → Int32)) => (r, u) = sm_holds mst ml mm mi hn ho hc hp hs a i n ∧ 0 ≤ u.2.1.toInt ∧ u.2.1.toInt ≤ 40 ∧ okH u.2.1 u.2.2.1 u.2.2.2.1) (cB D (ty4 cI cY cJ cQ) (fun (u : Int32 × Int32 × (Nat → Int32) × (Nat → Int32) × (Nat → Int32) × (Nat → Int32)) => [(moC md sd 0 u.1 u.2.1 cn pn mq gn mln mnn ln mlt msz mcu mtk mfr mti mfa mfb an un lc td mtn), (aI cI (md 3) 8 ml), (aI cI (md 4) 8 mm), (aI cI (md 5) 480 mi), (aI cI (md 7) 40 u.2.2.1), (aI cI (md 8) 40 u.2.2.2.1), (aI cI (md 9) 40 u.2.2.2.2.1), (aI cI (md 10) 40 u.2.2.2.2.2)]) (va_A [(moC md sd mth mst hn cn pn mq gn mln mnn ln mlt msz mcu mtk mfr mti mfa mfb an un lc td mtn), (aI cI (md 3) 8 ml), (aI cI (md 4) 8 mm), (aI cI (md 5) 480 mi), (aI cI (md 7) 40 ho), (aI cI (md 8) 40 hc), (aI cI (md 9) 40 hp), (aI cI (md 10) 40 hs)] sz)) (va_A [(moC md sd mth mst hn cn pn mq gn mln mnn ln mlt msz mcu mtk mfr mti mfa mfb an un lc td mtn), (aI cI (md 3) 8 ml), (aI cI (md 4) 8 mm), (aI cI (md 5) 480 mi), (aI cI (md 7) 40 ho), (aI cI (md 8) 40 hc), (aI cI (md 9) 40 hp), (aI cI (md 10) 40 hs)] sz)) 0 0 (va_A [(moC md sd mth mst hn cn pn mq gn mln mnn ln mlt msz mcu mtk mfr mti mfa mfb an un lc td mtn), (aI cI (md 3) 8 ml), (aI cI (md 4) 8 mm), (aI cI (md 5) 480 mi), (aI cI (md 7) 40 ho), (aI cI (md 8) 40 hc), (aI cI (md 9) 40 hp), (aI cI (md 10) 40 hs)] sz) := by
  refine Met.ofW (cc := cX11_holds) (maxL := 7) (ret := (some .int)) (by decide) rfl ?_
  intro p e s m args below meth c s₁ B hml hv
  obtain ⟨rfl, hsz, hP, hK, hD0, hN⟩ := hv
  have hx := B.exec
  have hb := B.bytes
  have hr := B.returns
  have hts := atoms_spec (ws := wsX11_holds) B.pre
  have hown : s.vm.findClass RX11 = some m.cls := findClass_of_methodNamed B.named
  have hlocks := B.notSynchronized
  subst hsz
  have hD := hD0.self (sz := s.heap.size)
  generalize hAe : va_A [(moC md sd mth mst hn cn pn mq gn mln mnn ln mlt msz mcu mtk mfr mti mfa mfb an un lc td mtn), (aI cI (md 3) 8 ml), (aI cI (md 4) 8 mm), (aI cI (md 5) 480 mi), (aI cI (md 7) 40 ho), (aI cI (md 8) 40 hc), (aI cI (md 9) 40 hp), (aI cI (md 10) 40 hs)] s.heap.size = A at hD ⊢
  have hA : ∀ q : Nat, s.heap.size ≤ q → A q := fun q h => by rw [← hAe]; exact Or.inr h
  have hS : va_S A s.heap s.heap [] := va_S.rf
  have hP : va_P D vwCl [(moC md sd mth mst hn cn pn mq gn mln mnn ln mlt msz mcu mtk mfr mti mfa mfb an un lc td mtn), (aI cI (md 3) 8 ml), (aI cI (md 4) 8 mm), (aI cI (md 5) 480 mi), (aI cI (md 7) 40 ho), (aI cI (md 8) 40 hc), (aI cI (md 9) 40 hp), (aI cI (md 10) 40 hs)] s.heap := hP
  have hl := lv_entry ([.ref (md 64), .int a, .int i, .int n]) (n := 7) (Nat.le_of_ble_eq_true rfl)
  rw [lg_entry_eq]
  generalize (lg_sl ([.ref (md 64), .int a, .int i, .int n]) ++ List.replicate (7 - (lg_sl ([.ref (md 64), .int a, .int i, .int n])).length) Slot.unset).toArray = ls at hl ⊢
  have hl : lv_has ls 7 [(0, .ref (md 64)), (1, .int a), (2, .int i), (3, .int n)] := hl
  have k0 : (0 : Int32).toInt = 0 := by decide
  have k1 : (1 : Int32).toInt = 1 := by decide
  have k2 : (2 : Int32).toInt = 2 := by decide
  have k3 : (3 : Int32).toInt = 3 := by decide
  have k4 : (4 : Int32).toInt = 4 := by decide
  have k60 : (60 : Int32).toInt = 60 := by decide
  have kl1 : (1 : Int64).toInt = 1 := by decide
  have kl15 : (15 : Int64).toInt = 15 := by decide
  refine lv_aload_n hx hb dX11_holds_0 rfl (lv_at hl 0 rfl) ?_
  refine lv_iconst (v := 0) hx hb dX11_holds_1 (by decide) ?_
  refine va_put (D := D) (ci := 11) (v := .int 0) (ty := .int) (C := RX11) (T := TX11) (N := 64) hx hb hts inX11_holds_X11 tyX11 tyX11_ok nmX11 hown hK hP hD hS 0 rfl rfl 0 (by decide) (hts (Cond.fieldLink RX11 1 "PortRoomsModel" "thrown" "I") (wm_t (wm_l (wm_i 0 rfl)))) (fun _ h9 => h9) rfl (tyX11_ok 0 (by decide)) rfl rfl (Nat.le_of_ble_eq_true rfl) dX11_holds_2 (fun H locs => ?_)
  clear hP hD hS
  intro hP hD hS
  replace hP : va_P D vwCl [(moC md sd (0) mst hn cn pn mq gn mln mnn ln mlt msz mcu mtk mfr mti mfa mfb an un lc td mtn), (aI cI (md 3) 8 ml), (aI cI (md 4) 8 mm), (aI cI (md 5) 480 mi), (aI cI (md 7) 40 ho), (aI cI (md 8) 40 hc), (aI cI (md 9) 40 hp), (aI cI (md 10) 40 hs)] H := hP
  replace hD : va_D A [(moC md sd (0) mst hn cn pn mq gn mln mnn ln mlt msz mcu mtk mfr mti mfa mfb an un lc td mtn), (aI cI (md 3) 8 ml), (aI cI (md 4) 8 mm), (aI cI (md 5) 480 mi), (aI cI (md 7) 40 ho), (aI cI (md 8) 40 hc), (aI cI (md 9) 40 hp), (aI cI (md 10) 40 hs)] := hD
  refine lv_iload_n hx hb dX11_holds_5 rfl (lv_at hl 1 rfl) ?_
  refine st_i1 (va_runS (As := [.int a]) (rest := []) ⟨hx, hb, hml, hown, hts⟩ (ct_X11_isSheet l D cI cY cJ cQ _ a) (va_cwS 1 hts gX11_holds_X11_isSheet rfl rfl rfl cdX11_isSheet ⟨Nat.le_of_ble_eq_true rfl, Nat.le_of_ble_eq_true rfl⟩) (cPreS (hP.sub [] rfl) hK (hD.sub [] (by decide +kernel) rfl) hN) rfl rfl hl.1 rfl (lv_room (Nat.le_of_ble_eq_true rfl)) dX11_holds_6 ⟨Nat.le_of_ble_eq_true rfl, Nat.le_of_ble_eq_true rfl⟩) hP hD hS hA [] rfl (fun _ => rfl) (fun r3 u1 H locs hw2 => ?_)
  clear hP hS
  intro hP hS
  replace hw2 : r3 = if 0 ≤ a.toInt ∧ a.toInt ≤ 7 then 1 else 0 := hw2
  refine lv_if_eq (tgt := 24) hx hb dX11_holds_9 (by decide) (fun c4 => ?_) (fun c4 => ?_)
  · skip
    have f5 := bo_f hw2 c4
    refine lv_ldc hx hb hown (hts (Cond.constant RX11 157 (-1000001)) (wm_t (wm_l (wm_i 2 rfl)))) dX11_holds_24 ?_
    have hP9 := hP
    have hD9 := hD
    exact W.iret (v := (-1000001)) hx hb hr (fun t ht hW => ⟨⟨(-1000001), (mst, hn, ho, hc, hp, hs), rfl, ⟨(by unfold sm_holds; (repeat' split) <;> first | (exfalso; omega) | rfl), by omega, by omega, by assumption⟩, by rw [ht]; exact hP9, va_K.moved hW.alike hK, hD9⟩, hS.F ht⟩) hS.2.2 dX11_holds_26
  · skip
    have f6 := bo_t hw2 c4
    refine lv_iload_n hx hb dX11_holds_12 rfl (lv_at hl 3 rfl) ?_
    refine lv_i2l hx hb dX11_holds_13 rfl ?_
    have w7 := i_w n
    have w8 := i_rng n
    refine lv_lconst (v := 1) hx hb dX11_holds_14 (by decide) ?_
    refine lv_ldc2 hx hb hown (hts (Cond.constantLong RX11 189 (15)) (wm_t (wm_l (wm_i 1 rfl)))) dX11_holds_15 ?_
    refine st_i1 (va_runS (As := [.long (n.toInt64), .long 1, .long 15]) (rest := []) ⟨hx, hb, hml, hown, hts⟩ (ct_X11_in l D cI cY cJ cQ _ n.toInt64 (1 : Int64) (15 : Int64)) (va_cwS 3 hts gX11_holds_X11_in rfl rfl rfl cdX11_in ⟨Nat.le_of_ble_eq_true rfl, Nat.le_of_ble_eq_true rfl⟩) (cPreS (hP.sub [] rfl) hK (hD.sub [] (by decide +kernel) rfl) hN) rfl rfl hl.1 rfl (lv_room (Nat.le_of_ble_eq_true rfl)) dX11_holds_18 ⟨Nat.le_of_ble_eq_true rfl, Nat.le_of_ble_eq_true rfl⟩) hP hD hS hA [] rfl (fun _ => rfl) (fun r11 u9 H locs hw10 => ?_)
    clear hP hS
    intro hP hS
    replace hw10 : r11 = if (1 : Int64).toInt ≤ n.toInt64.toInt ∧ n.toInt64.toInt ≤ (15 : Int64).toInt then 1 else 0 := hw10
    refine lv_if_ne (tgt := 27) hx hb dX11_holds_21 (by decide) (fun c12 => ?_) (fun c12 => ?_)
    · skip
      have f13 := bo_t hw10 c12
      refine lv_aload_n hx hb dX11_holds_27 rfl (lv_at hl 0 rfl) ?_
      refine lv_iconst (v := 0) hx hb dX11_holds_28 (by decide) ?_
      refine va_put (D := D) (ci := 11) (v := .int 0) (ty := .int) (C := RX11) (T := TX11) (N := 64) hx hb hts inX11_holds_X11 tyX11 tyX11_ok nmX11 hown hK hP hD hS 0 rfl rfl 2 (by decide) (hts (Cond.fieldLink RX11 141 "PortRoomsModel" "status" "I") (wm_t (wm_l (wm_i 3 rfl)))) (fun _ h9 => h9) rfl (tyX11_ok 2 (by decide)) rfl rfl (Nat.le_of_ble_eq_true rfl) dX11_holds_29 (fun H locs => ?_)
      clear hP hD hS
      intro hP hD hS
      replace hP : va_P D vwCl [(moC md sd (0) (0) hn cn pn mq gn mln mnn ln mlt msz mcu mtk mfr mti mfa mfb an un lc td mtn), (aI cI (md 3) 8 ml), (aI cI (md 4) 8 mm), (aI cI (md 5) 480 mi), (aI cI (md 7) 40 ho), (aI cI (md 8) 40 hc), (aI cI (md 9) 40 hp), (aI cI (md 10) 40 hs)] H := hP
      replace hD : va_D A [(moC md sd (0) (0) hn cn pn mq gn mln mnn ln mlt msz mcu mtk mfr mti mfa mfb an un lc td mtn), (aI cI (md 3) 8 ml), (aI cI (md 4) 8 mm), (aI cI (md 5) 480 mi), (aI cI (md 7) 40 ho), (aI cI (md 8) 40 hc), (aI cI (md 9) 40 hp), (aI cI (md 10) 40 hs)] := hD
      refine lv_aload_n hx hb dX11_holds_32 rfl (lv_at hl 0 rfl) ?_
      refine va_get (D := D) (ci := 11) (v := .ref (md 3)) (C := RX11) (T := TX11) (N := 64) hx hb hts inX11_holds_X11 hown hK hP 0 rfl rfl 3 (by decide) (hts (Cond.fieldLink RX11 13 "PortRoomsModel" "lane" "[I") (wm_t (wm_l (wm_i 4 rfl)))) (fun _ h9 => h9) rfl dX11_holds_33 ?_
      refine lv_iload_n hx hb dX11_holds_36 rfl (lv_at hl 1 rfl) ?_
      refine va_iald hx hb hK hP 1 0 rfl rfl (i_in (by omega) (by omega)) dX11_holds_37 ?_
      refine lv_topi (fun v14 ev14 => ?_)
      have tlv14 : v14.toInt = (ml a.toNatClampNeg).toInt := by rw [ev14]
      refine lv_if_ge (tgt := 47) hx hb dX11_holds_38 (by decide) (fun c15 => ?_) (fun c15 => ?_)
      · skip
        have f16 := i_le c15
        refine lv_iload_n hx hb dX11_holds_47 rfl (lv_at hl 2 rfl) ?_
        refine lv_if_lt (tgt := 69) hx hb dX11_holds_48 (by decide) (fun c17 => ?_) (fun c17 => ?_)
        · skip
          have f18 := i_lt c17
          refine lv_aload_n hx hb dX11_holds_69 rfl (lv_at hl 0 rfl) ?_
          refine lv_iconst (v := 2) hx hb dX11_holds_70 (by decide) ?_
          refine st_i (wr := [(aI cI (md 3) 8 ml), (aI cI (md 4) 8 mm), (aI cI (md 5) 480 mi), (aI cI (md 7) 40 ho), (aI cI (md 8) 40 hc), (aI cI (md 9) 40 hp), (aI cI (md 10) 40 hs)]) (va_runV (C := RX11) (As := [.int 2]) (rest := []) ⟨hx, hb, hml, hown, hts⟩ (ct_X11_found l D cI cY cJ cQ _ md sd 0 0 hn cn pn mq gn mln mnn ln mlt msz mcu mtk mfr mti mfa mfb an un lc td mtn (2 : Int32)) (cwV 1 hts gX11_holds_X11_found rfl rfl rfl ⟨rfl, cdX11_found⟩ ⟨Nat.le_of_ble_eq_true rfl, Nat.le_of_ble_eq_true rfl⟩) (cPreV (hP.sub [0] rfl) hK (hD.sub [0] (by decide +kernel) rfl) hN (ci := 11) (q0 := 0) rfl rfl) rfl rfl hl.1 rfl (lv_room (Nat.le_of_ble_eq_true rfl)) dX11_holds_71 ⟨Nat.le_of_ble_eq_true rfl, Nat.le_of_ble_eq_true rfl⟩) hP hD hS hA [0] [1, 2, 3, 4, 5, 6, 7] rfl rfl (by decide +kernel) (by decide +kernel) (fun r21 u19 H locs hw20 => ?_)
          clear hP hD hS
          intro hP hD hS
          replace hw20 : r21 = (-1000010) - (2 : Int32) := hw20
          replace hP : va_P D vwCl [(aI cI (md 3) 8 ml), (aI cI (md 4) 8 mm), (aI cI (md 5) 480 mi), (aI cI (md 7) 40 ho), (aI cI (md 8) 40 hc), (aI cI (md 9) 40 hp), (aI cI (md 10) 40 hs), (moC md sd (0) (2 : Int32) hn cn pn mq gn mln mnn ln mlt msz mcu mtk mfr mti mfa mfb an un lc td mtn)] H := hP
          replace hD : va_D A [(aI cI (md 3) 8 ml), (aI cI (md 4) 8 mm), (aI cI (md 5) 480 mi), (aI cI (md 7) 40 ho), (aI cI (md 8) 40 hc), (aI cI (md 9) 40 hp), (aI cI (md 10) 40 hs), (moC md sd (0) (2 : Int32) hn cn pn mq gn mln mnn ln mlt msz mcu mtk mfr mti mfa mfb an un lc td mtn)] := hD
          subst hw20
          have hP9 := hP.sub (ws' := [(moC md sd (0) (2 : Int32) hn cn pn mq gn mln mnn ln mlt msz mcu mtk mfr mti mfa mfb an un lc td mtn), (aI cI (md 3) 8 ml), (aI cI (md 4) 8 mm), (aI cI (md 5) 480 mi), (aI cI (md 7) 40 ho), (aI cI (md 8) 40 hc), (aI cI (md 9) 40 hp), (aI cI (md 10) 40 hs)]) [7, 0, 1, 2, 3, 4, 5, 6] rfl
          have hD9 := hD.sub (ws' := [(moC md sd (0) (2 : Int32) hn cn pn mq gn mln mnn ln mlt msz mcu mtk mfr mti mfa mfb an un lc td mtn), (aI cI (md 3) 8 ml), (aI cI (md 4) 8 mm), (aI cI (md 5) 480 mi), (aI cI (md 7) 40 ho), (aI cI (md 8) 40 hc), (aI cI (md 9) 40 hp), (aI cI (md 10) 40 hs)]) [7, 0, 1, 2, 3, 4, 5, 6] (by decide +kernel) rfl
          exact W.iret (v := (-1000010) - (2 : Int32)) hx hb hr (fun t ht hW => ⟨⟨(-1000010) - (2 : Int32), ((2 : Int32), hn, ho, hc, hp, hs), rfl, ⟨(by unfold sm_holds; (repeat' split) <;> first | (exfalso; omega) | rfl), by omega, by omega, by assumption⟩, by rw [ht]; exact hP9, va_K.moved hW.alike hK, hD9⟩, hS.F ht⟩) hS.2.2 dX11_holds_74
        · skip
          have f22 := i_nlt c17
          refine lv_iload_n hx hb dX11_holds_51 rfl (lv_at hl 2 rfl) ?_
          refine lv_i2l hx hb dX11_holds_52 rfl ?_
          have w23 := i_w i
          have w24 := i_rng i
          refine lv_iconst (v := 4) hx hb dX11_holds_53 (by decide) ?_
          refine lv_iload_n hx hb dX11_holds_54 rfl (lv_at hl 3 rfl) ?_
          refine lv_imul hx hb dX11_holds_55 ?_
          refine lv_topi (fun v25 ev25 => ?_)
          try have tv25 : v25.toInt = 4 * n.toInt := by rw [ev25]; exact (i_mul (x := (4 : Int32)) (y := n) (by rw [k4]; omega) (by rw [k4]; omega)).trans (by rw [k4])
          refine lv_i2l hx hb dX11_holds_56 rfl ?_
          have w26 := i_w v25
          have w27 := i_rng v25
          refine lv_ladd hx hb dX11_holds_57 ?_
          refine lv_topl (fun z28 ez28 => ?_)
          try have tz28 : z28.toInt = i.toInt64.toInt + v25.toInt64.toInt := by rw [ez28]; exact l_add (by omega) (by omega)
          refine lv_aload_n hx hb dX11_holds_58 rfl (lv_at hl 0 rfl) ?_
          refine va_get (D := D) (ci := 11) (v := .ref (md 4)) (C := RX11) (T := TX11) (N := 64) hx hb hts inX11_holds_X11 hown hK hP 0 rfl rfl 4 (by decide) (hts (Cond.fieldLink RX11 17 "PortRoomsModel" "many" "[I") (wm_t (wm_l (wm_i 5 rfl)))) (fun _ h9 => h9) rfl dX11_holds_59 ?_
          refine lv_iload_n hx hb dX11_holds_62 rfl (lv_at hl 1 rfl) ?_
          refine va_iald hx hb hK hP 2 0 rfl rfl (i_in (by omega) (by omega)) dX11_holds_63 ?_
          refine lv_topi (fun v29 ev29 => ?_)
          have tlv29 : v29.toInt = (mm a.toNatClampNeg).toInt := by rw [ev29]
          have qv29 := okM_at h1 ev29 (by omega) (by omega)
          refine lv_i2l hx hb dX11_holds_64 rfl ?_
          have w30 := i_w v29
          have w31 := i_rng v29
          refine W.lcmp hx hb dX11_holds_65 ?_
          refine lv_topi (fun v32 ev32 => ?_)
          refine lv_if_le (tgt := 75) hx hb dX11_holds_66 (by decide) (fun c33 => ?_) (fun c33 => ?_)
          · skip
            have f34 := lc_le ev32 c33
            refine lv_iconst (v := 0) hx hb dX11_holds_75 (by decide) ?_
            refine lv_istore (lv' := [(4, .int 0), (0, .ref (md 64)), (1, .int a), (2, .int i), (3, .int n)]) hx hb dX11_holds_76 hl (by decide) rfl (fun ls hl => ?_)
            refine lv_iconst (v := 0) hx hb dX11_holds_78 (by decide) ?_
            refine lv_istore (lv' := [(5, .int 0), (4, .int 0), (0, .ref (md 64)), (1, .int a), (2, .int i), (3, .int n)]) hx hb dX11_holds_79 hl (by decide) rfl (fun ls hl => ?_)
            refine st_loop 81 (fun _ => []) (fun (z : Int32 × Int32 × (Nat → Int32) × (Nat → Int32) × (Nat → Int32) × (Nat → Int32) × Int32) (ls : Array Slot) (H : Heap) (locs : List Loc) => match z with | (q81_4, q81_5, hoq, hcq, hpq, hsq, hnq) => (0 ≤ q81_5.toInt) ∧ (q81_5.toInt ≤ n.toInt) ∧ (0 ≤ q81_4.toInt) ∧ (q81_4.toInt ≤ q81_5.toInt) ∧ (0 ≤ hnq.toInt) ∧ (hnq.toInt ≤ 40) ∧ (okH hnq hoq hcq) ∧ ((q81_4, hnq, hoq, hcq, hpq, hsq) = foldH mi (60 * a.toNatClampNeg + i.toNatClampNeg) hn ho hc hp hs q81_5.toNatClampNeg) ∧ lv_has ls 7 [(0, .ref (md 64)), (1, .int a), (2, .int i), (3, .int n), (4, .int q81_4), (5, .int q81_5)] ∧ va_P D vwCl [(moC md sd (0) (0) hnq cn pn mq gn mln mnn ln mlt msz mcu mtk mfr mti mfa mfb an un lc td mtn), (aI cI (md 3) 8 ml), (aI cI (md 4) 8 mm), (aI cI (md 5) 480 mi), (aI cI (md 7) 40 hoq), (aI cI (md 8) 40 hcq), (aI cI (md 9) 40 hpq), (aI cI (md 10) 40 hsq)] H ∧ va_D A [(moC md sd (0) (0) hnq cn pn mq gn mln mnn ln mlt msz mcu mtk mfr mti mfa mfb an un lc td mtn), (aI cI (md 3) 8 ml), (aI cI (md 4) 8 mm), (aI cI (md 5) 480 mi), (aI cI (md 7) 40 hoq), (aI cI (md 8) 40 hcq), (aI cI (md 9) 40 hpq), (aI cI (md 10) 40 hsq)] ∧ va_S A s.heap H locs) (fun (z : Int32 × Int32 × (Nat → Int32) × (Nat → Int32) × (Nat → Int32) × (Nat → Int32) × Int32) => match z with | (q81_4, q81_5, hoq, hcq, hpq, hsq, hnq) => n.toInt - q81_5.toInt) ?_ ?_ ((0 : Int32), (0 : Int32), ho, hc, hp, hs, hn) ⟨(by omega), (by omega), (by omega), (by omega), (by omega), (by omega), (by assumption), (by rfl), lv_sub hl [2, 3, 4, 5, 1, 0] rfl, hP, hD, hS⟩
            · rintro ⟨q81_4, q81_5, hoq, hcq, hpq, hsq, hnq⟩ ls H locs ⟨g35, g36, g37, g38, g39, g40, g41, g42, hl, hP, hD, hS⟩
              show (0 : Int) ≤ n.toInt - q81_5.toInt
              omega
            · rintro n45 ih43 ⟨q81_4, q81_5, hoq, hcq, hpq, hsq, hnq⟩ ls H locs ⟨g35, g36, g37, g38, g39, g40, g41, g42, hl, hP, hD, hS⟩ hm44
              have hm44 : n.toInt - q81_5.toInt < (n45 : Int) + 1 := hm44
              replace hl : lv_has ls 7 [(0, .ref (md 64)), (1, .int a), (2, .int i), (3, .int n), (4, .int q81_4), (5, .int q81_5)] := hl
              replace hP : va_P D vwCl [(moC md sd (0) (0) hnq cn pn mq gn mln mnn ln mlt msz mcu mtk mfr mti mfa mfb an un lc td mtn), (aI cI (md 3) 8 ml), (aI cI (md 4) 8 mm), (aI cI (md 5) 480 mi), (aI cI (md 7) 40 hoq), (aI cI (md 8) 40 hcq), (aI cI (md 9) 40 hpq), (aI cI (md 10) 40 hsq)] H := hP
              replace hD : va_D A [(moC md sd (0) (0) hnq cn pn mq gn mln mnn ln mlt msz mcu mtk mfr mti mfa mfb an un lc td mtn), (aI cI (md 3) 8 ml), (aI cI (md 4) 8 mm), (aI cI (md 5) 480 mi), (aI cI (md 7) 40 hoq), (aI cI (md 8) 40 hcq), (aI cI (md 9) 40 hpq), (aI cI (md 10) 40 hsq)] := hD
              show W _ _ _ _ _ _ _ _ _ _ _ _ _ _ _ (F0 m 81 ls [])
              refine lv_iload hx hb dX11_holds_81 (lv_at hl 5 rfl) ?_
              refine lv_iload_n hx hb dX11_holds_83 rfl (lv_at hl 3 rfl) ?_
              refine lv_icmp_ge (tgt := 157) hx hb dX11_holds_84 (by decide) (fun c46 => ?_) (fun c46 => ?_)
              · skip
                have f47 := i_le c46
                refine lv_iload hx hb dX11_holds_157 (lv_at hl 4 rfl) ?_
                have cn9 := i_cl (x := n) (by omega)
                have ck9 := i_cl (x := q81_5) (by omega)
                have en9 : q81_5.toNatClampNeg = n.toNatClampNeg := by omega
                have hz9 := g42
                rw [en9] at hz9
                have h99 : (q81_4, (0 : Int32), hnq, hoq, hcq, hpq, hsq) = sm_holds mst ml mm mi hn ho hc hp hs a i n := by unfold sm_holds; rw [if_pos (by omega), if_neg (by omega), if_pos (by omega), ← hz9]
                have hP9 := hP
                have hD9 := hD
                exact W.iret (v := q81_4) hx hb hr (fun t ht hW => ⟨⟨q81_4, (0, hnq, hoq, hcq, hpq, hsq), rfl, ⟨h99, by omega, by omega, by assumption⟩, by rw [ht]; exact hP9, va_K.moved hW.alike hK, hD9⟩, hS.F ht⟩) hS.2.2 dX11_holds_159
              · skip
                have f48 := i_nle c46
                refine lv_bipush (v := 60) hx hb dX11_holds_87 (by decide) ?_
                refine lv_iload_n hx hb dX11_holds_89 rfl (lv_at hl 1 rfl) ?_
                refine lv_imul hx hb dX11_holds_90 ?_
                refine lv_topi (fun v49 ev49 => ?_)
                try have tv49 : v49.toInt = 60 * a.toInt := by rw [ev49]; exact (i_mul (x := (60 : Int32)) (y := a) (by rw [k60]; omega) (by rw [k60]; omega)).trans (by rw [k60])
                refine lv_iload_n hx hb dX11_holds_91 rfl (lv_at hl 2 rfl) ?_
                refine lv_iadd hx hb dX11_holds_92 ?_
                refine lv_topi (fun v50 ev50 => ?_)
                try have tv50 : v50.toInt = v49.toInt + i.toInt := by rw [ev50]; exact (i_add (x := v49) (y := i) (by omega) (by omega))
                refine lv_iconst (v := 4) hx hb dX11_holds_93 (by decide) ?_
                refine lv_iload hx hb dX11_holds_94 (lv_at hl 5 rfl) ?_
                refine lv_imul hx hb dX11_holds_96 ?_
                refine lv_topi (fun v51 ev51 => ?_)
                try have tv51 : v51.toInt = 4 * q81_5.toInt := by rw [ev51]; exact (i_mul (x := (4 : Int32)) (y := q81_5) (by rw [k4]; omega) (by rw [k4]; omega)).trans (by rw [k4])
                refine lv_iadd hx hb dX11_holds_97 ?_
                refine lv_topi (fun v52 ev52 => ?_)
                try have tv52 : v52.toInt = v50.toInt + v51.toInt := by rw [ev52]; exact (i_add (x := v50) (y := v51) (by omega) (by omega))
                refine lv_istore (lv' := [(6, .int v52), (0, .ref (md 64)), (1, .int a), (2, .int i), (3, .int n), (4, .int q81_4), (5, .int q81_5)]) hx hb dX11_holds_98 hl (by decide) rfl (fun ls hl => ?_)
                refine lv_iload hx hb dX11_holds_100 (lv_at hl 5 rfl) ?_
                refine lv_aload_n hx hb dX11_holds_102 rfl (lv_at hl 1 rfl) ?_
                refine lv_aload_n hx hb dX11_holds_103 rfl (lv_at hl 1 rfl) ?_
                refine va_get (D := D) (ci := 11) (v := .ref (md 5)) (C := RX11) (T := TX11) (N := 64) hx hb hts inX11_holds_X11 hown hK hP 0 rfl rfl 5 (by decide) (hts (Cond.fieldLink RX11 20 "PortRoomsModel" "item" "[I") (wm_t (wm_l (wm_i 6 rfl)))) (fun _ h9 => h9) rfl dX11_holds_104 ?_
                refine lv_iload hx hb dX11_holds_107 (lv_at hl 0 rfl) ?_
                refine va_iald hx hb hK hP 3 0 rfl rfl (i_in (by omega) (by omega)) dX11_holds_109 ?_
                refine lv_topi (fun v53 ev53 => ?_)
                have tlv53 : v53.toInt = (mi v52.toNatClampNeg).toInt := by rw [ev53]
                refine lv_aload_n hx hb dX11_holds_110 rfl (lv_at hl 1 rfl) ?_
                refine va_get (D := D) (ci := 11) (v := .ref (md 5)) (C := RX11) (T := TX11) (N := 64) hx hb hts inX11_holds_X11 hown hK hP 0 rfl rfl 5 (by decide) (hts (Cond.fieldLink RX11 20 "PortRoomsModel" "item" "[I") (wm_t (wm_l (wm_i 6 rfl)))) (fun _ h9 => h9) rfl dX11_holds_111 ?_
                refine lv_iload hx hb dX11_holds_114 (lv_at hl 0 rfl) ?_
                refine lv_iconst (v := 1) hx hb dX11_holds_116 (by decide) ?_
                refine lv_iadd hx hb dX11_holds_117 ?_
                refine lv_topi (fun v54 ev54 => ?_)
                try have tv54 : v54.toInt = v52.toInt + 1 := by rw [ev54]; exact (i_add (x := v52) (y := (1 : Int32)) (by rw [k1]; omega) (by rw [k1]; omega)).trans (by rw [k1])
                refine va_iald hx hb hK hP 3 0 rfl rfl (i_in (by omega) (by omega)) dX11_holds_118 ?_
                refine lv_topi (fun v55 ev55 => ?_)
                have tlv55 : v55.toInt = (mi v54.toNatClampNeg).toInt := by rw [ev55]
                refine lv_aload_n hx hb dX11_holds_119 rfl (lv_at hl 1 rfl) ?_
                refine va_get (D := D) (ci := 11) (v := .ref (md 5)) (C := RX11) (T := TX11) (N := 64) hx hb hts inX11_holds_X11 hown hK hP 0 rfl rfl 5 (by decide) (hts (Cond.fieldLink RX11 20 "PortRoomsModel" "item" "[I") (wm_t (wm_l (wm_i 6 rfl)))) (fun _ h9 => h9) rfl dX11_holds_120 ?_
                refine lv_iload hx hb dX11_holds_123 (lv_at hl 0 rfl) ?_
                refine lv_iconst (v := 2) hx hb dX11_holds_125 (by decide) ?_
                refine lv_iadd hx hb dX11_holds_126 ?_
                refine lv_topi (fun v56 ev56 => ?_)
                try have tv56 : v56.toInt = v52.toInt + 2 := by rw [ev56]; exact (i_add (x := v52) (y := (2 : Int32)) (by rw [k2]; omega) (by rw [k2]; omega)).trans (by rw [k2])
                refine va_iald hx hb hK hP 3 0 rfl rfl (i_in (by omega) (by omega)) dX11_holds_127 ?_
                refine lv_topi (fun v57 ev57 => ?_)
                have tlv57 : v57.toInt = (mi v56.toNatClampNeg).toInt := by rw [ev57]
                refine lv_aload_n hx hb dX11_holds_128 rfl (lv_at hl 1 rfl) ?_
                refine va_get (D := D) (ci := 11) (v := .ref (md 5)) (C := RX11) (T := TX11) (N := 64) hx hb hts inX11_holds_X11 hown hK hP 0 rfl rfl 5 (by decide) (hts (Cond.fieldLink RX11 20 "PortRoomsModel" "item" "[I") (wm_t (wm_l (wm_i 6 rfl)))) (fun _ h9 => h9) rfl dX11_holds_129 ?_
                refine lv_iload hx hb dX11_holds_132 (lv_at hl 0 rfl) ?_
                refine lv_iconst (v := 3) hx hb dX11_holds_134 (by decide) ?_
                refine lv_iadd hx hb dX11_holds_135 ?_
                refine lv_topi (fun v58 ev58 => ?_)
                try have tv58 : v58.toInt = v52.toInt + 3 := by rw [ev58]; exact (i_add (x := v52) (y := (3 : Int32)) (by rw [k3]; omega) (by rw [k3]; omega)).trans (by rw [k3])
                refine va_iald hx hb hK hP 3 0 rfl rfl (i_in (by omega) (by omega)) dX11_holds_136 ?_
                refine lv_topi (fun v59 ev59 => ?_)
                have tlv59 : v59.toInt = (mi v58.toNatClampNeg).toInt := by rw [ev59]
                refine st_i (wr := [(aI cI (md 3) 8 ml), (aI cI (md 4) 8 mm), (aI cI (md 5) 480 mi)]) (va_runV (C := RX11) (As := [.int v53, .int v55, .int v57, .int v59]) (rest := [.int q81_4]) ⟨hx, hb, hml, hown, hts⟩ (ct_X11_holding l D cI cY cJ cQ _ md sd 0 0 hnq cn pn mq gn mln mnn ln mlt msz mcu mtk mfr mti mfa mfb an un lc td mtn hoq hcq hpq hsq v53 v55 v57 v59 (by omega) (by omega)) (cwV 4 hts gX11_holds_X11_holding rfl rfl rfl ⟨rfl, cdX11_holding⟩ ⟨Nat.le_of_ble_eq_true rfl, Nat.le_of_ble_eq_true rfl⟩) (cPreV (hP.sub [0, 4, 5, 6, 7] rfl) hK (hD.sub [0, 4, 5, 6, 7] (by decide +kernel) rfl) hN (ci := 11) (q0 := 0) rfl rfl) rfl rfl hl.1 rfl (lv_room (Nat.le_of_ble_eq_true rfl)) dX11_holds_137 ⟨Nat.le_of_ble_eq_true rfl, Nat.le_of_ble_eq_true rfl⟩) hP hD hS hA [0, 4, 5, 6, 7] [1, 2, 3] rfl rfl (by decide +kernel) (by decide +kernel) (fun r62 u60 H locs hw61 => ?_)
                clear hP hD hS
                intro hP hD hS
                obtain ⟨hn_63, ho_64, hc_65, hp_66, hs_67⟩ := u60
                replace hw61 : (r62, (hn_63, ho_64, hc_65, hp_66, hs_67)) = sp_hold hnq hoq hcq hpq hsq v53 v55 v57 v59 := hw61
                replace hP : va_P D vwCl [(aI cI (md 3) 8 ml), (aI cI (md 4) 8 mm), (aI cI (md 5) 480 mi), (moC md sd (0) (0) hn_63 cn pn mq gn mln mnn ln mlt msz mcu mtk mfr mti mfa mfb an un lc td mtn), (aI cI (md 7) 40 ho_64), (aI cI (md 8) 40 hc_65), (aI cI (md 9) 40 hp_66), (aI cI (md 10) 40 hs_67)] H := hP
                replace hD : va_D A [(aI cI (md 3) 8 ml), (aI cI (md 4) 8 mm), (aI cI (md 5) 480 mi), (moC md sd (0) (0) hn_63 cn pn mq gn mln mnn ln mlt msz mcu mtk mfr mti mfa mfb an un lc td mtn), (aI cI (md 7) 40 ho_64), (aI cI (md 8) 40 hc_65), (aI cI (md 9) 40 hp_66), (aI cI (md 10) 40 hs_67)] := hD
                obtain ⟨hw61a, hw61b, hw61c⟩ := sp_hold_ok hw61 (by omega) (by omega) (by assumption)
                have cla := i_cl (x := a) (by omega)
                have cli := i_cl (x := i) (by omega)
                have cln := i_cl (x := n) (by omega)
                have clq81_5 := i_cl (x := q81_5) (by omega)
                have clv52 := i_cl (x := v52) (by omega)
                have clv54 := i_cl (x := v54) (by omega)
                have clv56 := i_cl (x := v56) (by omega)
                have clv58 := i_cl (x := v58) (by omega)
                have ex0 : v53 = mi ((60 * a.toNatClampNeg + i.toNatClampNeg) + 4 * q81_5.toNatClampNeg) := ev53.trans (congrArg mi (by omega))
                have ex1 : v55 = mi ((60 * a.toNatClampNeg + i.toNatClampNeg) + 4 * q81_5.toNatClampNeg + 1) := ev55.trans (congrArg mi (by omega))
                have ex2 : v57 = mi ((60 * a.toNatClampNeg + i.toNatClampNeg) + 4 * q81_5.toNatClampNeg + 2) := ev57.trans (congrArg mi (by omega))
                have ex3 : v59 = mi ((60 * a.toNatClampNeg + i.toNatClampNeg) + 4 * q81_5.toNatClampNeg + 3) := ev59.trans (congrArg mi (by omega))
                have hps9 := sp_hold_pos hw61 (by omega) (by omega)
                have hf9 := foldH_s g42 hw61 ex0 ex1 ex2 ex3
                refine lv_if_lt (tgt := 147) hx hb dX11_holds_140 (by decide) (fun c68 => ?_) (fun c68 => ?_)
                · skip
                  have f69 := i_lt c68
                  refine lv_iconst (v := 0) hx hb dX11_holds_147 (by decide) ?_
                  refine lv_iadd hx hb dX11_holds_148 ?_
                  refine lv_topi (fun v70 ev70 => ?_)
                  try have tv70 : v70.toInt = q81_4.toInt + 0 := by rw [ev70]; exact (i_add (x := q81_4) (y := (0 : Int32)) (by rw [k0]; omega) (by rw [k0]; omega)).trans (by rw [k0])
                  refine lv_istore (lv' := [(4, .int v70), (6, .int v52), (0, .ref (md 64)), (1, .int a), (2, .int i), (3, .int n), (5, .int q81_5)]) hx hb dX11_holds_149 hl (by decide) rfl (fun ls hl => ?_)
                  obtain ⟨v71, ev71⟩ : ∃ y : Int32, y = q81_5 + 1 := ⟨_, rfl⟩
                  try have tv71 : v71.toInt = q81_5.toInt + 1 := by rw [ev71]; exact (i_add (x := q81_5) (y := (1 : Int32)) (by rw [k1]; omega) (by rw [k1]; omega)).trans (by rw [k1])
                  refine lv_iinc (v := v71) (lv' := [(5, .int v71), (4, .int v70), (6, .int v52), (0, .ref (md 64)), (1, .int a), (2, .int i), (3, .int n)]) hx hb dX11_holds_151 hl (k := 6) rfl (by rw [ev71]; rfl) (by decide) rfl (fun ls hl => ?_)
                  refine lv_goto (tgt := 81) hx hb dX11_holds_154 (by decide) ?_
                  have clk9 := i_cl (x := v71) (by omega)
                  have ek9 : v71.toNatClampNeg = q81_5.toNatClampNeg + 1 := by omega
                  exact ih43 (v70, v71, ho_64, hc_65, hp_66, hs_67, hn_63) ls H locs ⟨(by omega), (by omega), (by omega), (by omega), (by omega), (by omega), (by assumption), (by rw [ek9]; exact hf9 _ (by first | (rw [if_pos (by omega)]; assumption) | (rw [if_neg (by omega)]; done) | (rw [if_neg (by omega)]; rw [ev70]; exact Int32.add_zero _))), lv_sub hl [3, 4, 5, 6, 1, 0] rfl, hP.sub [3, 0, 1, 2, 4, 5, 6, 7] rfl, hD.sub [3, 0, 1, 2, 4, 5, 6, 7] (by decide +kernel) rfl, hS⟩ (by show n.toInt - v71.toInt < _; omega)
                · skip
                  have f72 := i_nlt c68
                  refine lv_iconst (v := 1) hx hb dX11_holds_143 (by decide) ?_
                  refine lv_goto (tgt := 148) hx hb dX11_holds_144 (by decide) ?_
                  refine lv_iadd hx hb dX11_holds_148 ?_
                  refine lv_topi (fun v73 ev73 => ?_)
                  try have tv73 : v73.toInt = q81_4.toInt + 1 := by rw [ev73]; exact (i_add (x := q81_4) (y := (1 : Int32)) (by rw [k1]; omega) (by rw [k1]; omega)).trans (by rw [k1])
                  refine lv_istore (lv' := [(4, .int v73), (6, .int v52), (0, .ref (md 64)), (1, .int a), (2, .int i), (3, .int n), (5, .int q81_5)]) hx hb dX11_holds_149 hl (by decide) rfl (fun ls hl => ?_)
                  obtain ⟨v74, ev74⟩ : ∃ y : Int32, y = q81_5 + 1 := ⟨_, rfl⟩
                  try have tv74 : v74.toInt = q81_5.toInt + 1 := by rw [ev74]; exact (i_add (x := q81_5) (y := (1 : Int32)) (by rw [k1]; omega) (by rw [k1]; omega)).trans (by rw [k1])
                  refine lv_iinc (v := v74) (lv' := [(5, .int v74), (4, .int v73), (6, .int v52), (0, .ref (md 64)), (1, .int a), (2, .int i), (3, .int n)]) hx hb dX11_holds_151 hl (k := 6) rfl (by rw [ev74]; rfl) (by decide) rfl (fun ls hl => ?_)
                  refine lv_goto (tgt := 81) hx hb dX11_holds_154 (by decide) ?_
                  have clk9 := i_cl (x := v74) (by omega)
                  have ek9 : v74.toNatClampNeg = q81_5.toNatClampNeg + 1 := by omega
                  exact ih43 (v73, v74, ho_64, hc_65, hp_66, hs_67, hn_63) ls H locs ⟨(by omega), (by omega), (by omega), (by omega), (by omega), (by omega), (by assumption), (by rw [ek9]; exact hf9 _ (by first | (rw [if_pos (by omega)]; assumption) | (rw [if_neg (by omega)]; done) | (rw [if_neg (by omega)]; rw [ev73]; exact Int32.add_zero _))), lv_sub hl [3, 4, 5, 6, 1, 0] rfl, hP.sub [3, 0, 1, 2, 4, 5, 6, 7] rfl, hD.sub [3, 0, 1, 2, 4, 5, 6, 7] (by decide +kernel) rfl, hS⟩ (by show n.toInt - v74.toInt < _; omega)
          · skip
            have f75 := lc_leN ev32 c33
            refine lv_aload_n hx hb dX11_holds_69 rfl (lv_at hl 0 rfl) ?_
            refine lv_iconst (v := 2) hx hb dX11_holds_70 (by decide) ?_
            refine st_i (wr := [(aI cI (md 3) 8 ml), (aI cI (md 4) 8 mm), (aI cI (md 5) 480 mi), (aI cI (md 7) 40 ho), (aI cI (md 8) 40 hc), (aI cI (md 9) 40 hp), (aI cI (md 10) 40 hs)]) (va_runV (C := RX11) (As := [.int 2]) (rest := []) ⟨hx, hb, hml, hown, hts⟩ (ct_X11_found l D cI cY cJ cQ _ md sd 0 0 hn cn pn mq gn mln mnn ln mlt msz mcu mtk mfr mti mfa mfb an un lc td mtn (2 : Int32)) (cwV 1 hts gX11_holds_X11_found rfl rfl rfl ⟨rfl, cdX11_found⟩ ⟨Nat.le_of_ble_eq_true rfl, Nat.le_of_ble_eq_true rfl⟩) (cPreV (hP.sub [0] rfl) hK (hD.sub [0] (by decide +kernel) rfl) hN (ci := 11) (q0 := 0) rfl rfl) rfl rfl hl.1 rfl (lv_room (Nat.le_of_ble_eq_true rfl)) dX11_holds_71 ⟨Nat.le_of_ble_eq_true rfl, Nat.le_of_ble_eq_true rfl⟩) hP hD hS hA [0] [1, 2, 3, 4, 5, 6, 7] rfl rfl (by decide +kernel) (by decide +kernel) (fun r78 u76 H locs hw77 => ?_)
            clear hP hD hS
            intro hP hD hS
            replace hw77 : r78 = (-1000010) - (2 : Int32) := hw77
            replace hP : va_P D vwCl [(aI cI (md 3) 8 ml), (aI cI (md 4) 8 mm), (aI cI (md 5) 480 mi), (aI cI (md 7) 40 ho), (aI cI (md 8) 40 hc), (aI cI (md 9) 40 hp), (aI cI (md 10) 40 hs), (moC md sd (0) (2 : Int32) hn cn pn mq gn mln mnn ln mlt msz mcu mtk mfr mti mfa mfb an un lc td mtn)] H := hP
            replace hD : va_D A [(aI cI (md 3) 8 ml), (aI cI (md 4) 8 mm), (aI cI (md 5) 480 mi), (aI cI (md 7) 40 ho), (aI cI (md 8) 40 hc), (aI cI (md 9) 40 hp), (aI cI (md 10) 40 hs), (moC md sd (0) (2 : Int32) hn cn pn mq gn mln mnn ln mlt msz mcu mtk mfr mti mfa mfb an un lc td mtn)] := hD
            subst hw77
            have hP9 := hP.sub (ws' := [(moC md sd (0) (2 : Int32) hn cn pn mq gn mln mnn ln mlt msz mcu mtk mfr mti mfa mfb an un lc td mtn), (aI cI (md 3) 8 ml), (aI cI (md 4) 8 mm), (aI cI (md 5) 480 mi), (aI cI (md 7) 40 ho), (aI cI (md 8) 40 hc), (aI cI (md 9) 40 hp), (aI cI (md 10) 40 hs)]) [7, 0, 1, 2, 3, 4, 5, 6] rfl
            have hD9 := hD.sub (ws' := [(moC md sd (0) (2 : Int32) hn cn pn mq gn mln mnn ln mlt msz mcu mtk mfr mti mfa mfb an un lc td mtn), (aI cI (md 3) 8 ml), (aI cI (md 4) 8 mm), (aI cI (md 5) 480 mi), (aI cI (md 7) 40 ho), (aI cI (md 8) 40 hc), (aI cI (md 9) 40 hp), (aI cI (md 10) 40 hs)]) [7, 0, 1, 2, 3, 4, 5, 6] (by decide +kernel) rfl
            exact W.iret (v := (-1000010) - (2 : Int32)) hx hb hr (fun t ht hW => ⟨⟨(-1000010) - (2 : Int32), ((2 : Int32), hn, ho, hc, hp, hs), rfl, ⟨(by unfold sm_holds; (repeat' split) <;> first | (exfalso; omega) | rfl), by omega, by omega, by assumption⟩, by rw [ht]; exact hP9, va_K.moved hW.alike hK, hD9⟩, hS.F ht⟩) hS.2.2 dX11_holds_74
      · skip
        have f79 := i_nle c15
        refine lv_aload_n hx hb dX11_holds_41 rfl (lv_at hl 0 rfl) ?_
        refine lv_iconst (v := 1) hx hb dX11_holds_42 (by decide) ?_
        refine st_i (wr := [(aI cI (md 3) 8 ml), (aI cI (md 4) 8 mm), (aI cI (md 5) 480 mi), (aI cI (md 7) 40 ho), (aI cI (md 8) 40 hc), (aI cI (md 9) 40 hp), (aI cI (md 10) 40 hs)]) (va_runV (C := RX11) (As := [.int 1]) (rest := []) ⟨hx, hb, hml, hown, hts⟩ (ct_X11_found l D cI cY cJ cQ _ md sd 0 0 hn cn pn mq gn mln mnn ln mlt msz mcu mtk mfr mti mfa mfb an un lc td mtn (1 : Int32)) (cwV 1 hts gX11_holds_X11_found rfl rfl rfl ⟨rfl, cdX11_found⟩ ⟨Nat.le_of_ble_eq_true rfl, Nat.le_of_ble_eq_true rfl⟩) (cPreV (hP.sub [0] rfl) hK (hD.sub [0] (by decide +kernel) rfl) hN (ci := 11) (q0 := 0) rfl rfl) rfl rfl hl.1 rfl (lv_room (Nat.le_of_ble_eq_true rfl)) dX11_holds_43 ⟨Nat.le_of_ble_eq_true rfl, Nat.le_of_ble_eq_true rfl⟩) hP hD hS hA [0] [1, 2, 3, 4, 5, 6, 7] rfl rfl (by decide +kernel) (by decide +kernel) (fun r82 u80 H locs hw81 => ?_)
        clear hP hD hS
        intro hP hD hS
        replace hw81 : r82 = (-1000010) - (1 : Int32) := hw81
        replace hP : va_P D vwCl [(aI cI (md 3) 8 ml), (aI cI (md 4) 8 mm), (aI cI (md 5) 480 mi), (aI cI (md 7) 40 ho), (aI cI (md 8) 40 hc), (aI cI (md 9) 40 hp), (aI cI (md 10) 40 hs), (moC md sd (0) (1 : Int32) hn cn pn mq gn mln mnn ln mlt msz mcu mtk mfr mti mfa mfb an un lc td mtn)] H := hP
        replace hD : va_D A [(aI cI (md 3) 8 ml), (aI cI (md 4) 8 mm), (aI cI (md 5) 480 mi), (aI cI (md 7) 40 ho), (aI cI (md 8) 40 hc), (aI cI (md 9) 40 hp), (aI cI (md 10) 40 hs), (moC md sd (0) (1 : Int32) hn cn pn mq gn mln mnn ln mlt msz mcu mtk mfr mti mfa mfb an un lc td mtn)] := hD
        subst hw81
        have hP9 := hP.sub (ws' := [(moC md sd (0) (1 : Int32) hn cn pn mq gn mln mnn ln mlt msz mcu mtk mfr mti mfa mfb an un lc td mtn), (aI cI (md 3) 8 ml), (aI cI (md 4) 8 mm), (aI cI (md 5) 480 mi), (aI cI (md 7) 40 ho), (aI cI (md 8) 40 hc), (aI cI (md 9) 40 hp), (aI cI (md 10) 40 hs)]) [7, 0, 1, 2, 3, 4, 5, 6] rfl
        have hD9 := hD.sub (ws' := [(moC md sd (0) (1 : Int32) hn cn pn mq gn mln mnn ln mlt msz mcu mtk mfr mti mfa mfb an un lc td mtn), (aI cI (md 3) 8 ml), (aI cI (md 4) 8 mm), (aI cI (md 5) 480 mi), (aI cI (md 7) 40 ho), (aI cI (md 8) 40 hc), (aI cI (md 9) 40 hp), (aI cI (md 10) 40 hs)]) [7, 0, 1, 2, 3, 4, 5, 6] (by decide +kernel) rfl
        exact W.iret (v := (-1000010) - (1 : Int32)) hx hb hr (fun t ht hW => ⟨⟨(-1000010) - (1 : Int32), ((1 : Int32), hn, ho, hc, hp, hs), rfl, ⟨(by unfold sm_holds; (repeat' split) <;> first | (exfalso; omega) | rfl), by omega, by omega, by assumption⟩, by rw [ht]; exact hP9, va_K.moved hW.alike hK, hD9⟩, hS.F ht⟩) hS.2.2 dX11_holds_46
    · skip
      have f83 := bo_f hw10 c12
      refine lv_ldc hx hb hown (hts (Cond.constant RX11 157 (-1000001)) (wm_t (wm_l (wm_i 2 rfl)))) dX11_holds_24 ?_
      have hP9 := hP
      have hD9 := hD
      exact W.iret (v := (-1000001)) hx hb hr (fun t ht hW => ⟨⟨(-1000001), (mst, hn, ho, hc, hp, hs), rfl, ⟨(by unfold sm_holds; (repeat' split) <;> first | (exfalso; omega) | rfl), by omega, by omega, by assumption⟩, by rw [ht]; exact hP9, va_K.moved hW.alike hK, hD9⟩, hS.F ht⟩) hS.2.2 dX11_holds_26
