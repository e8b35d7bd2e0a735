theorem Gd_X110 : gdA wsX110 := gd_all (by decide +kernel)
theorem cdX11_isOwner : yX11_isOwner.cls ≠ "java/lang/invoke/MethodHandle" ∧ yX11_isOwner.cls ≠ "java/lang/invoke/VarHandle" ∧ (parseMethodDescriptor yX11_isOwner.desc).map (fun d => d.parameters.length) = some 1 := by decide +kernel
theorem cdX11_isPerson : yX11_isPerson.cls ≠ "java/lang/invoke/MethodHandle" ∧ yX11_isPerson.cls ≠ "java/lang/invoke/VarHandle" ∧ (parseMethodDescriptor yX11_isPerson.desc).map (fun d => d.parameters.length) = some 1 := by decide +kernel
theorem cdX11_isCompany : yX11_isCompany.cls ≠ "java/lang/invoke/MethodHandle" ∧ yX11_isCompany.cls ≠ "java/lang/invoke/VarHandle" ∧ (parseMethodDescriptor yX11_isCompany.desc).map (fun d => d.parameters.length) = some 1 := by decide +kernel
theorem cdX11_holding : yX11_holding.cls ≠ "java/lang/invoke/MethodHandle" ∧ yX11_holding.cls ≠ "java/lang/invoke/VarHandle" ∧ (parseMethodDescriptor yX11_holding.desc).map (fun d => d.parameters.length) = some 4 := by decide +kernel
theorem cdX11_isCrate : yX11_isCrate.cls ≠ "java/lang/invoke/MethodHandle" ∧ yX11_isCrate.cls ≠ "java/lang/invoke/VarHandle" ∧ (parseMethodDescriptor yX11_isCrate.desc).map (fun d => d.parameters.length) = some 1 := by decide +kernel
theorem Gd_X11_isOwner : gdA wsX11_isOwner := gd_cons (by decide +kernel) (gd_app (gd_all (ws := wsX11_isOwner_o1) (by decide +kernel)) Gd_X11_in)
theorem Gd_X11_isPerson : gdA wsX11_isPerson := gd_cons (by decide +kernel) (gd_app (gd_all (ws := wsX11_isPerson_o1) (by decide +kernel)) Gd_X11_in)
theorem Gd_X11_isCompany : gdA wsX11_isCompany := gd_cons (by decide +kernel) (gd_app (gd_all (ws := wsX11_isCompany_o1) (by decide +kernel)) Gd_X11_in)
theorem Gd_X11_holding : gdA wsX11_holding := gd_cons (by decide +kernel) (gd_app (gd_all (ws := wsX11_holding_o1) (by decide +kernel)) (gd_app (gd_app (gd_app Gd_X110 Gd_X11_isOwner) Gd_X11_isCompany) (gd_app Gd_X11_in Gd_X11_isDay)))
theorem inX11_holding_X11 : ∀ w ∈ u_ws RX11 TX11 64, w ∈ wsX11_holding := fun _ h => (List.mem_cons_of_mem _ (List.mem_append_right _ (List.mem_append_left _ (List.mem_append_left _ (List.mem_append_left _ h)))))
theorem inX11_hold_X11 : ∀ w ∈ u_ws RX11 TX11 64, w ∈ wsX11_hold := fun _ h => (List.mem_cons_of_mem _ (List.mem_append_right _ (List.mem_append_left _ h)))
theorem Gd_X11_isCrate : gdA wsX11_isCrate := gd_cons (by decide +kernel) (gd_app (gd_all (ws := wsX11_isCrate_o1) (by decide +kernel)) (gd_app Gd_X110 Gd_X11_in))
theorem inX11_crate_X11 : ∀ w ∈ u_ws RX11 TX11 64, w ∈ wsX11_crate := fun _ h => (List.mem_cons_of_mem _ (List.mem_append_right _ (List.mem_append_left _ (List.mem_append_left _ h))))
theorem inX11_paper_X11 : ∀ w ∈ u_ws RX11 TX11 64, w ∈ wsX11_paper := fun _ h => (List.mem_cons_of_mem _ (List.mem_append_right _ (List.mem_append_left _ (List.mem_append_left _ (List.mem_append_left _ h)))))
theorem inX11_pledge_X11 : ∀ w ∈ u_ws RX11 TX11 64, w ∈ wsX11_pledge := fun _ h => (List.mem_cons_of_mem _ (List.mem_append_right _ (List.mem_append_left _ (List.mem_append_left _ (List.mem_append_left _ h)))))
theorem inX11_act_X11 : ∀ w ∈ u_ws RX11 TX11 64, w ∈ wsX11_act := fun _ h => (List.mem_cons_of_mem _ (List.mem_append_right _ (List.mem_append_left _ (List.mem_append_left _ h))))
theorem inX11_opened_X11 : ∀ w ∈ u_ws RX11 TX11 64, w ∈ wsX11_opened := fun _ h => (List.mem_cons_of_mem _ (List.mem_append_right _ (List.mem_append_left _ (List.mem_append_left _ h))))
theorem inX11_list_X11 : ∀ w ∈ u_ws RX11 TX11 64, w ∈ wsX11_list := fun _ h => (List.mem_cons_of_mem _ (List.mem_append_right _ (List.mem_append_left _ (List.mem_append_left _ h))))
theorem ggX11_holding_X11_isOwner : GoodIn wsX11_holding wsX11_isOwner := goodIn_s (fun _ h => wm_t (wm_r (wm_l (wm_l (wm_r h))))) Gd_X11_isOwner
theorem gX11_holding_X11_isOwner : GoodIn wsX11_holding (va_wsS RX11 170 yX11_isOwner wsX11_isOwner) := goodIn_S (own := RX11) (idx := 170) (y := yX11_isOwner) (wm_t (wm_l (wm_i 8 rfl))) (wm_t (wm_l (wm_i 9 rfl))) (wm_t (wm_l (wm_i 10 rfl))) ggX11_holding_X11_isOwner
theorem ggX11_holding_X11_isCompany : GoodIn wsX11_holding wsX11_isCompany := goodIn_s (fun _ h => wm_t (wm_r (wm_l (wm_r h)))) Gd_X11_isCompany
theorem gX11_holding_X11_isCompany : GoodIn wsX11_holding (va_wsS RX11 173 yX11_isCompany wsX11_isCompany) := goodIn_S (own := RX11) (idx := 173) (y := yX11_isCompany) (wm_t (wm_l (wm_i 13 rfl))) (wm_t (wm_l (wm_i 14 rfl))) (wm_t (wm_l (wm_i 10 rfl))) ggX11_holding_X11_isCompany
theorem ggX11_holding_X11_in : GoodIn wsX11_holding wsX11_in := goodIn_s (fun _ h => wm_t (wm_r (wm_r (wm_l h)))) Gd_X11_in
theorem gX11_holding_X11_in : GoodIn wsX11_holding (va_wsS RX11 147 yX11_in wsX11_in) := goodIn_S (own := RX11) (idx := 147) (y := yX11_in) (wm_t (wm_l (wm_i 11 rfl))) (wm_t (wm_l (wm_i 12 rfl))) (wm_t (wm_l (wm_i 10 rfl))) ggX11_holding_X11_in
theorem ggX11_holding_X11_isDay : GoodIn wsX11_holding wsX11_isDay := goodIn_s (fun _ h => wm_t (wm_r (wm_r (wm_r h)))) Gd_X11_isDay
theorem gX11_holding_X11_isDay : GoodIn wsX11_holding (va_wsS RX11 178 yX11_isDay wsX11_isDay) := goodIn_S (own := RX11) (idx := 178) (y := yX11_isDay) (wm_t (wm_l (wm_i 15 rfl))) (wm_t (wm_l (wm_i 16 rfl))) (wm_t (wm_l (wm_i 10 rfl))) ggX11_holding_X11_isDay
theorem dX11_holding_all0 : decode cX11_holding 0 = .ok (.iload_n 1, 1) ∧ decode cX11_holding 1 = .ok (.invokestatic 170, 3) ∧ decode cX11_holding 4 = .ok (.ifCond .eq 35, 3) ∧ decode cX11_holding 7 = .ok (.iload_n 2, 1) ∧ decode cX11_holding 8 = .ok (.invokestatic 173, 3) ∧ decode cX11_holding 11 = .ok (.ifCond .eq 28, 3) ∧ decode cX11_holding 14 = .ok (.iload_n 1, 1) ∧ decode cX11_holding 15 = .ok (.iload_n 2, 1) ∧ decode cX11_holding 16 = .ok (.if_icmp .eq 23, 3) ∧ decode cX11_holding 19 = .ok (.iload_n 3, 1) ∧ decode cX11_holding 20 = .ok (.i2l, 1) ∧ decode cX11_holding 21 = .ok (.lconst 0, 1) := by decide +kernel
theorem dX11_holding_0 : decode cX11_holding 0 = .ok (.iload_n 1, 1) := dX11_holding_all0.1
theorem dX11_holding_1 : decode cX11_holding 1 = .ok (.invokestatic 170, 3) := dX11_holding_all0.2.1
theorem dX11_holding_4 : decode cX11_holding 4 = .ok (.ifCond .eq 35, 3) := dX11_holding_all0.2.2.1
theorem dX11_holding_7 : decode cX11_holding 7 = .ok (.iload_n 2, 1) := dX11_holding_all0.2.2.2.1
theorem dX11_holding_8 : decode cX11_holding 8 = .ok (.invokestatic 173, 3) := dX11_holding_all0.2.2.2.2.1
theorem dX11_holding_11 : decode cX11_holding 11 = .ok (.ifCond .eq 28, 3) := dX11_holding_all0.2.2.2.2.2.1
theorem dX11_holding_14 : decode cX11_holding 14 = .ok (.iload_n 1, 1) := dX11_holding_all0.2.2.2.2.2.2.1
theorem dX11_holding_15 : decode cX11_holding 15 = .ok (.iload_n 2, 1) := dX11_holding_all0.2.2.2.2.2.2.2.1
theorem dX11_holding_16 : decode cX11_holding 16 = .ok (.if_icmp .eq 23, 3) := dX11_holding_all0.2.2.2.2.2.2.2.2.1
theorem dX11_holding_19 : decode cX11_holding 19 = .ok (.iload_n 3, 1) := dX11_holding_all0.2.2.2.2.2.2.2.2.2.1
theorem dX11_holding_20 : decode cX11_holding 20 = .ok (.i2l, 1) := dX11_holding_all0.2.2.2.2.2.2.2.2.2.2.1
theorem dX11_holding_21 : decode cX11_holding 21 = .ok (.lconst 0, 1) := dX11_holding_all0.2.2.2.2.2.2.2.2.2.2.2
theorem dX11_holding_all1 : decode cX11_holding 22 = .ok (.ldc2_w 176, 3) ∧ decode cX11_holding 25 = .ok (.invokestatic 147, 3) ∧ decode cX11_holding 28 = .ok (.ifCond .eq 11, 3) ∧ decode cX11_holding 31 = .ok (.iload 4, 2) ∧ decode cX11_holding 33 = .ok (.invokestatic 178, 3) ∧ decode cX11_holding 36 = .ok (.ifCond .ne 6, 3) ∧ decode cX11_holding 39 = .ok (.ldc 157, 2) ∧ decode cX11_holding 41 = .ok (.ireturn, 1) ∧ decode cX11_holding 42 = .ok (.aload_n 0, 1) ∧ decode cX11_holding 43 = .ok (.getfield 181, 3) ∧ decode cX11_holding 46 = .ok (.bipush 40, 2) ∧ decode cX11_holding 48 = .ok (.if_icmp .ne 6, 3) := by decide +kernel
theorem dX11_holding_22 : decode cX11_holding 22 = .ok (.ldc2_w 176, 3) := dX11_holding_all1.1
theorem dX11_holding_25 : decode cX11_holding 25 = .ok (.invokestatic 147, 3) := dX11_holding_all1.2.1
theorem dX11_holding_28 : decode cX11_holding 28 = .ok (.ifCond .eq 11, 3) := dX11_holding_all1.2.2.1
theorem dX11_holding_31 : decode cX11_holding 31 = .ok (.iload 4, 2) := dX11_holding_all1.2.2.2.1
theorem dX11_holding_33 : decode cX11_holding 33 = .ok (.invokestatic 178, 3) := dX11_holding_all1.2.2.2.2.1
theorem dX11_holding_36 : decode cX11_holding 36 = .ok (.ifCond .ne 6, 3) := dX11_holding_all1.2.2.2.2.2.1
theorem dX11_holding_39 : decode cX11_holding 39 = .ok (.ldc 157, 2) := dX11_holding_all1.2.2.2.2.2.2.1
theorem dX11_holding_41 : decode cX11_holding 41 = .ok (.ireturn, 1) := dX11_holding_all1.2.2.2.2.2.2.2.1
theorem dX11_holding_42 : decode cX11_holding 42 = .ok (.aload_n 0, 1) := dX11_holding_all1.2.2.2.2.2.2.2.2.1
theorem dX11_holding_43 : decode cX11_holding 43 = .ok (.getfield 181, 3) := dX11_holding_all1.2.2.2.2.2.2.2.2.2.1
theorem dX11_holding_46 : decode cX11_holding 46 = .ok (.bipush 40, 2) := dX11_holding_all1.2.2.2.2.2.2.2.2.2.2.1
theorem dX11_holding_48 : decode cX11_holding 48 = .ok (.if_icmp .ne 6, 3) := dX11_holding_all1.2.2.2.2.2.2.2.2.2.2.2
theorem dX11_holding_all2 : decode cX11_holding 51 = .ok (.ldc 184, 2) ∧ decode cX11_holding 53 = .ok (.ireturn, 1) ∧ decode cX11_holding 54 = .ok (.aload_n 0, 1) ∧ decode cX11_holding 55 = .ok (.getfield 23, 3) ∧ decode cX11_holding 58 = .ok (.aload_n 0, 1) ∧ decode cX11_holding 59 = .ok (.getfield 181, 3) ∧ decode cX11_holding 62 = .ok (.iload_n 1, 1) ∧ decode cX11_holding 63 = .ok (.iastore, 1) ∧ decode cX11_holding 64 = .ok (.aload_n 0, 1) ∧ decode cX11_holding 65 = .ok (.getfield 26, 3) ∧ decode cX11_holding 68 = .ok (.aload_n 0, 1) ∧ decode cX11_holding 69 = .ok (.getfield 181, 3) := by decide +kernel
theorem dX11_holding_51 : decode cX11_holding 51 = .ok (.ldc 184, 2) := dX11_holding_all2.1
theorem dX11_holding_53 : decode cX11_holding 53 = .ok (.ireturn, 1) := dX11_holding_all2.2.1
theorem dX11_holding_54 : decode cX11_holding 54 = .ok (.aload_n 0, 1) := dX11_holding_all2.2.2.1
theorem dX11_holding_55 : decode cX11_holding 55 = .ok (.getfield 23, 3) := dX11_holding_all2.2.2.2.1
theorem dX11_holding_58 : decode cX11_holding 58 = .ok (.aload_n 0, 1) := dX11_holding_all2.2.2.2.2.1
theorem dX11_holding_59 : decode cX11_holding 59 = .ok (.getfield 181, 3) := dX11_holding_all2.2.2.2.2.2.1
theorem dX11_holding_62 : decode cX11_holding 62 = .ok (.iload_n 1, 1) := dX11_holding_all2.2.2.2.2.2.2.1
theorem dX11_holding_63 : decode cX11_holding 63 = .ok (.iastore, 1) := dX11_holding_all2.2.2.2.2.2.2.2.1
theorem dX11_holding_64 : decode cX11_holding 64 = .ok (.aload_n 0, 1) := dX11_holding_all2.2.2.2.2.2.2.2.2.1
theorem dX11_holding_65 : decode cX11_holding 65 = .ok (.getfield 26, 3) := dX11_holding_all2.2.2.2.2.2.2.2.2.2.1
theorem dX11_holding_68 : decode cX11_holding 68 = .ok (.aload_n 0, 1) := dX11_holding_all2.2.2.2.2.2.2.2.2.2.2.1
theorem dX11_holding_69 : decode cX11_holding 69 = .ok (.getfield 181, 3) := dX11_holding_all2.2.2.2.2.2.2.2.2.2.2.2
theorem dX11_holding_all3 : decode cX11_holding 72 = .ok (.iload_n 2, 1) ∧ decode cX11_holding 73 = .ok (.iastore, 1) ∧ decode cX11_holding 74 = .ok (.aload_n 0, 1) ∧ decode cX11_holding 75 = .ok (.getfield 29, 3) ∧ decode cX11_holding 78 = .ok (.aload_n 0, 1) ∧ decode cX11_holding 79 = .ok (.getfield 181, 3) ∧ decode cX11_holding 82 = .ok (.iload_n 3, 1) ∧ decode cX11_holding 83 = .ok (.iastore, 1) ∧ decode cX11_holding 84 = .ok (.aload_n 0, 1) ∧ decode cX11_holding 85 = .ok (.getfield 32, 3) ∧ decode cX11_holding 88 = .ok (.aload_n 0, 1) ∧ decode cX11_holding 89 = .ok (.getfield 181, 3) := by decide +kernel
theorem dX11_holding_72 : decode cX11_holding 72 = .ok (.iload_n 2, 1) := dX11_holding_all3.1
theorem dX11_holding_73 : decode cX11_holding 73 = .ok (.iastore, 1) := dX11_holding_all3.2.1
theorem dX11_holding_74 : decode cX11_holding 74 = .ok (.aload_n 0, 1) := dX11_holding_all3.2.2.1
theorem dX11_holding_75 : decode cX11_holding 75 = .ok (.getfield 29, 3) := dX11_holding_all3.2.2.2.1
theorem dX11_holding_78 : decode cX11_holding 78 = .ok (.aload_n 0, 1) := dX11_holding_all3.2.2.2.2.1
theorem dX11_holding_79 : decode cX11_holding 79 = .ok (.getfield 181, 3) := dX11_holding_all3.2.2.2.2.2.1
theorem dX11_holding_82 : decode cX11_holding 82 = .ok (.iload_n 3, 1) := dX11_holding_all3.2.2.2.2.2.2.1
theorem dX11_holding_83 : decode cX11_holding 83 = .ok (.iastore, 1) := dX11_holding_all3.2.2.2.2.2.2.2.1
theorem dX11_holding_84 : decode cX11_holding 84 = .ok (.aload_n 0, 1) := dX11_holding_all3.2.2.2.2.2.2.2.2.1
theorem dX11_holding_85 : decode cX11_holding 85 = .ok (.getfield 32, 3) := dX11_holding_all3.2.2.2.2.2.2.2.2.2.1
theorem dX11_holding_88 : decode cX11_holding 88 = .ok (.aload_n 0, 1) := dX11_holding_all3.2.2.2.2.2.2.2.2.2.2.1
theorem dX11_holding_89 : decode cX11_holding 89 = .ok (.getfield 181, 3) := dX11_holding_all3.2.2.2.2.2.2.2.2.2.2.2
theorem dX11_holding_all4 : decode cX11_holding 92 = .ok (.iload 4, 2) ∧ decode cX11_holding 94 = .ok (.iastore, 1) ∧ decode cX11_holding 95 = .ok (.aload_n 0, 1) ∧ decode cX11_holding 96 = .ok (.dup, 1) ∧ decode cX11_holding 97 = .ok (.getfield 181, 3) ∧ decode cX11_holding 100 = .ok (.iconst 1, 1) ∧ decode cX11_holding 101 = .ok (.iadd, 1) ∧ decode cX11_holding 102 = .ok (.putfield 181, 3) ∧ decode cX11_holding 105 = .ok (.aload_n 0, 1) ∧ decode cX11_holding 106 = .ok (.getfield 181, 3) ∧ decode cX11_holding 109 = .ok (.ireturn, 1) := by decide +kernel
theorem dX11_holding_92 : decode cX11_holding 92 = .ok (.iload 4, 2) := dX11_holding_all4.1
theorem dX11_holding_94 : decode cX11_holding 94 = .ok (.iastore, 1) := dX11_holding_all4.2.1
theorem dX11_holding_95 : decode cX11_holding 95 = .ok (.aload_n 0, 1) := dX11_holding_all4.2.2.1
theorem dX11_holding_96 : decode cX11_holding 96 = .ok (.dup, 1) := dX11_holding_all4.2.2.2.1
theorem dX11_holding_97 : decode cX11_holding 97 = .ok (.getfield 181, 3) := dX11_holding_all4.2.2.2.2.1
theorem dX11_holding_100 : decode cX11_holding 100 = .ok (.iconst 1, 1) := dX11_holding_all4.2.2.2.2.2.1
theorem dX11_holding_101 : decode cX11_holding 101 = .ok (.iadd, 1) := dX11_holding_all4.2.2.2.2.2.2.1
theorem dX11_holding_102 : decode cX11_holding 102 = .ok (.putfield 181, 3) := dX11_holding_all4.2.2.2.2.2.2.2.1
theorem dX11_holding_105 : decode cX11_holding 105 = .ok (.aload_n 0, 1) := dX11_holding_all4.2.2.2.2.2.2.2.2.1
theorem dX11_holding_106 : decode cX11_holding 106 = .ok (.getfield 181, 3) := dX11_holding_all4.2.2.2.2.2.2.2.2.2.1
theorem dX11_holding_109 : decode cX11_holding 109 = .ok (.ireturn, 1) := dX11_holding_all4.2.2.2.2.2.2.2.2.2.2
theorem ggX11_hold_X11_holding : GoodIn wsX11_hold wsX11_holding := goodIn_s (fun _ h => wm_t (wm_r (wm_r h))) Gd_X11_holding
theorem gX11_hold_X11_holding : GoodIn wsX11_hold (wsV RX11 185 RX11 yX11_holding wsX11_holding) := goodIn_V (own := RX11) (idx := 185) (C := RX11) (y := yX11_holding) (wm_t (wm_l (wm_i 1 rfl))) (wm_t (wm_l (wm_i 2 rfl))) (wm_t (wm_l (wm_i 3 rfl))) (wm_t (wm_l (wm_i 4 rfl))) ggX11_hold_X11_holding
theorem dX11_hold_all0 : decode cX11_hold 0 = .ok (.aload_n 0, 1) ∧ decode cX11_hold 1 = .ok (.iconst 0, 1) ∧ decode cX11_hold 2 = .ok (.putfield 1, 3) ∧ decode cX11_hold 5 = .ok (.aload_n 0, 1) ∧ decode cX11_hold 6 = .ok (.iload_n 1, 1) ∧ decode cX11_hold 7 = .ok (.iload_n 2, 1) ∧ decode cX11_hold 8 = .ok (.iload_n 3, 1) ∧ decode cX11_hold 9 = .ok (.iload 4, 2) ∧ decode cX11_hold 11 = .ok (.invokevirtual 185, 3) ∧ decode cX11_hold 14 = .ok (.ireturn, 1) := by decide +kernel
theorem dX11_hold_0 : decode cX11_hold 0 = .ok (.aload_n 0, 1) := dX11_hold_all0.1
theorem dX11_hold_1 : decode cX11_hold 1 = .ok (.iconst 0, 1) := dX11_hold_all0.2.1
theorem dX11_hold_2 : decode cX11_hold 2 = .ok (.putfield 1, 3) := dX11_hold_all0.2.2.1
theorem dX11_hold_5 : decode cX11_hold 5 = .ok (.aload_n 0, 1) := dX11_hold_all0.2.2.2.1
theorem dX11_hold_6 : decode cX11_hold 6 = .ok (.iload_n 1, 1) := dX11_hold_all0.2.2.2.2.1
theorem dX11_hold_7 : decode cX11_hold 7 = .ok (.iload_n 2, 1) := dX11_hold_all0.2.2.2.2.2.1
theorem dX11_hold_8 : decode cX11_hold 8 = .ok (.iload_n 3, 1) := dX11_hold_all0.2.2.2.2.2.2.1
theorem dX11_hold_9 : decode cX11_hold 9 = .ok (.iload 4, 2) := dX11_hold_all0.2.2.2.2.2.2.2.1
theorem dX11_hold_11 : decode cX11_hold 11 = .ok (.invokevirtual 185, 3) := dX11_hold_all0.2.2.2.2.2.2.2.2.1
theorem dX11_hold_14 : decode cX11_hold 14 = .ok (.ireturn, 1) := dX11_hold_all0.2.2.2.2.2.2.2.2.2
theorem ggX11_crate_X11_isOwner : GoodIn wsX11_crate wsX11_isOwner := goodIn_s (fun _ h => wm_t (wm_r (wm_l (wm_r h)))) Gd_X11_isOwner
theorem gX11_crate_X11_isOwner : GoodIn wsX11_crate (va_wsS RX11 170 yX11_isOwner wsX11_isOwner) := goodIn_S (own := RX11) (idx := 170) (y := yX11_isOwner) (wm_t (wm_l (wm_i 7 rfl))) (wm_t (wm_l (wm_i 8 rfl))) (wm_t (wm_l (wm_i 9 rfl))) ggX11_crate_X11_isOwner
theorem ggX11_crate_X11_in : GoodIn wsX11_crate wsX11_in := goodIn_s (fun _ h => wm_t (wm_r (wm_r h))) Gd_X11_in
theorem gX11_crate_X11_in : GoodIn wsX11_crate (va_wsS RX11 147 yX11_in wsX11_in) := goodIn_S (own := RX11) (idx := 147) (y := yX11_in) (wm_t (wm_l (wm_i 10 rfl))) (wm_t (wm_l (wm_i 11 rfl))) (wm_t (wm_l (wm_i 9 rfl))) ggX11_crate_X11_in
theorem dX11_crate_all0 : decode cX11_crate 0 = .ok (.aload_n 0, 1) ∧ decode cX11_crate 1 = .ok (.iconst 0, 1) ∧ decode cX11_crate 2 = .ok (.putfield 1, 3) ∧ decode cX11_crate 5 = .ok (.iload_n 1, 1) ∧ decode cX11_crate 6 = .ok (.invokestatic 170, 3) ∧ decode cX11_crate 9 = .ok (.ifCond .eq 15, 3) ∧ decode cX11_crate 12 = .ok (.iload_n 2, 1) ∧ decode cX11_crate 13 = .ok (.i2l, 1) ∧ decode cX11_crate 14 = .ok (.lconst 1, 1) ∧ decode cX11_crate 15 = .ok (.ldc2_w 217, 3) ∧ decode cX11_crate 18 = .ok (.invokestatic 147, 3) ∧ decode cX11_crate 21 = .ok (.ifCond .ne 6, 3) := by decide +kernel
theorem dX11_crate_0 : decode cX11_crate 0 = .ok (.aload_n 0, 1) := dX11_crate_all0.1
theorem dX11_crate_1 : decode cX11_crate 1 = .ok (.iconst 0, 1) := dX11_crate_all0.2.1
theorem dX11_crate_2 : decode cX11_crate 2 = .ok (.putfield 1, 3) := dX11_crate_all0.2.2.1
theorem dX11_crate_5 : decode cX11_crate 5 = .ok (.iload_n 1, 1) := dX11_crate_all0.2.2.2.1
theorem dX11_crate_6 : decode cX11_crate 6 = .ok (.invokestatic 170, 3) := dX11_crate_all0.2.2.2.2.1
theorem dX11_crate_9 : decode cX11_crate 9 = .ok (.ifCond .eq 15, 3) := dX11_crate_all0.2.2.2.2.2.1
theorem dX11_crate_12 : decode cX11_crate 12 = .ok (.iload_n 2, 1) := dX11_crate_all0.2.2.2.2.2.2.1
theorem dX11_crate_13 : decode cX11_crate 13 = .ok (.i2l, 1) := dX11_crate_all0.2.2.2.2.2.2.2.1
theorem dX11_crate_14 : decode cX11_crate 14 = .ok (.lconst 1, 1) := dX11_crate_all0.2.2.2.2.2.2.2.2.1
theorem dX11_crate_15 : decode cX11_crate 15 = .ok (.ldc2_w 217, 3) := dX11_crate_all0.2.2.2.2.2.2.2.2.2.1
theorem dX11_crate_18 : decode cX11_crate 18 = .ok (.invokestatic 147, 3) := dX11_crate_all0.2.2.2.2.2.2.2.2.2.2.1
theorem dX11_crate_21 : decode cX11_crate 21 = .ok (.ifCond .ne 6, 3) := dX11_crate_all0.2.2.2.2.2.2.2.2.2.2.2
theorem dX11_crate_all1 : decode cX11_crate 24 = .ok (.ldc 157, 2) ∧ decode cX11_crate 26 = .ok (.ireturn, 1) ∧ decode cX11_crate 27 = .ok (.aload_n 0, 1) ∧ decode cX11_crate 28 = .ok (.getfield 214, 3) ∧ decode cX11_crate 31 = .ok (.bipush 12, 2) ∧ decode cX11_crate 33 = .ok (.if_icmp .ne 6, 3) ∧ decode cX11_crate 36 = .ok (.ldc 184, 2) ∧ decode cX11_crate 38 = .ok (.ireturn, 1) ∧ decode cX11_crate 39 = .ok (.aload_n 0, 1) ∧ decode cX11_crate 40 = .ok (.getfield 48, 3) ∧ decode cX11_crate 43 = .ok (.aload_n 0, 1) ∧ decode cX11_crate 44 = .ok (.getfield 214, 3) := by decide +kernel
theorem dX11_crate_24 : decode cX11_crate 24 = .ok (.ldc 157, 2) := dX11_crate_all1.1
theorem dX11_crate_26 : decode cX11_crate 26 = .ok (.ireturn, 1) := dX11_crate_all1.2.1
theorem dX11_crate_27 : decode cX11_crate 27 = .ok (.aload_n 0, 1) := dX11_crate_all1.2.2.1
theorem dX11_crate_28 : decode cX11_crate 28 = .ok (.getfield 214, 3) := dX11_crate_all1.2.2.2.1
theorem dX11_crate_31 : decode cX11_crate 31 = .ok (.bipush 12, 2) := dX11_crate_all1.2.2.2.2.1
theorem dX11_crate_33 : decode cX11_crate 33 = .ok (.if_icmp .ne 6, 3) := dX11_crate_all1.2.2.2.2.2.1
theorem dX11_crate_36 : decode cX11_crate 36 = .ok (.ldc 184, 2) := dX11_crate_all1.2.2.2.2.2.2.1
theorem dX11_crate_38 : decode cX11_crate 38 = .ok (.ireturn, 1) := dX11_crate_all1.2.2.2.2.2.2.2.1
theorem dX11_crate_39 : decode cX11_crate 39 = .ok (.aload_n 0, 1) := dX11_crate_all1.2.2.2.2.2.2.2.2.1
theorem dX11_crate_40 : decode cX11_crate 40 = .ok (.getfield 48, 3) := dX11_crate_all1.2.2.2.2.2.2.2.2.2.1
theorem dX11_crate_43 : decode cX11_crate 43 = .ok (.aload_n 0, 1) := dX11_crate_all1.2.2.2.2.2.2.2.2.2.2.1
theorem dX11_crate_44 : decode cX11_crate 44 = .ok (.getfield 214, 3) := dX11_crate_all1.2.2.2.2.2.2.2.2.2.2.2
theorem dX11_crate_all2 : decode cX11_crate 47 = .ok (.iload_n 1, 1) ∧ decode cX11_crate 48 = .ok (.iastore, 1) ∧ decode cX11_crate 49 = .ok (.aload_n 0, 1) ∧ decode cX11_crate 50 = .ok (.getfield 51, 3) ∧ decode cX11_crate 53 = .ok (.aload_n 0, 1) ∧ decode cX11_crate 54 = .ok (.getfield 214, 3) ∧ decode cX11_crate 57 = .ok (.iload_n 2, 1) ∧ decode cX11_crate 58 = .ok (.iastore, 1) ∧ decode cX11_crate 59 = .ok (.aload_n 0, 1) ∧ decode cX11_crate 60 = .ok (.dup, 1) ∧ decode cX11_crate 61 = .ok (.getfield 214, 3) ∧ decode cX11_crate 64 = .ok (.iconst 1, 1) := by decide +kernel
theorem dX11_crate_47 : decode cX11_crate 47 = .ok (.iload_n 1, 1) := dX11_crate_all2.1
theorem dX11_crate_48 : decode cX11_crate 48 = .ok (.iastore, 1) := dX11_crate_all2.2.1
theorem dX11_crate_49 : decode cX11_crate 49 = .ok (.aload_n 0, 1) := dX11_crate_all2.2.2.1
theorem dX11_crate_50 : decode cX11_crate 50 = .ok (.getfield 51, 3) := dX11_crate_all2.2.2.2.1
theorem dX11_crate_53 : decode cX11_crate 53 = .ok (.aload_n 0, 1) := dX11_crate_all2.2.2.2.2.1
theorem dX11_crate_54 : decode cX11_crate 54 = .ok (.getfield 214, 3) := dX11_crate_all2.2.2.2.2.2.1
theorem dX11_crate_57 : decode cX11_crate 57 = .ok (.iload_n 2, 1) := dX11_crate_all2.2.2.2.2.2.2.1
theorem dX11_crate_58 : decode cX11_crate 58 = .ok (.iastore, 1) := dX11_crate_all2.2.2.2.2.2.2.2.1
theorem dX11_crate_59 : decode cX11_crate 59 = .ok (.aload_n 0, 1) := dX11_crate_all2.2.2.2.2.2.2.2.2.1
theorem dX11_crate_60 : decode cX11_crate 60 = .ok (.dup, 1) := dX11_crate_all2.2.2.2.2.2.2.2.2.2.1
theorem dX11_crate_61 : decode cX11_crate 61 = .ok (.getfield 214, 3) := dX11_crate_all2.2.2.2.2.2.2.2.2.2.2.1
theorem dX11_crate_64 : decode cX11_crate 64 = .ok (.iconst 1, 1) := dX11_crate_all2.2.2.2.2.2.2.2.2.2.2.2
theorem dX11_crate_all3 : decode cX11_crate 65 = .ok (.iadd, 1) ∧ decode cX11_crate 66 = .ok (.putfield 214, 3) ∧ decode cX11_crate 69 = .ok (.aload_n 0, 1) ∧ decode cX11_crate 70 = .ok (.getfield 214, 3) ∧ decode cX11_crate 73 = .ok (.iconst 1, 1) ∧ decode cX11_crate 74 = .ok (.isub, 1) ∧ decode cX11_crate 75 = .ok (.ireturn, 1) := by decide +kernel
theorem dX11_crate_65 : decode cX11_crate 65 = .ok (.iadd, 1) := dX11_crate_all3.1
theorem dX11_crate_66 : decode cX11_crate 66 = .ok (.putfield 214, 3) := dX11_crate_all3.2.1
theorem dX11_crate_69 : decode cX11_crate 69 = .ok (.aload_n 0, 1) := dX11_crate_all3.2.2.1
theorem dX11_crate_70 : decode cX11_crate 70 = .ok (.getfield 214, 3) := dX11_crate_all3.2.2.2.1
theorem dX11_crate_73 : decode cX11_crate 73 = .ok (.iconst 1, 1) := dX11_crate_all3.2.2.2.2.1
theorem dX11_crate_74 : decode cX11_crate 74 = .ok (.isub, 1) := dX11_crate_all3.2.2.2.2.2.1
theorem dX11_crate_75 : decode cX11_crate 75 = .ok (.ireturn, 1) := dX11_crate_all3.2.2.2.2.2.2
theorem ggX11_paper_X11_isCrate : GoodIn wsX11_paper wsX11_isCrate := goodIn_s (fun _ h => wm_t (wm_r (wm_l (wm_l (wm_r h))))) Gd_X11_isCrate
theorem gX11_paper_X11_isCrate : GoodIn wsX11_paper (wsV RX11 219 RX11 yX11_isCrate wsX11_isCrate) := goodIn_V (own := RX11) (idx := 219) (C := RX11) (y := yX11_isCrate) (wm_t (wm_l (wm_i 10 rfl))) (wm_t (wm_l (wm_i 11 rfl))) (wm_t (wm_l (wm_i 12 rfl))) (wm_t (wm_l (wm_i 13 rfl))) ggX11_paper_X11_isCrate
theorem ggX11_paper_X11_isOwner : GoodIn wsX11_paper wsX11_isOwner := goodIn_s (fun _ h => wm_t (wm_r (wm_l (wm_r h)))) Gd_X11_isOwner
theorem gX11_paper_X11_isOwner : GoodIn wsX11_paper (va_wsS RX11 170 yX11_isOwner wsX11_isOwner) := goodIn_S (own := RX11) (idx := 170) (y := yX11_isOwner) (wm_t (wm_l (wm_i 16 rfl))) (wm_t (wm_l (wm_i 17 rfl))) (wm_t (wm_l (wm_i 13 rfl))) ggX11_paper_X11_isOwner
theorem ggX11_paper_X11_isDay : GoodIn wsX11_paper wsX11_isDay := goodIn_s (fun _ h => wm_t (wm_r (wm_r (wm_l h)))) Gd_X11_isDay
theorem gX11_paper_X11_isDay : GoodIn wsX11_paper (va_wsS RX11 178 yX11_isDay wsX11_isDay) := goodIn_S (own := RX11) (idx := 178) (y := yX11_isDay) (wm_t (wm_l (wm_i 18 rfl))) (wm_t (wm_l (wm_i 19 rfl))) (wm_t (wm_l (wm_i 13 rfl))) ggX11_paper_X11_isDay
theorem ggX11_paper_X11_in : GoodIn wsX11_paper wsX11_in := goodIn_s (fun _ h => wm_t (wm_r (wm_r (wm_r h)))) Gd_X11_in
theorem gX11_paper_X11_in : GoodIn wsX11_paper (va_wsS RX11 147 yX11_in wsX11_in) := goodIn_S (own := RX11) (idx := 147) (y := yX11_in) (wm_t (wm_l (wm_i 14 rfl))) (wm_t (wm_l (wm_i 15 rfl))) (wm_t (wm_l (wm_i 13 rfl))) ggX11_paper_X11_in
theorem dX11_paper_all0 : decode cX11_paper 0 = .ok (.aload_n 0, 1) ∧ decode cX11_paper 1 = .ok (.iconst 0, 1) ∧ decode cX11_paper 2 = .ok (.putfield 1, 3) ∧ decode cX11_paper 5 = .ok (.aload_n 0, 1) ∧ decode cX11_paper 6 = .ok (.iload_n 1, 1) ∧ decode cX11_paper 7 = .ok (.invokevirtual 219, 3) ∧ decode cX11_paper 10 = .ok (.ifCond .eq 45, 3) ∧ decode cX11_paper 13 = .ok (.iload_n 2, 1) ∧ decode cX11_paper 14 = .ok (.invokestatic 170, 3) ∧ decode cX11_paper 17 = .ok (.ifCond .eq 38, 3) ∧ decode cX11_paper 20 = .ok (.iload_n 3, 1) ∧ decode cX11_paper 21 = .ok (.invokestatic 170, 3) := by decide +kernel
theorem dX11_paper_0 : decode cX11_paper 0 = .ok (.aload_n 0, 1) := dX11_paper_all0.1
theorem dX11_paper_1 : decode cX11_paper 1 = .ok (.iconst 0, 1) := dX11_paper_all0.2.1
theorem dX11_paper_2 : decode cX11_paper 2 = .ok (.putfield 1, 3) := dX11_paper_all0.2.2.1
theorem dX11_paper_5 : decode cX11_paper 5 = .ok (.aload_n 0, 1) := dX11_paper_all0.2.2.2.1
theorem dX11_paper_6 : decode cX11_paper 6 = .ok (.iload_n 1, 1) := dX11_paper_all0.2.2.2.2.1
theorem dX11_paper_7 : decode cX11_paper 7 = .ok (.invokevirtual 219, 3) := dX11_paper_all0.2.2.2.2.2.1
theorem dX11_paper_10 : decode cX11_paper 10 = .ok (.ifCond .eq 45, 3) := dX11_paper_all0.2.2.2.2.2.2.1
theorem dX11_paper_13 : decode cX11_paper 13 = .ok (.iload_n 2, 1) := dX11_paper_all0.2.2.2.2.2.2.2.1
theorem dX11_paper_14 : decode cX11_paper 14 = .ok (.invokestatic 170, 3) := dX11_paper_all0.2.2.2.2.2.2.2.2.1
theorem dX11_paper_17 : decode cX11_paper 17 = .ok (.ifCond .eq 38, 3) := dX11_paper_all0.2.2.2.2.2.2.2.2.2.1
theorem dX11_paper_20 : decode cX11_paper 20 = .ok (.iload_n 3, 1) := dX11_paper_all0.2.2.2.2.2.2.2.2.2.2.1
theorem dX11_paper_21 : decode cX11_paper 21 = .ok (.invokestatic 170, 3) := dX11_paper_all0.2.2.2.2.2.2.2.2.2.2.2
theorem dX11_paper_all1 : decode cX11_paper 24 = .ok (.ifCond .eq 31, 3) ∧ decode cX11_paper 27 = .ok (.iload_n 2, 1) ∧ decode cX11_paper 28 = .ok (.iload_n 3, 1) ∧ decode cX11_paper 29 = .ok (.if_icmp .eq 26, 3) ∧ decode cX11_paper 32 = .ok (.iload 4, 2) ∧ decode cX11_paper 34 = .ok (.invokestatic 178, 3) ∧ decode cX11_paper 37 = .ok (.ifCond .eq 18, 3) ∧ decode cX11_paper 40 = .ok (.iload 5, 2) ∧ decode cX11_paper 42 = .ok (.i2l, 1) ∧ decode cX11_paper 43 = .ok (.iload 4, 2) ∧ decode cX11_paper 45 = .ok (.i2l, 1) ∧ decode cX11_paper 46 = .ok (.ldc2_w 168, 3) := by decide +kernel
theorem dX11_paper_24 : decode cX11_paper 24 = .ok (.ifCond .eq 31, 3) := dX11_paper_all1.1
theorem dX11_paper_27 : decode cX11_paper 27 = .ok (.iload_n 2, 1) := dX11_paper_all1.2.1
theorem dX11_paper_28 : decode cX11_paper 28 = .ok (.iload_n 3, 1) := dX11_paper_all1.2.2.1
theorem dX11_paper_29 : decode cX11_paper 29 = .ok (.if_icmp .eq 26, 3) := dX11_paper_all1.2.2.2.1
theorem dX11_paper_32 : decode cX11_paper 32 = .ok (.iload 4, 2) := dX11_paper_all1.2.2.2.2.1
theorem dX11_paper_34 : decode cX11_paper 34 = .ok (.invokestatic 178, 3) := dX11_paper_all1.2.2.2.2.2.1
theorem dX11_paper_37 : decode cX11_paper 37 = .ok (.ifCond .eq 18, 3) := dX11_paper_all1.2.2.2.2.2.2.1
theorem dX11_paper_40 : decode cX11_paper 40 = .ok (.iload 5, 2) := dX11_paper_all1.2.2.2.2.2.2.2.1
theorem dX11_paper_42 : decode cX11_paper 42 = .ok (.i2l, 1) := dX11_paper_all1.2.2.2.2.2.2.2.2.1
theorem dX11_paper_43 : decode cX11_paper 43 = .ok (.iload 4, 2) := dX11_paper_all1.2.2.2.2.2.2.2.2.2.1
theorem dX11_paper_45 : decode cX11_paper 45 = .ok (.i2l, 1) := dX11_paper_all1.2.2.2.2.2.2.2.2.2.2.1
theorem dX11_paper_46 : decode cX11_paper 46 = .ok (.ldc2_w 168, 3) := dX11_paper_all1.2.2.2.2.2.2.2.2.2.2.2
theorem dX11_paper_all2 : decode cX11_paper 49 = .ok (.invokestatic 147, 3) ∧ decode cX11_paper 52 = .ok (.ifCond .ne 6, 3) ∧ decode cX11_paper 55 = .ok (.ldc 157, 2) ∧ decode cX11_paper 57 = .ok (.ireturn, 1) ∧ decode cX11_paper 58 = .ok (.aload_n 0, 1) ∧ decode cX11_paper 59 = .ok (.getfield 222, 3) ∧ decode cX11_paper 62 = .ok (.bipush 40, 2) ∧ decode cX11_paper 64 = .ok (.if_icmp .ne 6, 3) ∧ decode cX11_paper 67 = .ok (.ldc 184, 2) ∧ decode cX11_paper 69 = .ok (.ireturn, 1) ∧ decode cX11_paper 70 = .ok (.aload_n 0, 1) ∧ decode cX11_paper 71 = .ok (.getfield 54, 3) := by decide +kernel
theorem dX11_paper_49 : decode cX11_paper 49 = .ok (.invokestatic 147, 3) := dX11_paper_all2.1
theorem dX11_paper_52 : decode cX11_paper 52 = .ok (.ifCond .ne 6, 3) := dX11_paper_all2.2.1
theorem dX11_paper_55 : decode cX11_paper 55 = .ok (.ldc 157, 2) := dX11_paper_all2.2.2.1
theorem dX11_paper_57 : decode cX11_paper 57 = .ok (.ireturn, 1) := dX11_paper_all2.2.2.2.1
theorem dX11_paper_58 : decode cX11_paper 58 = .ok (.aload_n 0, 1) := dX11_paper_all2.2.2.2.2.1
theorem dX11_paper_59 : decode cX11_paper 59 = .ok (.getfield 222, 3) := dX11_paper_all2.2.2.2.2.2.1
theorem dX11_paper_62 : decode cX11_paper 62 = .ok (.bipush 40, 2) := dX11_paper_all2.2.2.2.2.2.2.1
theorem dX11_paper_64 : decode cX11_paper 64 = .ok (.if_icmp .ne 6, 3) := dX11_paper_all2.2.2.2.2.2.2.2.1
theorem dX11_paper_67 : decode cX11_paper 67 = .ok (.ldc 184, 2) := dX11_paper_all2.2.2.2.2.2.2.2.2.1
theorem dX11_paper_69 : decode cX11_paper 69 = .ok (.ireturn, 1) := dX11_paper_all2.2.2.2.2.2.2.2.2.2.1
theorem dX11_paper_70 : decode cX11_paper 70 = .ok (.aload_n 0, 1) := dX11_paper_all2.2.2.2.2.2.2.2.2.2.2.1
theorem dX11_paper_71 : decode cX11_paper 71 = .ok (.getfield 54, 3) := dX11_paper_all2.2.2.2.2.2.2.2.2.2.2.2
theorem dX11_paper_all3 : decode cX11_paper 74 = .ok (.aload_n 0, 1) ∧ decode cX11_paper 75 = .ok (.getfield 222, 3) ∧ decode cX11_paper 78 = .ok (.iload_n 1, 1) ∧ decode cX11_paper 79 = .ok (.iastore, 1) ∧ decode cX11_paper 80 = .ok (.aload_n 0, 1) ∧ decode cX11_paper 81 = .ok (.getfield 57, 3) ∧ decode cX11_paper 84 = .ok (.aload_n 0, 1) ∧ decode cX11_paper 85 = .ok (.getfield 222, 3) ∧ decode cX11_paper 88 = .ok (.iload_n 2, 1) ∧ decode cX11_paper 89 = .ok (.iastore, 1) ∧ decode cX11_paper 90 = .ok (.aload_n 0, 1) ∧ decode cX11_paper 91 = .ok (.getfield 60, 3) := by decide +kernel
theorem dX11_paper_74 : decode cX11_paper 74 = .ok (.aload_n 0, 1) := dX11_paper_all3.1
theorem dX11_paper_75 : decode cX11_paper 75 = .ok (.getfield 222, 3) := dX11_paper_all3.2.1
theorem dX11_paper_78 : decode cX11_paper 78 = .ok (.iload_n 1, 1) := dX11_paper_all3.2.2.1
theorem dX11_paper_79 : decode cX11_paper 79 = .ok (.iastore, 1) := dX11_paper_all3.2.2.2.1
theorem dX11_paper_80 : decode cX11_paper 80 = .ok (.aload_n 0, 1) := dX11_paper_all3.2.2.2.2.1
theorem dX11_paper_81 : decode cX11_paper 81 = .ok (.getfield 57, 3) := dX11_paper_all3.2.2.2.2.2.1
theorem dX11_paper_84 : decode cX11_paper 84 = .ok (.aload_n 0, 1) := dX11_paper_all3.2.2.2.2.2.2.1
theorem dX11_paper_85 : decode cX11_paper 85 = .ok (.getfield 222, 3) := dX11_paper_all3.2.2.2.2.2.2.2.1
theorem dX11_paper_88 : decode cX11_paper 88 = .ok (.iload_n 2, 1) := dX11_paper_all3.2.2.2.2.2.2.2.2.1
theorem dX11_paper_89 : decode cX11_paper 89 = .ok (.iastore, 1) := dX11_paper_all3.2.2.2.2.2.2.2.2.2.1
theorem dX11_paper_90 : decode cX11_paper 90 = .ok (.aload_n 0, 1) := dX11_paper_all3.2.2.2.2.2.2.2.2.2.2.1
theorem dX11_paper_91 : decode cX11_paper 91 = .ok (.getfield 60, 3) := dX11_paper_all3.2.2.2.2.2.2.2.2.2.2.2
theorem dX11_paper_all4 : decode cX11_paper 94 = .ok (.aload_n 0, 1) ∧ decode cX11_paper 95 = .ok (.getfield 222, 3) ∧ decode cX11_paper 98 = .ok (.iload_n 3, 1) ∧ decode cX11_paper 99 = .ok (.iastore, 1) ∧ decode cX11_paper 100 = .ok (.aload_n 0, 1) ∧ decode cX11_paper 101 = .ok (.getfield 63, 3) ∧ decode cX11_paper 104 = .ok (.aload_n 0, 1) ∧ decode cX11_paper 105 = .ok (.getfield 222, 3) ∧ decode cX11_paper 108 = .ok (.iload 4, 2) ∧ decode cX11_paper 110 = .ok (.iastore, 1) ∧ decode cX11_paper 111 = .ok (.aload_n 0, 1) ∧ decode cX11_paper 112 = .ok (.getfield 66, 3) := by decide +kernel
theorem dX11_paper_94 : decode cX11_paper 94 = .ok (.aload_n 0, 1) := dX11_paper_all4.1
theorem dX11_paper_95 : decode cX11_paper 95 = .ok (.getfield 222, 3) := dX11_paper_all4.2.1
theorem dX11_paper_98 : decode cX11_paper 98 = .ok (.iload_n 3, 1) := dX11_paper_all4.2.2.1
theorem dX11_paper_99 : decode cX11_paper 99 = .ok (.iastore, 1) := dX11_paper_all4.2.2.2.1
theorem dX11_paper_100 : decode cX11_paper 100 = .ok (.aload_n 0, 1) := dX11_paper_all4.2.2.2.2.1
theorem dX11_paper_101 : decode cX11_paper 101 = .ok (.getfield 63, 3) := dX11_paper_all4.2.2.2.2.2.1
theorem dX11_paper_104 : decode cX11_paper 104 = .ok (.aload_n 0, 1) := dX11_paper_all4.2.2.2.2.2.2.1
theorem dX11_paper_105 : decode cX11_paper 105 = .ok (.getfield 222, 3) := dX11_paper_all4.2.2.2.2.2.2.2.1
theorem dX11_paper_108 : decode cX11_paper 108 = .ok (.iload 4, 2) := dX11_paper_all4.2.2.2.2.2.2.2.2.1
theorem dX11_paper_110 : decode cX11_paper 110 = .ok (.iastore, 1) := dX11_paper_all4.2.2.2.2.2.2.2.2.2.1
theorem dX11_paper_111 : decode cX11_paper 111 = .ok (.aload_n 0, 1) := dX11_paper_all4.2.2.2.2.2.2.2.2.2.2.1
theorem dX11_paper_112 : decode cX11_paper 112 = .ok (.getfield 66, 3) := dX11_paper_all4.2.2.2.2.2.2.2.2.2.2.2
theorem dX11_paper_all5 : decode cX11_paper 115 = .ok (.aload_n 0, 1) ∧ decode cX11_paper 116 = .ok (.getfield 222, 3) ∧ decode cX11_paper 119 = .ok (.iload 5, 2) ∧ decode cX11_paper 121 = .ok (.iastore, 1) ∧ decode cX11_paper 122 = .ok (.aload_n 0, 1) ∧ decode cX11_paper 123 = .ok (.dup, 1) ∧ decode cX11_paper 124 = .ok (.getfield 222, 3) ∧ decode cX11_paper 127 = .ok (.iconst 1, 1) ∧ decode cX11_paper 128 = .ok (.iadd, 1) ∧ decode cX11_paper 129 = .ok (.putfield 222, 3) ∧ decode cX11_paper 132 = .ok (.aload_n 0, 1) ∧ decode cX11_paper 133 = .ok (.getfield 222, 3) := by decide +kernel
theorem dX11_paper_115 : decode cX11_paper 115 = .ok (.aload_n 0, 1) := dX11_paper_all5.1
theorem dX11_paper_116 : decode cX11_paper 116 = .ok (.getfield 222, 3) := dX11_paper_all5.2.1
theorem dX11_paper_119 : decode cX11_paper 119 = .ok (.iload 5, 2) := dX11_paper_all5.2.2.1
theorem dX11_paper_121 : decode cX11_paper 121 = .ok (.iastore, 1) := dX11_paper_all5.2.2.2.1
theorem dX11_paper_122 : decode cX11_paper 122 = .ok (.aload_n 0, 1) := dX11_paper_all5.2.2.2.2.1
theorem dX11_paper_123 : decode cX11_paper 123 = .ok (.dup, 1) := dX11_paper_all5.2.2.2.2.2.1
theorem dX11_paper_124 : decode cX11_paper 124 = .ok (.getfield 222, 3) := dX11_paper_all5.2.2.2.2.2.2.1
theorem dX11_paper_127 : decode cX11_paper 127 = .ok (.iconst 1, 1) := dX11_paper_all5.2.2.2.2.2.2.2.1
theorem dX11_paper_128 : decode cX11_paper 128 = .ok (.iadd, 1) := dX11_paper_all5.2.2.2.2.2.2.2.2.1
theorem dX11_paper_129 : decode cX11_paper 129 = .ok (.putfield 222, 3) := dX11_paper_all5.2.2.2.2.2.2.2.2.2.1
theorem dX11_paper_132 : decode cX11_paper 132 = .ok (.aload_n 0, 1) := dX11_paper_all5.2.2.2.2.2.2.2.2.2.2.1
theorem dX11_paper_133 : decode cX11_paper 133 = .ok (.getfield 222, 3) := dX11_paper_all5.2.2.2.2.2.2.2.2.2.2.2
theorem dX11_paper_136 : decode cX11_paper 136 = .ok (.ireturn, 1) := by decide +kernel
theorem ggX11_pledge_X11_isCrate : GoodIn wsX11_pledge wsX11_isCrate := goodIn_s (fun _ h => wm_t (wm_r (wm_l (wm_l (wm_r h))))) Gd_X11_isCrate
theorem gX11_pledge_X11_isCrate : GoodIn wsX11_pledge (wsV RX11 219 RX11 yX11_isCrate wsX11_isCrate) := goodIn_V (own := RX11) (idx := 219) (C := RX11) (y := yX11_isCrate) (wm_t (wm_l (wm_i 10 rfl))) (wm_t (wm_l (wm_i 11 rfl))) (wm_t (wm_l (wm_i 12 rfl))) (wm_t (wm_l (wm_i 13 rfl))) ggX11_pledge_X11_isCrate
theorem ggX11_pledge_X11_isPerson : GoodIn wsX11_pledge wsX11_isPerson := goodIn_s (fun _ h => wm_t (wm_r (wm_l (wm_r h)))) Gd_X11_isPerson
theorem gX11_pledge_X11_isPerson : GoodIn wsX11_pledge (va_wsS RX11 208 yX11_isPerson wsX11_isPerson) := goodIn_S (own := RX11) (idx := 208) (y := yX11_isPerson) (wm_t (wm_l (wm_i 16 rfl))) (wm_t (wm_l (wm_i 17 rfl))) (wm_t (wm_l (wm_i 13 rfl))) ggX11_pledge_X11_isPerson
theorem ggX11_pledge_X11_in : GoodIn wsX11_pledge wsX11_in := goodIn_s (fun _ h => wm_t (wm_r (wm_r (wm_l h)))) Gd_X11_in
theorem gX11_pledge_X11_in : GoodIn wsX11_pledge (va_wsS RX11 147 yX11_in wsX11_in) := goodIn_S (own := RX11) (idx := 147) (y := yX11_in) (wm_t (wm_l (wm_i 14 rfl))) (wm_t (wm_l (wm_i 15 rfl))) (wm_t (wm_l (wm_i 13 rfl))) ggX11_pledge_X11_in
theorem ggX11_pledge_X11_isDay : GoodIn wsX11_pledge wsX11_isDay := goodIn_s (fun _ h => wm_t (wm_r (wm_r (wm_r h)))) Gd_X11_isDay
theorem gX11_pledge_X11_isDay : GoodIn wsX11_pledge (va_wsS RX11 178 yX11_isDay wsX11_isDay) := goodIn_S (own := RX11) (idx := 178) (y := yX11_isDay) (wm_t (wm_l (wm_i 18 rfl))) (wm_t (wm_l (wm_i 19 rfl))) (wm_t (wm_l (wm_i 13 rfl))) ggX11_pledge_X11_isDay
theorem dX11_pledge_all0 : decode cX11_pledge 0 = .ok (.aload_n 0, 1) ∧ decode cX11_pledge 1 = .ok (.iconst 0, 1) ∧ decode cX11_pledge 2 = .ok (.putfield 1, 3) ∧ decode cX11_pledge 5 = .ok (.aload_n 0, 1) ∧ decode cX11_pledge 6 = .ok (.iload_n 1, 1) ∧ decode cX11_pledge 7 = .ok (.invokevirtual 219, 3) ∧ decode cX11_pledge 10 = .ok (.ifCond .eq 45, 3) ∧ decode cX11_pledge 13 = .ok (.iload_n 2, 1) ∧ decode cX11_pledge 14 = .ok (.invokestatic 208, 3) ∧ decode cX11_pledge 17 = .ok (.ifCond .eq 38, 3) ∧ decode cX11_pledge 20 = .ok (.iload_n 3, 1) ∧ decode cX11_pledge 21 = .ok (.i2l, 1) := by decide +kernel
theorem dX11_pledge_0 : decode cX11_pledge 0 = .ok (.aload_n 0, 1) := dX11_pledge_all0.1
theorem dX11_pledge_1 : decode cX11_pledge 1 = .ok (.iconst 0, 1) := dX11_pledge_all0.2.1
theorem dX11_pledge_2 : decode cX11_pledge 2 = .ok (.putfield 1, 3) := dX11_pledge_all0.2.2.1
theorem dX11_pledge_5 : decode cX11_pledge 5 = .ok (.aload_n 0, 1) := dX11_pledge_all0.2.2.2.1
theorem dX11_pledge_6 : decode cX11_pledge 6 = .ok (.iload_n 1, 1) := dX11_pledge_all0.2.2.2.2.1
theorem dX11_pledge_7 : decode cX11_pledge 7 = .ok (.invokevirtual 219, 3) := dX11_pledge_all0.2.2.2.2.2.1
theorem dX11_pledge_10 : decode cX11_pledge 10 = .ok (.ifCond .eq 45, 3) := dX11_pledge_all0.2.2.2.2.2.2.1
theorem dX11_pledge_13 : decode cX11_pledge 13 = .ok (.iload_n 2, 1) := dX11_pledge_all0.2.2.2.2.2.2.2.1
theorem dX11_pledge_14 : decode cX11_pledge 14 = .ok (.invokestatic 208, 3) := dX11_pledge_all0.2.2.2.2.2.2.2.2.1
theorem dX11_pledge_17 : decode cX11_pledge 17 = .ok (.ifCond .eq 38, 3) := dX11_pledge_all0.2.2.2.2.2.2.2.2.2.1
theorem dX11_pledge_20 : decode cX11_pledge 20 = .ok (.iload_n 3, 1) := dX11_pledge_all0.2.2.2.2.2.2.2.2.2.2.1
theorem dX11_pledge_21 : decode cX11_pledge 21 = .ok (.i2l, 1) := dX11_pledge_all0.2.2.2.2.2.2.2.2.2.2.2
theorem dX11_pledge_all1 : decode cX11_pledge 22 = .ok (.lconst 1, 1) ∧ decode cX11_pledge 23 = .ok (.ldc2_w 217, 3) ∧ decode cX11_pledge 26 = .ok (.invokestatic 147, 3) ∧ decode cX11_pledge 29 = .ok (.ifCond .eq 26, 3) ∧ decode cX11_pledge 32 = .ok (.iload 4, 2) ∧ decode cX11_pledge 34 = .ok (.invokestatic 178, 3) ∧ decode cX11_pledge 37 = .ok (.ifCond .eq 18, 3) ∧ decode cX11_pledge 40 = .ok (.iload 5, 2) ∧ decode cX11_pledge 42 = .ok (.i2l, 1) ∧ decode cX11_pledge 43 = .ok (.iload 4, 2) ∧ decode cX11_pledge 45 = .ok (.i2l, 1) ∧ decode cX11_pledge 46 = .ok (.ldc2_w 168, 3) := by decide +kernel
theorem dX11_pledge_22 : decode cX11_pledge 22 = .ok (.lconst 1, 1) := dX11_pledge_all1.1
theorem dX11_pledge_23 : decode cX11_pledge 23 = .ok (.ldc2_w 217, 3) := dX11_pledge_all1.2.1
theorem dX11_pledge_26 : decode cX11_pledge 26 = .ok (.invokestatic 147, 3) := dX11_pledge_all1.2.2.1
theorem dX11_pledge_29 : decode cX11_pledge 29 = .ok (.ifCond .eq 26, 3) := dX11_pledge_all1.2.2.2.1
theorem dX11_pledge_32 : decode cX11_pledge 32 = .ok (.iload 4, 2) := dX11_pledge_all1.2.2.2.2.1
theorem dX11_pledge_34 : decode cX11_pledge 34 = .ok (.invokestatic 178, 3) := dX11_pledge_all1.2.2.2.2.2.1
theorem dX11_pledge_37 : decode cX11_pledge 37 = .ok (.ifCond .eq 18, 3) := dX11_pledge_all1.2.2.2.2.2.2.1
theorem dX11_pledge_40 : decode cX11_pledge 40 = .ok (.iload 5, 2) := dX11_pledge_all1.2.2.2.2.2.2.2.1
theorem dX11_pledge_42 : decode cX11_pledge 42 = .ok (.i2l, 1) := dX11_pledge_all1.2.2.2.2.2.2.2.2.1
theorem dX11_pledge_43 : decode cX11_pledge 43 = .ok (.iload 4, 2) := dX11_pledge_all1.2.2.2.2.2.2.2.2.2.1
theorem dX11_pledge_45 : decode cX11_pledge 45 = .ok (.i2l, 1) := dX11_pledge_all1.2.2.2.2.2.2.2.2.2.2.1
theorem dX11_pledge_46 : decode cX11_pledge 46 = .ok (.ldc2_w 168, 3) := dX11_pledge_all1.2.2.2.2.2.2.2.2.2.2.2
theorem dX11_pledge_all2 : decode cX11_pledge 49 = .ok (.invokestatic 147, 3) ∧ decode cX11_pledge 52 = .ok (.ifCond .ne 6, 3) ∧ decode cX11_pledge 55 = .ok (.ldc 157, 2) ∧ decode cX11_pledge 57 = .ok (.ireturn, 1) ∧ decode cX11_pledge 58 = .ok (.aload_n 0, 1) ∧ decode cX11_pledge 59 = .ok (.getfield 231, 3) ∧ decode cX11_pledge 62 = .ok (.bipush 40, 2) ∧ decode cX11_pledge 64 = .ok (.if_icmp .ne 6, 3) ∧ decode cX11_pledge 67 = .ok (.ldc 184, 2) ∧ decode cX11_pledge 69 = .ok (.ireturn, 1) ∧ decode cX11_pledge 70 = .ok (.aload_n 0, 1) ∧ decode cX11_pledge 71 = .ok (.getfield 69, 3) := by decide +kernel
theorem dX11_pledge_49 : decode cX11_pledge 49 = .ok (.invokestatic 147, 3) := dX11_pledge_all2.1
theorem dX11_pledge_52 : decode cX11_pledge 52 = .ok (.ifCond .ne 6, 3) := dX11_pledge_all2.2.1
theorem dX11_pledge_55 : decode cX11_pledge 55 = .ok (.ldc 157, 2) := dX11_pledge_all2.2.2.1
theorem dX11_pledge_57 : decode cX11_pledge 57 = .ok (.ireturn, 1) := dX11_pledge_all2.2.2.2.1
theorem dX11_pledge_58 : decode cX11_pledge 58 = .ok (.aload_n 0, 1) := dX11_pledge_all2.2.2.2.2.1
theorem dX11_pledge_59 : decode cX11_pledge 59 = .ok (.getfield 231, 3) := dX11_pledge_all2.2.2.2.2.2.1
theorem dX11_pledge_62 : decode cX11_pledge 62 = .ok (.bipush 40, 2) := dX11_pledge_all2.2.2.2.2.2.2.1
theorem dX11_pledge_64 : decode cX11_pledge 64 = .ok (.if_icmp .ne 6, 3) := dX11_pledge_all2.2.2.2.2.2.2.2.1
theorem dX11_pledge_67 : decode cX11_pledge 67 = .ok (.ldc 184, 2) := dX11_pledge_all2.2.2.2.2.2.2.2.2.1
theorem dX11_pledge_69 : decode cX11_pledge 69 = .ok (.ireturn, 1) := dX11_pledge_all2.2.2.2.2.2.2.2.2.2.1
theorem dX11_pledge_70 : decode cX11_pledge 70 = .ok (.aload_n 0, 1) := dX11_pledge_all2.2.2.2.2.2.2.2.2.2.2.1
theorem dX11_pledge_71 : decode cX11_pledge 71 = .ok (.getfield 69, 3) := dX11_pledge_all2.2.2.2.2.2.2.2.2.2.2.2
theorem dX11_pledge_all3 : decode cX11_pledge 74 = .ok (.aload_n 0, 1) ∧ decode cX11_pledge 75 = .ok (.getfield 231, 3) ∧ decode cX11_pledge 78 = .ok (.iload_n 1, 1) ∧ decode cX11_pledge 79 = .ok (.iastore, 1) ∧ decode cX11_pledge 80 = .ok (.aload_n 0, 1) ∧ decode cX11_pledge 81 = .ok (.getfield 72, 3) ∧ decode cX11_pledge 84 = .ok (.aload_n 0, 1) ∧ decode cX11_pledge 85 = .ok (.getfield 231, 3) ∧ decode cX11_pledge 88 = .ok (.iload_n 3, 1) ∧ decode cX11_pledge 89 = .ok (.iastore, 1) ∧ decode cX11_pledge 90 = .ok (.aload_n 0, 1) ∧ decode cX11_pledge 91 = .ok (.getfield 75, 3) := by decide +kernel
theorem dX11_pledge_74 : decode cX11_pledge 74 = .ok (.aload_n 0, 1) := dX11_pledge_all3.1
theorem dX11_pledge_75 : decode cX11_pledge 75 = .ok (.getfield 231, 3) := dX11_pledge_all3.2.1
theorem dX11_pledge_78 : decode cX11_pledge 78 = .ok (.iload_n 1, 1) := dX11_pledge_all3.2.2.1
theorem dX11_pledge_79 : decode cX11_pledge 79 = .ok (.iastore, 1) := dX11_pledge_all3.2.2.2.1
theorem dX11_pledge_80 : decode cX11_pledge 80 = .ok (.aload_n 0, 1) := dX11_pledge_all3.2.2.2.2.1
theorem dX11_pledge_81 : decode cX11_pledge 81 = .ok (.getfield 72, 3) := dX11_pledge_all3.2.2.2.2.2.1
theorem dX11_pledge_84 : decode cX11_pledge 84 = .ok (.aload_n 0, 1) := dX11_pledge_all3.2.2.2.2.2.2.1
theorem dX11_pledge_85 : decode cX11_pledge 85 = .ok (.getfield 231, 3) := dX11_pledge_all3.2.2.2.2.2.2.2.1
theorem dX11_pledge_88 : decode cX11_pledge 88 = .ok (.iload_n 3, 1) := dX11_pledge_all3.2.2.2.2.2.2.2.2.1
theorem dX11_pledge_89 : decode cX11_pledge 89 = .ok (.iastore, 1) := dX11_pledge_all3.2.2.2.2.2.2.2.2.2.1
theorem dX11_pledge_90 : decode cX11_pledge 90 = .ok (.aload_n 0, 1) := dX11_pledge_all3.2.2.2.2.2.2.2.2.2.2.1
theorem dX11_pledge_91 : decode cX11_pledge 91 = .ok (.getfield 75, 3) := dX11_pledge_all3.2.2.2.2.2.2.2.2.2.2.2
theorem dX11_pledge_all4 : decode cX11_pledge 94 = .ok (.aload_n 0, 1) ∧ decode cX11_pledge 95 = .ok (.getfield 231, 3) ∧ decode cX11_pledge 98 = .ok (.iload 4, 2) ∧ decode cX11_pledge 100 = .ok (.iastore, 1) ∧ decode cX11_pledge 101 = .ok (.aload_n 0, 1) ∧ decode cX11_pledge 102 = .ok (.getfield 78, 3) ∧ decode cX11_pledge 105 = .ok (.aload_n 0, 1) ∧ decode cX11_pledge 106 = .ok (.getfield 231, 3) ∧ decode cX11_pledge 109 = .ok (.iload 5, 2) ∧ decode cX11_pledge 111 = .ok (.iastore, 1) ∧ decode cX11_pledge 112 = .ok (.aload_n 0, 1) ∧ decode cX11_pledge 113 = .ok (.dup, 1) := by decide +kernel
theorem dX11_pledge_94 : decode cX11_pledge 94 = .ok (.aload_n 0, 1) := dX11_pledge_all4.1
theorem dX11_pledge_95 : decode cX11_pledge 95 = .ok (.getfield 231, 3) := dX11_pledge_all4.2.1
theorem dX11_pledge_98 : decode cX11_pledge 98 = .ok (.iload 4, 2) := dX11_pledge_all4.2.2.1
theorem dX11_pledge_100 : decode cX11_pledge 100 = .ok (.iastore, 1) := dX11_pledge_all4.2.2.2.1
theorem dX11_pledge_101 : decode cX11_pledge 101 = .ok (.aload_n 0, 1) := dX11_pledge_all4.2.2.2.2.1
theorem dX11_pledge_102 : decode cX11_pledge 102 = .ok (.getfield 78, 3) := dX11_pledge_all4.2.2.2.2.2.1
theorem dX11_pledge_105 : decode cX11_pledge 105 = .ok (.aload_n 0, 1) := dX11_pledge_all4.2.2.2.2.2.2.1
theorem dX11_pledge_106 : decode cX11_pledge 106 = .ok (.getfield 231, 3) := dX11_pledge_all4.2.2.2.2.2.2.2.1
theorem dX11_pledge_109 : decode cX11_pledge 109 = .ok (.iload 5, 2) := dX11_pledge_all4.2.2.2.2.2.2.2.2.1
theorem dX11_pledge_111 : decode cX11_pledge 111 = .ok (.iastore, 1) := dX11_pledge_all4.2.2.2.2.2.2.2.2.2.1
theorem dX11_pledge_112 : decode cX11_pledge 112 = .ok (.aload_n 0, 1) := dX11_pledge_all4.2.2.2.2.2.2.2.2.2.2.1
theorem dX11_pledge_113 : decode cX11_pledge 113 = .ok (.dup, 1) := dX11_pledge_all4.2.2.2.2.2.2.2.2.2.2.2
theorem dX11_pledge_all5 : decode cX11_pledge 114 = .ok (.getfield 231, 3) ∧ decode cX11_pledge 117 = .ok (.iconst 1, 1) ∧ decode cX11_pledge 118 = .ok (.iadd, 1) ∧ decode cX11_pledge 119 = .ok (.putfield 231, 3) ∧ decode cX11_pledge 122 = .ok (.aload_n 0, 1) ∧ decode cX11_pledge 123 = .ok (.getfield 231, 3) ∧ decode cX11_pledge 126 = .ok (.iconst 1, 1) ∧ decode cX11_pledge 127 = .ok (.isub, 1) ∧ decode cX11_pledge 128 = .ok (.ireturn, 1) := by decide +kernel
theorem dX11_pledge_114 : decode cX11_pledge 114 = .ok (.getfield 231, 3) := dX11_pledge_all5.1
theorem dX11_pledge_117 : decode cX11_pledge 117 = .ok (.iconst 1, 1) := dX11_pledge_all5.2.1
theorem dX11_pledge_118 : decode cX11_pledge 118 = .ok (.iadd, 1) := dX11_pledge_all5.2.2.1
theorem dX11_pledge_119 : decode cX11_pledge 119 = .ok (.putfield 231, 3) := dX11_pledge_all5.2.2.2.1
theorem dX11_pledge_122 : decode cX11_pledge 122 = .ok (.aload_n 0, 1) := dX11_pledge_all5.2.2.2.2.1
theorem dX11_pledge_123 : decode cX11_pledge 123 = .ok (.getfield 231, 3) := dX11_pledge_all5.2.2.2.2.2.1
theorem dX11_pledge_126 : decode cX11_pledge 126 = .ok (.iconst 1, 1) := dX11_pledge_all5.2.2.2.2.2.2.1
theorem dX11_pledge_127 : decode cX11_pledge 127 = .ok (.isub, 1) := dX11_pledge_all5.2.2.2.2.2.2.2.1
theorem dX11_pledge_128 : decode cX11_pledge 128 = .ok (.ireturn, 1) := dX11_pledge_all5.2.2.2.2.2.2.2.2
theorem ggX11_act_X11_isCrate : GoodIn wsX11_act wsX11_isCrate := goodIn_s (fun _ h => wm_t (wm_r (wm_l (wm_r h)))) Gd_X11_isCrate
theorem gX11_act_X11_isCrate : GoodIn wsX11_act (wsV RX11 219 RX11 yX11_isCrate wsX11_isCrate) := goodIn_V (own := RX11) (idx := 219) (C := RX11) (y := yX11_isCrate) (wm_t (wm_l (wm_i 10 rfl))) (wm_t (wm_l (wm_i 11 rfl))) (wm_t (wm_l (wm_i 12 rfl))) (wm_t (wm_l (wm_i 13 rfl))) ggX11_act_X11_isCrate
theorem ggX11_act_X11_in : GoodIn wsX11_act wsX11_in := goodIn_s (fun _ h => wm_t (wm_r (wm_r (wm_l h)))) Gd_X11_in
theorem gX11_act_X11_in : GoodIn wsX11_act (va_wsS RX11 147 yX11_in wsX11_in) := goodIn_S (own := RX11) (idx := 147) (y := yX11_in) (wm_t (wm_l (wm_i 14 rfl))) (wm_t (wm_l (wm_i 15 rfl))) (wm_t (wm_l (wm_i 13 rfl))) ggX11_act_X11_in
theorem ggX11_act_X11_isDay : GoodIn wsX11_act wsX11_isDay := goodIn_s (fun _ h => wm_t (wm_r (wm_r (wm_r h)))) Gd_X11_isDay
theorem gX11_act_X11_isDay : GoodIn wsX11_act (va_wsS RX11 178 yX11_isDay wsX11_isDay) := goodIn_S (own := RX11) (idx := 178) (y := yX11_isDay) (wm_t (wm_l (wm_i 16 rfl))) (wm_t (wm_l (wm_i 17 rfl))) (wm_t (wm_l (wm_i 13 rfl))) ggX11_act_X11_isDay
theorem dX11_act_all0 : decode cX11_act 0 = .ok (.aload_n 0, 1) ∧ decode cX11_act 1 = .ok (.iconst 0, 1) ∧ decode cX11_act 2 = .ok (.putfield 1, 3) ∧ decode cX11_act 5 = .ok (.aload_n 0, 1) ∧ decode cX11_act 6 = .ok (.iload_n 1, 1) ∧ decode cX11_act 7 = .ok (.invokevirtual 219, 3) ∧ decode cX11_act 10 = .ok (.ifCond .eq 35, 3) ∧ decode cX11_act 13 = .ok (.iload_n 2, 1) ∧ decode cX11_act 14 = .ok (.i2l, 1) ∧ decode cX11_act 15 = .ok (.lconst 0, 1) ∧ decode cX11_act 16 = .ok (.ldc2_w 234, 3) ∧ decode cX11_act 19 = .ok (.invokestatic 147, 3) := by decide +kernel
theorem dX11_act_0 : decode cX11_act 0 = .ok (.aload_n 0, 1) := dX11_act_all0.1
theorem dX11_act_1 : decode cX11_act 1 = .ok (.iconst 0, 1) := dX11_act_all0.2.1
theorem dX11_act_2 : decode cX11_act 2 = .ok (.putfield 1, 3) := dX11_act_all0.2.2.1
theorem dX11_act_5 : decode cX11_act 5 = .ok (.aload_n 0, 1) := dX11_act_all0.2.2.2.1
theorem dX11_act_6 : decode cX11_act 6 = .ok (.iload_n 1, 1) := dX11_act_all0.2.2.2.2.1
theorem dX11_act_7 : decode cX11_act 7 = .ok (.invokevirtual 219, 3) := dX11_act_all0.2.2.2.2.2.1
theorem dX11_act_10 : decode cX11_act 10 = .ok (.ifCond .eq 35, 3) := dX11_act_all0.2.2.2.2.2.2.1
theorem dX11_act_13 : decode cX11_act 13 = .ok (.iload_n 2, 1) := dX11_act_all0.2.2.2.2.2.2.2.1
theorem dX11_act_14 : decode cX11_act 14 = .ok (.i2l, 1) := dX11_act_all0.2.2.2.2.2.2.2.2.1
theorem dX11_act_15 : decode cX11_act 15 = .ok (.lconst 0, 1) := dX11_act_all0.2.2.2.2.2.2.2.2.2.1
theorem dX11_act_16 : decode cX11_act 16 = .ok (.ldc2_w 234, 3) := dX11_act_all0.2.2.2.2.2.2.2.2.2.2.1
theorem dX11_act_19 : decode cX11_act 19 = .ok (.invokestatic 147, 3) := dX11_act_all0.2.2.2.2.2.2.2.2.2.2.2
theorem dX11_act_all1 : decode cX11_act 22 = .ok (.ifCond .eq 23, 3) ∧ decode cX11_act 25 = .ok (.iload_n 3, 1) ∧ decode cX11_act 26 = .ok (.invokestatic 178, 3) ∧ decode cX11_act 29 = .ok (.ifCond .eq 16, 3) ∧ decode cX11_act 32 = .ok (.iload 4, 2) ∧ decode cX11_act 34 = .ok (.i2l, 1) ∧ decode cX11_act 35 = .ok (.lconst 0, 1) ∧ decode cX11_act 36 = .ok (.ldc2_w 317, 3) ∧ decode cX11_act 39 = .ok (.invokestatic 147, 3) ∧ decode cX11_act 42 = .ok (.ifCond .ne 6, 3) ∧ decode cX11_act 45 = .ok (.ldc 157, 2) ∧ decode cX11_act 47 = .ok (.ireturn, 1) := by decide +kernel
theorem dX11_act_22 : decode cX11_act 22 = .ok (.ifCond .eq 23, 3) := dX11_act_all1.1
theorem dX11_act_25 : decode cX11_act 25 = .ok (.iload_n 3, 1) := dX11_act_all1.2.1
theorem dX11_act_26 : decode cX11_act 26 = .ok (.invokestatic 178, 3) := dX11_act_all1.2.2.1
theorem dX11_act_29 : decode cX11_act 29 = .ok (.ifCond .eq 16, 3) := dX11_act_all1.2.2.2.1
theorem dX11_act_32 : decode cX11_act 32 = .ok (.iload 4, 2) := dX11_act_all1.2.2.2.2.1
theorem dX11_act_34 : decode cX11_act 34 = .ok (.i2l, 1) := dX11_act_all1.2.2.2.2.2.1
theorem dX11_act_35 : decode cX11_act 35 = .ok (.lconst 0, 1) := dX11_act_all1.2.2.2.2.2.2.1
theorem dX11_act_36 : decode cX11_act 36 = .ok (.ldc2_w 317, 3) := dX11_act_all1.2.2.2.2.2.2.2.1
theorem dX11_act_39 : decode cX11_act 39 = .ok (.invokestatic 147, 3) := dX11_act_all1.2.2.2.2.2.2.2.2.1
theorem dX11_act_42 : decode cX11_act 42 = .ok (.ifCond .ne 6, 3) := dX11_act_all1.2.2.2.2.2.2.2.2.2.1
theorem dX11_act_45 : decode cX11_act 45 = .ok (.ldc 157, 2) := dX11_act_all1.2.2.2.2.2.2.2.2.2.2.1
theorem dX11_act_47 : decode cX11_act 47 = .ok (.ireturn, 1) := dX11_act_all1.2.2.2.2.2.2.2.2.2.2.2
theorem dX11_act_all2 : decode cX11_act 48 = .ok (.aload_n 0, 1) ∧ decode cX11_act 49 = .ok (.getfield 319, 3) ∧ decode cX11_act 52 = .ok (.bipush 60, 2) ∧ decode cX11_act 54 = .ok (.if_icmp .ne 6, 3) ∧ decode cX11_act 57 = .ok (.ldc 184, 2) ∧ decode cX11_act 59 = .ok (.ireturn, 1) ∧ decode cX11_act 60 = .ok (.aload_n 0, 1) ∧ decode cX11_act 61 = .ok (.getfield 90, 3) ∧ decode cX11_act 64 = .ok (.aload_n 0, 1) ∧ decode cX11_act 65 = .ok (.getfield 319, 3) ∧ decode cX11_act 68 = .ok (.iload_n 1, 1) ∧ decode cX11_act 69 = .ok (.iastore, 1) := by decide +kernel
theorem dX11_act_48 : decode cX11_act 48 = .ok (.aload_n 0, 1) := dX11_act_all2.1
theorem dX11_act_49 : decode cX11_act 49 = .ok (.getfield 319, 3) := dX11_act_all2.2.1
theorem dX11_act_52 : decode cX11_act 52 = .ok (.bipush 60, 2) := dX11_act_all2.2.2.1
theorem dX11_act_54 : decode cX11_act 54 = .ok (.if_icmp .ne 6, 3) := dX11_act_all2.2.2.2.1
theorem dX11_act_57 : decode cX11_act 57 = .ok (.ldc 184, 2) := dX11_act_all2.2.2.2.2.1
theorem dX11_act_59 : decode cX11_act 59 = .ok (.ireturn, 1) := dX11_act_all2.2.2.2.2.2.1
theorem dX11_act_60 : decode cX11_act 60 = .ok (.aload_n 0, 1) := dX11_act_all2.2.2.2.2.2.2.1
theorem dX11_act_61 : decode cX11_act 61 = .ok (.getfield 90, 3) := dX11_act_all2.2.2.2.2.2.2.2.1
theorem dX11_act_64 : decode cX11_act 64 = .ok (.aload_n 0, 1) := dX11_act_all2.2.2.2.2.2.2.2.2.1
theorem dX11_act_65 : decode cX11_act 65 = .ok (.getfield 319, 3) := dX11_act_all2.2.2.2.2.2.2.2.2.2.1
theorem dX11_act_68 : decode cX11_act 68 = .ok (.iload_n 1, 1) := dX11_act_all2.2.2.2.2.2.2.2.2.2.2.1
theorem dX11_act_69 : decode cX11_act 69 = .ok (.iastore, 1) := dX11_act_all2.2.2.2.2.2.2.2.2.2.2.2
theorem dX11_act_all3 : decode cX11_act 70 = .ok (.aload_n 0, 1) ∧ decode cX11_act 71 = .ok (.getfield 93, 3) ∧ decode cX11_act 74 = .ok (.aload_n 0, 1) ∧ decode cX11_act 75 = .ok (.getfield 319, 3) ∧ decode cX11_act 78 = .ok (.iload_n 2, 1) ∧ decode cX11_act 79 = .ok (.iastore, 1) ∧ decode cX11_act 80 = .ok (.aload_n 0, 1) ∧ decode cX11_act 81 = .ok (.getfield 96, 3) ∧ decode cX11_act 84 = .ok (.aload_n 0, 1) ∧ decode cX11_act 85 = .ok (.getfield 319, 3) ∧ decode cX11_act 88 = .ok (.iload_n 3, 1) ∧ decode cX11_act 89 = .ok (.iastore, 1) := by decide +kernel
theorem dX11_act_70 : decode cX11_act 70 = .ok (.aload_n 0, 1) := dX11_act_all3.1
theorem dX11_act_71 : decode cX11_act 71 = .ok (.getfield 93, 3) := dX11_act_all3.2.1
theorem dX11_act_74 : decode cX11_act 74 = .ok (.aload_n 0, 1) := dX11_act_all3.2.2.1
theorem dX11_act_75 : decode cX11_act 75 = .ok (.getfield 319, 3) := dX11_act_all3.2.2.2.1
theorem dX11_act_78 : decode cX11_act 78 = .ok (.iload_n 2, 1) := dX11_act_all3.2.2.2.2.1
theorem dX11_act_79 : decode cX11_act 79 = .ok (.iastore, 1) := dX11_act_all3.2.2.2.2.2.1
theorem dX11_act_80 : decode cX11_act 80 = .ok (.aload_n 0, 1) := dX11_act_all3.2.2.2.2.2.2.1
theorem dX11_act_81 : decode cX11_act 81 = .ok (.getfield 96, 3) := dX11_act_all3.2.2.2.2.2.2.2.1
theorem dX11_act_84 : decode cX11_act 84 = .ok (.aload_n 0, 1) := dX11_act_all3.2.2.2.2.2.2.2.2.1
theorem dX11_act_85 : decode cX11_act 85 = .ok (.getfield 319, 3) := dX11_act_all3.2.2.2.2.2.2.2.2.2.1
theorem dX11_act_88 : decode cX11_act 88 = .ok (.iload_n 3, 1) := dX11_act_all3.2.2.2.2.2.2.2.2.2.2.1
theorem dX11_act_89 : decode cX11_act 89 = .ok (.iastore, 1) := dX11_act_all3.2.2.2.2.2.2.2.2.2.2.2
theorem dX11_act_all4 : decode cX11_act 90 = .ok (.aload_n 0, 1) ∧ decode cX11_act 91 = .ok (.getfield 99, 3) ∧ decode cX11_act 94 = .ok (.aload_n 0, 1) ∧ decode cX11_act 95 = .ok (.getfield 319, 3) ∧ decode cX11_act 98 = .ok (.iload 4, 2) ∧ decode cX11_act 100 = .ok (.iastore, 1) ∧ decode cX11_act 101 = .ok (.aload_n 0, 1) ∧ decode cX11_act 102 = .ok (.dup, 1) ∧ decode cX11_act 103 = .ok (.getfield 319, 3) ∧ decode cX11_act 106 = .ok (.iconst 1, 1) ∧ decode cX11_act 107 = .ok (.iadd, 1) ∧ decode cX11_act 108 = .ok (.putfield 319, 3) := by decide +kernel
theorem dX11_act_90 : decode cX11_act 90 = .ok (.aload_n 0, 1) := dX11_act_all4.1
theorem dX11_act_91 : decode cX11_act 91 = .ok (.getfield 99, 3) := dX11_act_all4.2.1
theorem dX11_act_94 : decode cX11_act 94 = .ok (.aload_n 0, 1) := dX11_act_all4.2.2.1
theorem dX11_act_95 : decode cX11_act 95 = .ok (.getfield 319, 3) := dX11_act_all4.2.2.2.1
theorem dX11_act_98 : decode cX11_act 98 = .ok (.iload 4, 2) := dX11_act_all4.2.2.2.2.1
theorem dX11_act_100 : decode cX11_act 100 = .ok (.iastore, 1) := dX11_act_all4.2.2.2.2.2.1
theorem dX11_act_101 : decode cX11_act 101 = .ok (.aload_n 0, 1) := dX11_act_all4.2.2.2.2.2.2.1
theorem dX11_act_102 : decode cX11_act 102 = .ok (.dup, 1) := dX11_act_all4.2.2.2.2.2.2.2.1
theorem dX11_act_103 : decode cX11_act 103 = .ok (.getfield 319, 3) := dX11_act_all4.2.2.2.2.2.2.2.2.1
theorem dX11_act_106 : decode cX11_act 106 = .ok (.iconst 1, 1) := dX11_act_all4.2.2.2.2.2.2.2.2.2.1
theorem dX11_act_107 : decode cX11_act 107 = .ok (.iadd, 1) := dX11_act_all4.2.2.2.2.2.2.2.2.2.2.1
theorem dX11_act_108 : decode cX11_act 108 = .ok (.putfield 319, 3) := dX11_act_all4.2.2.2.2.2.2.2.2.2.2.2
theorem dX11_act_all5 : decode cX11_act 111 = .ok (.aload_n 0, 1) ∧ decode cX11_act 112 = .ok (.getfield 319, 3) ∧ decode cX11_act 115 = .ok (.ireturn, 1) := by decide +kernel
theorem dX11_act_111 : decode cX11_act 111 = .ok (.aload_n 0, 1) := dX11_act_all5.1
theorem dX11_act_112 : decode cX11_act 112 = .ok (.getfield 319, 3) := dX11_act_all5.2.1
theorem dX11_act_115 : decode cX11_act 115 = .ok (.ireturn, 1) := dX11_act_all5.2.2
theorem ggX11_opened_X11_isCrate : GoodIn wsX11_opened wsX11_isCrate := goodIn_s (fun _ h => wm_t (wm_r (wm_l (wm_r h)))) Gd_X11_isCrate
theorem gX11_opened_X11_isCrate : GoodIn wsX11_opened (wsV RX11 219 RX11 yX11_isCrate wsX11_isCrate) := goodIn_V (own := RX11) (idx := 219) (C := RX11) (y := yX11_isCrate) (wm_t (wm_l (wm_i 10 rfl))) (wm_t (wm_l (wm_i 11 rfl))) (wm_t (wm_l (wm_i 12 rfl))) (wm_t (wm_l (wm_i 13 rfl))) ggX11_opened_X11_isCrate
theorem ggX11_opened_X11_isDay : GoodIn wsX11_opened wsX11_isDay := goodIn_s (fun _ h => wm_t (wm_r (wm_r (wm_l h)))) Gd_X11_isDay
theorem gX11_opened_X11_isDay : GoodIn wsX11_opened (va_wsS RX11 178 yX11_isDay wsX11_isDay) := goodIn_S (own := RX11) (idx := 178) (y := yX11_isDay) (wm_t (wm_l (wm_i 16 rfl))) (wm_t (wm_l (wm_i 17 rfl))) (wm_t (wm_l (wm_i 13 rfl))) ggX11_opened_X11_isDay
theorem ggX11_opened_X11_in : GoodIn wsX11_opened wsX11_in := goodIn_s (fun _ h => wm_t (wm_r (wm_r (wm_r h)))) Gd_X11_in
theorem gX11_opened_X11_in : GoodIn wsX11_opened (va_wsS RX11 147 yX11_in wsX11_in) := goodIn_S (own := RX11) (idx := 147) (y := yX11_in) (wm_t (wm_l (wm_i 14 rfl))) (wm_t (wm_l (wm_i 15 rfl))) (wm_t (wm_l (wm_i 13 rfl))) ggX11_opened_X11_in
theorem dX11_opened_all0 : decode cX11_opened 0 = .ok (.aload_n 0, 1) ∧ decode cX11_opened 1 = .ok (.iconst 0, 1) ∧ decode cX11_opened 2 = .ok (.putfield 1, 3) ∧ decode cX11_opened 5 = .ok (.aload_n 0, 1) ∧ decode cX11_opened 6 = .ok (.iload_n 1, 1) ∧ decode cX11_opened 7 = .ok (.invokevirtual 219, 3) ∧ decode cX11_opened 10 = .ok (.ifCond .eq 35, 3) ∧ decode cX11_opened 13 = .ok (.iload_n 2, 1) ∧ decode cX11_opened 14 = .ok (.invokestatic 178, 3) ∧ decode cX11_opened 17 = .ok (.ifCond .eq 28, 3) ∧ decode cX11_opened 20 = .ok (.iload_n 3, 1) ∧ decode cX11_opened 21 = .ok (.i2l, 1) := by decide +kernel
theorem dX11_opened_0 : decode cX11_opened 0 = .ok (.aload_n 0, 1) := dX11_opened_all0.1
theorem dX11_opened_1 : decode cX11_opened 1 = .ok (.iconst 0, 1) := dX11_opened_all0.2.1
theorem dX11_opened_2 : decode cX11_opened 2 = .ok (.putfield 1, 3) := dX11_opened_all0.2.2.1
theorem dX11_opened_5 : decode cX11_opened 5 = .ok (.aload_n 0, 1) := dX11_opened_all0.2.2.2.1
theorem dX11_opened_6 : decode cX11_opened 6 = .ok (.iload_n 1, 1) := dX11_opened_all0.2.2.2.2.1
theorem dX11_opened_7 : decode cX11_opened 7 = .ok (.invokevirtual 219, 3) := dX11_opened_all0.2.2.2.2.2.1
theorem dX11_opened_10 : decode cX11_opened 10 = .ok (.ifCond .eq 35, 3) := dX11_opened_all0.2.2.2.2.2.2.1
theorem dX11_opened_13 : decode cX11_opened 13 = .ok (.iload_n 2, 1) := dX11_opened_all0.2.2.2.2.2.2.2.1
theorem dX11_opened_14 : decode cX11_opened 14 = .ok (.invokestatic 178, 3) := dX11_opened_all0.2.2.2.2.2.2.2.2.1
theorem dX11_opened_17 : decode cX11_opened 17 = .ok (.ifCond .eq 28, 3) := dX11_opened_all0.2.2.2.2.2.2.2.2.2.1
theorem dX11_opened_20 : decode cX11_opened 20 = .ok (.iload_n 3, 1) := dX11_opened_all0.2.2.2.2.2.2.2.2.2.2.1
theorem dX11_opened_21 : decode cX11_opened 21 = .ok (.i2l, 1) := dX11_opened_all0.2.2.2.2.2.2.2.2.2.2.2
theorem dX11_opened_all1 : decode cX11_opened 22 = .ok (.lconst 1, 1) ∧ decode cX11_opened 23 = .ok (.ldc2_w 217, 3) ∧ decode cX11_opened 26 = .ok (.invokestatic 147, 3) ∧ decode cX11_opened 29 = .ok (.ifCond .eq 16, 3) ∧ decode cX11_opened 32 = .ok (.iload 4, 2) ∧ decode cX11_opened 34 = .ok (.i2l, 1) ∧ decode cX11_opened 35 = .ok (.lconst 0, 1) ∧ decode cX11_opened 36 = .ok (.ldc2_w 245, 3) ∧ decode cX11_opened 39 = .ok (.invokestatic 147, 3) ∧ decode cX11_opened 42 = .ok (.ifCond .ne 6, 3) ∧ decode cX11_opened 45 = .ok (.ldc 157, 2) ∧ decode cX11_opened 47 = .ok (.ireturn, 1) := by decide +kernel
theorem dX11_opened_22 : decode cX11_opened 22 = .ok (.lconst 1, 1) := dX11_opened_all1.1
theorem dX11_opened_23 : decode cX11_opened 23 = .ok (.ldc2_w 217, 3) := dX11_opened_all1.2.1
theorem dX11_opened_26 : decode cX11_opened 26 = .ok (.invokestatic 147, 3) := dX11_opened_all1.2.2.1
theorem dX11_opened_29 : decode cX11_opened 29 = .ok (.ifCond .eq 16, 3) := dX11_opened_all1.2.2.2.1
theorem dX11_opened_32 : decode cX11_opened 32 = .ok (.iload 4, 2) := dX11_opened_all1.2.2.2.2.1
theorem dX11_opened_34 : decode cX11_opened 34 = .ok (.i2l, 1) := dX11_opened_all1.2.2.2.2.2.1
theorem dX11_opened_35 : decode cX11_opened 35 = .ok (.lconst 0, 1) := dX11_opened_all1.2.2.2.2.2.2.1
theorem dX11_opened_36 : decode cX11_opened 36 = .ok (.ldc2_w 245, 3) := dX11_opened_all1.2.2.2.2.2.2.2.1
theorem dX11_opened_39 : decode cX11_opened 39 = .ok (.invokestatic 147, 3) := dX11_opened_all1.2.2.2.2.2.2.2.2.1
theorem dX11_opened_42 : decode cX11_opened 42 = .ok (.ifCond .ne 6, 3) := dX11_opened_all1.2.2.2.2.2.2.2.2.2.1
theorem dX11_opened_45 : decode cX11_opened 45 = .ok (.ldc 157, 2) := dX11_opened_all1.2.2.2.2.2.2.2.2.2.2.1
theorem dX11_opened_47 : decode cX11_opened 47 = .ok (.ireturn, 1) := dX11_opened_all1.2.2.2.2.2.2.2.2.2.2.2
theorem dX11_opened_all2 : decode cX11_opened 48 = .ok (.aload_n 0, 1) ∧ decode cX11_opened 49 = .ok (.getfield 354, 3) ∧ decode cX11_opened 52 = .ok (.bipush 60, 2) ∧ decode cX11_opened 54 = .ok (.if_icmp .ne 6, 3) ∧ decode cX11_opened 57 = .ok (.ldc 184, 2) ∧ decode cX11_opened 59 = .ok (.ireturn, 1) ∧ decode cX11_opened 60 = .ok (.aload_n 0, 1) ∧ decode cX11_opened 61 = .ok (.getfield 111, 3) ∧ decode cX11_opened 64 = .ok (.aload_n 0, 1) ∧ decode cX11_opened 65 = .ok (.getfield 354, 3) ∧ decode cX11_opened 68 = .ok (.iload_n 1, 1) ∧ decode cX11_opened 69 = .ok (.iastore, 1) := by decide +kernel
theorem dX11_opened_48 : decode cX11_opened 48 = .ok (.aload_n 0, 1) := dX11_opened_all2.1
theorem dX11_opened_49 : decode cX11_opened 49 = .ok (.getfield 354, 3) := dX11_opened_all2.2.1
theorem dX11_opened_52 : decode cX11_opened 52 = .ok (.bipush 60, 2) := dX11_opened_all2.2.2.1
theorem dX11_opened_54 : decode cX11_opened 54 = .ok (.if_icmp .ne 6, 3) := dX11_opened_all2.2.2.2.1
theorem dX11_opened_57 : decode cX11_opened 57 = .ok (.ldc 184, 2) := dX11_opened_all2.2.2.2.2.1
theorem dX11_opened_59 : decode cX11_opened 59 = .ok (.ireturn, 1) := dX11_opened_all2.2.2.2.2.2.1
theorem dX11_opened_60 : decode cX11_opened 60 = .ok (.aload_n 0, 1) := dX11_opened_all2.2.2.2.2.2.2.1
theorem dX11_opened_61 : decode cX11_opened 61 = .ok (.getfield 111, 3) := dX11_opened_all2.2.2.2.2.2.2.2.1
theorem dX11_opened_64 : decode cX11_opened 64 = .ok (.aload_n 0, 1) := dX11_opened_all2.2.2.2.2.2.2.2.2.1
theorem dX11_opened_65 : decode cX11_opened 65 = .ok (.getfield 354, 3) := dX11_opened_all2.2.2.2.2.2.2.2.2.2.1
theorem dX11_opened_68 : decode cX11_opened 68 = .ok (.iload_n 1, 1) := dX11_opened_all2.2.2.2.2.2.2.2.2.2.2.1
theorem dX11_opened_69 : decode cX11_opened 69 = .ok (.iastore, 1) := dX11_opened_all2.2.2.2.2.2.2.2.2.2.2.2
theorem dX11_opened_all3 : decode cX11_opened 70 = .ok (.aload_n 0, 1) ∧ decode cX11_opened 71 = .ok (.getfield 114, 3) ∧ decode cX11_opened 74 = .ok (.aload_n 0, 1) ∧ decode cX11_opened 75 = .ok (.getfield 354, 3) ∧ decode cX11_opened 78 = .ok (.iload_n 2, 1) ∧ decode cX11_opened 79 = .ok (.iastore, 1) ∧ decode cX11_opened 80 = .ok (.aload_n 0, 1) ∧ decode cX11_opened 81 = .ok (.getfield 117, 3) ∧ decode cX11_opened 84 = .ok (.aload_n 0, 1) ∧ decode cX11_opened 85 = .ok (.getfield 354, 3) ∧ decode cX11_opened 88 = .ok (.iload_n 3, 1) ∧ decode cX11_opened 89 = .ok (.iastore, 1) := by decide +kernel
theorem dX11_opened_70 : decode cX11_opened 70 = .ok (.aload_n 0, 1) := dX11_opened_all3.1
theorem dX11_opened_71 : decode cX11_opened 71 = .ok (.getfield 114, 3) := dX11_opened_all3.2.1
theorem dX11_opened_74 : decode cX11_opened 74 = .ok (.aload_n 0, 1) := dX11_opened_all3.2.2.1
theorem dX11_opened_75 : decode cX11_opened 75 = .ok (.getfield 354, 3) := dX11_opened_all3.2.2.2.1
theorem dX11_opened_78 : decode cX11_opened 78 = .ok (.iload_n 2, 1) := dX11_opened_all3.2.2.2.2.1
theorem dX11_opened_79 : decode cX11_opened 79 = .ok (.iastore, 1) := dX11_opened_all3.2.2.2.2.2.1
theorem dX11_opened_80 : decode cX11_opened 80 = .ok (.aload_n 0, 1) := dX11_opened_all3.2.2.2.2.2.2.1
theorem dX11_opened_81 : decode cX11_opened 81 = .ok (.getfield 117, 3) := dX11_opened_all3.2.2.2.2.2.2.2.1
theorem dX11_opened_84 : decode cX11_opened 84 = .ok (.aload_n 0, 1) := dX11_opened_all3.2.2.2.2.2.2.2.2.1
theorem dX11_opened_85 : decode cX11_opened 85 = .ok (.getfield 354, 3) := dX11_opened_all3.2.2.2.2.2.2.2.2.2.1
theorem dX11_opened_88 : decode cX11_opened 88 = .ok (.iload_n 3, 1) := dX11_opened_all3.2.2.2.2.2.2.2.2.2.2.1
theorem dX11_opened_89 : decode cX11_opened 89 = .ok (.iastore, 1) := dX11_opened_all3.2.2.2.2.2.2.2.2.2.2.2
theorem dX11_opened_all4 : decode cX11_opened 90 = .ok (.aload_n 0, 1) ∧ decode cX11_opened 91 = .ok (.getfield 120, 3) ∧ decode cX11_opened 94 = .ok (.aload_n 0, 1) ∧ decode cX11_opened 95 = .ok (.getfield 354, 3) ∧ decode cX11_opened 98 = .ok (.iload 4, 2) ∧ decode cX11_opened 100 = .ok (.iastore, 1) ∧ decode cX11_opened 101 = .ok (.aload_n 0, 1) ∧ decode cX11_opened 102 = .ok (.dup, 1) ∧ decode cX11_opened 103 = .ok (.getfield 354, 3) ∧ decode cX11_opened 106 = .ok (.iconst 1, 1) ∧ decode cX11_opened 107 = .ok (.iadd, 1) ∧ decode cX11_opened 108 = .ok (.putfield 354, 3) := by decide +kernel
theorem dX11_opened_90 : decode cX11_opened 90 = .ok (.aload_n 0, 1) := dX11_opened_all4.1
theorem dX11_opened_91 : decode cX11_opened 91 = .ok (.getfield 120, 3) := dX11_opened_all4.2.1
theorem dX11_opened_94 : decode cX11_opened 94 = .ok (.aload_n 0, 1) := dX11_opened_all4.2.2.1
theorem dX11_opened_95 : decode cX11_opened 95 = .ok (.getfield 354, 3) := dX11_opened_all4.2.2.2.1
theorem dX11_opened_98 : decode cX11_opened 98 = .ok (.iload 4, 2) := dX11_opened_all4.2.2.2.2.1
theorem dX11_opened_100 : decode cX11_opened 100 = .ok (.iastore, 1) := dX11_opened_all4.2.2.2.2.2.1
theorem dX11_opened_101 : decode cX11_opened 101 = .ok (.aload_n 0, 1) := dX11_opened_all4.2.2.2.2.2.2.1
theorem dX11_opened_102 : decode cX11_opened 102 = .ok (.dup, 1) := dX11_opened_all4.2.2.2.2.2.2.2.1
theorem dX11_opened_103 : decode cX11_opened 103 = .ok (.getfield 354, 3) := dX11_opened_all4.2.2.2.2.2.2.2.2.1
theorem dX11_opened_106 : decode cX11_opened 106 = .ok (.iconst 1, 1) := dX11_opened_all4.2.2.2.2.2.2.2.2.2.1
theorem dX11_opened_107 : decode cX11_opened 107 = .ok (.iadd, 1) := dX11_opened_all4.2.2.2.2.2.2.2.2.2.2.1
theorem dX11_opened_108 : decode cX11_opened 108 = .ok (.putfield 354, 3) := dX11_opened_all4.2.2.2.2.2.2.2.2.2.2.2
theorem dX11_opened_all5 : decode cX11_opened 111 = .ok (.aload_n 0, 1) ∧ decode cX11_opened 112 = .ok (.getfield 354, 3) ∧ decode cX11_opened 115 = .ok (.ireturn, 1) := by decide +kernel
theorem dX11_opened_111 : decode cX11_opened 111 = .ok (.aload_n 0, 1) := dX11_opened_all5.1
theorem dX11_opened_112 : decode cX11_opened 112 = .ok (.getfield 354, 3) := dX11_opened_all5.2.1
theorem dX11_opened_115 : decode cX11_opened 115 = .ok (.ireturn, 1) := dX11_opened_all5.2.2
theorem ggX11_list_X11_isPerson : GoodIn wsX11_list wsX11_isPerson := goodIn_s (fun _ h => wm_t (wm_r (wm_l (wm_r h)))) Gd_X11_isPerson
theorem gX11_list_X11_isPerson : GoodIn wsX11_list (va_wsS RX11 208 yX11_isPerson wsX11_isPerson) := goodIn_S (own := RX11) (idx := 208) (y := yX11_isPerson) (wm_t (wm_l (wm_i 8 rfl))) (wm_t (wm_l (wm_i 9 rfl))) (wm_t (wm_l (wm_i 10 rfl))) ggX11_list_X11_isPerson
theorem ggX11_list_X11_isDay : GoodIn wsX11_list wsX11_isDay := goodIn_s (fun _ h => wm_t (wm_r (wm_r (wm_l h)))) Gd_X11_isDay
theorem gX11_list_X11_isDay : GoodIn wsX11_list (va_wsS RX11 178 yX11_isDay wsX11_isDay) := goodIn_S (own := RX11) (idx := 178) (y := yX11_isDay) (wm_t (wm_l (wm_i 13 rfl))) (wm_t (wm_l (wm_i 14 rfl))) (wm_t (wm_l (wm_i 10 rfl))) ggX11_list_X11_isDay
theorem ggX11_list_X11_in : GoodIn wsX11_list wsX11_in := goodIn_s (fun _ h => wm_t (wm_r (wm_r (wm_r h)))) Gd_X11_in
theorem gX11_list_X11_in : GoodIn wsX11_list (va_wsS RX11 147 yX11_in wsX11_in) := goodIn_S (own := RX11) (idx := 147) (y := yX11_in) (wm_t (wm_l (wm_i 11 rfl))) (wm_t (wm_l (wm_i 12 rfl))) (wm_t (wm_l (wm_i 10 rfl))) ggX11_list_X11_in
theorem dX11_list_all0 : decode cX11_list 0 = .ok (.aload_n 0, 1) ∧ decode cX11_list 1 = .ok (.iconst 0, 1) ∧ decode cX11_list 2 = .ok (.putfield 1, 3) ∧ decode cX11_list 5 = .ok (.iload_n 1, 1) ∧ decode cX11_list 6 = .ok (.invokestatic 208, 3) ∧ decode cX11_list 9 = .ok (.ifCond .eq 23, 3) ∧ decode cX11_list 12 = .ok (.iload_n 2, 1) ∧ decode cX11_list 13 = .ok (.invokestatic 178, 3) ∧ decode cX11_list 16 = .ok (.ifCond .eq 16, 3) ∧ decode cX11_list 19 = .ok (.iload_n 3, 1) ∧ decode cX11_list 20 = .ok (.i2l, 1) ∧ decode cX11_list 21 = .ok (.iload_n 2, 1) := by decide +kernel
theorem dX11_list_0 : decode cX11_list 0 = .ok (.aload_n 0, 1) := dX11_list_all0.1
theorem dX11_list_1 : decode cX11_list 1 = .ok (.iconst 0, 1) := dX11_list_all0.2.1
theorem dX11_list_2 : decode cX11_list 2 = .ok (.putfield 1, 3) := dX11_list_all0.2.2.1
theorem dX11_list_5 : decode cX11_list 5 = .ok (.iload_n 1, 1) := dX11_list_all0.2.2.2.1
theorem dX11_list_6 : decode cX11_list 6 = .ok (.invokestatic 208, 3) := dX11_list_all0.2.2.2.2.1
theorem dX11_list_9 : decode cX11_list 9 = .ok (.ifCond .eq 23, 3) := dX11_list_all0.2.2.2.2.2.1
theorem dX11_list_12 : decode cX11_list 12 = .ok (.iload_n 2, 1) := dX11_list_all0.2.2.2.2.2.2.1
theorem dX11_list_13 : decode cX11_list 13 = .ok (.invokestatic 178, 3) := dX11_list_all0.2.2.2.2.2.2.2.1
theorem dX11_list_16 : decode cX11_list 16 = .ok (.ifCond .eq 16, 3) := dX11_list_all0.2.2.2.2.2.2.2.2.1
theorem dX11_list_19 : decode cX11_list 19 = .ok (.iload_n 3, 1) := dX11_list_all0.2.2.2.2.2.2.2.2.2.1
theorem dX11_list_20 : decode cX11_list 20 = .ok (.i2l, 1) := dX11_list_all0.2.2.2.2.2.2.2.2.2.2.1
theorem dX11_list_21 : decode cX11_list 21 = .ok (.iload_n 2, 1) := dX11_list_all0.2.2.2.2.2.2.2.2.2.2.2
theorem dX11_list_all1 : decode cX11_list 22 = .ok (.i2l, 1) ∧ decode cX11_list 23 = .ok (.ldc2_w 168, 3) ∧ decode cX11_list 26 = .ok (.invokestatic 147, 3) ∧ decode cX11_list 29 = .ok (.ifCond .ne 6, 3) ∧ decode cX11_list 32 = .ok (.ldc 157, 2) ∧ decode cX11_list 34 = .ok (.ireturn, 1) ∧ decode cX11_list 35 = .ok (.aload_n 0, 1) ∧ decode cX11_list 36 = .ok (.getfield 360, 3) ∧ decode cX11_list 39 = .ok (.bipush 20, 2) ∧ decode cX11_list 41 = .ok (.if_icmp .ne 6, 3) ∧ decode cX11_list 44 = .ok (.ldc 184, 2) ∧ decode cX11_list 46 = .ok (.ireturn, 1) := by decide +kernel
theorem dX11_list_22 : decode cX11_list 22 = .ok (.i2l, 1) := dX11_list_all1.1
theorem dX11_list_23 : decode cX11_list 23 = .ok (.ldc2_w 168, 3) := dX11_list_all1.2.1
theorem dX11_list_26 : decode cX11_list 26 = .ok (.invokestatic 147, 3) := dX11_list_all1.2.2.1
theorem dX11_list_29 : decode cX11_list 29 = .ok (.ifCond .ne 6, 3) := dX11_list_all1.2.2.2.1
theorem dX11_list_32 : decode cX11_list 32 = .ok (.ldc 157, 2) := dX11_list_all1.2.2.2.2.1
theorem dX11_list_34 : decode cX11_list 34 = .ok (.ireturn, 1) := dX11_list_all1.2.2.2.2.2.1
theorem dX11_list_35 : decode cX11_list 35 = .ok (.aload_n 0, 1) := dX11_list_all1.2.2.2.2.2.2.1
theorem dX11_list_36 : decode cX11_list 36 = .ok (.getfield 360, 3) := dX11_list_all1.2.2.2.2.2.2.2.1
theorem dX11_list_39 : decode cX11_list 39 = .ok (.bipush 20, 2) := dX11_list_all1.2.2.2.2.2.2.2.2.1
theorem dX11_list_41 : decode cX11_list 41 = .ok (.if_icmp .ne 6, 3) := dX11_list_all1.2.2.2.2.2.2.2.2.2.1
theorem dX11_list_44 : decode cX11_list 44 = .ok (.ldc 184, 2) := dX11_list_all1.2.2.2.2.2.2.2.2.2.2.1
theorem dX11_list_46 : decode cX11_list 46 = .ok (.ireturn, 1) := dX11_list_all1.2.2.2.2.2.2.2.2.2.2.2
theorem dX11_list_all2 : decode cX11_list 47 = .ok (.aload_n 0, 1) ∧ decode cX11_list 48 = .ok (.getfield 123, 3) ∧ decode cX11_list 51 = .ok (.aload_n 0, 1) ∧ decode cX11_list 52 = .ok (.getfield 360, 3) ∧ decode cX11_list 55 = .ok (.iload_n 1, 1) ∧ decode cX11_list 56 = .ok (.iastore, 1) ∧ decode cX11_list 57 = .ok (.aload_n 0, 1) ∧ decode cX11_list 58 = .ok (.getfield 126, 3) ∧ decode cX11_list 61 = .ok (.aload_n 0, 1) ∧ decode cX11_list 62 = .ok (.getfield 360, 3) ∧ decode cX11_list 65 = .ok (.iload_n 2, 1) ∧ decode cX11_list 66 = .ok (.iastore, 1) := by decide +kernel
theorem dX11_list_47 : decode cX11_list 47 = .ok (.aload_n 0, 1) := dX11_list_all2.1
theorem dX11_list_48 : decode cX11_list 48 = .ok (.getfield 123, 3) := dX11_list_all2.2.1
theorem dX11_list_51 : decode cX11_list 51 = .ok (.aload_n 0, 1) := dX11_list_all2.2.2.1
theorem dX11_list_52 : decode cX11_list 52 = .ok (.getfield 360, 3) := dX11_list_all2.2.2.2.1
theorem dX11_list_55 : decode cX11_list 55 = .ok (.iload_n 1, 1) := dX11_list_all2.2.2.2.2.1
theorem dX11_list_56 : decode cX11_list 56 = .ok (.iastore, 1) := dX11_list_all2.2.2.2.2.2.1
theorem dX11_list_57 : decode cX11_list 57 = .ok (.aload_n 0, 1) := dX11_list_all2.2.2.2.2.2.2.1
theorem dX11_list_58 : decode cX11_list 58 = .ok (.getfield 126, 3) := dX11_list_all2.2.2.2.2.2.2.2.1
theorem dX11_list_61 : decode cX11_list 61 = .ok (.aload_n 0, 1) := dX11_list_all2.2.2.2.2.2.2.2.2.1
theorem dX11_list_62 : decode cX11_list 62 = .ok (.getfield 360, 3) := dX11_list_all2.2.2.2.2.2.2.2.2.2.1
theorem dX11_list_65 : decode cX11_list 65 = .ok (.iload_n 2, 1) := dX11_list_all2.2.2.2.2.2.2.2.2.2.2.1
theorem dX11_list_66 : decode cX11_list 66 = .ok (.iastore, 1) := dX11_list_all2.2.2.2.2.2.2.2.2.2.2.2
theorem dX11_list_all3 : decode cX11_list 67 = .ok (.aload_n 0, 1) ∧ decode cX11_list 68 = .ok (.getfield 129, 3) ∧ decode cX11_list 71 = .ok (.aload_n 0, 1) ∧ decode cX11_list 72 = .ok (.getfield 360, 3) ∧ decode cX11_list 75 = .ok (.iload_n 3, 1) ∧ decode cX11_list 76 = .ok (.iastore, 1) ∧ decode cX11_list 77 = .ok (.aload_n 0, 1) ∧ decode cX11_list 78 = .ok (.dup, 1) ∧ decode cX11_list 79 = .ok (.getfield 360, 3) ∧ decode cX11_list 82 = .ok (.iconst 1, 1) ∧ decode cX11_list 83 = .ok (.iadd, 1) ∧ decode cX11_list 84 = .ok (.putfield 360, 3) := by decide +kernel
theorem dX11_list_67 : decode cX11_list 67 = .ok (.aload_n 0, 1) := dX11_list_all3.1
theorem dX11_list_68 : decode cX11_list 68 = .ok (.getfield 129, 3) := dX11_list_all3.2.1
theorem dX11_list_71 : decode cX11_list 71 = .ok (.aload_n 0, 1) := dX11_list_all3.2.2.1
theorem dX11_list_72 : decode cX11_list 72 = .ok (.getfield 360, 3) := dX11_list_all3.2.2.2.1
theorem dX11_list_75 : decode cX11_list 75 = .ok (.iload_n 3, 1) := dX11_list_all3.2.2.2.2.1
theorem dX11_list_76 : decode cX11_list 76 = .ok (.iastore, 1) := dX11_list_all3.2.2.2.2.2.1
theorem dX11_list_77 : decode cX11_list 77 = .ok (.aload_n 0, 1) := dX11_list_all3.2.2.2.2.2.2.1
theorem dX11_list_78 : decode cX11_list 78 = .ok (.dup, 1) := dX11_list_all3.2.2.2.2.2.2.2.1
theorem dX11_list_79 : decode cX11_list 79 = .ok (.getfield 360, 3) := dX11_list_all3.2.2.2.2.2.2.2.2.1
theorem dX11_list_82 : decode cX11_list 82 = .ok (.iconst 1, 1) := dX11_list_all3.2.2.2.2.2.2.2.2.2.1
theorem dX11_list_83 : decode cX11_list 83 = .ok (.iadd, 1) := dX11_list_all3.2.2.2.2.2.2.2.2.2.2.1
theorem dX11_list_84 : decode cX11_list 84 = .ok (.putfield 360, 3) := dX11_list_all3.2.2.2.2.2.2.2.2.2.2.2
theorem dX11_list_all4 : decode cX11_list 87 = .ok (.aload_n 0, 1) ∧ decode cX11_list 88 = .ok (.getfield 360, 3) ∧ decode cX11_list 91 = .ok (.ireturn, 1) := by decide +kernel
theorem dX11_list_87 : decode cX11_list 87 = .ok (.aload_n 0, 1) := dX11_list_all4.1
theorem dX11_list_88 : decode cX11_list 88 = .ok (.getfield 360, 3) := dX11_list_all4.2.1
theorem dX11_list_91 : decode cX11_list 91 = .ok (.ireturn, 1) := dX11_list_all4.2.2
set_option maxHeartbeats 4000000 in
set_option maxRecDepth 100000 in
theorem ct_X11_holding (l : Launch) (D : va_G) (cI cY cJ cQ : ClassId) (sz : Nat) (md : Nat → Nat) (sd : Int32) (mth mst hn cn pn mq gn mln mnn ln mlt msz mcu mtk mfr mti mfa mfb an un lc td mtn : Int32) (ho hc hp hs : Nat → Int32) (o : Int32) (k : Int32) (q : Int32) (d : Int32)  (h1 : 0 ≤ hn.toInt) (h2 : hn.toInt ≤ 40)  : Met l yX11_holding wsX11_holding ({ frames := 2, cells := 0, slots := 0, locals := 45 }) (cPre D (ty4 cI cY cJ cQ) [(moC md sd mth mst hn cn pn mq gn mln mnn ln mlt msz mcu mtk mfr mti mfa mfb an un lc td mtn), (aI cI (md 7) 40 ho), (aI cI (md 8) 40 hc), (aI cI (md 9) 40 hp), (aI cI (md 10) 40 hs)] sz [.ref (md 64), .int o, .int k, .int q, .int d]) (va_Qi (fun (r : Int32) (u : Int32 × (Nat → Int32) × (Nat → Int32) × (Nat → Int32) × (Nat → Int32)) => (r, u) = sp_hold hn ho hc hp hs o k q d) (cB D (ty4 cI cY cJ cQ) (fun (u : Int32 × (Nat → Int32) × (Nat → Int32) × (Nat → Int32) × (Nat → Int32)) => [(moC md sd mth mst u.1 cn pn mq gn mln mnn ln mlt msz mcu mtk mfr mti mfa mfb an un lc td mtn), (aI cI (md 7) 40 u.2.1), (aI cI (md 8) 40 u.2.2.1), (aI cI (md 9) 40 u.2.2.2.1), (aI cI (md 10) 40 u.2.2.2.2)]) (va_A [(moC md sd mth mst hn cn pn mq gn mln mnn ln mlt msz mcu mtk mfr mti mfa mfb an un lc td mtn), (aI cI (md 7) 40 ho), (aI cI (md 8) 40 hc), (aI cI (md 9) 40 hp), (aI cI (md 10) 40 hs)] sz)) (va_A [(moC md sd mth mst hn cn pn mq gn mln mnn ln mlt msz mcu mtk mfr mti mfa mfb an un lc td mtn), (aI cI (md 7) 40 ho), (aI cI (md 8) 40 hc), (aI cI (md 9) 40 hp), (aI cI (md 10) 40 hs)] sz)) 0 0 (va_A [(moC md sd mth mst hn cn pn mq gn mln mnn ln mlt msz mcu mtk mfr mti mfa mfb an un lc td mtn), (aI cI (md 7) 40 ho), (aI cI (md 8) 40 hc), (aI cI (md 9) 40 hp), (aI cI (md 10) 40 hs)] sz) := by
  refine Met.ofW (cc := cX11_holding) (maxL := 5) (ret := (some .int)) (by decide) rfl ?_
  intro p e s m args below meth c s₁ B hml hv
  obtain ⟨rfl, hsz, hP, hK, hD0, hN⟩ := hv
  have hx := B.exec
  have hb := B.bytes
  have hr := B.returns
  have hts := atoms_spec (ws := wsX11_holding) B.pre
  have hown : s.vm.findClass RX11 = some m.cls := findClass_of_methodNamed B.named
  have hlocks := B.notSynchronized
  subst hsz
  have hD := hD0.self (sz := s.heap.size)
  generalize hAe : va_A [(moC md sd mth mst hn cn pn mq gn mln mnn ln mlt msz mcu mtk mfr mti mfa mfb an un lc td mtn), (aI cI (md 7) 40 ho), (aI cI (md 8) 40 hc), (aI cI (md 9) 40 hp), (aI cI (md 10) 40 hs)] s.heap.size = A at hD ⊢
  have hA : ∀ q : Nat, s.heap.size ≤ q → A q := fun q h => by rw [← hAe]; exact Or.inr h
  have hS : va_S A s.heap s.heap [] := va_S.rf
  have hP : va_P D vwCl [(moC md sd mth mst hn cn pn mq gn mln mnn ln mlt msz mcu mtk mfr mti mfa mfb an un lc td mtn), (aI cI (md 7) 40 ho), (aI cI (md 8) 40 hc), (aI cI (md 9) 40 hp), (aI cI (md 10) 40 hs)] s.heap := hP
  have hl := lv_entry ([.ref (md 64), .int o, .int k, .int q, .int d]) (n := 5) (Nat.le_of_ble_eq_true rfl)
  rw [lg_entry_eq]
  generalize (lg_sl ([.ref (md 64), .int o, .int k, .int q, .int d]) ++ List.replicate (5 - (lg_sl ([.ref (md 64), .int o, .int k, .int q, .int d])).length) Slot.unset).toArray = ls at hl ⊢
  have hl : lv_has ls 5 [(0, .ref (md 64)), (1, .int o), (2, .int k), (3, .int q), (4, .int d)] := hl
  have km1000003 : (-1000003 : Int32).toInt = -1000003 := by decide
  have km1000001 : (-1000001 : Int32).toInt = -1000001 := by decide
  have k0 : (0 : Int32).toInt = 0 := by decide
  have k1 : (1 : Int32).toInt = 1 := by decide
  have k40 : (40 : Int32).toInt = 40 := by decide
  have kl0 : (0 : Int64).toInt = 0 := by decide
  have kl100 : (100 : Int64).toInt = 100 := by decide
  refine lv_iload_n hx hb dX11_holding_0 rfl (lv_at hl 1 rfl) ?_
  refine st_i1 (va_runS (As := [.int o]) (rest := []) ⟨hx, hb, hml, hown, hts⟩ (ct_X11_isOwner l D cI cY cJ cQ _ o) (va_cwS 1 hts gX11_holding_X11_isOwner rfl rfl rfl cdX11_isOwner ⟨Nat.le_of_ble_eq_true rfl, Nat.le_of_ble_eq_true rfl⟩) (cPreS (hP.sub [] rfl) hK (hD.sub [] (by decide +kernel) rfl) hN) rfl rfl hl.1 rfl (lv_room (Nat.le_of_ble_eq_true rfl)) dX11_holding_1 ⟨Nat.le_of_ble_eq_true rfl, Nat.le_of_ble_eq_true rfl⟩) hP hD hS hA [] rfl (fun _ => rfl) (fun r3 u1 H locs hw2 => ?_)
  clear hP hS
  intro hP hS
  replace hw2 : r3 = if 0 ≤ o.toInt ∧ o.toInt ≤ 19 then 1 else 0 := hw2
  refine lv_if_eq (tgt := 39) hx hb dX11_holding_4 (by decide) (fun c4 => ?_) (fun c4 => ?_)
  · skip
    have f5 := bo_f hw2 c4
    refine lv_ldc hx hb hown (hts (Cond.constant RX11 157 (-1000001)) (wm_t (wm_l (wm_i 1 rfl)))) dX11_holding_39 ?_
    have hP9 := hP
    have hD9 := hD
    exact W.iret (v := (-1000001)) hx hb hr (fun t ht hW => ⟨⟨(-1000001), (hn, ho, hc, hp, hs), rfl, (by unfold sp_hold; (repeat' split) <;> first | rfl | (exfalso; omega) | (subst_vars; rfl)), by rw [ht]; exact hP9, va_K.moved hW.alike hK, hD9⟩, hS.F ht⟩) hS.2.2 dX11_holding_41
  · skip
    have f6 := bo_t hw2 c4
    refine lv_iload_n hx hb dX11_holding_7 rfl (lv_at hl 2 rfl) ?_
    refine st_i1 (va_runS (As := [.int k]) (rest := []) ⟨hx, hb, hml, hown, hts⟩ (ct_X11_isCompany l D cI cY cJ cQ _ k) (va_cwS 1 hts gX11_holding_X11_isCompany rfl rfl rfl cdX11_isCompany ⟨Nat.le_of_ble_eq_true rfl, Nat.le_of_ble_eq_true rfl⟩) (cPreS (hP.sub [] rfl) hK (hD.sub [] (by decide +kernel) rfl) hN) rfl rfl hl.1 rfl (lv_room (Nat.le_of_ble_eq_true rfl)) dX11_holding_8 ⟨Nat.le_of_ble_eq_true rfl, Nat.le_of_ble_eq_true rfl⟩) hP hD hS hA [] rfl (fun _ => rfl) (fun r9 u7 H locs hw8 => ?_)
    clear hP hS
    intro hP hS
    replace hw8 : r9 = if 10 ≤ k.toInt ∧ k.toInt ≤ 19 then 1 else 0 := hw8
    refine lv_if_eq (tgt := 39) hx hb dX11_holding_11 (by decide) (fun c10 => ?_) (fun c10 => ?_)
    · skip
      have f11 := bo_f hw8 c10
      refine lv_ldc hx hb hown (hts (Cond.constant RX11 157 (-1000001)) (wm_t (wm_l (wm_i 1 rfl)))) dX11_holding_39 ?_
      have hP9 := hP
      have hD9 := hD
      exact W.iret (v := (-1000001)) hx hb hr (fun t ht hW => ⟨⟨(-1000001), (hn, ho, hc, hp, hs), rfl, (by unfold sp_hold; (repeat' split) <;> first | rfl | (exfalso; omega) | (subst_vars; rfl)), by rw [ht]; exact hP9, va_K.moved hW.alike hK, hD9⟩, hS.F ht⟩) hS.2.2 dX11_holding_41
    · skip
      have f12 := bo_t hw8 c10
      refine lv_iload_n hx hb dX11_holding_14 rfl (lv_at hl 1 rfl) ?_
      refine lv_iload_n hx hb dX11_holding_15 rfl (lv_at hl 2 rfl) ?_
      refine lv_icmp_eq (tgt := 39) hx hb dX11_holding_16 (by decide) (fun c13 => ?_) (fun c13 => ?_)
      · skip
        have f14 := i_eq c13
        refine lv_ldc hx hb hown (hts (Cond.constant RX11 157 (-1000001)) (wm_t (wm_l (wm_i 1 rfl)))) dX11_holding_39 ?_
        have hP9 := hP
        have hD9 := hD
        exact W.iret (v := (-1000001)) hx hb hr (fun t ht hW => ⟨⟨(-1000001), (hn, ho, hc, hp, hs), rfl, (by unfold sp_hold; (repeat' split) <;> first | rfl | (exfalso; omega) | (subst_vars; rfl)), by rw [ht]; exact hP9, va_K.moved hW.alike hK, hD9⟩, hS.F ht⟩) hS.2.2 dX11_holding_41
      · skip
        have f15 := i_ne c13
        refine lv_iload_n hx hb dX11_holding_19 rfl (lv_at hl 3 rfl) ?_
        refine lv_i2l hx hb dX11_holding_20 rfl ?_
        have w16 := i_w q
        have w17 := i_rng q
        refine lv_lconst (v := 0) hx hb dX11_holding_21 (by decide) ?_
        refine lv_ldc2 hx hb hown (hts (Cond.constantLong RX11 176 (100)) (wm_t (wm_l (wm_i 0 rfl)))) dX11_holding_22 ?_
        refine st_i1 (va_runS (As := [.long (q.toInt64), .long 0, .long 100]) (rest := []) ⟨hx, hb, hml, hown, hts⟩ (ct_X11_in l D cI cY cJ cQ _ q.toInt64 (0 : Int64) (100 : Int64)) (va_cwS 3 hts gX11_holding_X11_in rfl rfl rfl cdX11_in ⟨Nat.le_of_ble_eq_true rfl, Nat.le_of_ble_eq_true rfl⟩) (cPreS (hP.sub [] rfl) hK (hD.sub [] (by decide +kernel) rfl) hN) rfl rfl hl.1 rfl (lv_room (Nat.le_of_ble_eq_true rfl)) dX11_holding_25 ⟨Nat.le_of_ble_eq_true rfl, Nat.le_of_ble_eq_true rfl⟩) hP hD hS hA [] rfl (fun _ => rfl) (fun r20 u18 H locs hw19 => ?_)
        clear hP hS
        intro hP hS
        replace hw19 : r20 = if (0 : Int64).toInt ≤ q.toInt64.toInt ∧ q.toInt64.toInt ≤ (100 : Int64).toInt then 1 else 0 := hw19
        refine lv_if_eq (tgt := 39) hx hb dX11_holding_28 (by decide) (fun c21 => ?_) (fun c21 => ?_)
        · skip
          have f22 := bo_f hw19 c21
          refine lv_ldc hx hb hown (hts (Cond.constant RX11 157 (-1000001)) (wm_t (wm_l (wm_i 1 rfl)))) dX11_holding_39 ?_
          have hP9 := hP
          have hD9 := hD
          exact W.iret (v := (-1000001)) hx hb hr (fun t ht hW => ⟨⟨(-1000001), (hn, ho, hc, hp, hs), rfl, (by unfold sp_hold; (repeat' split) <;> first | rfl | (exfalso; omega) | (subst_vars; rfl)), by rw [ht]; exact hP9, va_K.moved hW.alike hK, hD9⟩, hS.F ht⟩) hS.2.2 dX11_holding_41
        · skip
          have f23 := bo_t hw19 c21
          refine lv_iload hx hb dX11_holding_31 (lv_at hl 4 rfl) ?_
          refine st_i1 (va_runS (As := [.int d]) (rest := []) ⟨hx, hb, hml, hown, hts⟩ (ct_X11_isDay l D cI cY cJ cQ _ d) (va_cwS 1 hts gX11_holding_X11_isDay rfl rfl rfl cdX11_isDay ⟨Nat.le_of_ble_eq_true rfl, Nat.le_of_ble_eq_true rfl⟩) (cPreS (hP.sub [] rfl) hK (hD.sub [] (by decide +kernel) rfl) hN) rfl rfl hl.1 rfl (lv_room (Nat.le_of_ble_eq_true rfl)) dX11_holding_33 ⟨Nat.le_of_ble_eq_true rfl, Nat.le_of_ble_eq_true rfl⟩) hP hD hS hA [] rfl (fun _ => rfl) (fun r26 u24 H locs hw25 => ?_)
          clear hP hS
          intro hP hS
          replace hw25 : r26 = if 0 ≤ d.toInt ∧ d.toInt ≤ 9999 then 1 else 0 := hw25
          refine lv_if_ne (tgt := 42) hx hb dX11_holding_36 (by decide) (fun c27 => ?_) (fun c27 => ?_)
          · skip
            have f28 := bo_t hw25 c27
            refine lv_aload_n hx hb dX11_holding_42 rfl (lv_at hl 0 rfl) ?_
            refine va_get (D := D) (ci := 11) (v := .int hn) (C := RX11) (T := TX11) (N := 64) hx hb hts inX11_holding_X11 hown hK hP 0 rfl rfl 6 (by decide) (hts (Cond.fieldLink RX11 181 "PortRoomsModel" "holdings" "I") (wm_t (wm_l (wm_i 2 rfl)))) (fun _ h9 => h9) rfl dX11_holding_43 ?_
            refine lv_bipush (v := 40) hx hb dX11_holding_46 (by decide) ?_
            refine lv_icmp_ne (tgt := 54) hx hb dX11_holding_48 (by decide) (fun c29 => ?_) (fun c29 => ?_)
            · skip
              have f30 := i_ne c29
              refine lv_aload_n hx hb dX11_holding_54 rfl (lv_at hl 0 rfl) ?_
              refine va_get (D := D) (ci := 11) (v := .ref (md 7)) (C := RX11) (T := TX11) (N := 64) hx hb hts inX11_holding_X11 hown hK hP 0 rfl rfl 7 (by decide) (hts (Cond.fieldLink RX11 23 "PortRoomsModel" "holder" "[I") (wm_t (wm_l (wm_i 4 rfl)))) (fun _ h9 => h9) rfl dX11_holding_55 ?_
              refine lv_aload_n hx hb dX11_holding_58 rfl (lv_at hl 0 rfl) ?_
              refine va_get (D := D) (ci := 11) (v := .int hn) (C := RX11) (T := TX11) (N := 64) hx hb hts inX11_holding_X11 hown hK hP 0 rfl rfl 6 (by decide) (hts (Cond.fieldLink RX11 181 "PortRoomsModel" "holdings" "I") (wm_t (wm_l (wm_i 2 rfl)))) (fun _ h9 => h9) rfl dX11_holding_59 ?_
              refine lv_iload_n hx hb dX11_holding_62 rfl (lv_at hl 1 rfl) ?_
              refine va_iast hx hb hK hP hD hS 1 0 rfl rfl (i_in (by omega) (by omega)) dX11_holding_63 (fun H locs => ?_)
              clear hP hD hS
              intro hP hD hS
              replace hP : va_P D vwCl [(moC md sd mth mst hn cn pn mq gn mln mnn ln mlt msz mcu mtk mfr mti mfa mfb an un lc td mtn), (aI cI (md 7) 40 (upd ho hn.toNatClampNeg o)), (aI cI (md 8) 40 hc), (aI cI (md 9) 40 hp), (aI cI (md 10) 40 hs)] H := hP
              replace hD : va_D A [(moC md sd mth mst hn cn pn mq gn mln mnn ln mlt msz mcu mtk mfr mti mfa mfb an un lc td mtn), (aI cI (md 7) 40 (upd ho hn.toNatClampNeg o)), (aI cI (md 8) 40 hc), (aI cI (md 9) 40 hp), (aI cI (md 10) 40 hs)] := hD
              refine lv_aload_n hx hb dX11_holding_64 rfl (lv_at hl 0 rfl) ?_
              refine va_get (D := D) (ci := 11) (v := .ref (md 8)) (C := RX11) (T := TX11) (N := 64) hx hb hts inX11_holding_X11 hown hK hP 0 rfl rfl 8 (by decide) (hts (Cond.fieldLink RX11 26 "PortRoomsModel" "held" "[I") (wm_t (wm_l (wm_i 5 rfl)))) (fun _ h9 => h9) rfl dX11_holding_65 ?_
              refine lv_aload_n hx hb dX11_holding_68 rfl (lv_at hl 0 rfl) ?_
              refine va_get (D := D) (ci := 11) (v := .int hn) (C := RX11) (T := TX11) (N := 64) hx hb hts inX11_holding_X11 hown hK hP 0 rfl rfl 6 (by decide) (hts (Cond.fieldLink RX11 181 "PortRoomsModel" "holdings" "I") (wm_t (wm_l (wm_i 2 rfl)))) (fun _ h9 => h9) rfl dX11_holding_69 ?_
              refine lv_iload_n hx hb dX11_holding_72 rfl (lv_at hl 2 rfl) ?_
              refine va_iast hx hb hK hP hD hS 2 0 rfl rfl (i_in (by omega) (by omega)) dX11_holding_73 (fun H locs => ?_)
              clear hP hD hS
              intro hP hD hS
              replace hP : va_P D vwCl [(moC md sd mth mst hn cn pn mq gn mln mnn ln mlt msz mcu mtk mfr mti mfa mfb an un lc td mtn), (aI cI (md 7) 40 (upd ho hn.toNatClampNeg o)), (aI cI (md 8) 40 (upd hc hn.toNatClampNeg k)), (aI cI (md 9) 40 hp), (aI cI (md 10) 40 hs)] H := hP
              replace hD : va_D A [(moC md sd mth mst hn cn pn mq gn mln mnn ln mlt msz mcu mtk mfr mti mfa mfb an un lc td mtn), (aI cI (md 7) 40 (upd ho hn.toNatClampNeg o)), (aI cI (md 8) 40 (upd hc hn.toNatClampNeg k)), (aI cI (md 9) 40 hp), (aI cI (md 10) 40 hs)] := hD
              refine lv_aload_n hx hb dX11_holding_74 rfl (lv_at hl 0 rfl) ?_
              refine va_get (D := D) (ci := 11) (v := .ref (md 9)) (C := RX11) (T := TX11) (N := 64) hx hb hts inX11_holding_X11 hown hK hP 0 rfl rfl 9 (by decide) (hts (Cond.fieldLink RX11 29 "PortRoomsModel" "part" "[I") (wm_t (wm_l (wm_i 6 rfl)))) (fun _ h9 => h9) rfl dX11_holding_75 ?_
              refine lv_aload_n hx hb dX11_holding_78 rfl (lv_at hl 0 rfl) ?_
              refine va_get (D := D) (ci := 11) (v := .int hn) (C := RX11) (T := TX11) (N := 64) hx hb hts inX11_holding_X11 hown hK hP 0 rfl rfl 6 (by decide) (hts (Cond.fieldLink RX11 181 "PortRoomsModel" "holdings" "I") (wm_t (wm_l (wm_i 2 rfl)))) (fun _ h9 => h9) rfl dX11_holding_79 ?_
              refine lv_iload_n hx hb dX11_holding_82 rfl (lv_at hl 3 rfl) ?_
              refine va_iast hx hb hK hP hD hS 3 0 rfl rfl (i_in (by omega) (by omega)) dX11_holding_83 (fun H locs => ?_)
              clear hP hD hS
              intro hP hD hS
              replace hP : va_P D vwCl [(moC md sd mth mst hn cn pn mq gn mln mnn ln mlt msz mcu mtk mfr mti mfa mfb an un lc td mtn), (aI cI (md 7) 40 (upd ho hn.toNatClampNeg o)), (aI cI (md 8) 40 (upd hc hn.toNatClampNeg k)), (aI cI (md 9) 40 (upd hp hn.toNatClampNeg q)), (aI cI (md 10) 40 hs)] H := hP
              replace hD : va_D A [(moC md sd mth mst hn cn pn mq gn mln mnn ln mlt msz mcu mtk mfr mti mfa mfb an un lc td mtn), (aI cI (md 7) 40 (upd ho hn.toNatClampNeg o)), (aI cI (md 8) 40 (upd hc hn.toNatClampNeg k)), (aI cI (md 9) 40 (upd hp hn.toNatClampNeg q)), (aI cI (md 10) 40 hs)] := hD
              refine lv_aload_n hx hb dX11_holding_84 rfl (lv_at hl 0 rfl) ?_
              refine va_get (D := D) (ci := 11) (v := .ref (md 10)) (C := RX11) (T := TX11) (N := 64) hx hb hts inX11_holding_X11 hown hK hP 0 rfl rfl 10 (by decide) (hts (Cond.fieldLink RX11 32 "PortRoomsModel" "since" "[I") (wm_t (wm_l (wm_i 7 rfl)))) (fun _ h9 => h9) rfl dX11_holding_85 ?_
              refine lv_aload_n hx hb dX11_holding_88 rfl (lv_at hl 0 rfl) ?_
              refine va_get (D := D) (ci := 11) (v := .int hn) (C := RX11) (T := TX11) (N := 64) hx hb hts inX11_holding_X11 hown hK hP 0 rfl rfl 6 (by decide) (hts (Cond.fieldLink RX11 181 "PortRoomsModel" "holdings" "I") (wm_t (wm_l (wm_i 2 rfl)))) (fun _ h9 => h9) rfl dX11_holding_89 ?_
              refine lv_iload hx hb dX11_holding_92 (lv_at hl 4 rfl) ?_
              refine va_iast hx hb hK hP hD hS 4 0 rfl rfl (i_in (by omega) (by omega)) dX11_holding_94 (fun H locs => ?_)
              clear hP hD hS
              intro hP hD hS
              replace hP : va_P D vwCl [(moC md sd mth mst hn cn pn mq gn mln mnn ln mlt msz mcu mtk mfr mti mfa mfb an un lc td mtn), (aI cI (md 7) 40 (upd ho hn.toNatClampNeg o)), (aI cI (md 8) 40 (upd hc hn.toNatClampNeg k)), (aI cI (md 9) 40 (upd hp hn.toNatClampNeg q)), (aI cI (md 10) 40 (upd hs hn.toNatClampNeg d))] H := hP
              replace hD : va_D A [(moC md sd mth mst hn cn pn mq gn mln mnn ln mlt msz mcu mtk mfr mti mfa mfb an un lc td mtn), (aI cI (md 7) 40 (upd ho hn.toNatClampNeg o)), (aI cI (md 8) 40 (upd hc hn.toNatClampNeg k)), (aI cI (md 9) 40 (upd hp hn.toNatClampNeg q)), (aI cI (md 10) 40 (upd hs hn.toNatClampNeg d))] := hD
              refine lv_aload_n hx hb dX11_holding_95 rfl (lv_at hl 0 rfl) ?_
              refine lv_dup hx hb dX11_holding_96 rfl ?_
              refine va_get (D := D) (ci := 11) (v := .int hn) (C := RX11) (T := TX11) (N := 64) hx hb hts inX11_holding_X11 hown hK hP 0 rfl rfl 6 (by decide) (hts (Cond.fieldLink RX11 181 "PortRoomsModel" "holdings" "I") (wm_t (wm_l (wm_i 2 rfl)))) (fun _ h9 => h9) rfl dX11_holding_97 ?_
              refine lv_iconst (v := 1) hx hb dX11_holding_100 (by decide) ?_
              refine lv_iadd hx hb dX11_holding_101 ?_
              refine lv_topi (fun v31 ev31 => ?_)
              try have tv31 : v31.toInt = hn.toInt + 1 := by rw [ev31]; exact (i_add (x := hn) (y := (1 : Int32)) (by rw [k1]; omega) (by rw [k1]; omega)).trans (by rw [k1])
              refine va_put (D := D) (ci := 11) (v := .int v31) (ty := .int) (C := RX11) (T := TX11) (N := 64) hx hb hts inX11_holding_X11 tyX11 tyX11_ok nmX11 hown hK hP hD hS 0 rfl rfl 6 (by decide) (hts (Cond.fieldLink RX11 181 "PortRoomsModel" "holdings" "I") (wm_t (wm_l (wm_i 2 rfl)))) (fun _ h9 => h9) rfl (tyX11_ok 6 (by decide)) rfl rfl (Nat.le_of_ble_eq_true rfl) dX11_holding_102 (fun H locs => ?_)
              clear hP hD hS
              intro hP hD hS
              replace hP : va_P D vwCl [(moC md sd mth mst v31 cn pn mq gn mln mnn ln mlt msz mcu mtk mfr mti mfa mfb an un lc td mtn), (aI cI (md 7) 40 (upd ho hn.toNatClampNeg o)), (aI cI (md 8) 40 (upd hc hn.toNatClampNeg k)), (aI cI (md 9) 40 (upd hp hn.toNatClampNeg q)), (aI cI (md 10) 40 (upd hs hn.toNatClampNeg d))] H := hP
              replace hD : va_D A [(moC md sd mth mst v31 cn pn mq gn mln mnn ln mlt msz mcu mtk mfr mti mfa mfb an un lc td mtn), (aI cI (md 7) 40 (upd ho hn.toNatClampNeg o)), (aI cI (md 8) 40 (upd hc hn.toNatClampNeg k)), (aI cI (md 9) 40 (upd hp hn.toNatClampNeg q)), (aI cI (md 10) 40 (upd hs hn.toNatClampNeg d))] := hD
              refine lv_aload_n hx hb dX11_holding_105 rfl (lv_at hl 0 rfl) ?_
              refine va_get (D := D) (ci := 11) (v := .int v31) (C := RX11) (T := TX11) (N := 64) hx hb hts inX11_holding_X11 hown hK hP 0 rfl rfl 6 (by decide) (hts (Cond.fieldLink RX11 181 "PortRoomsModel" "holdings" "I") (wm_t (wm_l (wm_i 2 rfl)))) (fun _ h9 => h9) rfl dX11_holding_106 ?_
              have hP9 := hP
              have hD9 := hD
              exact W.iret (v := v31) hx hb hr (fun t ht hW => ⟨⟨v31, (v31, upd ho hn.toNatClampNeg o, upd hc hn.toNatClampNeg k, upd hp hn.toNatClampNeg q, upd hs hn.toNatClampNeg d), rfl, (by unfold sp_hold; (repeat' split) <;> first | rfl | (exfalso; omega) | (subst_vars; rfl)), by rw [ht]; exact hP9, va_K.moved hW.alike hK, hD9⟩, hS.F ht⟩) hS.2.2 dX11_holding_109
            · skip
              have f32 := i_eq c29
              refine lv_ldc hx hb hown (hts (Cond.constant RX11 184 (-1000003)) (wm_t (wm_l (wm_i 3 rfl)))) dX11_holding_51 ?_
              have hP9 := hP
              have hD9 := hD
              exact W.iret (v := (-1000003)) hx hb hr (fun t ht hW => ⟨⟨(-1000003), (hn, ho, hc, hp, hs), rfl, (by unfold sp_hold; (repeat' split) <;> first | rfl | (exfalso; omega) | (subst_vars; rfl)), by rw [ht]; exact hP9, va_K.moved hW.alike hK, hD9⟩, hS.F ht⟩) hS.2.2 dX11_holding_53
          · skip
            have f33 := bo_f hw25 c27
            refine lv_ldc hx hb hown (hts (Cond.constant RX11 157 (-1000001)) (wm_t (wm_l (wm_i 1 rfl)))) dX11_holding_39 ?_
            have hP9 := hP
            have hD9 := hD
            exact W.iret (v := (-1000001)) hx hb hr (fun t ht hW => ⟨⟨(-1000001), (hn, ho, hc, hp, hs), rfl, (by unfold sp_hold; (repeat' split) <;> first | rfl | (exfalso; omega) | (subst_vars; rfl)), by rw [ht]; exact hP9, va_K.moved hW.alike hK, hD9⟩, hS.F ht⟩) hS.2.2 dX11_holding_41

set_option maxHeartbeats 4000000 in
set_option maxRecDepth 100000 in
theorem ct_X11_hold (l : Launch) (D : va_G) (cI cY cJ cQ : ClassId) (sz : Nat) (md : Nat → Nat) (sd : Int32) (mth mst hn cn pn mq gn mln mnn ln mlt msz mcu mtk mfr mti mfa mfb an un lc td mtn : Int32) (ho hc hp hs : Nat → Int32) (o : Int32) (k : Int32) (q : Int32) (d : Int32)  (h1 : 0 ≤ hn.toInt) (h2 : hn.toInt ≤ 40)  : Met l yX11_hold wsX11_hold ({ frames := 3, cells := 0, slots := 0, locals := 69 }) (cPre D (ty4 cI cY cJ cQ) [(moC md sd mth mst hn cn pn mq gn mln mnn ln mlt msz mcu mtk mfr mti mfa mfb an un lc td mtn), (aI cI (md 7) 40 ho), (aI cI (md 8) 40 hc), (aI cI (md 9) 40 hp), (aI cI (md 10) 40 hs)] sz [.ref (md 64), .int o, .int k, .int q, .int d]) (va_Qi (fun (r : Int32) (u : Int32 × (Nat → Int32) × (Nat → Int32) × (Nat → Int32) × (Nat → Int32)) => (r, u) = sp_hold hn ho hc hp hs o k q d) (cB D (ty4 cI cY cJ cQ) (fun (u : Int32 × (Nat → Int32) × (Nat → Int32) × (Nat → Int32) × (Nat → Int32)) => [(moC md sd 0 mst u.1 cn pn mq gn mln mnn ln mlt msz mcu mtk mfr mti mfa mfb an un lc td mtn), (aI cI (md 7) 40 u.2.1), (aI cI (md 8) 40 u.2.2.1), (aI cI (md 9) 40 u.2.2.2.1), (aI cI (md 10) 40 u.2.2.2.2)]) (va_A [(moC md sd mth mst hn cn pn mq gn mln mnn ln mlt msz mcu mtk mfr mti mfa mfb an un lc td mtn), (aI cI (md 7) 40 ho), (aI cI (md 8) 40 hc), (aI cI (md 9) 40 hp), (aI cI (md 10) 40 hs)] sz)) (va_A [(moC md sd mth mst hn cn pn mq gn mln mnn ln mlt msz mcu mtk mfr mti mfa mfb an un lc td mtn), (aI cI (md 7) 40 ho), (aI cI (md 8) 40 hc), (aI cI (md 9) 40 hp), (aI cI (md 10) 40 hs)] sz)) 0 0 (va_A [(moC md sd mth mst hn cn pn mq gn mln mnn ln mlt msz mcu mtk mfr mti mfa mfb an un lc td mtn), (aI cI (md 7) 40 ho), (aI cI (md 8) 40 hc), (aI cI (md 9) 40 hp), (aI cI (md 10) 40 hs)] sz) := by
  refine Met.ofW (cc := cX11_hold) (maxL := 5) (ret := (some .int)) (by decide) rfl ?_
  intro p e s m args below meth c s₁ B hml hv
  obtain ⟨rfl, hsz, hP, hK, hD0, hN⟩ := hv
  have hx := B.exec
  have hb := B.bytes
  have hr := B.returns
  have hts := atoms_spec (ws := wsX11_hold) B.pre
  have hown : s.vm.findClass RX11 = some m.cls := findClass_of_methodNamed B.named
  have hlocks := B.notSynchronized
  subst hsz
  have hD := hD0.self (sz := s.heap.size)
  generalize hAe : va_A [(moC md sd mth mst hn cn pn mq gn mln mnn ln mlt msz mcu mtk mfr mti mfa mfb an un lc td mtn), (aI cI (md 7) 40 ho), (aI cI (md 8) 40 hc), (aI cI (md 9) 40 hp), (aI cI (md 10) 40 hs)] s.heap.size = A at hD ⊢
  have hA : ∀ q : Nat, s.heap.size ≤ q → A q := fun q h => by rw [← hAe]; exact Or.inr h
  have hS : va_S A s.heap s.heap [] := va_S.rf
  have hP : va_P D vwCl [(moC md sd mth mst hn cn pn mq gn mln mnn ln mlt msz mcu mtk mfr mti mfa mfb an un lc td mtn), (aI cI (md 7) 40 ho), (aI cI (md 8) 40 hc), (aI cI (md 9) 40 hp), (aI cI (md 10) 40 hs)] s.heap := hP
  have hl := lv_entry ([.ref (md 64), .int o, .int k, .int q, .int d]) (n := 5) (Nat.le_of_ble_eq_true rfl)
  rw [lg_entry_eq]
  generalize (lg_sl ([.ref (md 64), .int o, .int k, .int q, .int d]) ++ List.replicate (5 - (lg_sl ([.ref (md 64), .int o, .int k, .int q, .int d])).length) Slot.unset).toArray = ls at hl ⊢
  have hl : lv_has ls 5 [(0, .ref (md 64)), (1, .int o), (2, .int k), (3, .int q), (4, .int d)] := hl
  have k0 : (0 : Int32).toInt = 0 := by decide
  refine lv_aload_n hx hb dX11_hold_0 rfl (lv_at hl 0 rfl) ?_
  refine lv_iconst (v := 0) hx hb dX11_hold_1 (by decide) ?_
  refine va_put (D := D) (ci := 11) (v := .int 0) (ty := .int) (C := RX11) (T := TX11) (N := 64) hx hb hts inX11_hold_X11 tyX11 tyX11_ok nmX11 hown hK hP hD hS 0 rfl rfl 0 (by decide) (hts (Cond.fieldLink RX11 1 "PortRoomsModel" "thrown" "I") (wm_t (wm_l (wm_i 0 rfl)))) (fun _ h9 => h9) rfl (tyX11_ok 0 (by decide)) rfl rfl (Nat.le_of_ble_eq_true rfl) dX11_hold_2 (fun H locs => ?_)
  clear hP hD hS
  intro hP hD hS
  replace hP : va_P D vwCl [(moC md sd (0) mst hn cn pn mq gn mln mnn ln mlt msz mcu mtk mfr mti mfa mfb an un lc td mtn), (aI cI (md 7) 40 ho), (aI cI (md 8) 40 hc), (aI cI (md 9) 40 hp), (aI cI (md 10) 40 hs)] H := hP
  replace hD : va_D A [(moC md sd (0) mst hn cn pn mq gn mln mnn ln mlt msz mcu mtk mfr mti mfa mfb an un lc td mtn), (aI cI (md 7) 40 ho), (aI cI (md 8) 40 hc), (aI cI (md 9) 40 hp), (aI cI (md 10) 40 hs)] := hD
  refine lv_aload_n hx hb dX11_hold_5 rfl (lv_at hl 0 rfl) ?_
  refine lv_iload_n hx hb dX11_hold_6 rfl (lv_at hl 1 rfl) ?_
  refine lv_iload_n hx hb dX11_hold_7 rfl (lv_at hl 2 rfl) ?_
  refine lv_iload_n hx hb dX11_hold_8 rfl (lv_at hl 3 rfl) ?_
  refine lv_iload hx hb dX11_hold_9 (lv_at hl 4 rfl) ?_
  refine st_i (wr := []) (va_runV (C := RX11) (As := [.int o, .int k, .int q, .int d]) (rest := []) ⟨hx, hb, hml, hown, hts⟩ (ct_X11_holding l D cI cY cJ cQ _ md sd 0 mst hn cn pn mq gn mln mnn ln mlt msz mcu mtk mfr mti mfa mfb an un lc td mtn ho hc hp hs o k q d h1 h2) (cwV 4 hts gX11_hold_X11_holding rfl rfl rfl ⟨rfl, cdX11_holding⟩ ⟨Nat.le_of_ble_eq_true rfl, Nat.le_of_ble_eq_true rfl⟩) (cPreV (hP.sub [0, 1, 2, 3, 4] rfl) hK (hD.sub [0, 1, 2, 3, 4] (by decide +kernel) rfl) hN (ci := 11) (q0 := 0) rfl rfl) rfl rfl hl.1 rfl (lv_room (Nat.le_of_ble_eq_true rfl)) dX11_hold_11 ⟨Nat.le_of_ble_eq_true rfl, Nat.le_of_ble_eq_true rfl⟩) hP hD hS hA [0, 1, 2, 3, 4] [] rfl rfl (by decide +kernel) (by decide +kernel) (fun r3 u1 H locs hw2 => ?_)
  clear hP hD hS
  intro hP hD hS
  obtain ⟨hn_4, ho_5, hc_6, hp_7, hs_8⟩ := u1
  replace hw2 : (r3, (hn_4, ho_5, hc_6, hp_7, hs_8)) = sp_hold hn ho hc hp hs o k q d := hw2
  replace hP : va_P D vwCl [(moC md sd (0) mst hn_4 cn pn mq gn mln mnn ln mlt msz mcu mtk mfr mti mfa mfb an un lc td mtn), (aI cI (md 7) 40 ho_5), (aI cI (md 8) 40 hc_6), (aI cI (md 9) 40 hp_7), (aI cI (md 10) 40 hs_8)] H := hP
  replace hD : va_D A [(moC md sd (0) mst hn_4 cn pn mq gn mln mnn ln mlt msz mcu mtk mfr mti mfa mfb an un lc td mtn), (aI cI (md 7) 40 ho_5), (aI cI (md 8) 40 hc_6), (aI cI (md 9) 40 hp_7), (aI cI (md 10) 40 hs_8)] := hD
  have hP9 := hP
  have hD9 := hD
  exact W.iret (v := r3) hx hb hr (fun t ht hW => ⟨⟨r3, (hn_4, ho_5, hc_6, hp_7, hs_8), rfl, (by assumption), by rw [ht]; exact hP9, va_K.moved hW.alike hK, hD9⟩, hS.F ht⟩) hS.2.2 dX11_hold_14

set_option maxHeartbeats 4000000 in
set_option maxRecDepth 100000 in
theorem ct_X11_crate (l : Launch) (D : va_G) (cI cY cJ cQ : ClassId) (sz : Nat) (md : Nat → Nat) (sd : Int32) (mth mst hn cn pn mq gn mln mnn ln mlt msz mcu mtk mfr mti mfa mfb an un lc td mtn : Int32) (fo wo : Nat → Int32) (o : Int32) (w : Int32)  (h1 : 0 ≤ cn.toInt) (h2 : cn.toInt ≤ 12)  : Met l yX11_crate wsX11_crate ({ frames := 2, cells := 0, slots := 0, locals := 45 }) (cPre D (ty4 cI cY cJ cQ) [(moC md sd mth mst hn cn pn mq gn mln mnn ln mlt msz mcu mtk mfr mti mfa mfb an un lc td mtn), (aI cI (md 16) 12 fo), (aI cI (md 17) 12 wo)] sz [.ref (md 64), .int o, .int w]) (va_Qi (fun (r : Int32) (u : Int32 × (Nat → Int32) × (Nat → Int32)) => (r, u) = sp_crate cn fo wo o w) (cB D (ty4 cI cY cJ cQ) (fun (u : Int32 × (Nat → Int32) × (Nat → Int32)) => [(moC md sd 0 mst hn u.1 pn mq gn mln mnn ln mlt msz mcu mtk mfr mti mfa mfb an un lc td mtn), (aI cI (md 16) 12 u.2.1), (aI cI (md 17) 12 u.2.2)]) (va_A [(moC md sd mth mst hn cn pn mq gn mln mnn ln mlt msz mcu mtk mfr mti mfa mfb an un lc td mtn), (aI cI (md 16) 12 fo), (aI cI (md 17) 12 wo)] sz)) (va_A [(moC md sd mth mst hn cn pn mq gn mln mnn ln mlt msz mcu mtk mfr mti mfa mfb an un lc td mtn), (aI cI (md 16) 12 fo), (aI cI (md 17) 12 wo)] sz)) 0 0 (va_A [(moC md sd mth mst hn cn pn mq gn mln mnn ln mlt msz mcu mtk mfr mti mfa mfb an un lc td mtn), (aI cI (md 16) 12 fo), (aI cI (md 17) 12 wo)] sz) := by
  refine Met.ofW (cc := cX11_crate) (maxL := 3) (ret := (some .int)) (by decide) rfl ?_
  intro p e s m args below meth c s₁ B hml hv
  obtain ⟨rfl, hsz, hP, hK, hD0, hN⟩ := hv
  have hx := B.exec
  have hb := B.bytes
  have hr := B.returns
  have hts := atoms_spec (ws := wsX11_crate) B.pre
  have hown : s.vm.findClass RX11 = some m.cls := findClass_of_methodNamed B.named
  have hlocks := B.notSynchronized
  subst hsz
  have hD := hD0.self (sz := s.heap.size)
  generalize hAe : va_A [(moC md sd mth mst hn cn pn mq gn mln mnn ln mlt msz mcu mtk mfr mti mfa mfb an un lc td mtn), (aI cI (md 16) 12 fo), (aI cI (md 17) 12 wo)] s.heap.size = A at hD ⊢
  have hA : ∀ q : Nat, s.heap.size ≤ q → A q := fun q h => by rw [← hAe]; exact Or.inr h
  have hS : va_S A s.heap s.heap [] := va_S.rf
  have hP : va_P D vwCl [(moC md sd mth mst hn cn pn mq gn mln mnn ln mlt msz mcu mtk mfr mti mfa mfb an un lc td mtn), (aI cI (md 16) 12 fo), (aI cI (md 17) 12 wo)] s.heap := hP
  have hl := lv_entry ([.ref (md 64), .int o, .int w]) (n := 3) (Nat.le_of_ble_eq_true rfl)
  rw [lg_entry_eq]
  generalize (lg_sl ([.ref (md 64), .int o, .int w]) ++ List.replicate (3 - (lg_sl ([.ref (md 64), .int o, .int w])).length) Slot.unset).toArray = ls at hl ⊢
  have hl : lv_has ls 3 [(0, .ref (md 64)), (1, .int o), (2, .int w)] := hl
  have km1000003 : (-1000003 : Int32).toInt = -1000003 := by decide
  have km1000001 : (-1000001 : Int32).toInt = -1000001 := by decide
  have k0 : (0 : Int32).toInt = 0 := by decide
  have k1 : (1 : Int32).toInt = 1 := by decide
  have k12 : (12 : Int32).toInt = 12 := by decide
  have kl1 : (1 : Int64).toInt = 1 := by decide
  have kl100000 : (100000 : Int64).toInt = 100000 := by decide
  refine lv_aload_n hx hb dX11_crate_0 rfl (lv_at hl 0 rfl) ?_
  refine lv_iconst (v := 0) hx hb dX11_crate_1 (by decide) ?_
  refine va_put (D := D) (ci := 11) (v := .int 0) (ty := .int) (C := RX11) (T := TX11) (N := 64) hx hb hts inX11_crate_X11 tyX11 tyX11_ok nmX11 hown hK hP hD hS 0 rfl rfl 0 (by decide) (hts (Cond.fieldLink RX11 1 "PortRoomsModel" "thrown" "I") (wm_t (wm_l (wm_i 0 rfl)))) (fun _ h9 => h9) rfl (tyX11_ok 0 (by decide)) rfl rfl (Nat.le_of_ble_eq_true rfl) dX11_crate_2 (fun H locs => ?_)
  clear hP hD hS
  intro hP hD hS
  replace hP : va_P D vwCl [(moC md sd (0) mst hn cn pn mq gn mln mnn ln mlt msz mcu mtk mfr mti mfa mfb an un lc td mtn), (aI cI (md 16) 12 fo), (aI cI (md 17) 12 wo)] H := hP
  replace hD : va_D A [(moC md sd (0) mst hn cn pn mq gn mln mnn ln mlt msz mcu mtk mfr mti mfa mfb an un lc td mtn), (aI cI (md 16) 12 fo), (aI cI (md 17) 12 wo)] := hD
  refine lv_iload_n hx hb dX11_crate_5 rfl (lv_at hl 1 rfl) ?_
  refine st_i1 (va_runS (As := [.int o]) (rest := []) ⟨hx, hb, hml, hown, hts⟩ (ct_X11_isOwner l D cI cY cJ cQ _ o) (va_cwS 1 hts gX11_crate_X11_isOwner rfl rfl rfl cdX11_isOwner ⟨Nat.le_of_ble_eq_true rfl, Nat.le_of_ble_eq_true rfl⟩) (cPreS (hP.sub [] rfl) hK (hD.sub [] (by decide +kernel) rfl) hN) rfl rfl hl.1 rfl (lv_room (Nat.le_of_ble_eq_true rfl)) dX11_crate_6 ⟨Nat.le_of_ble_eq_true rfl, Nat.le_of_ble_eq_true rfl⟩) hP hD hS hA [] rfl (fun _ => rfl) (fun r3 u1 H locs hw2 => ?_)
  clear hP hS
  intro hP hS
  replace hw2 : r3 = if 0 ≤ o.toInt ∧ o.toInt ≤ 19 then 1 else 0 := hw2
  refine lv_if_eq (tgt := 24) hx hb dX11_crate_9 (by decide) (fun c4 => ?_) (fun c4 => ?_)
  · skip
    have f5 := bo_f hw2 c4
    refine lv_ldc hx hb hown (hts (Cond.constant RX11 157 (-1000001)) (wm_t (wm_l (wm_i 2 rfl)))) dX11_crate_24 ?_
    have hP9 := hP
    have hD9 := hD
    exact W.iret (v := (-1000001)) hx hb hr (fun t ht hW => ⟨⟨(-1000001), (cn, fo, wo), rfl, (by unfold sp_crate; (repeat' split) <;> first | rfl | (exfalso; omega) | (subst_vars; rfl)), by rw [ht]; exact hP9, va_K.moved hW.alike hK, hD9⟩, hS.F ht⟩) hS.2.2 dX11_crate_26
  · skip
    have f6 := bo_t hw2 c4
    refine lv_iload_n hx hb dX11_crate_12 rfl (lv_at hl 2 rfl) ?_
    refine lv_i2l hx hb dX11_crate_13 rfl ?_
    have w7 := i_w w
    have w8 := i_rng w
    refine lv_lconst (v := 1) hx hb dX11_crate_14 (by decide) ?_
    refine lv_ldc2 hx hb hown (hts (Cond.constantLong RX11 217 (100000)) (wm_t (wm_l (wm_i 1 rfl)))) dX11_crate_15 ?_
    refine st_i1 (va_runS (As := [.long (w.toInt64), .long 1, .long 100000]) (rest := []) ⟨hx, hb, hml, hown, hts⟩ (ct_X11_in l D cI cY cJ cQ _ w.toInt64 (1 : Int64) (100000 : Int64)) (va_cwS 3 hts gX11_crate_X11_in rfl rfl rfl cdX11_in ⟨Nat.le_of_ble_eq_true rfl, Nat.le_of_ble_eq_true rfl⟩) (cPreS (hP.sub [] rfl) hK (hD.sub [] (by decide +kernel) rfl) hN) rfl rfl hl.1 rfl (lv_room (Nat.le_of_ble_eq_true rfl)) dX11_crate_18 ⟨Nat.le_of_ble_eq_true rfl, Nat.le_of_ble_eq_true rfl⟩) hP hD hS hA [] rfl (fun _ => rfl) (fun r11 u9 H locs hw10 => ?_)
    clear hP hS
    intro hP hS
    replace hw10 : r11 = if (1 : Int64).toInt ≤ w.toInt64.toInt ∧ w.toInt64.toInt ≤ (100000 : Int64).toInt then 1 else 0 := hw10
    refine lv_if_ne (tgt := 27) hx hb dX11_crate_21 (by decide) (fun c12 => ?_) (fun c12 => ?_)
    · skip
      have f13 := bo_t hw10 c12
      refine lv_aload_n hx hb dX11_crate_27 rfl (lv_at hl 0 rfl) ?_
      refine va_get (D := D) (ci := 11) (v := .int cn) (C := RX11) (T := TX11) (N := 64) hx hb hts inX11_crate_X11 hown hK hP 0 rfl rfl 15 (by decide) (hts (Cond.fieldLink RX11 214 "PortRoomsModel" "crates" "I") (wm_t (wm_l (wm_i 3 rfl)))) (fun _ h9 => h9) rfl dX11_crate_28 ?_
      refine lv_bipush (v := 12) hx hb dX11_crate_31 (by decide) ?_
      refine lv_icmp_ne (tgt := 39) hx hb dX11_crate_33 (by decide) (fun c14 => ?_) (fun c14 => ?_)
      · skip
        have f15 := i_ne c14
        refine lv_aload_n hx hb dX11_crate_39 rfl (lv_at hl 0 rfl) ?_
        refine va_get (D := D) (ci := 11) (v := .ref (md 16)) (C := RX11) (T := TX11) (N := 64) hx hb hts inX11_crate_X11 hown hK hP 0 rfl rfl 16 (by decide) (hts (Cond.fieldLink RX11 48 "PortRoomsModel" "first" "[I") (wm_t (wm_l (wm_i 5 rfl)))) (fun _ h9 => h9) rfl dX11_crate_40 ?_
        refine lv_aload_n hx hb dX11_crate_43 rfl (lv_at hl 0 rfl) ?_
        refine va_get (D := D) (ci := 11) (v := .int cn) (C := RX11) (T := TX11) (N := 64) hx hb hts inX11_crate_X11 hown hK hP 0 rfl rfl 15 (by decide) (hts (Cond.fieldLink RX11 214 "PortRoomsModel" "crates" "I") (wm_t (wm_l (wm_i 3 rfl)))) (fun _ h9 => h9) rfl dX11_crate_44 ?_
        refine lv_iload_n hx hb dX11_crate_47 rfl (lv_at hl 1 rfl) ?_
        refine va_iast hx hb hK hP hD hS 1 0 rfl rfl (i_in (by omega) (by omega)) dX11_crate_48 (fun H locs => ?_)
        clear hP hD hS
        intro hP hD hS
        replace hP : va_P D vwCl [(moC md sd (0) mst hn cn pn mq gn mln mnn ln mlt msz mcu mtk mfr mti mfa mfb an un lc td mtn), (aI cI (md 16) 12 (upd fo cn.toNatClampNeg o)), (aI cI (md 17) 12 wo)] H := hP
        replace hD : va_D A [(moC md sd (0) mst hn cn pn mq gn mln mnn ln mlt msz mcu mtk mfr mti mfa mfb an un lc td mtn), (aI cI (md 16) 12 (upd fo cn.toNatClampNeg o)), (aI cI (md 17) 12 wo)] := hD
        refine lv_aload_n hx hb dX11_crate_49 rfl (lv_at hl 0 rfl) ?_
        refine va_get (D := D) (ci := 11) (v := .ref (md 17)) (C := RX11) (T := TX11) (N := 64) hx hb hts inX11_crate_X11 hown hK hP 0 rfl rfl 17 (by decide) (hts (Cond.fieldLink RX11 51 "PortRoomsModel" "worth" "[I") (wm_t (wm_l (wm_i 6 rfl)))) (fun _ h9 => h9) rfl dX11_crate_50 ?_
        refine lv_aload_n hx hb dX11_crate_53 rfl (lv_at hl 0 rfl) ?_
        refine va_get (D := D) (ci := 11) (v := .int cn) (C := RX11) (T := TX11) (N := 64) hx hb hts inX11_crate_X11 hown hK hP 0 rfl rfl 15 (by decide) (hts (Cond.fieldLink RX11 214 "PortRoomsModel" "crates" "I") (wm_t (wm_l (wm_i 3 rfl)))) (fun _ h9 => h9) rfl dX11_crate_54 ?_
        refine lv_iload_n hx hb dX11_crate_57 rfl (lv_at hl 2 rfl) ?_
        refine va_iast hx hb hK hP hD hS 2 0 rfl rfl (i_in (by omega) (by omega)) dX11_crate_58 (fun H locs => ?_)
        clear hP hD hS
        intro hP hD hS
        replace hP : va_P D vwCl [(moC md sd (0) mst hn cn pn mq gn mln mnn ln mlt msz mcu mtk mfr mti mfa mfb an un lc td mtn), (aI cI (md 16) 12 (upd fo cn.toNatClampNeg o)), (aI cI (md 17) 12 (upd wo cn.toNatClampNeg w))] H := hP
        replace hD : va_D A [(moC md sd (0) mst hn cn pn mq gn mln mnn ln mlt msz mcu mtk mfr mti mfa mfb an un lc td mtn), (aI cI (md 16) 12 (upd fo cn.toNatClampNeg o)), (aI cI (md 17) 12 (upd wo cn.toNatClampNeg w))] := hD
        refine lv_aload_n hx hb dX11_crate_59 rfl (lv_at hl 0 rfl) ?_
        refine lv_dup hx hb dX11_crate_60 rfl ?_
        refine va_get (D := D) (ci := 11) (v := .int cn) (C := RX11) (T := TX11) (N := 64) hx hb hts inX11_crate_X11 hown hK hP 0 rfl rfl 15 (by decide) (hts (Cond.fieldLink RX11 214 "PortRoomsModel" "crates" "I") (wm_t (wm_l (wm_i 3 rfl)))) (fun _ h9 => h9) rfl dX11_crate_61 ?_
        refine lv_iconst (v := 1) hx hb dX11_crate_64 (by decide) ?_
        refine lv_iadd hx hb dX11_crate_65 ?_
        refine lv_topi (fun v16 ev16 => ?_)
        try have tv16 : v16.toInt = cn.toInt + 1 := by rw [ev16]; exact (i_add (x := cn) (y := (1 : Int32)) (by rw [k1]; omega) (by rw [k1]; omega)).trans (by rw [k1])
        refine va_put (D := D) (ci := 11) (v := .int v16) (ty := .int) (C := RX11) (T := TX11) (N := 64) hx hb hts inX11_crate_X11 tyX11 tyX11_ok nmX11 hown hK hP hD hS 0 rfl rfl 15 (by decide) (hts (Cond.fieldLink RX11 214 "PortRoomsModel" "crates" "I") (wm_t (wm_l (wm_i 3 rfl)))) (fun _ h9 => h9) rfl (tyX11_ok 15 (by decide)) rfl rfl (Nat.le_of_ble_eq_true rfl) dX11_crate_66 (fun H locs => ?_)
        clear hP hD hS
        intro hP hD hS
        replace hP : va_P D vwCl [(moC md sd (0) mst hn v16 pn mq gn mln mnn ln mlt msz mcu mtk mfr mti mfa mfb an un lc td mtn), (aI cI (md 16) 12 (upd fo cn.toNatClampNeg o)), (aI cI (md 17) 12 (upd wo cn.toNatClampNeg w))] H := hP
        replace hD : va_D A [(moC md sd (0) mst hn v16 pn mq gn mln mnn ln mlt msz mcu mtk mfr mti mfa mfb an un lc td mtn), (aI cI (md 16) 12 (upd fo cn.toNatClampNeg o)), (aI cI (md 17) 12 (upd wo cn.toNatClampNeg w))] := hD
        refine lv_aload_n hx hb dX11_crate_69 rfl (lv_at hl 0 rfl) ?_
        refine va_get (D := D) (ci := 11) (v := .int v16) (C := RX11) (T := TX11) (N := 64) hx hb hts inX11_crate_X11 hown hK hP 0 rfl rfl 15 (by decide) (hts (Cond.fieldLink RX11 214 "PortRoomsModel" "crates" "I") (wm_t (wm_l (wm_i 3 rfl)))) (fun _ h9 => h9) rfl dX11_crate_70 ?_
        refine lv_iconst (v := 1) hx hb dX11_crate_73 (by decide) ?_
        refine lv_isub hx hb dX11_crate_74 ?_
        refine lv_topi (fun v17 ev17 => ?_)
        try have tv17 : v17.toInt = v16.toInt - 1 := by rw [ev17]; exact (i_sub (x := v16) (y := (1 : Int32)) (by rw [k1]; omega) (by rw [k1]; omega)).trans (by rw [k1])
        have hP9 := hP
        have hD9 := hD
        exact W.iret (v := v17) hx hb hr (fun t ht hW => ⟨⟨v17, (v16, upd fo cn.toNatClampNeg o, upd wo cn.toNatClampNeg w), rfl, (by unfold sp_crate; (repeat' split) <;> first | rfl | (exfalso; omega) | (subst_vars; rfl)), by rw [ht]; exact hP9, va_K.moved hW.alike hK, hD9⟩, hS.F ht⟩) hS.2.2 dX11_crate_75
      · skip
        have f18 := i_eq c14
        refine lv_ldc hx hb hown (hts (Cond.constant RX11 184 (-1000003)) (wm_t (wm_l (wm_i 4 rfl)))) dX11_crate_36 ?_
        have hP9 := hP
        have hD9 := hD
        exact W.iret (v := (-1000003)) hx hb hr (fun t ht hW => ⟨⟨(-1000003), (cn, fo, wo), rfl, (by unfold sp_crate; (repeat' split) <;> first | rfl | (exfalso; omega) | (subst_vars; rfl)), by rw [ht]; exact hP9, va_K.moved hW.alike hK, hD9⟩, hS.F ht⟩) hS.2.2 dX11_crate_38
    · skip
      have f19 := bo_f hw10 c12
      refine lv_ldc hx hb hown (hts (Cond.constant RX11 157 (-1000001)) (wm_t (wm_l (wm_i 2 rfl)))) dX11_crate_24 ?_
      have hP9 := hP
      have hD9 := hD
      exact W.iret (v := (-1000001)) hx hb hr (fun t ht hW => ⟨⟨(-1000001), (cn, fo, wo), rfl, (by unfold sp_crate; (repeat' split) <;> first | rfl | (exfalso; omega) | (subst_vars; rfl)), by rw [ht]; exact hP9, va_K.moved hW.alike hK, hD9⟩, hS.F ht⟩) hS.2.2 dX11_crate_26

set_option maxHeartbeats 4000000 in
set_option maxRecDepth 100000 in
theorem ct_X11_paper (l : Launch) (D : va_G) (cI cY cJ cQ : ClassId) (sz : Nat) (md : Nat → Nat) (sd : Int32) (mth mst hn cn pn mq gn mln mnn ln mlt msz mcu mtk mfr mti mfa mfb an un lc td mtn : Int32) (pk pf po pd pe : Nat → Int32) (k : Int32) (x : Int32) (y : Int32) (a : Int32) (b : Int32)  (h1 : 0 ≤ pn.toInt) (h2 : pn.toInt ≤ 40) (h3 : 0 ≤ cn.toInt) (h4 : cn.toInt ≤ 12)  : Met l yX11_paper wsX11_paper ({ frames := 2, cells := 0, slots := 0, locals := 46 }) (cPre D (ty4 cI cY cJ cQ) [(moC md sd mth mst hn cn pn mq gn mln mnn ln mlt msz mcu mtk mfr mti mfa mfb an un lc td mtn), (aI cI (md 19) 40 pk), (aI cI (md 20) 40 pf), (aI cI (md 21) 40 po), (aI cI (md 22) 40 pd), (aI cI (md 23) 40 pe)] sz [.ref (md 64), .int k, .int x, .int y, .int a, .int b]) (va_Qi (fun (r : Int32) (u : Int32 × (Nat → Int32) × (Nat → Int32) × (Nat → Int32) × (Nat → Int32) × (Nat → Int32)) => (r, u) = sp_paper pn pk pf po pd pe cn k x y a b) (cB D (ty4 cI cY cJ cQ) (fun (u : Int32 × (Nat → Int32) × (Nat → Int32) × (Nat → Int32) × (Nat → Int32) × (Nat → Int32)) => [(moC md sd 0 mst hn cn u.1 mq gn mln mnn ln mlt msz mcu mtk mfr mti mfa mfb an un lc td mtn), (aI cI (md 19) 40 u.2.1), (aI cI (md 20) 40 u.2.2.1), (aI cI (md 21) 40 u.2.2.2.1), (aI cI (md 22) 40 u.2.2.2.2.1), (aI cI (md 23) 40 u.2.2.2.2.2)]) (va_A [(moC md sd mth mst hn cn pn mq gn mln mnn ln mlt msz mcu mtk mfr mti mfa mfb an un lc td mtn), (aI cI (md 19) 40 pk), (aI cI (md 20) 40 pf), (aI cI (md 21) 40 po), (aI cI (md 22) 40 pd), (aI cI (md 23) 40 pe)] sz)) (va_A [(moC md sd mth mst hn cn pn mq gn mln mnn ln mlt msz mcu mtk mfr mti mfa mfb an un lc td mtn), (aI cI (md 19) 40 pk), (aI cI (md 20) 40 pf), (aI cI (md 21) 40 po), (aI cI (md 22) 40 pd), (aI cI (md 23) 40 pe)] sz)) 0 0 (va_A [(moC md sd mth mst hn cn pn mq gn mln mnn ln mlt msz mcu mtk mfr mti mfa mfb an un lc td mtn), (aI cI (md 19) 40 pk), (aI cI (md 20) 40 pf), (aI cI (md 21) 40 po), (aI cI (md 22) 40 pd), (aI cI (md 23) 40 pe)] sz) := by
  refine Met.ofW (cc := cX11_paper) (maxL := 6) (ret := (some .int)) (by decide) rfl ?_
  intro p e s m args below meth c s₁ B hml hv
  obtain ⟨rfl, hsz, hP, hK, hD0, hN⟩ := hv
  have hx := B.exec
  have hb := B.bytes
  have hr := B.returns
  have hts := atoms_spec (ws := wsX11_paper) B.pre
  have hown : s.vm.findClass RX11 = some m.cls := findClass_of_methodNamed B.named
  have hlocks := B.notSynchronized
  subst hsz
  have hD := hD0.self (sz := s.heap.size)
  generalize hAe : va_A [(moC md sd mth mst hn cn pn mq gn mln mnn ln mlt msz mcu mtk mfr mti mfa mfb an un lc td mtn), (aI cI (md 19) 40 pk), (aI cI (md 20) 40 pf), (aI cI (md 21) 40 po), (aI cI (md 22) 40 pd), (aI cI (md 23) 40 pe)] s.heap.size = A at hD ⊢
  have hA : ∀ q : Nat, s.heap.size ≤ q → A q := fun q h => by rw [← hAe]; exact Or.inr h
  have hS : va_S A s.heap s.heap [] := va_S.rf
  have hP : va_P D vwCl [(moC md sd mth mst hn cn pn mq gn mln mnn ln mlt msz mcu mtk mfr mti mfa mfb an un lc td mtn), (aI cI (md 19) 40 pk), (aI cI (md 20) 40 pf), (aI cI (md 21) 40 po), (aI cI (md 22) 40 pd), (aI cI (md 23) 40 pe)] s.heap := hP
  have hl := lv_entry ([.ref (md 64), .int k, .int x, .int y, .int a, .int b]) (n := 6) (Nat.le_of_ble_eq_true rfl)
  rw [lg_entry_eq]
  generalize (lg_sl ([.ref (md 64), .int k, .int x, .int y, .int a, .int b]) ++ List.replicate (6 - (lg_sl ([.ref (md 64), .int k, .int x, .int y, .int a, .int b])).length) Slot.unset).toArray = ls at hl ⊢
  have hl : lv_has ls 6 [(0, .ref (md 64)), (1, .int k), (2, .int x), (3, .int y), (4, .int a), (5, .int b)] := hl
  have km1000003 : (-1000003 : Int32).toInt = -1000003 := by decide
  have km1000001 : (-1000001 : Int32).toInt = -1000001 := by decide
  have k0 : (0 : Int32).toInt = 0 := by decide
  have k1 : (1 : Int32).toInt = 1 := by decide
  have k40 : (40 : Int32).toInt = 40 := by decide
  have kl9999 : (9999 : Int64).toInt = 9999 := by decide
  refine lv_aload_n hx hb dX11_paper_0 rfl (lv_at hl 0 rfl) ?_
  refine lv_iconst (v := 0) hx hb dX11_paper_1 (by decide) ?_
  refine va_put (D := D) (ci := 11) (v := .int 0) (ty := .int) (C := RX11) (T := TX11) (N := 64) hx hb hts inX11_paper_X11 tyX11 tyX11_ok nmX11 hown hK hP hD hS 0 rfl rfl 0 (by decide) (hts (Cond.fieldLink RX11 1 "PortRoomsModel" "thrown" "I") (wm_t (wm_l (wm_i 0 rfl)))) (fun _ h9 => h9) rfl (tyX11_ok 0 (by decide)) rfl rfl (Nat.le_of_ble_eq_true rfl) dX11_paper_2 (fun H locs => ?_)
  clear hP hD hS
  intro hP hD hS
  replace hP : va_P D vwCl [(moC md sd (0) mst hn cn pn mq gn mln mnn ln mlt msz mcu mtk mfr mti mfa mfb an un lc td mtn), (aI cI (md 19) 40 pk), (aI cI (md 20) 40 pf), (aI cI (md 21) 40 po), (aI cI (md 22) 40 pd), (aI cI (md 23) 40 pe)] H := hP
  replace hD : va_D A [(moC md sd (0) mst hn cn pn mq gn mln mnn ln mlt msz mcu mtk mfr mti mfa mfb an un lc td mtn), (aI cI (md 19) 40 pk), (aI cI (md 20) 40 pf), (aI cI (md 21) 40 po), (aI cI (md 22) 40 pd), (aI cI (md 23) 40 pe)] := hD
  refine lv_aload_n hx hb dX11_paper_5 rfl (lv_at hl 0 rfl) ?_
  refine lv_iload_n hx hb dX11_paper_6 rfl (lv_at hl 1 rfl) ?_
  refine st_i1 (va_runV (C := RX11) (As := [.int k]) (rest := []) ⟨hx, hb, hml, hown, hts⟩ (ct_X11_isCrate l D cI cY cJ cQ _ md sd 0 mst hn cn pn mq gn mln mnn ln mlt msz mcu mtk mfr mti mfa mfb an un lc td mtn k h3 h4) (cwV 1 hts gX11_paper_X11_isCrate rfl rfl rfl ⟨rfl, cdX11_isCrate⟩ ⟨Nat.le_of_ble_eq_true rfl, Nat.le_of_ble_eq_true rfl⟩) (cPreV (hP.sub [0] rfl) hK (hD.sub [0] (by decide +kernel) rfl) hN (ci := 11) (q0 := 0) rfl rfl) rfl rfl hl.1 rfl (lv_room (Nat.le_of_ble_eq_true rfl)) dX11_paper_7 ⟨Nat.le_of_ble_eq_true rfl, Nat.le_of_ble_eq_true rfl⟩) hP hD hS hA [0] rfl (fun _ => rfl) (fun r3 u1 H locs hw2 => ?_)
  clear hP hS
  intro hP hS
  replace hw2 : r3 = if 0 ≤ k.toInt ∧ k.toInt < cn.toInt then 1 else 0 := hw2
  refine lv_if_eq (tgt := 55) hx hb dX11_paper_10 (by decide) (fun c4 => ?_) (fun c4 => ?_)
  · skip
    have f5 := bo_f hw2 c4
    refine lv_ldc hx hb hown (hts (Cond.constant RX11 157 (-1000001)) (wm_t (wm_l (wm_i 2 rfl)))) dX11_paper_55 ?_
    have hP9 := hP
    have hD9 := hD
    exact W.iret (v := (-1000001)) hx hb hr (fun t ht hW => ⟨⟨(-1000001), (pn, pk, pf, po, pd, pe), rfl, (by unfold sp_paper; (repeat' split) <;> first | rfl | (exfalso; omega) | (subst_vars; rfl)), by rw [ht]; exact hP9, va_K.moved hW.alike hK, hD9⟩, hS.F ht⟩) hS.2.2 dX11_paper_57
  · skip
    have f6 := bo_t hw2 c4
    refine lv_iload_n hx hb dX11_paper_13 rfl (lv_at hl 2 rfl) ?_
    refine st_i1 (va_runS (As := [.int x]) (rest := []) ⟨hx, hb, hml, hown, hts⟩ (ct_X11_isOwner l D cI cY cJ cQ _ x) (va_cwS 1 hts gX11_paper_X11_isOwner rfl rfl rfl cdX11_isOwner ⟨Nat.le_of_ble_eq_true rfl, Nat.le_of_ble_eq_true rfl⟩) (cPreS (hP.sub [] rfl) hK (hD.sub [] (by decide +kernel) rfl) hN) rfl rfl hl.1 rfl (lv_room (Nat.le_of_ble_eq_true rfl)) dX11_paper_14 ⟨Nat.le_of_ble_eq_true rfl, Nat.le_of_ble_eq_true rfl⟩) hP hD hS hA [] rfl (fun _ => rfl) (fun r9 u7 H locs hw8 => ?_)
    clear hP hS
    intro hP hS
    replace hw8 : r9 = if 0 ≤ x.toInt ∧ x.toInt ≤ 19 then 1 else 0 := hw8
    refine lv_if_eq (tgt := 55) hx hb dX11_paper_17 (by decide) (fun c10 => ?_) (fun c10 => ?_)
    · skip
      have f11 := bo_f hw8 c10
      refine lv_ldc hx hb hown (hts (Cond.constant RX11 157 (-1000001)) (wm_t (wm_l (wm_i 2 rfl)))) dX11_paper_55 ?_
      have hP9 := hP
      have hD9 := hD
      exact W.iret (v := (-1000001)) hx hb hr (fun t ht hW => ⟨⟨(-1000001), (pn, pk, pf, po, pd, pe), rfl, (by unfold sp_paper; (repeat' split) <;> first | rfl | (exfalso; omega) | (subst_vars; rfl)), by rw [ht]; exact hP9, va_K.moved hW.alike hK, hD9⟩, hS.F ht⟩) hS.2.2 dX11_paper_57
    · skip
      have f12 := bo_t hw8 c10
      refine lv_iload_n hx hb dX11_paper_20 rfl (lv_at hl 3 rfl) ?_
      refine st_i1 (va_runS (As := [.int y]) (rest := []) ⟨hx, hb, hml, hown, hts⟩ (ct_X11_isOwner l D cI cY cJ cQ _ y) (va_cwS 1 hts gX11_paper_X11_isOwner rfl rfl rfl cdX11_isOwner ⟨Nat.le_of_ble_eq_true rfl, Nat.le_of_ble_eq_true rfl⟩) (cPreS (hP.sub [] rfl) hK (hD.sub [] (by decide +kernel) rfl) hN) rfl rfl hl.1 rfl (lv_room (Nat.le_of_ble_eq_true rfl)) dX11_paper_21 ⟨Nat.le_of_ble_eq_true rfl, Nat.le_of_ble_eq_true rfl⟩) hP hD hS hA [] rfl (fun _ => rfl) (fun r15 u13 H locs hw14 => ?_)
      clear hP hS
      intro hP hS
      replace hw14 : r15 = if 0 ≤ y.toInt ∧ y.toInt ≤ 19 then 1 else 0 := hw14
      refine lv_if_eq (tgt := 55) hx hb dX11_paper_24 (by decide) (fun c16 => ?_) (fun c16 => ?_)
      · skip
        have f17 := bo_f hw14 c16
        refine lv_ldc hx hb hown (hts (Cond.constant RX11 157 (-1000001)) (wm_t (wm_l (wm_i 2 rfl)))) dX11_paper_55 ?_
        have hP9 := hP
        have hD9 := hD
        exact W.iret (v := (-1000001)) hx hb hr (fun t ht hW => ⟨⟨(-1000001), (pn, pk, pf, po, pd, pe), rfl, (by unfold sp_paper; (repeat' split) <;> first | rfl | (exfalso; omega) | (subst_vars; rfl)), by rw [ht]; exact hP9, va_K.moved hW.alike hK, hD9⟩, hS.F ht⟩) hS.2.2 dX11_paper_57
      · skip
        have f18 := bo_t hw14 c16
        refine lv_iload_n hx hb dX11_paper_27 rfl (lv_at hl 2 rfl) ?_
        refine lv_iload_n hx hb dX11_paper_28 rfl (lv_at hl 3 rfl) ?_
        refine lv_icmp_eq (tgt := 55) hx hb dX11_paper_29 (by decide) (fun c19 => ?_) (fun c19 => ?_)
        · skip
          have f20 := i_eq c19
          refine lv_ldc hx hb hown (hts (Cond.constant RX11 157 (-1000001)) (wm_t (wm_l (wm_i 2 rfl)))) dX11_paper_55 ?_
          have hP9 := hP
          have hD9 := hD
          exact W.iret (v := (-1000001)) hx hb hr (fun t ht hW => ⟨⟨(-1000001), (pn, pk, pf, po, pd, pe), rfl, (by unfold sp_paper; (repeat' split) <;> first | rfl | (exfalso; omega) | (subst_vars; rfl)), by rw [ht]; exact hP9, va_K.moved hW.alike hK, hD9⟩, hS.F ht⟩) hS.2.2 dX11_paper_57
        · skip
          have f21 := i_ne c19
          refine lv_iload hx hb dX11_paper_32 (lv_at hl 4 rfl) ?_
          refine st_i1 (va_runS (As := [.int a]) (rest := []) ⟨hx, hb, hml, hown, hts⟩ (ct_X11_isDay l D cI cY cJ cQ _ a) (va_cwS 1 hts gX11_paper_X11_isDay rfl rfl rfl cdX11_isDay ⟨Nat.le_of_ble_eq_true rfl, Nat.le_of_ble_eq_true rfl⟩) (cPreS (hP.sub [] rfl) hK (hD.sub [] (by decide +kernel) rfl) hN) rfl rfl hl.1 rfl (lv_room (Nat.le_of_ble_eq_true rfl)) dX11_paper_34 ⟨Nat.le_of_ble_eq_true rfl, Nat.le_of_ble_eq_true rfl⟩) hP hD hS hA [] rfl (fun _ => rfl) (fun r24 u22 H locs hw23 => ?_)
          clear hP hS
          intro hP hS
          replace hw23 : r24 = if 0 ≤ a.toInt ∧ a.toInt ≤ 9999 then 1 else 0 := hw23
          refine lv_if_eq (tgt := 55) hx hb dX11_paper_37 (by decide) (fun c25 => ?_) (fun c25 => ?_)
          · skip
            have f26 := bo_f hw23 c25
            refine lv_ldc hx hb hown (hts (Cond.constant RX11 157 (-1000001)) (wm_t (wm_l (wm_i 2 rfl)))) dX11_paper_55 ?_
            have hP9 := hP
            have hD9 := hD
            exact W.iret (v := (-1000001)) hx hb hr (fun t ht hW => ⟨⟨(-1000001), (pn, pk, pf, po, pd, pe), rfl, (by unfold sp_paper; (repeat' split) <;> first | rfl | (exfalso; omega) | (subst_vars; rfl)), by rw [ht]; exact hP9, va_K.moved hW.alike hK, hD9⟩, hS.F ht⟩) hS.2.2 dX11_paper_57
          · skip
            have f27 := bo_t hw23 c25
            refine lv_iload hx hb dX11_paper_40 (lv_at hl 5 rfl) ?_
            refine lv_i2l hx hb dX11_paper_42 rfl ?_
            have w28 := i_w b
            have w29 := i_rng b
            refine lv_iload hx hb dX11_paper_43 (lv_at hl 4 rfl) ?_
            refine lv_i2l hx hb dX11_paper_45 rfl ?_
            have w30 := i_w a
            have w31 := i_rng a
            refine lv_ldc2 hx hb hown (hts (Cond.constantLong RX11 168 (9999)) (wm_t (wm_l (wm_i 1 rfl)))) dX11_paper_46 ?_
            refine st_i1 (va_runS (As := [.long (b.toInt64), .long (a.toInt64), .long 9999]) (rest := []) ⟨hx, hb, hml, hown, hts⟩ (ct_X11_in l D cI cY cJ cQ _ b.toInt64 a.toInt64 (9999 : Int64)) (va_cwS 3 hts gX11_paper_X11_in rfl rfl rfl cdX11_in ⟨Nat.le_of_ble_eq_true rfl, Nat.le_of_ble_eq_true rfl⟩) (cPreS (hP.sub [] rfl) hK (hD.sub [] (by decide +kernel) rfl) hN) rfl rfl hl.1 rfl (lv_room (Nat.le_of_ble_eq_true rfl)) dX11_paper_49 ⟨Nat.le_of_ble_eq_true rfl, Nat.le_of_ble_eq_true rfl⟩) hP hD hS hA [] rfl (fun _ => rfl) (fun r34 u32 H locs hw33 => ?_)
            clear hP hS
            intro hP hS
            replace hw33 : r34 = if a.toInt64.toInt ≤ b.toInt64.toInt ∧ b.toInt64.toInt ≤ (9999 : Int64).toInt then 1 else 0 := hw33
            refine lv_if_ne (tgt := 58) hx hb dX11_paper_52 (by decide) (fun c35 => ?_) (fun c35 => ?_)
            · skip
              have f36 := bo_t hw33 c35
              refine lv_aload_n hx hb dX11_paper_58 rfl (lv_at hl 0 rfl) ?_
              refine va_get (D := D) (ci := 11) (v := .int pn) (C := RX11) (T := TX11) (N := 64) hx hb hts inX11_paper_X11 hown hK hP 0 rfl rfl 18 (by decide) (hts (Cond.fieldLink RX11 222 "PortRoomsModel" "papers" "I") (wm_t (wm_l (wm_i 3 rfl)))) (fun _ h9 => h9) rfl dX11_paper_59 ?_
              refine lv_bipush (v := 40) hx hb dX11_paper_62 (by decide) ?_
              refine lv_icmp_ne (tgt := 70) hx hb dX11_paper_64 (by decide) (fun c37 => ?_) (fun c37 => ?_)
              · skip
                have f38 := i_ne c37
                refine lv_aload_n hx hb dX11_paper_70 rfl (lv_at hl 0 rfl) ?_
                refine va_get (D := D) (ci := 11) (v := .ref (md 19)) (C := RX11) (T := TX11) (N := 64) hx hb hts inX11_paper_X11 hown hK hP 0 rfl rfl 19 (by decide) (hts (Cond.fieldLink RX11 54 "PortRoomsModel" "paperCrate" "[I") (wm_t (wm_l (wm_i 5 rfl)))) (fun _ h9 => h9) rfl dX11_paper_71 ?_
                refine lv_aload_n hx hb dX11_paper_74 rfl (lv_at hl 0 rfl) ?_
                refine va_get (D := D) (ci := 11) (v := .int pn) (C := RX11) (T := TX11) (N := 64) hx hb hts inX11_paper_X11 hown hK hP 0 rfl rfl 18 (by decide) (hts (Cond.fieldLink RX11 222 "PortRoomsModel" "papers" "I") (wm_t (wm_l (wm_i 3 rfl)))) (fun _ h9 => h9) rfl dX11_paper_75 ?_
                refine lv_iload_n hx hb dX11_paper_78 rfl (lv_at hl 1 rfl) ?_
                refine va_iast hx hb hK hP hD hS 1 0 rfl rfl (i_in (by omega) (by omega)) dX11_paper_79 (fun H locs => ?_)
                clear hP hD hS
                intro hP hD hS
                replace hP : va_P D vwCl [(moC md sd (0) mst hn cn pn mq gn mln mnn ln mlt msz mcu mtk mfr mti mfa mfb an un lc td mtn), (aI cI (md 19) 40 (upd pk pn.toNatClampNeg k)), (aI cI (md 20) 40 pf), (aI cI (md 21) 40 po), (aI cI (md 22) 40 pd), (aI cI (md 23) 40 pe)] H := hP
                replace hD : va_D A [(moC md sd (0) mst hn cn pn mq gn mln mnn ln mlt msz mcu mtk mfr mti mfa mfb an un lc td mtn), (aI cI (md 19) 40 (upd pk pn.toNatClampNeg k)), (aI cI (md 20) 40 pf), (aI cI (md 21) 40 po), (aI cI (md 22) 40 pd), (aI cI (md 23) 40 pe)] := hD
                refine lv_aload_n hx hb dX11_paper_80 rfl (lv_at hl 0 rfl) ?_
                refine va_get (D := D) (ci := 11) (v := .ref (md 20)) (C := RX11) (T := TX11) (N := 64) hx hb hts inX11_paper_X11 hown hK hP 0 rfl rfl 20 (by decide) (hts (Cond.fieldLink RX11 57 "PortRoomsModel" "paperFrom" "[I") (wm_t (wm_l (wm_i 6 rfl)))) (fun _ h9 => h9) rfl dX11_paper_81 ?_
                refine lv_aload_n hx hb dX11_paper_84 rfl (lv_at hl 0 rfl) ?_
                refine va_get (D := D) (ci := 11) (v := .int pn) (C := RX11) (T := TX11) (N := 64) hx hb hts inX11_paper_X11 hown hK hP 0 rfl rfl 18 (by decide) (hts (Cond.fieldLink RX11 222 "PortRoomsModel" "papers" "I") (wm_t (wm_l (wm_i 3 rfl)))) (fun _ h9 => h9) rfl dX11_paper_85 ?_
                refine lv_iload_n hx hb dX11_paper_88 rfl (lv_at hl 2 rfl) ?_
                refine va_iast hx hb hK hP hD hS 2 0 rfl rfl (i_in (by omega) (by omega)) dX11_paper_89 (fun H locs => ?_)
                clear hP hD hS
                intro hP hD hS
                replace hP : va_P D vwCl [(moC md sd (0) mst hn cn pn mq gn mln mnn ln mlt msz mcu mtk mfr mti mfa mfb an un lc td mtn), (aI cI (md 19) 40 (upd pk pn.toNatClampNeg k)), (aI cI (md 20) 40 (upd pf pn.toNatClampNeg x)), (aI cI (md 21) 40 po), (aI cI (md 22) 40 pd), (aI cI (md 23) 40 pe)] H := hP
                replace hD : va_D A [(moC md sd (0) mst hn cn pn mq gn mln mnn ln mlt msz mcu mtk mfr mti mfa mfb an un lc td mtn), (aI cI (md 19) 40 (upd pk pn.toNatClampNeg k)), (aI cI (md 20) 40 (upd pf pn.toNatClampNeg x)), (aI cI (md 21) 40 po), (aI cI (md 22) 40 pd), (aI cI (md 23) 40 pe)] := hD
                refine lv_aload_n hx hb dX11_paper_90 rfl (lv_at hl 0 rfl) ?_
                refine va_get (D := D) (ci := 11) (v := .ref (md 21)) (C := RX11) (T := TX11) (N := 64) hx hb hts inX11_paper_X11 hown hK hP 0 rfl rfl 21 (by decide) (hts (Cond.fieldLink RX11 60 "PortRoomsModel" "paperTo" "[I") (wm_t (wm_l (wm_i 7 rfl)))) (fun _ h9 => h9) rfl dX11_paper_91 ?_
                refine lv_aload_n hx hb dX11_paper_94 rfl (lv_at hl 0 rfl) ?_
                refine va_get (D := D) (ci := 11) (v := .int pn) (C := RX11) (T := TX11) (N := 64) hx hb hts inX11_paper_X11 hown hK hP 0 rfl rfl 18 (by decide) (hts (Cond.fieldLink RX11 222 "PortRoomsModel" "papers" "I") (wm_t (wm_l (wm_i 3 rfl)))) (fun _ h9 => h9) rfl dX11_paper_95 ?_
                refine lv_iload_n hx hb dX11_paper_98 rfl (lv_at hl 3 rfl) ?_
                refine va_iast hx hb hK hP hD hS 3 0 rfl rfl (i_in (by omega) (by omega)) dX11_paper_99 (fun H locs => ?_)
                clear hP hD hS
                intro hP hD hS
                replace hP : va_P D vwCl [(moC md sd (0) mst hn cn pn mq gn mln mnn ln mlt msz mcu mtk mfr mti mfa mfb an un lc td mtn), (aI cI (md 19) 40 (upd pk pn.toNatClampNeg k)), (aI cI (md 20) 40 (upd pf pn.toNatClampNeg x)), (aI cI (md 21) 40 (upd po pn.toNatClampNeg y)), (aI cI (md 22) 40 pd), (aI cI (md 23) 40 pe)] H := hP
                replace hD : va_D A [(moC md sd (0) mst hn cn pn mq gn mln mnn ln mlt msz mcu mtk mfr mti mfa mfb an un lc td mtn), (aI cI (md 19) 40 (upd pk pn.toNatClampNeg k)), (aI cI (md 20) 40 (upd pf pn.toNatClampNeg x)), (aI cI (md 21) 40 (upd po pn.toNatClampNeg y)), (aI cI (md 22) 40 pd), (aI cI (md 23) 40 pe)] := hD
                refine lv_aload_n hx hb dX11_paper_100 rfl (lv_at hl 0 rfl) ?_
                refine va_get (D := D) (ci := 11) (v := .ref (md 22)) (C := RX11) (T := TX11) (N := 64) hx hb hts inX11_paper_X11 hown hK hP 0 rfl rfl 22 (by decide) (hts (Cond.fieldLink RX11 63 "PortRoomsModel" "paperSaid" "[I") (wm_t (wm_l (wm_i 8 rfl)))) (fun _ h9 => h9) rfl dX11_paper_101 ?_
                refine lv_aload_n hx hb dX11_paper_104 rfl (lv_at hl 0 rfl) ?_
                refine va_get (D := D) (ci := 11) (v := .int pn) (C := RX11) (T := TX11) (N := 64) hx hb hts inX11_paper_X11 hown hK hP 0 rfl rfl 18 (by decide) (hts (Cond.fieldLink RX11 222 "PortRoomsModel" "papers" "I") (wm_t (wm_l (wm_i 3 rfl)))) (fun _ h9 => h9) rfl dX11_paper_105 ?_
                refine lv_iload hx hb dX11_paper_108 (lv_at hl 4 rfl) ?_
                refine va_iast hx hb hK hP hD hS 4 0 rfl rfl (i_in (by omega) (by omega)) dX11_paper_110 (fun H locs => ?_)
                clear hP hD hS
                intro hP hD hS
                replace hP : va_P D vwCl [(moC md sd (0) mst hn cn pn mq gn mln mnn ln mlt msz mcu mtk mfr mti mfa mfb an un lc td mtn), (aI cI (md 19) 40 (upd pk pn.toNatClampNeg k)), (aI cI (md 20) 40 (upd pf pn.toNatClampNeg x)), (aI cI (md 21) 40 (upd po pn.toNatClampNeg y)), (aI cI (md 22) 40 (upd pd pn.toNatClampNeg a)), (aI cI (md 23) 40 pe)] H := hP
                replace hD : va_D A [(moC md sd (0) mst hn cn pn mq gn mln mnn ln mlt msz mcu mtk mfr mti mfa mfb an un lc td mtn), (aI cI (md 19) 40 (upd pk pn.toNatClampNeg k)), (aI cI (md 20) 40 (upd pf pn.toNatClampNeg x)), (aI cI (md 21) 40 (upd po pn.toNatClampNeg y)), (aI cI (md 22) 40 (upd pd pn.toNatClampNeg a)), (aI cI (md 23) 40 pe)] := hD
                refine lv_aload_n hx hb dX11_paper_111 rfl (lv_at hl 0 rfl) ?_
                refine va_get (D := D) (ci := 11) (v := .ref (md 23)) (C := RX11) (T := TX11) (N := 64) hx hb hts inX11_paper_X11 hown hK hP 0 rfl rfl 23 (by decide) (hts (Cond.fieldLink RX11 66 "PortRoomsModel" "paperFiled" "[I") (wm_t (wm_l (wm_i 9 rfl)))) (fun _ h9 => h9) rfl dX11_paper_112 ?_
                refine lv_aload_n hx hb dX11_paper_115 rfl (lv_at hl 0 rfl) ?_
                refine va_get (D := D) (ci := 11) (v := .int pn) (C := RX11) (T := TX11) (N := 64) hx hb hts inX11_paper_X11 hown hK hP 0 rfl rfl 18 (by decide) (hts (Cond.fieldLink RX11 222 "PortRoomsModel" "papers" "I") (wm_t (wm_l (wm_i 3 rfl)))) (fun _ h9 => h9) rfl dX11_paper_116 ?_
                refine lv_iload hx hb dX11_paper_119 (lv_at hl 5 rfl) ?_
                refine va_iast hx hb hK hP hD hS 5 0 rfl rfl (i_in (by omega) (by omega)) dX11_paper_121 (fun H locs => ?_)
                clear hP hD hS
                intro hP hD hS
                replace hP : va_P D vwCl [(moC md sd (0) mst hn cn pn mq gn mln mnn ln mlt msz mcu mtk mfr mti mfa mfb an un lc td mtn), (aI cI (md 19) 40 (upd pk pn.toNatClampNeg k)), (aI cI (md 20) 40 (upd pf pn.toNatClampNeg x)), (aI cI (md 21) 40 (upd po pn.toNatClampNeg y)), (aI cI (md 22) 40 (upd pd pn.toNatClampNeg a)), (aI cI (md 23) 40 (upd pe pn.toNatClampNeg b))] H := hP
                replace hD : va_D A [(moC md sd (0) mst hn cn pn mq gn mln mnn ln mlt msz mcu mtk mfr mti mfa mfb an un lc td mtn), (aI cI (md 19) 40 (upd pk pn.toNatClampNeg k)), (aI cI (md 20) 40 (upd pf pn.toNatClampNeg x)), (aI cI (md 21) 40 (upd po pn.toNatClampNeg y)), (aI cI (md 22) 40 (upd pd pn.toNatClampNeg a)), (aI cI (md 23) 40 (upd pe pn.toNatClampNeg b))] := hD
                refine lv_aload_n hx hb dX11_paper_122 rfl (lv_at hl 0 rfl) ?_
                refine lv_dup hx hb dX11_paper_123 rfl ?_
                refine va_get (D := D) (ci := 11) (v := .int pn) (C := RX11) (T := TX11) (N := 64) hx hb hts inX11_paper_X11 hown hK hP 0 rfl rfl 18 (by decide) (hts (Cond.fieldLink RX11 222 "PortRoomsModel" "papers" "I") (wm_t (wm_l (wm_i 3 rfl)))) (fun _ h9 => h9) rfl dX11_paper_124 ?_
                refine lv_iconst (v := 1) hx hb dX11_paper_127 (by decide) ?_
                refine lv_iadd hx hb dX11_paper_128 ?_
                refine lv_topi (fun v39 ev39 => ?_)
                try have tv39 : v39.toInt = pn.toInt + 1 := by rw [ev39]; exact (i_add (x := pn) (y := (1 : Int32)) (by rw [k1]; omega) (by rw [k1]; omega)).trans (by rw [k1])
                refine va_put (D := D) (ci := 11) (v := .int v39) (ty := .int) (C := RX11) (T := TX11) (N := 64) hx hb hts inX11_paper_X11 tyX11 tyX11_ok nmX11 hown hK hP hD hS 0 rfl rfl 18 (by decide) (hts (Cond.fieldLink RX11 222 "PortRoomsModel" "papers" "I") (wm_t (wm_l (wm_i 3 rfl)))) (fun _ h9 => h9) rfl (tyX11_ok 18 (by decide)) rfl rfl (Nat.le_of_ble_eq_true rfl) dX11_paper_129 (fun H locs => ?_)
                clear hP hD hS
                intro hP hD hS
                replace hP : va_P D vwCl [(moC md sd (0) mst hn cn v39 mq gn mln mnn ln mlt msz mcu mtk mfr mti mfa mfb an un lc td mtn), (aI cI (md 19) 40 (upd pk pn.toNatClampNeg k)), (aI cI (md 20) 40 (upd pf pn.toNatClampNeg x)), (aI cI (md 21) 40 (upd po pn.toNatClampNeg y)), (aI cI (md 22) 40 (upd pd pn.toNatClampNeg a)), (aI cI (md 23) 40 (upd pe pn.toNatClampNeg b))] H := hP
                replace hD : va_D A [(moC md sd (0) mst hn cn v39 mq gn mln mnn ln mlt msz mcu mtk mfr mti mfa mfb an un lc td mtn), (aI cI (md 19) 40 (upd pk pn.toNatClampNeg k)), (aI cI (md 20) 40 (upd pf pn.toNatClampNeg x)), (aI cI (md 21) 40 (upd po pn.toNatClampNeg y)), (aI cI (md 22) 40 (upd pd pn.toNatClampNeg a)), (aI cI (md 23) 40 (upd pe pn.toNatClampNeg b))] := hD
                refine lv_aload_n hx hb dX11_paper_132 rfl (lv_at hl 0 rfl) ?_
                refine va_get (D := D) (ci := 11) (v := .int v39) (C := RX11) (T := TX11) (N := 64) hx hb hts inX11_paper_X11 hown hK hP 0 rfl rfl 18 (by decide) (hts (Cond.fieldLink RX11 222 "PortRoomsModel" "papers" "I") (wm_t (wm_l (wm_i 3 rfl)))) (fun _ h9 => h9) rfl dX11_paper_133 ?_
                have hP9 := hP
                have hD9 := hD
                exact W.iret (v := v39) hx hb hr (fun t ht hW => ⟨⟨v39, (v39, upd pk pn.toNatClampNeg k, upd pf pn.toNatClampNeg x, upd po pn.toNatClampNeg y, upd pd pn.toNatClampNeg a, upd pe pn.toNatClampNeg b), rfl, (by unfold sp_paper; (repeat' split) <;> first | rfl | (exfalso; omega) | (subst_vars; rfl)), by rw [ht]; exact hP9, va_K.moved hW.alike hK, hD9⟩, hS.F ht⟩) hS.2.2 dX11_paper_136
              · skip
                have f40 := i_eq c37
                refine lv_ldc hx hb hown (hts (Cond.constant RX11 184 (-1000003)) (wm_t (wm_l (wm_i 4 rfl)))) dX11_paper_67 ?_
                have hP9 := hP
                have hD9 := hD
                exact W.iret (v := (-1000003)) hx hb hr (fun t ht hW => ⟨⟨(-1000003), (pn, pk, pf, po, pd, pe), rfl, (by unfold sp_paper; (repeat' split) <;> first | rfl | (exfalso; omega) | (subst_vars; rfl)), by rw [ht]; exact hP9, va_K.moved hW.alike hK, hD9⟩, hS.F ht⟩) hS.2.2 dX11_paper_69
            · skip
              have f41 := bo_f hw33 c35
              refine lv_ldc hx hb hown (hts (Cond.constant RX11 157 (-1000001)) (wm_t (wm_l (wm_i 2 rfl)))) dX11_paper_55 ?_
              have hP9 := hP
              have hD9 := hD
              exact W.iret (v := (-1000001)) hx hb hr (fun t ht hW => ⟨⟨(-1000001), (pn, pk, pf, po, pd, pe), rfl, (by unfold sp_paper; (repeat' split) <;> first | rfl | (exfalso; omega) | (subst_vars; rfl)), by rw [ht]; exact hP9, va_K.moved hW.alike hK, hD9⟩, hS.F ht⟩) hS.2.2 dX11_paper_57

set_option maxHeartbeats 4000000 in
set_option maxRecDepth 100000 in
theorem ct_X11_pledge (l : Launch) (D : va_G) (cI cY cJ cQ : ClassId) (sz : Nat) (md : Nat → Nat) (sd : Int32) (mth mst hn cn pn mq gn mln mnn ln mlt msz mcu mtk mfr mti mfa mfb an un lc td mtn : Int32) (gk gs gd ge : Nat → Int32) (k : Int32) (x : Int32) (q : Int32) (a : Int32) (b : Int32)  (h1 : 0 ≤ gn.toInt) (h2 : gn.toInt ≤ 40) (h3 : 0 ≤ cn.toInt) (h4 : cn.toInt ≤ 12)  : Met l yX11_pledge wsX11_pledge ({ frames := 2, cells := 0, slots := 0, locals := 46 }) (cPre D (ty4 cI cY cJ cQ) [(moC md sd mth mst hn cn pn mq gn mln mnn ln mlt msz mcu mtk mfr mti mfa mfb an un lc td mtn), (aI cI (md 26) 40 gk), (aI cI (md 27) 40 gs), (aI cI (md 28) 40 gd), (aI cI (md 29) 40 ge)] sz [.ref (md 64), .int k, .int x, .int q, .int a, .int b]) (va_Qi (fun (r : Int32) (u : Int32 × (Nat → Int32) × (Nat → Int32) × (Nat → Int32) × (Nat → Int32)) => (r, u) = sp_pledge gn gk gs gd ge cn k x q a b) (cB D (ty4 cI cY cJ cQ) (fun (u : Int32 × (Nat → Int32) × (Nat → Int32) × (Nat → Int32) × (Nat → Int32)) => [(moC md sd 0 mst hn cn pn mq u.1 mln mnn ln mlt msz mcu mtk mfr mti mfa mfb an un lc td mtn), (aI cI (md 26) 40 u.2.1), (aI cI (md 27) 40 u.2.2.1), (aI cI (md 28) 40 u.2.2.2.1), (aI cI (md 29) 40 u.2.2.2.2)]) (va_A [(moC md sd mth mst hn cn pn mq gn mln mnn ln mlt msz mcu mtk mfr mti mfa mfb an un lc td mtn), (aI cI (md 26) 40 gk), (aI cI (md 27) 40 gs), (aI cI (md 28) 40 gd), (aI cI (md 29) 40 ge)] sz)) (va_A [(moC md sd mth mst hn cn pn mq gn mln mnn ln mlt msz mcu mtk mfr mti mfa mfb an un lc td mtn), (aI cI (md 26) 40 gk), (aI cI (md 27) 40 gs), (aI cI (md 28) 40 gd), (aI cI (md 29) 40 ge)] sz)) 0 0 (va_A [(moC md sd mth mst hn cn pn mq gn mln mnn ln mlt msz mcu mtk mfr mti mfa mfb an un lc td mtn), (aI cI (md 26) 40 gk), (aI cI (md 27) 40 gs), (aI cI (md 28) 40 gd), (aI cI (md 29) 40 ge)] sz) := by
  refine Met.ofW (cc := cX11_pledge) (maxL := 6) (ret := (some .int)) (by decide) rfl ?_
  intro p e s m args below meth c s₁ B hml hv
  obtain ⟨rfl, hsz, hP, hK, hD0, hN⟩ := hv
  have hx := B.exec
  have hb := B.bytes
  have hr := B.returns
  have hts := atoms_spec (ws := wsX11_pledge) B.pre
  have hown : s.vm.findClass RX11 = some m.cls := findClass_of_methodNamed B.named
  have hlocks := B.notSynchronized
  subst hsz
  have hD := hD0.self (sz := s.heap.size)
  generalize hAe : va_A [(moC md sd mth mst hn cn pn mq gn mln mnn ln mlt msz mcu mtk mfr mti mfa mfb an un lc td mtn), (aI cI (md 26) 40 gk), (aI cI (md 27) 40 gs), (aI cI (md 28) 40 gd), (aI cI (md 29) 40 ge)] s.heap.size = A at hD ⊢
  have hA : ∀ q : Nat, s.heap.size ≤ q → A q := fun q h => by rw [← hAe]; exact Or.inr h
  have hS : va_S A s.heap s.heap [] := va_S.rf
  have hP : va_P D vwCl [(moC md sd mth mst hn cn pn mq gn mln mnn ln mlt msz mcu mtk mfr mti mfa mfb an un lc td mtn), (aI cI (md 26) 40 gk), (aI cI (md 27) 40 gs), (aI cI (md 28) 40 gd), (aI cI (md 29) 40 ge)] s.heap := hP
  have hl := lv_entry ([.ref (md 64), .int k, .int x, .int q, .int a, .int b]) (n := 6) (Nat.le_of_ble_eq_true rfl)
  rw [lg_entry_eq]
  generalize (lg_sl ([.ref (md 64), .int k, .int x, .int q, .int a, .int b]) ++ List.replicate (6 - (lg_sl ([.ref (md 64), .int k, .int x, .int q, .int a, .int b])).length) Slot.unset).toArray = ls at hl ⊢
  have hl : lv_has ls 6 [(0, .ref (md 64)), (1, .int k), (2, .int x), (3, .int q), (4, .int a), (5, .int b)] := hl
  have km1000003 : (-1000003 : Int32).toInt = -1000003 := by decide
  have km1000001 : (-1000001 : Int32).toInt = -1000001 := by decide
  have k0 : (0 : Int32).toInt = 0 := by decide
  have k1 : (1 : Int32).toInt = 1 := by decide
  have k40 : (40 : Int32).toInt = 40 := by decide
  have kl1 : (1 : Int64).toInt = 1 := by decide
  have kl9999 : (9999 : Int64).toInt = 9999 := by decide
  have kl100000 : (100000 : Int64).toInt = 100000 := by decide
  refine lv_aload_n hx hb dX11_pledge_0 rfl (lv_at hl 0 rfl) ?_
  refine lv_iconst (v := 0) hx hb dX11_pledge_1 (by decide) ?_
  refine va_put (D := D) (ci := 11) (v := .int 0) (ty := .int) (C := RX11) (T := TX11) (N := 64) hx hb hts inX11_pledge_X11 tyX11 tyX11_ok nmX11 hown hK hP hD hS 0 rfl rfl 0 (by decide) (hts (Cond.fieldLink RX11 1 "PortRoomsModel" "thrown" "I") (wm_t (wm_l (wm_i 0 rfl)))) (fun _ h9 => h9) rfl (tyX11_ok 0 (by decide)) rfl rfl (Nat.le_of_ble_eq_true rfl) dX11_pledge_2 (fun H locs => ?_)
  clear hP hD hS
  intro hP hD hS
  replace hP : va_P D vwCl [(moC md sd (0) mst hn cn pn mq gn mln mnn ln mlt msz mcu mtk mfr mti mfa mfb an un lc td mtn), (aI cI (md 26) 40 gk), (aI cI (md 27) 40 gs), (aI cI (md 28) 40 gd), (aI cI (md 29) 40 ge)] H := hP
  replace hD : va_D A [(moC md sd (0) mst hn cn pn mq gn mln mnn ln mlt msz mcu mtk mfr mti mfa mfb an un lc td mtn), (aI cI (md 26) 40 gk), (aI cI (md 27) 40 gs), (aI cI (md 28) 40 gd), (aI cI (md 29) 40 ge)] := hD
  refine lv_aload_n hx hb dX11_pledge_5 rfl (lv_at hl 0 rfl) ?_
  refine lv_iload_n hx hb dX11_pledge_6 rfl (lv_at hl 1 rfl) ?_
  refine st_i1 (va_runV (C := RX11) (As := [.int k]) (rest := []) ⟨hx, hb, hml, hown, hts⟩ (ct_X11_isCrate l D cI cY cJ cQ _ md sd 0 mst hn cn pn mq gn mln mnn ln mlt msz mcu mtk mfr mti mfa mfb an un lc td mtn k h3 h4) (cwV 1 hts gX11_pledge_X11_isCrate rfl rfl rfl ⟨rfl, cdX11_isCrate⟩ ⟨Nat.le_of_ble_eq_true rfl, Nat.le_of_ble_eq_true rfl⟩) (cPreV (hP.sub [0] rfl) hK (hD.sub [0] (by decide +kernel) rfl) hN (ci := 11) (q0 := 0) rfl rfl) rfl rfl hl.1 rfl (lv_room (Nat.le_of_ble_eq_true rfl)) dX11_pledge_7 ⟨Nat.le_of_ble_eq_true rfl, Nat.le_of_ble_eq_true rfl⟩) hP hD hS hA [0] rfl (fun _ => rfl) (fun r3 u1 H locs hw2 => ?_)
  clear hP hS
  intro hP hS
  replace hw2 : r3 = if 0 ≤ k.toInt ∧ k.toInt < cn.toInt then 1 else 0 := hw2
  refine lv_if_eq (tgt := 55) hx hb dX11_pledge_10 (by decide) (fun c4 => ?_) (fun c4 => ?_)
  · skip
    have f5 := bo_f hw2 c4
    refine lv_ldc hx hb hown (hts (Cond.constant RX11 157 (-1000001)) (wm_t (wm_l (wm_i 3 rfl)))) dX11_pledge_55 ?_
    have hP9 := hP
    have hD9 := hD
    exact W.iret (v := (-1000001)) hx hb hr (fun t ht hW => ⟨⟨(-1000001), (gn, gk, gs, gd, ge), rfl, (by unfold sp_pledge; (repeat' split) <;> first | rfl | (exfalso; omega) | (subst_vars; rfl)), by rw [ht]; exact hP9, va_K.moved hW.alike hK, hD9⟩, hS.F ht⟩) hS.2.2 dX11_pledge_57
  · skip
    have f6 := bo_t hw2 c4
    refine lv_iload_n hx hb dX11_pledge_13 rfl (lv_at hl 2 rfl) ?_
    refine st_i1 (va_runS (As := [.int x]) (rest := []) ⟨hx, hb, hml, hown, hts⟩ (ct_X11_isPerson l D cI cY cJ cQ _ x) (va_cwS 1 hts gX11_pledge_X11_isPerson rfl rfl rfl cdX11_isPerson ⟨Nat.le_of_ble_eq_true rfl, Nat.le_of_ble_eq_true rfl⟩) (cPreS (hP.sub [] rfl) hK (hD.sub [] (by decide +kernel) rfl) hN) rfl rfl hl.1 rfl (lv_room (Nat.le_of_ble_eq_true rfl)) dX11_pledge_14 ⟨Nat.le_of_ble_eq_true rfl, Nat.le_of_ble_eq_true rfl⟩) hP hD hS hA [] rfl (fun _ => rfl) (fun r9 u7 H locs hw8 => ?_)
    clear hP hS
    intro hP hS
    replace hw8 : r9 = if 0 ≤ x.toInt ∧ x.toInt ≤ 9 then 1 else 0 := hw8
    refine lv_if_eq (tgt := 55) hx hb dX11_pledge_17 (by decide) (fun c10 => ?_) (fun c10 => ?_)
    · skip
      have f11 := bo_f hw8 c10
      refine lv_ldc hx hb hown (hts (Cond.constant RX11 157 (-1000001)) (wm_t (wm_l (wm_i 3 rfl)))) dX11_pledge_55 ?_
      have hP9 := hP
      have hD9 := hD
      exact W.iret (v := (-1000001)) hx hb hr (fun t ht hW => ⟨⟨(-1000001), (gn, gk, gs, gd, ge), rfl, (by unfold sp_pledge; (repeat' split) <;> first | rfl | (exfalso; omega) | (subst_vars; rfl)), by rw [ht]; exact hP9, va_K.moved hW.alike hK, hD9⟩, hS.F ht⟩) hS.2.2 dX11_pledge_57
    · skip
      have f12 := bo_t hw8 c10
      refine lv_iload_n hx hb dX11_pledge_20 rfl (lv_at hl 3 rfl) ?_
      refine lv_i2l hx hb dX11_pledge_21 rfl ?_
      have w13 := i_w q
      have w14 := i_rng q
      refine lv_lconst (v := 1) hx hb dX11_pledge_22 (by decide) ?_
      refine lv_ldc2 hx hb hown (hts (Cond.constantLong RX11 217 (100000)) (wm_t (wm_l (wm_i 1 rfl)))) dX11_pledge_23 ?_
      refine st_i1 (va_runS (As := [.long (q.toInt64), .long 1, .long 100000]) (rest := []) ⟨hx, hb, hml, hown, hts⟩ (ct_X11_in l D cI cY cJ cQ _ q.toInt64 (1 : Int64) (100000 : Int64)) (va_cwS 3 hts gX11_pledge_X11_in rfl rfl rfl cdX11_in ⟨Nat.le_of_ble_eq_true rfl, Nat.le_of_ble_eq_true rfl⟩) (cPreS (hP.sub [] rfl) hK (hD.sub [] (by decide +kernel) rfl) hN) rfl rfl hl.1 rfl (lv_room (Nat.le_of_ble_eq_true rfl)) dX11_pledge_26 ⟨Nat.le_of_ble_eq_true rfl, Nat.le_of_ble_eq_true rfl⟩) hP hD hS hA [] rfl (fun _ => rfl) (fun r17 u15 H locs hw16 => ?_)
      clear hP hS
      intro hP hS
      replace hw16 : r17 = if (1 : Int64).toInt ≤ q.toInt64.toInt ∧ q.toInt64.toInt ≤ (100000 : Int64).toInt then 1 else 0 := hw16
      refine lv_if_eq (tgt := 55) hx hb dX11_pledge_29 (by decide) (fun c18 => ?_) (fun c18 => ?_)
      · skip
        have f19 := bo_f hw16 c18
        refine lv_ldc hx hb hown (hts (Cond.constant RX11 157 (-1000001)) (wm_t (wm_l (wm_i 3 rfl)))) dX11_pledge_55 ?_
        have hP9 := hP
        have hD9 := hD
        exact W.iret (v := (-1000001)) hx hb hr (fun t ht hW => ⟨⟨(-1000001), (gn, gk, gs, gd, ge), rfl, (by unfold sp_pledge; (repeat' split) <;> first | rfl | (exfalso; omega) | (subst_vars; rfl)), by rw [ht]; exact hP9, va_K.moved hW.alike hK, hD9⟩, hS.F ht⟩) hS.2.2 dX11_pledge_57
      · skip
        have f20 := bo_t hw16 c18
        refine lv_iload hx hb dX11_pledge_32 (lv_at hl 4 rfl) ?_
        refine st_i1 (va_runS (As := [.int a]) (rest := []) ⟨hx, hb, hml, hown, hts⟩ (ct_X11_isDay l D cI cY cJ cQ _ a) (va_cwS 1 hts gX11_pledge_X11_isDay rfl rfl rfl cdX11_isDay ⟨Nat.le_of_ble_eq_true rfl, Nat.le_of_ble_eq_true rfl⟩) (cPreS (hP.sub [] rfl) hK (hD.sub [] (by decide +kernel) rfl) hN) rfl rfl hl.1 rfl (lv_room (Nat.le_of_ble_eq_true rfl)) dX11_pledge_34 ⟨Nat.le_of_ble_eq_true rfl, Nat.le_of_ble_eq_true rfl⟩) hP hD hS hA [] rfl (fun _ => rfl) (fun r23 u21 H locs hw22 => ?_)
        clear hP hS
        intro hP hS
        replace hw22 : r23 = if 0 ≤ a.toInt ∧ a.toInt ≤ 9999 then 1 else 0 := hw22
        refine lv_if_eq (tgt := 55) hx hb dX11_pledge_37 (by decide) (fun c24 => ?_) (fun c24 => ?_)
        · skip
          have f25 := bo_f hw22 c24
          refine lv_ldc hx hb hown (hts (Cond.constant RX11 157 (-1000001)) (wm_t (wm_l (wm_i 3 rfl)))) dX11_pledge_55 ?_
          have hP9 := hP
          have hD9 := hD
          exact W.iret (v := (-1000001)) hx hb hr (fun t ht hW => ⟨⟨(-1000001), (gn, gk, gs, gd, ge), rfl, (by unfold sp_pledge; (repeat' split) <;> first | rfl | (exfalso; omega) | (subst_vars; rfl)), by rw [ht]; exact hP9, va_K.moved hW.alike hK, hD9⟩, hS.F ht⟩) hS.2.2 dX11_pledge_57
        · skip
          have f26 := bo_t hw22 c24
          refine lv_iload hx hb dX11_pledge_40 (lv_at hl 5 rfl) ?_
          refine lv_i2l hx hb dX11_pledge_42 rfl ?_
          have w27 := i_w b
          have w28 := i_rng b
          refine lv_iload hx hb dX11_pledge_43 (lv_at hl 4 rfl) ?_
          refine lv_i2l hx hb dX11_pledge_45 rfl ?_
          have w29 := i_w a
          have w30 := i_rng a
          refine lv_ldc2 hx hb hown (hts (Cond.constantLong RX11 168 (9999)) (wm_t (wm_l (wm_i 2 rfl)))) dX11_pledge_46 ?_
          refine st_i1 (va_runS (As := [.long (b.toInt64), .long (a.toInt64), .long 9999]) (rest := []) ⟨hx, hb, hml, hown, hts⟩ (ct_X11_in l D cI cY cJ cQ _ b.toInt64 a.toInt64 (9999 : Int64)) (va_cwS 3 hts gX11_pledge_X11_in rfl rfl rfl cdX11_in ⟨Nat.le_of_ble_eq_true rfl, Nat.le_of_ble_eq_true rfl⟩) (cPreS (hP.sub [] rfl) hK (hD.sub [] (by decide +kernel) rfl) hN) rfl rfl hl.1 rfl (lv_room (Nat.le_of_ble_eq_true rfl)) dX11_pledge_49 ⟨Nat.le_of_ble_eq_true rfl, Nat.le_of_ble_eq_true rfl⟩) hP hD hS hA [] rfl (fun _ => rfl) (fun r33 u31 H locs hw32 => ?_)
          clear hP hS
          intro hP hS
          replace hw32 : r33 = if a.toInt64.toInt ≤ b.toInt64.toInt ∧ b.toInt64.toInt ≤ (9999 : Int64).toInt then 1 else 0 := hw32
          refine lv_if_ne (tgt := 58) hx hb dX11_pledge_52 (by decide) (fun c34 => ?_) (fun c34 => ?_)
          · skip
            have f35 := bo_t hw32 c34
            refine lv_aload_n hx hb dX11_pledge_58 rfl (lv_at hl 0 rfl) ?_
            refine va_get (D := D) (ci := 11) (v := .int gn) (C := RX11) (T := TX11) (N := 64) hx hb hts inX11_pledge_X11 hown hK hP 0 rfl rfl 25 (by decide) (hts (Cond.fieldLink RX11 231 "PortRoomsModel" "pledges" "I") (wm_t (wm_l (wm_i 4 rfl)))) (fun _ h9 => h9) rfl dX11_pledge_59 ?_
            refine lv_bipush (v := 40) hx hb dX11_pledge_62 (by decide) ?_
            refine lv_icmp_ne (tgt := 70) hx hb dX11_pledge_64 (by decide) (fun c36 => ?_) (fun c36 => ?_)
            · skip
              have f37 := i_ne c36
              refine lv_aload_n hx hb dX11_pledge_70 rfl (lv_at hl 0 rfl) ?_
              refine va_get (D := D) (ci := 11) (v := .ref (md 26)) (C := RX11) (T := TX11) (N := 64) hx hb hts inX11_pledge_X11 hown hK hP 0 rfl rfl 26 (by decide) (hts (Cond.fieldLink RX11 69 "PortRoomsModel" "pledgeCrate" "[I") (wm_t (wm_l (wm_i 6 rfl)))) (fun _ h9 => h9) rfl dX11_pledge_71 ?_
              refine lv_aload_n hx hb dX11_pledge_74 rfl (lv_at hl 0 rfl) ?_
              refine va_get (D := D) (ci := 11) (v := .int gn) (C := RX11) (T := TX11) (N := 64) hx hb hts inX11_pledge_X11 hown hK hP 0 rfl rfl 25 (by decide) (hts (Cond.fieldLink RX11 231 "PortRoomsModel" "pledges" "I") (wm_t (wm_l (wm_i 4 rfl)))) (fun _ h9 => h9) rfl dX11_pledge_75 ?_
              refine lv_iload_n hx hb dX11_pledge_78 rfl (lv_at hl 1 rfl) ?_
              refine va_iast hx hb hK hP hD hS 1 0 rfl rfl (i_in (by omega) (by omega)) dX11_pledge_79 (fun H locs => ?_)
              clear hP hD hS
              intro hP hD hS
              replace hP : va_P D vwCl [(moC md sd (0) mst hn cn pn mq gn mln mnn ln mlt msz mcu mtk mfr mti mfa mfb an un lc td mtn), (aI cI (md 26) 40 (upd gk gn.toNatClampNeg k)), (aI cI (md 27) 40 gs), (aI cI (md 28) 40 gd), (aI cI (md 29) 40 ge)] H := hP
              replace hD : va_D A [(moC md sd (0) mst hn cn pn mq gn mln mnn ln mlt msz mcu mtk mfr mti mfa mfb an un lc td mtn), (aI cI (md 26) 40 (upd gk gn.toNatClampNeg k)), (aI cI (md 27) 40 gs), (aI cI (md 28) 40 gd), (aI cI (md 29) 40 ge)] := hD
              refine lv_aload_n hx hb dX11_pledge_80 rfl (lv_at hl 0 rfl) ?_
              refine va_get (D := D) (ci := 11) (v := .ref (md 27)) (C := RX11) (T := TX11) (N := 64) hx hb hts inX11_pledge_X11 hown hK hP 0 rfl rfl 27 (by decide) (hts (Cond.fieldLink RX11 72 "PortRoomsModel" "pledgeSum" "[I") (wm_t (wm_l (wm_i 7 rfl)))) (fun _ h9 => h9) rfl dX11_pledge_81 ?_
              refine lv_aload_n hx hb dX11_pledge_84 rfl (lv_at hl 0 rfl) ?_
              refine va_get (D := D) (ci := 11) (v := .int gn) (C := RX11) (T := TX11) (N := 64) hx hb hts inX11_pledge_X11 hown hK hP 0 rfl rfl 25 (by decide) (hts (Cond.fieldLink RX11 231 "PortRoomsModel" "pledges" "I") (wm_t (wm_l (wm_i 4 rfl)))) (fun _ h9 => h9) rfl dX11_pledge_85 ?_
              refine lv_iload_n hx hb dX11_pledge_88 rfl (lv_at hl 3 rfl) ?_
              refine va_iast hx hb hK hP hD hS 2 0 rfl rfl (i_in (by omega) (by omega)) dX11_pledge_89 (fun H locs => ?_)
              clear hP hD hS
              intro hP hD hS
              replace hP : va_P D vwCl [(moC md sd (0) mst hn cn pn mq gn mln mnn ln mlt msz mcu mtk mfr mti mfa mfb an un lc td mtn), (aI cI (md 26) 40 (upd gk gn.toNatClampNeg k)), (aI cI (md 27) 40 (upd gs gn.toNatClampNeg q)), (aI cI (md 28) 40 gd), (aI cI (md 29) 40 ge)] H := hP
              replace hD : va_D A [(moC md sd (0) mst hn cn pn mq gn mln mnn ln mlt msz mcu mtk mfr mti mfa mfb an un lc td mtn), (aI cI (md 26) 40 (upd gk gn.toNatClampNeg k)), (aI cI (md 27) 40 (upd gs gn.toNatClampNeg q)), (aI cI (md 28) 40 gd), (aI cI (md 29) 40 ge)] := hD
              refine lv_aload_n hx hb dX11_pledge_90 rfl (lv_at hl 0 rfl) ?_
              refine va_get (D := D) (ci := 11) (v := .ref (md 28)) (C := RX11) (T := TX11) (N := 64) hx hb hts inX11_pledge_X11 hown hK hP 0 rfl rfl 28 (by decide) (hts (Cond.fieldLink RX11 75 "PortRoomsModel" "pledgeSaid" "[I") (wm_t (wm_l (wm_i 8 rfl)))) (fun _ h9 => h9) rfl dX11_pledge_91 ?_
              refine lv_aload_n hx hb dX11_pledge_94 rfl (lv_at hl 0 rfl) ?_
              refine va_get (D := D) (ci := 11) (v := .int gn) (C := RX11) (T := TX11) (N := 64) hx hb hts inX11_pledge_X11 hown hK hP 0 rfl rfl 25 (by decide) (hts (Cond.fieldLink RX11 231 "PortRoomsModel" "pledges" "I") (wm_t (wm_l (wm_i 4 rfl)))) (fun _ h9 => h9) rfl dX11_pledge_95 ?_
              refine lv_iload hx hb dX11_pledge_98 (lv_at hl 4 rfl) ?_
              refine va_iast hx hb hK hP hD hS 3 0 rfl rfl (i_in (by omega) (by omega)) dX11_pledge_100 (fun H locs => ?_)
              clear hP hD hS
              intro hP hD hS
              replace hP : va_P D vwCl [(moC md sd (0) mst hn cn pn mq gn mln mnn ln mlt msz mcu mtk mfr mti mfa mfb an un lc td mtn), (aI cI (md 26) 40 (upd gk gn.toNatClampNeg k)), (aI cI (md 27) 40 (upd gs gn.toNatClampNeg q)), (aI cI (md 28) 40 (upd gd gn.toNatClampNeg a)), (aI cI (md 29) 40 ge)] H := hP
              replace hD : va_D A [(moC md sd (0) mst hn cn pn mq gn mln mnn ln mlt msz mcu mtk mfr mti mfa mfb an un lc td mtn), (aI cI (md 26) 40 (upd gk gn.toNatClampNeg k)), (aI cI (md 27) 40 (upd gs gn.toNatClampNeg q)), (aI cI (md 28) 40 (upd gd gn.toNatClampNeg a)), (aI cI (md 29) 40 ge)] := hD
              refine lv_aload_n hx hb dX11_pledge_101 rfl (lv_at hl 0 rfl) ?_
              refine va_get (D := D) (ci := 11) (v := .ref (md 29)) (C := RX11) (T := TX11) (N := 64) hx hb hts inX11_pledge_X11 hown hK hP 0 rfl rfl 29 (by decide) (hts (Cond.fieldLink RX11 78 "PortRoomsModel" "pledgeFiled" "[I") (wm_t (wm_l (wm_i 9 rfl)))) (fun _ h9 => h9) rfl dX11_pledge_102 ?_
              refine lv_aload_n hx hb dX11_pledge_105 rfl (lv_at hl 0 rfl) ?_
              refine va_get (D := D) (ci := 11) (v := .int gn) (C := RX11) (T := TX11) (N := 64) hx hb hts inX11_pledge_X11 hown hK hP 0 rfl rfl 25 (by decide) (hts (Cond.fieldLink RX11 231 "PortRoomsModel" "pledges" "I") (wm_t (wm_l (wm_i 4 rfl)))) (fun _ h9 => h9) rfl dX11_pledge_106 ?_
              refine lv_iload hx hb dX11_pledge_109 (lv_at hl 5 rfl) ?_
              refine va_iast hx hb hK hP hD hS 4 0 rfl rfl (i_in (by omega) (by omega)) dX11_pledge_111 (fun H locs => ?_)
              clear hP hD hS
              intro hP hD hS
              replace hP : va_P D vwCl [(moC md sd (0) mst hn cn pn mq gn mln mnn ln mlt msz mcu mtk mfr mti mfa mfb an un lc td mtn), (aI cI (md 26) 40 (upd gk gn.toNatClampNeg k)), (aI cI (md 27) 40 (upd gs gn.toNatClampNeg q)), (aI cI (md 28) 40 (upd gd gn.toNatClampNeg a)), (aI cI (md 29) 40 (upd ge gn.toNatClampNeg b))] H := hP
              replace hD : va_D A [(moC md sd (0) mst hn cn pn mq gn mln mnn ln mlt msz mcu mtk mfr mti mfa mfb an un lc td mtn), (aI cI (md 26) 40 (upd gk gn.toNatClampNeg k)), (aI cI (md 27) 40 (upd gs gn.toNatClampNeg q)), (aI cI (md 28) 40 (upd gd gn.toNatClampNeg a)), (aI cI (md 29) 40 (upd ge gn.toNatClampNeg b))] := hD
              refine lv_aload_n hx hb dX11_pledge_112 rfl (lv_at hl 0 rfl) ?_
              refine lv_dup hx hb dX11_pledge_113 rfl ?_
              refine va_get (D := D) (ci := 11) (v := .int gn) (C := RX11) (T := TX11) (N := 64) hx hb hts inX11_pledge_X11 hown hK hP 0 rfl rfl 25 (by decide) (hts (Cond.fieldLink RX11 231 "PortRoomsModel" "pledges" "I") (wm_t (wm_l (wm_i 4 rfl)))) (fun _ h9 => h9) rfl dX11_pledge_114 ?_
              refine lv_iconst (v := 1) hx hb dX11_pledge_117 (by decide) ?_
              refine lv_iadd hx hb dX11_pledge_118 ?_
              refine lv_topi (fun v38 ev38 => ?_)
              try have tv38 : v38.toInt = gn.toInt + 1 := by rw [ev38]; exact (i_add (x := gn) (y := (1 : Int32)) (by rw [k1]; omega) (by rw [k1]; omega)).trans (by rw [k1])
              refine va_put (D := D) (ci := 11) (v := .int v38) (ty := .int) (C := RX11) (T := TX11) (N := 64) hx hb hts inX11_pledge_X11 tyX11 tyX11_ok nmX11 hown hK hP hD hS 0 rfl rfl 25 (by decide) (hts (Cond.fieldLink RX11 231 "PortRoomsModel" "pledges" "I") (wm_t (wm_l (wm_i 4 rfl)))) (fun _ h9 => h9) rfl (tyX11_ok 25 (by decide)) rfl rfl (Nat.le_of_ble_eq_true rfl) dX11_pledge_119 (fun H locs => ?_)
              clear hP hD hS
              intro hP hD hS
              replace hP : va_P D vwCl [(moC md sd (0) mst hn cn pn mq v38 mln mnn ln mlt msz mcu mtk mfr mti mfa mfb an un lc td mtn), (aI cI (md 26) 40 (upd gk gn.toNatClampNeg k)), (aI cI (md 27) 40 (upd gs gn.toNatClampNeg q)), (aI cI (md 28) 40 (upd gd gn.toNatClampNeg a)), (aI cI (md 29) 40 (upd ge gn.toNatClampNeg b))] H := hP
              replace hD : va_D A [(moC md sd (0) mst hn cn pn mq v38 mln mnn ln mlt msz mcu mtk mfr mti mfa mfb an un lc td mtn), (aI cI (md 26) 40 (upd gk gn.toNatClampNeg k)), (aI cI (md 27) 40 (upd gs gn.toNatClampNeg q)), (aI cI (md 28) 40 (upd gd gn.toNatClampNeg a)), (aI cI (md 29) 40 (upd ge gn.toNatClampNeg b))] := hD
              refine lv_aload_n hx hb dX11_pledge_122 rfl (lv_at hl 0 rfl) ?_
              refine va_get (D := D) (ci := 11) (v := .int v38) (C := RX11) (T := TX11) (N := 64) hx hb hts inX11_pledge_X11 hown hK hP 0 rfl rfl 25 (by decide) (hts (Cond.fieldLink RX11 231 "PortRoomsModel" "pledges" "I") (wm_t (wm_l (wm_i 4 rfl)))) (fun _ h9 => h9) rfl dX11_pledge_123 ?_
              refine lv_iconst (v := 1) hx hb dX11_pledge_126 (by decide) ?_
              refine lv_isub hx hb dX11_pledge_127 ?_
              refine lv_topi (fun v39 ev39 => ?_)
              try have tv39 : v39.toInt = v38.toInt - 1 := by rw [ev39]; exact (i_sub (x := v38) (y := (1 : Int32)) (by rw [k1]; omega) (by rw [k1]; omega)).trans (by rw [k1])
              have hP9 := hP
              have hD9 := hD
              exact W.iret (v := v39) hx hb hr (fun t ht hW => ⟨⟨v39, (v38, upd gk gn.toNatClampNeg k, upd gs gn.toNatClampNeg q, upd gd gn.toNatClampNeg a, upd ge gn.toNatClampNeg b), rfl, (by unfold sp_pledge; (repeat' split) <;> first | rfl | (exfalso; omega) | (subst_vars; rfl)), by rw [ht]; exact hP9, va_K.moved hW.alike hK, hD9⟩, hS.F ht⟩) hS.2.2 dX11_pledge_128
            · skip
              have f40 := i_eq c36
              refine lv_ldc hx hb hown (hts (Cond.constant RX11 184 (-1000003)) (wm_t (wm_l (wm_i 5 rfl)))) dX11_pledge_67 ?_
              have hP9 := hP
              have hD9 := hD
              exact W.iret (v := (-1000003)) hx hb hr (fun t ht hW => ⟨⟨(-1000003), (gn, gk, gs, gd, ge), rfl, (by unfold sp_pledge; (repeat' split) <;> first | rfl | (exfalso; omega) | (subst_vars; rfl)), by rw [ht]; exact hP9, va_K.moved hW.alike hK, hD9⟩, hS.F ht⟩) hS.2.2 dX11_pledge_69
          · skip
            have f41 := bo_f hw32 c34
            refine lv_ldc hx hb hown (hts (Cond.constant RX11 157 (-1000001)) (wm_t (wm_l (wm_i 3 rfl)))) dX11_pledge_55 ?_
            have hP9 := hP
            have hD9 := hD
            exact W.iret (v := (-1000001)) hx hb hr (fun t ht hW => ⟨⟨(-1000001), (gn, gk, gs, gd, ge), rfl, (by unfold sp_pledge; (repeat' split) <;> first | rfl | (exfalso; omega) | (subst_vars; rfl)), by rw [ht]; exact hP9, va_K.moved hW.alike hK, hD9⟩, hS.F ht⟩) hS.2.2 dX11_pledge_57

set_option maxHeartbeats 4000000 in
set_option maxRecDepth 100000 in
theorem ct_X11_act (l : Launch) (D : va_G) (cI cY cJ cQ : ClassId) (sz : Nat) (md : Nat → Nat) (sd : Int32) (mth mst hn cn pn mq gn mln mnn ln mlt msz mcu mtk mfr mti mfa mfb an un lc td mtn : Int32) (ak ah ay az : Nat → Int32) (k : Int32) (w : Int32) (d : Int32) (n : Int32)  (h1 : 0 ≤ an.toInt) (h2 : an.toInt ≤ 60) (h3 : 0 ≤ cn.toInt) (h4 : cn.toInt ≤ 12)  : Met l yX11_act wsX11_act ({ frames := 2, cells := 0, slots := 0, locals := 46 }) (cPre D (ty4 cI cY cJ cQ) [(moC md sd mth mst hn cn pn mq gn mln mnn ln mlt msz mcu mtk mfr mti mfa mfb an un lc td mtn), (aI cI (md 45) 60 ak), (aI cI (md 46) 60 ah), (aI cI (md 47) 60 ay), (aI cI (md 48) 60 az)] sz [.ref (md 64), .int k, .int w, .int d, .int n]) (va_Qi (fun (r : Int32) (u : Int32 × (Nat → Int32) × (Nat → Int32) × (Nat → Int32) × (Nat → Int32)) => (r, u) = sp_act an ak ah ay az cn k w d n) (cB D (ty4 cI cY cJ cQ) (fun (u : Int32 × (Nat → Int32) × (Nat → Int32) × (Nat → Int32) × (Nat → Int32)) => [(moC md sd 0 mst hn cn pn mq gn mln mnn ln mlt msz mcu mtk mfr mti mfa mfb u.1 un lc td mtn), (aI cI (md 45) 60 u.2.1), (aI cI (md 46) 60 u.2.2.1), (aI cI (md 47) 60 u.2.2.2.1), (aI cI (md 48) 60 u.2.2.2.2)]) (va_A [(moC md sd mth mst hn cn pn mq gn mln mnn ln mlt msz mcu mtk mfr mti mfa mfb an un lc td mtn), (aI cI (md 45) 60 ak), (aI cI (md 46) 60 ah), (aI cI (md 47) 60 ay), (aI cI (md 48) 60 az)] sz)) (va_A [(moC md sd mth mst hn cn pn mq gn mln mnn ln mlt msz mcu mtk mfr mti mfa mfb an un lc td mtn), (aI cI (md 45) 60 ak), (aI cI (md 46) 60 ah), (aI cI (md 47) 60 ay), (aI cI (md 48) 60 az)] sz)) 0 0 (va_A [(moC md sd mth mst hn cn pn mq gn mln mnn ln mlt msz mcu mtk mfr mti mfa mfb an un lc td mtn), (aI cI (md 45) 60 ak), (aI cI (md 46) 60 ah), (aI cI (md 47) 60 ay), (aI cI (md 48) 60 az)] sz) := by
  refine Met.ofW (cc := cX11_act) (maxL := 5) (ret := (some .int)) (by decide) rfl ?_
  intro p e s m args below meth c s₁ B hml hv
  obtain ⟨rfl, hsz, hP, hK, hD0, hN⟩ := hv
  have hx := B.exec
  have hb := B.bytes
  have hr := B.returns
  have hts := atoms_spec (ws := wsX11_act) B.pre
  have hown : s.vm.findClass RX11 = some m.cls := findClass_of_methodNamed B.named
  have hlocks := B.notSynchronized
  subst hsz
  have hD := hD0.self (sz := s.heap.size)
  generalize hAe : va_A [(moC md sd mth mst hn cn pn mq gn mln mnn ln mlt msz mcu mtk mfr mti mfa mfb an un lc td mtn), (aI cI (md 45) 60 ak), (aI cI (md 46) 60 ah), (aI cI (md 47) 60 ay), (aI cI (md 48) 60 az)] s.heap.size = A at hD ⊢
  have hA : ∀ q : Nat, s.heap.size ≤ q → A q := fun q h => by rw [← hAe]; exact Or.inr h
  have hS : va_S A s.heap s.heap [] := va_S.rf
  have hP : va_P D vwCl [(moC md sd mth mst hn cn pn mq gn mln mnn ln mlt msz mcu mtk mfr mti mfa mfb an un lc td mtn), (aI cI (md 45) 60 ak), (aI cI (md 46) 60 ah), (aI cI (md 47) 60 ay), (aI cI (md 48) 60 az)] s.heap := hP
  have hl := lv_entry ([.ref (md 64), .int k, .int w, .int d, .int n]) (n := 5) (Nat.le_of_ble_eq_true rfl)
  rw [lg_entry_eq]
  generalize (lg_sl ([.ref (md 64), .int k, .int w, .int d, .int n]) ++ List.replicate (5 - (lg_sl ([.ref (md 64), .int k, .int w, .int d, .int n])).length) Slot.unset).toArray = ls at hl ⊢
  have hl : lv_has ls 5 [(0, .ref (md 64)), (1, .int k), (2, .int w), (3, .int d), (4, .int n)] := hl
  have km1000003 : (-1000003 : Int32).toInt = -1000003 := by decide
  have km1000001 : (-1000001 : Int32).toInt = -1000001 := by decide
  have k0 : (0 : Int32).toInt = 0 := by decide
  have k1 : (1 : Int32).toInt = 1 := by decide
  have k60 : (60 : Int32).toInt = 60 := by decide
  have kl0 : (0 : Int64).toInt = 0 := by decide
  have kl3 : (3 : Int64).toInt = 3 := by decide
  have kl999 : (999 : Int64).toInt = 999 := by decide
  refine lv_aload_n hx hb dX11_act_0 rfl (lv_at hl 0 rfl) ?_
  refine lv_iconst (v := 0) hx hb dX11_act_1 (by decide) ?_
  refine va_put (D := D) (ci := 11) (v := .int 0) (ty := .int) (C := RX11) (T := TX11) (N := 64) hx hb hts inX11_act_X11 tyX11 tyX11_ok nmX11 hown hK hP hD hS 0 rfl rfl 0 (by decide) (hts (Cond.fieldLink RX11 1 "PortRoomsModel" "thrown" "I") (wm_t (wm_l (wm_i 0 rfl)))) (fun _ h9 => h9) rfl (tyX11_ok 0 (by decide)) rfl rfl (Nat.le_of_ble_eq_true rfl) dX11_act_2 (fun H locs => ?_)
  clear hP hD hS
  intro hP hD hS
  replace hP : va_P D vwCl [(moC md sd (0) mst hn cn pn mq gn mln mnn ln mlt msz mcu mtk mfr mti mfa mfb an un lc td mtn), (aI cI (md 45) 60 ak), (aI cI (md 46) 60 ah), (aI cI (md 47) 60 ay), (aI cI (md 48) 60 az)] H := hP
  replace hD : va_D A [(moC md sd (0) mst hn cn pn mq gn mln mnn ln mlt msz mcu mtk mfr mti mfa mfb an un lc td mtn), (aI cI (md 45) 60 ak), (aI cI (md 46) 60 ah), (aI cI (md 47) 60 ay), (aI cI (md 48) 60 az)] := hD
  refine lv_aload_n hx hb dX11_act_5 rfl (lv_at hl 0 rfl) ?_
  refine lv_iload_n hx hb dX11_act_6 rfl (lv_at hl 1 rfl) ?_
  refine st_i1 (va_runV (C := RX11) (As := [.int k]) (rest := []) ⟨hx, hb, hml, hown, hts⟩ (ct_X11_isCrate l D cI cY cJ cQ _ md sd 0 mst hn cn pn mq gn mln mnn ln mlt msz mcu mtk mfr mti mfa mfb an un lc td mtn k h3 h4) (cwV 1 hts gX11_act_X11_isCrate rfl rfl rfl ⟨rfl, cdX11_isCrate⟩ ⟨Nat.le_of_ble_eq_true rfl, Nat.le_of_ble_eq_true rfl⟩) (cPreV (hP.sub [0] rfl) hK (hD.sub [0] (by decide +kernel) rfl) hN (ci := 11) (q0 := 0) rfl rfl) rfl rfl hl.1 rfl (lv_room (Nat.le_of_ble_eq_true rfl)) dX11_act_7 ⟨Nat.le_of_ble_eq_true rfl, Nat.le_of_ble_eq_true rfl⟩) hP hD hS hA [0] rfl (fun _ => rfl) (fun r3 u1 H locs hw2 => ?_)
  clear hP hS
  intro hP hS
  replace hw2 : r3 = if 0 ≤ k.toInt ∧ k.toInt < cn.toInt then 1 else 0 := hw2
  refine lv_if_eq (tgt := 45) hx hb dX11_act_10 (by decide) (fun c4 => ?_) (fun c4 => ?_)
  · skip
    have f5 := bo_f hw2 c4
    refine lv_ldc hx hb hown (hts (Cond.constant RX11 157 (-1000001)) (wm_t (wm_l (wm_i 3 rfl)))) dX11_act_45 ?_
    have hP9 := hP
    have hD9 := hD
    exact W.iret (v := (-1000001)) hx hb hr (fun t ht hW => ⟨⟨(-1000001), (an, ak, ah, ay, az), rfl, (by unfold sp_act; (repeat' split) <;> first | rfl | (exfalso; omega) | (subst_vars; rfl)), by rw [ht]; exact hP9, va_K.moved hW.alike hK, hD9⟩, hS.F ht⟩) hS.2.2 dX11_act_47
  · skip
    have f6 := bo_t hw2 c4
    refine lv_iload_n hx hb dX11_act_13 rfl (lv_at hl 2 rfl) ?_
    refine lv_i2l hx hb dX11_act_14 rfl ?_
    have w7 := i_w w
    have w8 := i_rng w
    refine lv_lconst (v := 0) hx hb dX11_act_15 (by decide) ?_
    refine lv_ldc2 hx hb hown (hts (Cond.constantLong RX11 234 (3)) (wm_t (wm_l (wm_i 1 rfl)))) dX11_act_16 ?_
    refine st_i1 (va_runS (As := [.long (w.toInt64), .long 0, .long 3]) (rest := []) ⟨hx, hb, hml, hown, hts⟩ (ct_X11_in l D cI cY cJ cQ _ w.toInt64 (0 : Int64) (3 : Int64)) (va_cwS 3 hts gX11_act_X11_in rfl rfl rfl cdX11_in ⟨Nat.le_of_ble_eq_true rfl, Nat.le_of_ble_eq_true rfl⟩) (cPreS (hP.sub [] rfl) hK (hD.sub [] (by decide +kernel) rfl) hN) rfl rfl hl.1 rfl (lv_room (Nat.le_of_ble_eq_true rfl)) dX11_act_19 ⟨Nat.le_of_ble_eq_true rfl, Nat.le_of_ble_eq_true rfl⟩) hP hD hS hA [] rfl (fun _ => rfl) (fun r11 u9 H locs hw10 => ?_)
    clear hP hS
    intro hP hS
    replace hw10 : r11 = if (0 : Int64).toInt ≤ w.toInt64.toInt ∧ w.toInt64.toInt ≤ (3 : Int64).toInt then 1 else 0 := hw10
    refine lv_if_eq (tgt := 45) hx hb dX11_act_22 (by decide) (fun c12 => ?_) (fun c12 => ?_)
    · skip
      have f13 := bo_f hw10 c12
      refine lv_ldc hx hb hown (hts (Cond.constant RX11 157 (-1000001)) (wm_t (wm_l (wm_i 3 rfl)))) dX11_act_45 ?_
      have hP9 := hP
      have hD9 := hD
      exact W.iret (v := (-1000001)) hx hb hr (fun t ht hW => ⟨⟨(-1000001), (an, ak, ah, ay, az), rfl, (by unfold sp_act; (repeat' split) <;> first | rfl | (exfalso; omega) | (subst_vars; rfl)), by rw [ht]; exact hP9, va_K.moved hW.alike hK, hD9⟩, hS.F ht⟩) hS.2.2 dX11_act_47
    · skip
      have f14 := bo_t hw10 c12
      refine lv_iload_n hx hb dX11_act_25 rfl (lv_at hl 3 rfl) ?_
      refine st_i1 (va_runS (As := [.int d]) (rest := []) ⟨hx, hb, hml, hown, hts⟩ (ct_X11_isDay l D cI cY cJ cQ _ d) (va_cwS 1 hts gX11_act_X11_isDay rfl rfl rfl cdX11_isDay ⟨Nat.le_of_ble_eq_true rfl, Nat.le_of_ble_eq_true rfl⟩) (cPreS (hP.sub [] rfl) hK (hD.sub [] (by decide +kernel) rfl) hN) rfl rfl hl.1 rfl (lv_room (Nat.le_of_ble_eq_true rfl)) dX11_act_26 ⟨Nat.le_of_ble_eq_true rfl, Nat.le_of_ble_eq_true rfl⟩) hP hD hS hA [] rfl (fun _ => rfl) (fun r17 u15 H locs hw16 => ?_)
      clear hP hS
      intro hP hS
      replace hw16 : r17 = if 0 ≤ d.toInt ∧ d.toInt ≤ 9999 then 1 else 0 := hw16
      refine lv_if_eq (tgt := 45) hx hb dX11_act_29 (by decide) (fun c18 => ?_) (fun c18 => ?_)
      · skip
        have f19 := bo_f hw16 c18
        refine lv_ldc hx hb hown (hts (Cond.constant RX11 157 (-1000001)) (wm_t (wm_l (wm_i 3 rfl)))) dX11_act_45 ?_
        have hP9 := hP
        have hD9 := hD
        exact W.iret (v := (-1000001)) hx hb hr (fun t ht hW => ⟨⟨(-1000001), (an, ak, ah, ay, az), rfl, (by unfold sp_act; (repeat' split) <;> first | rfl | (exfalso; omega) | (subst_vars; rfl)), by rw [ht]; exact hP9, va_K.moved hW.alike hK, hD9⟩, hS.F ht⟩) hS.2.2 dX11_act_47
      · skip
        have f20 := bo_t hw16 c18
        refine lv_iload hx hb dX11_act_32 (lv_at hl 4 rfl) ?_
        refine lv_i2l hx hb dX11_act_34 rfl ?_
        have w21 := i_w n
        have w22 := i_rng n
        refine lv_lconst (v := 0) hx hb dX11_act_35 (by decide) ?_
        refine lv_ldc2 hx hb hown (hts (Cond.constantLong RX11 317 (999)) (wm_t (wm_l (wm_i 2 rfl)))) dX11_act_36 ?_
        refine st_i1 (va_runS (As := [.long (n.toInt64), .long 0, .long 999]) (rest := []) ⟨hx, hb, hml, hown, hts⟩ (ct_X11_in l D cI cY cJ cQ _ n.toInt64 (0 : Int64) (999 : Int64)) (va_cwS 3 hts gX11_act_X11_in rfl rfl rfl cdX11_in ⟨Nat.le_of_ble_eq_true rfl, Nat.le_of_ble_eq_true rfl⟩) (cPreS (hP.sub [] rfl) hK (hD.sub [] (by decide +kernel) rfl) hN) rfl rfl hl.1 rfl (lv_room (Nat.le_of_ble_eq_true rfl)) dX11_act_39 ⟨Nat.le_of_ble_eq_true rfl, Nat.le_of_ble_eq_true rfl⟩) hP hD hS hA [] rfl (fun _ => rfl) (fun r25 u23 H locs hw24 => ?_)
        clear hP hS
        intro hP hS
        replace hw24 : r25 = if (0 : Int64).toInt ≤ n.toInt64.toInt ∧ n.toInt64.toInt ≤ (999 : Int64).toInt then 1 else 0 := hw24
        refine lv_if_ne (tgt := 48) hx hb dX11_act_42 (by decide) (fun c26 => ?_) (fun c26 => ?_)
        · skip
          have f27 := bo_t hw24 c26
          refine lv_aload_n hx hb dX11_act_48 rfl (lv_at hl 0 rfl) ?_
          refine va_get (D := D) (ci := 11) (v := .int an) (C := RX11) (T := TX11) (N := 64) hx hb hts inX11_act_X11 hown hK hP 0 rfl rfl 44 (by decide) (hts (Cond.fieldLink RX11 319 "PortRoomsModel" "acts" "I") (wm_t (wm_l (wm_i 4 rfl)))) (fun _ h9 => h9) rfl dX11_act_49 ?_
          refine lv_bipush (v := 60) hx hb dX11_act_52 (by decide) ?_
          refine lv_icmp_ne (tgt := 60) hx hb dX11_act_54 (by decide) (fun c28 => ?_) (fun c28 => ?_)
          · skip
            have f29 := i_ne c28
            refine lv_aload_n hx hb dX11_act_60 rfl (lv_at hl 0 rfl) ?_
            refine va_get (D := D) (ci := 11) (v := .ref (md 45)) (C := RX11) (T := TX11) (N := 64) hx hb hts inX11_act_X11 hown hK hP 0 rfl rfl 45 (by decide) (hts (Cond.fieldLink RX11 90 "PortRoomsModel" "actCrate" "[I") (wm_t (wm_l (wm_i 6 rfl)))) (fun _ h9 => h9) rfl dX11_act_61 ?_
            refine lv_aload_n hx hb dX11_act_64 rfl (lv_at hl 0 rfl) ?_
            refine va_get (D := D) (ci := 11) (v := .int an) (C := RX11) (T := TX11) (N := 64) hx hb hts inX11_act_X11 hown hK hP 0 rfl rfl 44 (by decide) (hts (Cond.fieldLink RX11 319 "PortRoomsModel" "acts" "I") (wm_t (wm_l (wm_i 4 rfl)))) (fun _ h9 => h9) rfl dX11_act_65 ?_
            refine lv_iload_n hx hb dX11_act_68 rfl (lv_at hl 1 rfl) ?_
            refine va_iast hx hb hK hP hD hS 1 0 rfl rfl (i_in (by omega) (by omega)) dX11_act_69 (fun H locs => ?_)
            clear hP hD hS
            intro hP hD hS
            replace hP : va_P D vwCl [(moC md sd (0) mst hn cn pn mq gn mln mnn ln mlt msz mcu mtk mfr mti mfa mfb an un lc td mtn), (aI cI (md 45) 60 (upd ak an.toNatClampNeg k)), (aI cI (md 46) 60 ah), (aI cI (md 47) 60 ay), (aI cI (md 48) 60 az)] H := hP
            replace hD : va_D A [(moC md sd (0) mst hn cn pn mq gn mln mnn ln mlt msz mcu mtk mfr mti mfa mfb an un lc td mtn), (aI cI (md 45) 60 (upd ak an.toNatClampNeg k)), (aI cI (md 46) 60 ah), (aI cI (md 47) 60 ay), (aI cI (md 48) 60 az)] := hD
            refine lv_aload_n hx hb dX11_act_70 rfl (lv_at hl 0 rfl) ?_
            refine va_get (D := D) (ci := 11) (v := .ref (md 46)) (C := RX11) (T := TX11) (N := 64) hx hb hts inX11_act_X11 hown hK hP 0 rfl rfl 46 (by decide) (hts (Cond.fieldLink RX11 93 "PortRoomsModel" "actWhat" "[I") (wm_t (wm_l (wm_i 7 rfl)))) (fun _ h9 => h9) rfl dX11_act_71 ?_
            refine lv_aload_n hx hb dX11_act_74 rfl (lv_at hl 0 rfl) ?_
            refine va_get (D := D) (ci := 11) (v := .int an) (C := RX11) (T := TX11) (N := 64) hx hb hts inX11_act_X11 hown hK hP 0 rfl rfl 44 (by decide) (hts (Cond.fieldLink RX11 319 "PortRoomsModel" "acts" "I") (wm_t (wm_l (wm_i 4 rfl)))) (fun _ h9 => h9) rfl dX11_act_75 ?_
            refine lv_iload_n hx hb dX11_act_78 rfl (lv_at hl 2 rfl) ?_
            refine va_iast hx hb hK hP hD hS 2 0 rfl rfl (i_in (by omega) (by omega)) dX11_act_79 (fun H locs => ?_)
            clear hP hD hS
            intro hP hD hS
            replace hP : va_P D vwCl [(moC md sd (0) mst hn cn pn mq gn mln mnn ln mlt msz mcu mtk mfr mti mfa mfb an un lc td mtn), (aI cI (md 45) 60 (upd ak an.toNatClampNeg k)), (aI cI (md 46) 60 (upd ah an.toNatClampNeg w)), (aI cI (md 47) 60 ay), (aI cI (md 48) 60 az)] H := hP
            replace hD : va_D A [(moC md sd (0) mst hn cn pn mq gn mln mnn ln mlt msz mcu mtk mfr mti mfa mfb an un lc td mtn), (aI cI (md 45) 60 (upd ak an.toNatClampNeg k)), (aI cI (md 46) 60 (upd ah an.toNatClampNeg w)), (aI cI (md 47) 60 ay), (aI cI (md 48) 60 az)] := hD
            refine lv_aload_n hx hb dX11_act_80 rfl (lv_at hl 0 rfl) ?_
            refine va_get (D := D) (ci := 11) (v := .ref (md 47)) (C := RX11) (T := TX11) (N := 64) hx hb hts inX11_act_X11 hown hK hP 0 rfl rfl 47 (by decide) (hts (Cond.fieldLink RX11 96 "PortRoomsModel" "actDay" "[I") (wm_t (wm_l (wm_i 8 rfl)))) (fun _ h9 => h9) rfl dX11_act_81 ?_
            refine lv_aload_n hx hb dX11_act_84 rfl (lv_at hl 0 rfl) ?_
            refine va_get (D := D) (ci := 11) (v := .int an) (C := RX11) (T := TX11) (N := 64) hx hb hts inX11_act_X11 hown hK hP 0 rfl rfl 44 (by decide) (hts (Cond.fieldLink RX11 319 "PortRoomsModel" "acts" "I") (wm_t (wm_l (wm_i 4 rfl)))) (fun _ h9 => h9) rfl dX11_act_85 ?_
            refine lv_iload_n hx hb dX11_act_88 rfl (lv_at hl 3 rfl) ?_
            refine va_iast hx hb hK hP hD hS 3 0 rfl rfl (i_in (by omega) (by omega)) dX11_act_89 (fun H locs => ?_)
            clear hP hD hS
            intro hP hD hS
            replace hP : va_P D vwCl [(moC md sd (0) mst hn cn pn mq gn mln mnn ln mlt msz mcu mtk mfr mti mfa mfb an un lc td mtn), (aI cI (md 45) 60 (upd ak an.toNatClampNeg k)), (aI cI (md 46) 60 (upd ah an.toNatClampNeg w)), (aI cI (md 47) 60 (upd ay an.toNatClampNeg d)), (aI cI (md 48) 60 az)] H := hP
            replace hD : va_D A [(moC md sd (0) mst hn cn pn mq gn mln mnn ln mlt msz mcu mtk mfr mti mfa mfb an un lc td mtn), (aI cI (md 45) 60 (upd ak an.toNatClampNeg k)), (aI cI (md 46) 60 (upd ah an.toNatClampNeg w)), (aI cI (md 47) 60 (upd ay an.toNatClampNeg d)), (aI cI (md 48) 60 az)] := hD
            refine lv_aload_n hx hb dX11_act_90 rfl (lv_at hl 0 rfl) ?_
            refine va_get (D := D) (ci := 11) (v := .ref (md 48)) (C := RX11) (T := TX11) (N := 64) hx hb hts inX11_act_X11 hown hK hP 0 rfl rfl 48 (by decide) (hts (Cond.fieldLink RX11 99 "PortRoomsModel" "actDays" "[I") (wm_t (wm_l (wm_i 9 rfl)))) (fun _ h9 => h9) rfl dX11_act_91 ?_
            refine lv_aload_n hx hb dX11_act_94 rfl (lv_at hl 0 rfl) ?_
            refine va_get (D := D) (ci := 11) (v := .int an) (C := RX11) (T := TX11) (N := 64) hx hb hts inX11_act_X11 hown hK hP 0 rfl rfl 44 (by decide) (hts (Cond.fieldLink RX11 319 "PortRoomsModel" "acts" "I") (wm_t (wm_l (wm_i 4 rfl)))) (fun _ h9 => h9) rfl dX11_act_95 ?_
            refine lv_iload hx hb dX11_act_98 (lv_at hl 4 rfl) ?_
            refine va_iast hx hb hK hP hD hS 4 0 rfl rfl (i_in (by omega) (by omega)) dX11_act_100 (fun H locs => ?_)
            clear hP hD hS
            intro hP hD hS
            replace hP : va_P D vwCl [(moC md sd (0) mst hn cn pn mq gn mln mnn ln mlt msz mcu mtk mfr mti mfa mfb an un lc td mtn), (aI cI (md 45) 60 (upd ak an.toNatClampNeg k)), (aI cI (md 46) 60 (upd ah an.toNatClampNeg w)), (aI cI (md 47) 60 (upd ay an.toNatClampNeg d)), (aI cI (md 48) 60 (upd az an.toNatClampNeg n))] H := hP
            replace hD : va_D A [(moC md sd (0) mst hn cn pn mq gn mln mnn ln mlt msz mcu mtk mfr mti mfa mfb an un lc td mtn), (aI cI (md 45) 60 (upd ak an.toNatClampNeg k)), (aI cI (md 46) 60 (upd ah an.toNatClampNeg w)), (aI cI (md 47) 60 (upd ay an.toNatClampNeg d)), (aI cI (md 48) 60 (upd az an.toNatClampNeg n))] := hD
            refine lv_aload_n hx hb dX11_act_101 rfl (lv_at hl 0 rfl) ?_
            refine lv_dup hx hb dX11_act_102 rfl ?_
            refine va_get (D := D) (ci := 11) (v := .int an) (C := RX11) (T := TX11) (N := 64) hx hb hts inX11_act_X11 hown hK hP 0 rfl rfl 44 (by decide) (hts (Cond.fieldLink RX11 319 "PortRoomsModel" "acts" "I") (wm_t (wm_l (wm_i 4 rfl)))) (fun _ h9 => h9) rfl dX11_act_103 ?_
            refine lv_iconst (v := 1) hx hb dX11_act_106 (by decide) ?_
            refine lv_iadd hx hb dX11_act_107 ?_
            refine lv_topi (fun v30 ev30 => ?_)
            try have tv30 : v30.toInt = an.toInt + 1 := by rw [ev30]; exact (i_add (x := an) (y := (1 : Int32)) (by rw [k1]; omega) (by rw [k1]; omega)).trans (by rw [k1])
            refine va_put (D := D) (ci := 11) (v := .int v30) (ty := .int) (C := RX11) (T := TX11) (N := 64) hx hb hts inX11_act_X11 tyX11 tyX11_ok nmX11 hown hK hP hD hS 0 rfl rfl 44 (by decide) (hts (Cond.fieldLink RX11 319 "PortRoomsModel" "acts" "I") (wm_t (wm_l (wm_i 4 rfl)))) (fun _ h9 => h9) rfl (tyX11_ok 44 (by decide)) rfl rfl (Nat.le_of_ble_eq_true rfl) dX11_act_108 (fun H locs => ?_)
            clear hP hD hS
            intro hP hD hS
            replace hP : va_P D vwCl [(moC md sd (0) mst hn cn pn mq gn mln mnn ln mlt msz mcu mtk mfr mti mfa mfb v30 un lc td mtn), (aI cI (md 45) 60 (upd ak an.toNatClampNeg k)), (aI cI (md 46) 60 (upd ah an.toNatClampNeg w)), (aI cI (md 47) 60 (upd ay an.toNatClampNeg d)), (aI cI (md 48) 60 (upd az an.toNatClampNeg n))] H := hP
            replace hD : va_D A [(moC md sd (0) mst hn cn pn mq gn mln mnn ln mlt msz mcu mtk mfr mti mfa mfb v30 un lc td mtn), (aI cI (md 45) 60 (upd ak an.toNatClampNeg k)), (aI cI (md 46) 60 (upd ah an.toNatClampNeg w)), (aI cI (md 47) 60 (upd ay an.toNatClampNeg d)), (aI cI (md 48) 60 (upd az an.toNatClampNeg n))] := hD
            refine lv_aload_n hx hb dX11_act_111 rfl (lv_at hl 0 rfl) ?_
            refine va_get (D := D) (ci := 11) (v := .int v30) (C := RX11) (T := TX11) (N := 64) hx hb hts inX11_act_X11 hown hK hP 0 rfl rfl 44 (by decide) (hts (Cond.fieldLink RX11 319 "PortRoomsModel" "acts" "I") (wm_t (wm_l (wm_i 4 rfl)))) (fun _ h9 => h9) rfl dX11_act_112 ?_
            have hP9 := hP
            have hD9 := hD
            exact W.iret (v := v30) hx hb hr (fun t ht hW => ⟨⟨v30, (v30, upd ak an.toNatClampNeg k, upd ah an.toNatClampNeg w, upd ay an.toNatClampNeg d, upd az an.toNatClampNeg n), rfl, (by unfold sp_act; (repeat' split) <;> first | rfl | (exfalso; omega) | (subst_vars; rfl)), by rw [ht]; exact hP9, va_K.moved hW.alike hK, hD9⟩, hS.F ht⟩) hS.2.2 dX11_act_115
          · skip
            have f31 := i_eq c28
            refine lv_ldc hx hb hown (hts (Cond.constant RX11 184 (-1000003)) (wm_t (wm_l (wm_i 5 rfl)))) dX11_act_57 ?_
            have hP9 := hP
            have hD9 := hD
            exact W.iret (v := (-1000003)) hx hb hr (fun t ht hW => ⟨⟨(-1000003), (an, ak, ah, ay, az), rfl, (by unfold sp_act; (repeat' split) <;> first | rfl | (exfalso; omega) | (subst_vars; rfl)), by rw [ht]; exact hP9, va_K.moved hW.alike hK, hD9⟩, hS.F ht⟩) hS.2.2 dX11_act_59
        · skip
          have f32 := bo_f hw24 c26
          refine lv_ldc hx hb hown (hts (Cond.constant RX11 157 (-1000001)) (wm_t (wm_l (wm_i 3 rfl)))) dX11_act_45 ?_
          have hP9 := hP
          have hD9 := hD
          exact W.iret (v := (-1000001)) hx hb hr (fun t ht hW => ⟨⟨(-1000001), (an, ak, ah, ay, az), rfl, (by unfold sp_act; (repeat' split) <;> first | rfl | (exfalso; omega) | (subst_vars; rfl)), by rw [ht]; exact hP9, va_K.moved hW.alike hK, hD9⟩, hS.F ht⟩) hS.2.2 dX11_act_47

set_option maxHeartbeats 4000000 in
set_option maxRecDepth 100000 in
theorem ct_X11_opened (l : Launch) (D : va_G) (cI cY cJ cQ : ClassId) (sz : Nat) (md : Nat → Nat) (sd : Int32) (mth mst hn cn pn mq gn mln mnn ln mlt msz mcu mtk mfr mti mfa mfb an un lc td mtn : Int32) (uk uy uw um : Nat → Int32) (k : Int32) (d : Int32) (w : Int32) (q : Int32)  (h1 : 0 ≤ un.toInt) (h2 : un.toInt ≤ 60) (h3 : 0 ≤ cn.toInt) (h4 : cn.toInt ≤ 12)  : Met l yX11_opened wsX11_opened ({ frames := 2, cells := 0, slots := 0, locals := 46 }) (cPre D (ty4 cI cY cJ cQ) [(moC md sd mth mst hn cn pn mq gn mln mnn ln mlt msz mcu mtk mfr mti mfa mfb an un lc td mtn), (aI cI (md 53) 60 uk), (aI cI (md 54) 60 uy), (aI cI (md 55) 60 uw), (aI cI (md 56) 60 um)] sz [.ref (md 64), .int k, .int d, .int w, .int q]) (va_Qi (fun (r : Int32) (u : Int32 × (Nat → Int32) × (Nat → Int32) × (Nat → Int32) × (Nat → Int32)) => (r, u) = sp_opened un uk uy uw um cn k d w q) (cB D (ty4 cI cY cJ cQ) (fun (u : Int32 × (Nat → Int32) × (Nat → Int32) × (Nat → Int32) × (Nat → Int32)) => [(moC md sd 0 mst hn cn pn mq gn mln mnn ln mlt msz mcu mtk mfr mti mfa mfb an u.1 lc td mtn), (aI cI (md 53) 60 u.2.1), (aI cI (md 54) 60 u.2.2.1), (aI cI (md 55) 60 u.2.2.2.1), (aI cI (md 56) 60 u.2.2.2.2)]) (va_A [(moC md sd mth mst hn cn pn mq gn mln mnn ln mlt msz mcu mtk mfr mti mfa mfb an un lc td mtn), (aI cI (md 53) 60 uk), (aI cI (md 54) 60 uy), (aI cI (md 55) 60 uw), (aI cI (md 56) 60 um)] sz)) (va_A [(moC md sd mth mst hn cn pn mq gn mln mnn ln mlt msz mcu mtk mfr mti mfa mfb an un lc td mtn), (aI cI (md 53) 60 uk), (aI cI (md 54) 60 uy), (aI cI (md 55) 60 uw), (aI cI (md 56) 60 um)] sz)) 0 0 (va_A [(moC md sd mth mst hn cn pn mq gn mln mnn ln mlt msz mcu mtk mfr mti mfa mfb an un lc td mtn), (aI cI (md 53) 60 uk), (aI cI (md 54) 60 uy), (aI cI (md 55) 60 uw), (aI cI (md 56) 60 um)] sz) := by
  refine Met.ofW (cc := cX11_opened) (maxL := 5) (ret := (some .int)) (by decide) rfl ?_
  intro p e s m args below meth c s₁ B hml hv
  obtain ⟨rfl, hsz, hP, hK, hD0, hN⟩ := hv
  have hx := B.exec
  have hb := B.bytes
  have hr := B.returns
  have hts := atoms_spec (ws := wsX11_opened) B.pre
  have hown : s.vm.findClass RX11 = some m.cls := findClass_of_methodNamed B.named
  have hlocks := B.notSynchronized
  subst hsz
  have hD := hD0.self (sz := s.heap.size)
  generalize hAe : va_A [(moC md sd mth mst hn cn pn mq gn mln mnn ln mlt msz mcu mtk mfr mti mfa mfb an un lc td mtn), (aI cI (md 53) 60 uk), (aI cI (md 54) 60 uy), (aI cI (md 55) 60 uw), (aI cI (md 56) 60 um)] s.heap.size = A at hD ⊢
  have hA : ∀ q : Nat, s.heap.size ≤ q → A q := fun q h => by rw [← hAe]; exact Or.inr h
  have hS : va_S A s.heap s.heap [] := va_S.rf
  have hP : va_P D vwCl [(moC md sd mth mst hn cn pn mq gn mln mnn ln mlt msz mcu mtk mfr mti mfa mfb an un lc td mtn), (aI cI (md 53) 60 uk), (aI cI (md 54) 60 uy), (aI cI (md 55) 60 uw), (aI cI (md 56) 60 um)] s.heap := hP
  have hl := lv_entry ([.ref (md 64), .int k, .int d, .int w, .int q]) (n := 5) (Nat.le_of_ble_eq_true rfl)
  rw [lg_entry_eq]
  generalize (lg_sl ([.ref (md 64), .int k, .int d, .int w, .int q]) ++ List.replicate (5 - (lg_sl ([.ref (md 64), .int k, .int d, .int w, .int q])).length) Slot.unset).toArray = ls at hl ⊢
  have hl : lv_has ls 5 [(0, .ref (md 64)), (1, .int k), (2, .int d), (3, .int w), (4, .int q)] := hl
  have km1000003 : (-1000003 : Int32).toInt = -1000003 := by decide
  have km1000001 : (-1000001 : Int32).toInt = -1000001 := by decide
  have k0 : (0 : Int32).toInt = 0 := by decide
  have k1 : (1 : Int32).toInt = 1 := by decide
  have k60 : (60 : Int32).toInt = 60 := by decide
  have kl0 : (0 : Int64).toInt = 0 := by decide
  have kl1 : (1 : Int64).toInt = 1 := by decide
  have kl255 : (255 : Int64).toInt = 255 := by decide
  have kl100000 : (100000 : Int64).toInt = 100000 := by decide
  refine lv_aload_n hx hb dX11_opened_0 rfl (lv_at hl 0 rfl) ?_
  refine lv_iconst (v := 0) hx hb dX11_opened_1 (by decide) ?_
  refine va_put (D := D) (ci := 11) (v := .int 0) (ty := .int) (C := RX11) (T := TX11) (N := 64) hx hb hts inX11_opened_X11 tyX11 tyX11_ok nmX11 hown hK hP hD hS 0 rfl rfl 0 (by decide) (hts (Cond.fieldLink RX11 1 "PortRoomsModel" "thrown" "I") (wm_t (wm_l (wm_i 0 rfl)))) (fun _ h9 => h9) rfl (tyX11_ok 0 (by decide)) rfl rfl (Nat.le_of_ble_eq_true rfl) dX11_opened_2 (fun H locs => ?_)
  clear hP hD hS
  intro hP hD hS
  replace hP : va_P D vwCl [(moC md sd (0) mst hn cn pn mq gn mln mnn ln mlt msz mcu mtk mfr mti mfa mfb an un lc td mtn), (aI cI (md 53) 60 uk), (aI cI (md 54) 60 uy), (aI cI (md 55) 60 uw), (aI cI (md 56) 60 um)] H := hP
  replace hD : va_D A [(moC md sd (0) mst hn cn pn mq gn mln mnn ln mlt msz mcu mtk mfr mti mfa mfb an un lc td mtn), (aI cI (md 53) 60 uk), (aI cI (md 54) 60 uy), (aI cI (md 55) 60 uw), (aI cI (md 56) 60 um)] := hD
  refine lv_aload_n hx hb dX11_opened_5 rfl (lv_at hl 0 rfl) ?_
  refine lv_iload_n hx hb dX11_opened_6 rfl (lv_at hl 1 rfl) ?_
  refine st_i1 (va_runV (C := RX11) (As := [.int k]) (rest := []) ⟨hx, hb, hml, hown, hts⟩ (ct_X11_isCrate l D cI cY cJ cQ _ md sd 0 mst hn cn pn mq gn mln mnn ln mlt msz mcu mtk mfr mti mfa mfb an un lc td mtn k h3 h4) (cwV 1 hts gX11_opened_X11_isCrate rfl rfl rfl ⟨rfl, cdX11_isCrate⟩ ⟨Nat.le_of_ble_eq_true rfl, Nat.le_of_ble_eq_true rfl⟩) (cPreV (hP.sub [0] rfl) hK (hD.sub [0] (by decide +kernel) rfl) hN (ci := 11) (q0 := 0) rfl rfl) rfl rfl hl.1 rfl (lv_room (Nat.le_of_ble_eq_true rfl)) dX11_opened_7 ⟨Nat.le_of_ble_eq_true rfl, Nat.le_of_ble_eq_true rfl⟩) hP hD hS hA [0] rfl (fun _ => rfl) (fun r3 u1 H locs hw2 => ?_)
  clear hP hS
  intro hP hS
  replace hw2 : r3 = if 0 ≤ k.toInt ∧ k.toInt < cn.toInt then 1 else 0 := hw2
  refine lv_if_eq (tgt := 45) hx hb dX11_opened_10 (by decide) (fun c4 => ?_) (fun c4 => ?_)
  · skip
    have f5 := bo_f hw2 c4
    refine lv_ldc hx hb hown (hts (Cond.constant RX11 157 (-1000001)) (wm_t (wm_l (wm_i 3 rfl)))) dX11_opened_45 ?_
    have hP9 := hP
    have hD9 := hD
    exact W.iret (v := (-1000001)) hx hb hr (fun t ht hW => ⟨⟨(-1000001), (un, uk, uy, uw, um), rfl, (by unfold sp_opened; (repeat' split) <;> first | rfl | (exfalso; omega) | (subst_vars; rfl)), by rw [ht]; exact hP9, va_K.moved hW.alike hK, hD9⟩, hS.F ht⟩) hS.2.2 dX11_opened_47
  · skip
    have f6 := bo_t hw2 c4
    refine lv_iload_n hx hb dX11_opened_13 rfl (lv_at hl 2 rfl) ?_
    refine st_i1 (va_runS (As := [.int d]) (rest := []) ⟨hx, hb, hml, hown, hts⟩ (ct_X11_isDay l D cI cY cJ cQ _ d) (va_cwS 1 hts gX11_opened_X11_isDay rfl rfl rfl cdX11_isDay ⟨Nat.le_of_ble_eq_true rfl, Nat.le_of_ble_eq_true rfl⟩) (cPreS (hP.sub [] rfl) hK (hD.sub [] (by decide +kernel) rfl) hN) rfl rfl hl.1 rfl (lv_room (Nat.le_of_ble_eq_true rfl)) dX11_opened_14 ⟨Nat.le_of_ble_eq_true rfl, Nat.le_of_ble_eq_true rfl⟩) hP hD hS hA [] rfl (fun _ => rfl) (fun r9 u7 H locs hw8 => ?_)
    clear hP hS
    intro hP hS
    replace hw8 : r9 = if 0 ≤ d.toInt ∧ d.toInt ≤ 9999 then 1 else 0 := hw8
    refine lv_if_eq (tgt := 45) hx hb dX11_opened_17 (by decide) (fun c10 => ?_) (fun c10 => ?_)
    · skip
      have f11 := bo_f hw8 c10
      refine lv_ldc hx hb hown (hts (Cond.constant RX11 157 (-1000001)) (wm_t (wm_l (wm_i 3 rfl)))) dX11_opened_45 ?_
      have hP9 := hP
      have hD9 := hD
      exact W.iret (v := (-1000001)) hx hb hr (fun t ht hW => ⟨⟨(-1000001), (un, uk, uy, uw, um), rfl, (by unfold sp_opened; (repeat' split) <;> first | rfl | (exfalso; omega) | (subst_vars; rfl)), by rw [ht]; exact hP9, va_K.moved hW.alike hK, hD9⟩, hS.F ht⟩) hS.2.2 dX11_opened_47
    · skip
      have f12 := bo_t hw8 c10
      refine lv_iload_n hx hb dX11_opened_20 rfl (lv_at hl 3 rfl) ?_
      refine lv_i2l hx hb dX11_opened_21 rfl ?_
      have w13 := i_w w
      have w14 := i_rng w
      refine lv_lconst (v := 1) hx hb dX11_opened_22 (by decide) ?_
      refine lv_ldc2 hx hb hown (hts (Cond.constantLong RX11 217 (100000)) (wm_t (wm_l (wm_i 1 rfl)))) dX11_opened_23 ?_
      refine st_i1 (va_runS (As := [.long (w.toInt64), .long 1, .long 100000]) (rest := []) ⟨hx, hb, hml, hown, hts⟩ (ct_X11_in l D cI cY cJ cQ _ w.toInt64 (1 : Int64) (100000 : Int64)) (va_cwS 3 hts gX11_opened_X11_in rfl rfl rfl cdX11_in ⟨Nat.le_of_ble_eq_true rfl, Nat.le_of_ble_eq_true rfl⟩) (cPreS (hP.sub [] rfl) hK (hD.sub [] (by decide +kernel) rfl) hN) rfl rfl hl.1 rfl (lv_room (Nat.le_of_ble_eq_true rfl)) dX11_opened_26 ⟨Nat.le_of_ble_eq_true rfl, Nat.le_of_ble_eq_true rfl⟩) hP hD hS hA [] rfl (fun _ => rfl) (fun r17 u15 H locs hw16 => ?_)
      clear hP hS
      intro hP hS
      replace hw16 : r17 = if (1 : Int64).toInt ≤ w.toInt64.toInt ∧ w.toInt64.toInt ≤ (100000 : Int64).toInt then 1 else 0 := hw16
      refine lv_if_eq (tgt := 45) hx hb dX11_opened_29 (by decide) (fun c18 => ?_) (fun c18 => ?_)
      · skip
        have f19 := bo_f hw16 c18
        refine lv_ldc hx hb hown (hts (Cond.constant RX11 157 (-1000001)) (wm_t (wm_l (wm_i 3 rfl)))) dX11_opened_45 ?_
        have hP9 := hP
        have hD9 := hD
        exact W.iret (v := (-1000001)) hx hb hr (fun t ht hW => ⟨⟨(-1000001), (un, uk, uy, uw, um), rfl, (by unfold sp_opened; (repeat' split) <;> first | rfl | (exfalso; omega) | (subst_vars; rfl)), by rw [ht]; exact hP9, va_K.moved hW.alike hK, hD9⟩, hS.F ht⟩) hS.2.2 dX11_opened_47
      · skip
        have f20 := bo_t hw16 c18
        refine lv_iload hx hb dX11_opened_32 (lv_at hl 4 rfl) ?_
        refine lv_i2l hx hb dX11_opened_34 rfl ?_
        have w21 := i_w q
        have w22 := i_rng q
        refine lv_lconst (v := 0) hx hb dX11_opened_35 (by decide) ?_
        refine lv_ldc2 hx hb hown (hts (Cond.constantLong RX11 245 (255)) (wm_t (wm_l (wm_i 2 rfl)))) dX11_opened_36 ?_
        refine st_i1 (va_runS (As := [.long (q.toInt64), .long 0, .long 255]) (rest := []) ⟨hx, hb, hml, hown, hts⟩ (ct_X11_in l D cI cY cJ cQ _ q.toInt64 (0 : Int64) (255 : Int64)) (va_cwS 3 hts gX11_opened_X11_in rfl rfl rfl cdX11_in ⟨Nat.le_of_ble_eq_true rfl, Nat.le_of_ble_eq_true rfl⟩) (cPreS (hP.sub [] rfl) hK (hD.sub [] (by decide +kernel) rfl) hN) rfl rfl hl.1 rfl (lv_room (Nat.le_of_ble_eq_true rfl)) dX11_opened_39 ⟨Nat.le_of_ble_eq_true rfl, Nat.le_of_ble_eq_true rfl⟩) hP hD hS hA [] rfl (fun _ => rfl) (fun r25 u23 H locs hw24 => ?_)
        clear hP hS
        intro hP hS
        replace hw24 : r25 = if (0 : Int64).toInt ≤ q.toInt64.toInt ∧ q.toInt64.toInt ≤ (255 : Int64).toInt then 1 else 0 := hw24
        refine lv_if_ne (tgt := 48) hx hb dX11_opened_42 (by decide) (fun c26 => ?_) (fun c26 => ?_)
        · skip
          have f27 := bo_t hw24 c26
          refine lv_aload_n hx hb dX11_opened_48 rfl (lv_at hl 0 rfl) ?_
          refine va_get (D := D) (ci := 11) (v := .int un) (C := RX11) (T := TX11) (N := 64) hx hb hts inX11_opened_X11 hown hK hP 0 rfl rfl 52 (by decide) (hts (Cond.fieldLink RX11 354 "PortRoomsModel" "opens" "I") (wm_t (wm_l (wm_i 4 rfl)))) (fun _ h9 => h9) rfl dX11_opened_49 ?_
          refine lv_bipush (v := 60) hx hb dX11_opened_52 (by decide) ?_
          refine lv_icmp_ne (tgt := 60) hx hb dX11_opened_54 (by decide) (fun c28 => ?_) (fun c28 => ?_)
          · skip
            have f29 := i_ne c28
            refine lv_aload_n hx hb dX11_opened_60 rfl (lv_at hl 0 rfl) ?_
            refine va_get (D := D) (ci := 11) (v := .ref (md 53)) (C := RX11) (T := TX11) (N := 64) hx hb hts inX11_opened_X11 hown hK hP 0 rfl rfl 53 (by decide) (hts (Cond.fieldLink RX11 111 "PortRoomsModel" "openCrate" "[I") (wm_t (wm_l (wm_i 6 rfl)))) (fun _ h9 => h9) rfl dX11_opened_61 ?_
            refine lv_aload_n hx hb dX11_opened_64 rfl (lv_at hl 0 rfl) ?_
            refine va_get (D := D) (ci := 11) (v := .int un) (C := RX11) (T := TX11) (N := 64) hx hb hts inX11_opened_X11 hown hK hP 0 rfl rfl 52 (by decide) (hts (Cond.fieldLink RX11 354 "PortRoomsModel" "opens" "I") (wm_t (wm_l (wm_i 4 rfl)))) (fun _ h9 => h9) rfl dX11_opened_65 ?_
            refine lv_iload_n hx hb dX11_opened_68 rfl (lv_at hl 1 rfl) ?_
            refine va_iast hx hb hK hP hD hS 1 0 rfl rfl (i_in (by omega) (by omega)) dX11_opened_69 (fun H locs => ?_)
            clear hP hD hS
            intro hP hD hS
            replace hP : va_P D vwCl [(moC md sd (0) mst hn cn pn mq gn mln mnn ln mlt msz mcu mtk mfr mti mfa mfb an un lc td mtn), (aI cI (md 53) 60 (upd uk un.toNatClampNeg k)), (aI cI (md 54) 60 uy), (aI cI (md 55) 60 uw), (aI cI (md 56) 60 um)] H := hP
            replace hD : va_D A [(moC md sd (0) mst hn cn pn mq gn mln mnn ln mlt msz mcu mtk mfr mti mfa mfb an un lc td mtn), (aI cI (md 53) 60 (upd uk un.toNatClampNeg k)), (aI cI (md 54) 60 uy), (aI cI (md 55) 60 uw), (aI cI (md 56) 60 um)] := hD
            refine lv_aload_n hx hb dX11_opened_70 rfl (lv_at hl 0 rfl) ?_
            refine va_get (D := D) (ci := 11) (v := .ref (md 54)) (C := RX11) (T := TX11) (N := 64) hx hb hts inX11_opened_X11 hown hK hP 0 rfl rfl 54 (by decide) (hts (Cond.fieldLink RX11 114 "PortRoomsModel" "openDay" "[I") (wm_t (wm_l (wm_i 7 rfl)))) (fun _ h9 => h9) rfl dX11_opened_71 ?_
            refine lv_aload_n hx hb dX11_opened_74 rfl (lv_at hl 0 rfl) ?_
            refine va_get (D := D) (ci := 11) (v := .int un) (C := RX11) (T := TX11) (N := 64) hx hb hts inX11_opened_X11 hown hK hP 0 rfl rfl 52 (by decide) (hts (Cond.fieldLink RX11 354 "PortRoomsModel" "opens" "I") (wm_t (wm_l (wm_i 4 rfl)))) (fun _ h9 => h9) rfl dX11_opened_75 ?_
            refine lv_iload_n hx hb dX11_opened_78 rfl (lv_at hl 2 rfl) ?_
            refine va_iast hx hb hK hP hD hS 2 0 rfl rfl (i_in (by omega) (by omega)) dX11_opened_79 (fun H locs => ?_)
            clear hP hD hS
            intro hP hD hS
            replace hP : va_P D vwCl [(moC md sd (0) mst hn cn pn mq gn mln mnn ln mlt msz mcu mtk mfr mti mfa mfb an un lc td mtn), (aI cI (md 53) 60 (upd uk un.toNatClampNeg k)), (aI cI (md 54) 60 (upd uy un.toNatClampNeg d)), (aI cI (md 55) 60 uw), (aI cI (md 56) 60 um)] H := hP
            replace hD : va_D A [(moC md sd (0) mst hn cn pn mq gn mln mnn ln mlt msz mcu mtk mfr mti mfa mfb an un lc td mtn), (aI cI (md 53) 60 (upd uk un.toNatClampNeg k)), (aI cI (md 54) 60 (upd uy un.toNatClampNeg d)), (aI cI (md 55) 60 uw), (aI cI (md 56) 60 um)] := hD
            refine lv_aload_n hx hb dX11_opened_80 rfl (lv_at hl 0 rfl) ?_
            refine va_get (D := D) (ci := 11) (v := .ref (md 55)) (C := RX11) (T := TX11) (N := 64) hx hb hts inX11_opened_X11 hown hK hP 0 rfl rfl 55 (by decide) (hts (Cond.fieldLink RX11 117 "PortRoomsModel" "openWeight" "[I") (wm_t (wm_l (wm_i 8 rfl)))) (fun _ h9 => h9) rfl dX11_opened_81 ?_
            refine lv_aload_n hx hb dX11_opened_84 rfl (lv_at hl 0 rfl) ?_
            refine va_get (D := D) (ci := 11) (v := .int un) (C := RX11) (T := TX11) (N := 64) hx hb hts inX11_opened_X11 hown hK hP 0 rfl rfl 52 (by decide) (hts (Cond.fieldLink RX11 354 "PortRoomsModel" "opens" "I") (wm_t (wm_l (wm_i 4 rfl)))) (fun _ h9 => h9) rfl dX11_opened_85 ?_
            refine lv_iload_n hx hb dX11_opened_88 rfl (lv_at hl 3 rfl) ?_
            refine va_iast hx hb hK hP hD hS 3 0 rfl rfl (i_in (by omega) (by omega)) dX11_opened_89 (fun H locs => ?_)
            clear hP hD hS
            intro hP hD hS
            replace hP : va_P D vwCl [(moC md sd (0) mst hn cn pn mq gn mln mnn ln mlt msz mcu mtk mfr mti mfa mfb an un lc td mtn), (aI cI (md 53) 60 (upd uk un.toNatClampNeg k)), (aI cI (md 54) 60 (upd uy un.toNatClampNeg d)), (aI cI (md 55) 60 (upd uw un.toNatClampNeg w)), (aI cI (md 56) 60 um)] H := hP
            replace hD : va_D A [(moC md sd (0) mst hn cn pn mq gn mln mnn ln mlt msz mcu mtk mfr mti mfa mfb an un lc td mtn), (aI cI (md 53) 60 (upd uk un.toNatClampNeg k)), (aI cI (md 54) 60 (upd uy un.toNatClampNeg d)), (aI cI (md 55) 60 (upd uw un.toNatClampNeg w)), (aI cI (md 56) 60 um)] := hD
            refine lv_aload_n hx hb dX11_opened_90 rfl (lv_at hl 0 rfl) ?_
            refine va_get (D := D) (ci := 11) (v := .ref (md 56)) (C := RX11) (T := TX11) (N := 64) hx hb hts inX11_opened_X11 hown hK hP 0 rfl rfl 56 (by decide) (hts (Cond.fieldLink RX11 120 "PortRoomsModel" "openMarks" "[I") (wm_t (wm_l (wm_i 9 rfl)))) (fun _ h9 => h9) rfl dX11_opened_91 ?_
            refine lv_aload_n hx hb dX11_opened_94 rfl (lv_at hl 0 rfl) ?_
            refine va_get (D := D) (ci := 11) (v := .int un) (C := RX11) (T := TX11) (N := 64) hx hb hts inX11_opened_X11 hown hK hP 0 rfl rfl 52 (by decide) (hts (Cond.fieldLink RX11 354 "PortRoomsModel" "opens" "I") (wm_t (wm_l (wm_i 4 rfl)))) (fun _ h9 => h9) rfl dX11_opened_95 ?_
            refine lv_iload hx hb dX11_opened_98 (lv_at hl 4 rfl) ?_
            refine va_iast hx hb hK hP hD hS 4 0 rfl rfl (i_in (by omega) (by omega)) dX11_opened_100 (fun H locs => ?_)
            clear hP hD hS
            intro hP hD hS
            replace hP : va_P D vwCl [(moC md sd (0) mst hn cn pn mq gn mln mnn ln mlt msz mcu mtk mfr mti mfa mfb an un lc td mtn), (aI cI (md 53) 60 (upd uk un.toNatClampNeg k)), (aI cI (md 54) 60 (upd uy un.toNatClampNeg d)), (aI cI (md 55) 60 (upd uw un.toNatClampNeg w)), (aI cI (md 56) 60 (upd um un.toNatClampNeg q))] H := hP
            replace hD : va_D A [(moC md sd (0) mst hn cn pn mq gn mln mnn ln mlt msz mcu mtk mfr mti mfa mfb an un lc td mtn), (aI cI (md 53) 60 (upd uk un.toNatClampNeg k)), (aI cI (md 54) 60 (upd uy un.toNatClampNeg d)), (aI cI (md 55) 60 (upd uw un.toNatClampNeg w)), (aI cI (md 56) 60 (upd um un.toNatClampNeg q))] := hD
            refine lv_aload_n hx hb dX11_opened_101 rfl (lv_at hl 0 rfl) ?_
            refine lv_dup hx hb dX11_opened_102 rfl ?_
            refine va_get (D := D) (ci := 11) (v := .int un) (C := RX11) (T := TX11) (N := 64) hx hb hts inX11_opened_X11 hown hK hP 0 rfl rfl 52 (by decide) (hts (Cond.fieldLink RX11 354 "PortRoomsModel" "opens" "I") (wm_t (wm_l (wm_i 4 rfl)))) (fun _ h9 => h9) rfl dX11_opened_103 ?_
            refine lv_iconst (v := 1) hx hb dX11_opened_106 (by decide) ?_
            refine lv_iadd hx hb dX11_opened_107 ?_
            refine lv_topi (fun v30 ev30 => ?_)
            try have tv30 : v30.toInt = un.toInt + 1 := by rw [ev30]; exact (i_add (x := un) (y := (1 : Int32)) (by rw [k1]; omega) (by rw [k1]; omega)).trans (by rw [k1])
            refine va_put (D := D) (ci := 11) (v := .int v30) (ty := .int) (C := RX11) (T := TX11) (N := 64) hx hb hts inX11_opened_X11 tyX11 tyX11_ok nmX11 hown hK hP hD hS 0 rfl rfl 52 (by decide) (hts (Cond.fieldLink RX11 354 "PortRoomsModel" "opens" "I") (wm_t (wm_l (wm_i 4 rfl)))) (fun _ h9 => h9) rfl (tyX11_ok 52 (by decide)) rfl rfl (Nat.le_of_ble_eq_true rfl) dX11_opened_108 (fun H locs => ?_)
            clear hP hD hS
            intro hP hD hS
            replace hP : va_P D vwCl [(moC md sd (0) mst hn cn pn mq gn mln mnn ln mlt msz mcu mtk mfr mti mfa mfb an v30 lc td mtn), (aI cI (md 53) 60 (upd uk un.toNatClampNeg k)), (aI cI (md 54) 60 (upd uy un.toNatClampNeg d)), (aI cI (md 55) 60 (upd uw un.toNatClampNeg w)), (aI cI (md 56) 60 (upd um un.toNatClampNeg q))] H := hP
            replace hD : va_D A [(moC md sd (0) mst hn cn pn mq gn mln mnn ln mlt msz mcu mtk mfr mti mfa mfb an v30 lc td mtn), (aI cI (md 53) 60 (upd uk un.toNatClampNeg k)), (aI cI (md 54) 60 (upd uy un.toNatClampNeg d)), (aI cI (md 55) 60 (upd uw un.toNatClampNeg w)), (aI cI (md 56) 60 (upd um un.toNatClampNeg q))] := hD
            refine lv_aload_n hx hb dX11_opened_111 rfl (lv_at hl 0 rfl) ?_
            refine va_get (D := D) (ci := 11) (v := .int v30) (C := RX11) (T := TX11) (N := 64) hx hb hts inX11_opened_X11 hown hK hP 0 rfl rfl 52 (by decide) (hts (Cond.fieldLink RX11 354 "PortRoomsModel" "opens" "I") (wm_t (wm_l (wm_i 4 rfl)))) (fun _ h9 => h9) rfl dX11_opened_112 ?_
            have hP9 := hP
            have hD9 := hD
            exact W.iret (v := v30) hx hb hr (fun t ht hW => ⟨⟨v30, (v30, upd uk un.toNatClampNeg k, upd uy un.toNatClampNeg d, upd uw un.toNatClampNeg w, upd um un.toNatClampNeg q), rfl, (by unfold sp_opened; (repeat' split) <;> first | rfl | (exfalso; omega) | (subst_vars; rfl)), by rw [ht]; exact hP9, va_K.moved hW.alike hK, hD9⟩, hS.F ht⟩) hS.2.2 dX11_opened_115
          · skip
            have f31 := i_eq c28
            refine lv_ldc hx hb hown (hts (Cond.constant RX11 184 (-1000003)) (wm_t (wm_l (wm_i 5 rfl)))) dX11_opened_57 ?_
            have hP9 := hP
            have hD9 := hD
            exact W.iret (v := (-1000003)) hx hb hr (fun t ht hW => ⟨⟨(-1000003), (un, uk, uy, uw, um), rfl, (by unfold sp_opened; (repeat' split) <;> first | rfl | (exfalso; omega) | (subst_vars; rfl)), by rw [ht]; exact hP9, va_K.moved hW.alike hK, hD9⟩, hS.F ht⟩) hS.2.2 dX11_opened_59
        · skip
          have f32 := bo_f hw24 c26
          refine lv_ldc hx hb hown (hts (Cond.constant RX11 157 (-1000001)) (wm_t (wm_l (wm_i 3 rfl)))) dX11_opened_45 ?_
          have hP9 := hP
          have hD9 := hD
          exact W.iret (v := (-1000001)) hx hb hr (fun t ht hW => ⟨⟨(-1000001), (un, uk, uy, uw, um), rfl, (by unfold sp_opened; (repeat' split) <;> first | rfl | (exfalso; omega) | (subst_vars; rfl)), by rw [ht]; exact hP9, va_K.moved hW.alike hK, hD9⟩, hS.F ht⟩) hS.2.2 dX11_opened_47

set_option maxHeartbeats 4000000 in
set_option maxRecDepth 100000 in
theorem ct_X11_list (l : Launch) (D : va_G) (cI cY cJ cQ : ClassId) (sz : Nat) (md : Nat → Nat) (sd : Int32) (mth mst hn cn pn mq gn mln mnn ln mlt msz mcu mtk mfr mti mfa mfb an un lc td mtn : Int32) (lp la lb : Nat → Int32) (q : Int32) (a : Int32) (b : Int32)  (h1 : 0 ≤ lc.toInt) (h2 : lc.toInt ≤ 20)  : Met l yX11_list wsX11_list ({ frames := 2, cells := 0, slots := 0, locals := 45 }) (cPre D (ty4 cI cY cJ cQ) [(moC md sd mth mst hn cn pn mq gn mln mnn ln mlt msz mcu mtk mfr mti mfa mfb an un lc td mtn), (aI cI (md 58) 20 lp), (aI cI (md 59) 20 la), (aI cI (md 60) 20 lb)] sz [.ref (md 64), .int q, .int a, .int b]) (va_Qi (fun (r : Int32) (u : Int32 × (Nat → Int32) × (Nat → Int32) × (Nat → Int32)) => (r, u) = sp_list lc lp la lb q a b) (cB D (ty4 cI cY cJ cQ) (fun (u : Int32 × (Nat → Int32) × (Nat → Int32) × (Nat → Int32)) => [(moC md sd 0 mst hn cn pn mq gn mln mnn ln mlt msz mcu mtk mfr mti mfa mfb an un u.1 td mtn), (aI cI (md 58) 20 u.2.1), (aI cI (md 59) 20 u.2.2.1), (aI cI (md 60) 20 u.2.2.2)]) (va_A [(moC md sd mth mst hn cn pn mq gn mln mnn ln mlt msz mcu mtk mfr mti mfa mfb an un lc td mtn), (aI cI (md 58) 20 lp), (aI cI (md 59) 20 la), (aI cI (md 60) 20 lb)] sz)) (va_A [(moC md sd mth mst hn cn pn mq gn mln mnn ln mlt msz mcu mtk mfr mti mfa mfb an un lc td mtn), (aI cI (md 58) 20 lp), (aI cI (md 59) 20 la), (aI cI (md 60) 20 lb)] sz)) 0 0 (va_A [(moC md sd mth mst hn cn pn mq gn mln mnn ln mlt msz mcu mtk mfr mti mfa mfb an un lc td mtn), (aI cI (md 58) 20 lp), (aI cI (md 59) 20 la), (aI cI (md 60) 20 lb)] sz) := by
  refine Met.ofW (cc := cX11_list) (maxL := 4) (ret := (some .int)) (by decide) rfl ?_
  intro p e s m args below meth c s₁ B hml hv
  obtain ⟨rfl, hsz, hP, hK, hD0, hN⟩ := hv
  have hx := B.exec
  have hb := B.bytes
  have hr := B.returns
  have hts := atoms_spec (ws := wsX11_list) B.pre
  have hown : s.vm.findClass RX11 = some m.cls := findClass_of_methodNamed B.named
  have hlocks := B.notSynchronized
  subst hsz
  have hD := hD0.self (sz := s.heap.size)
  generalize hAe : va_A [(moC md sd mth mst hn cn pn mq gn mln mnn ln mlt msz mcu mtk mfr mti mfa mfb an un lc td mtn), (aI cI (md 58) 20 lp), (aI cI (md 59) 20 la), (aI cI (md 60) 20 lb)] s.heap.size = A at hD ⊢
  have hA : ∀ q : Nat, s.heap.size ≤ q → A q := fun q h => by rw [← hAe]; exact Or.inr h
  have hS : va_S A s.heap s.heap [] := va_S.rf
  have hP : va_P D vwCl [(moC md sd mth mst hn cn pn mq gn mln mnn ln mlt msz mcu mtk mfr mti mfa mfb an un lc td mtn), (aI cI (md 58) 20 lp), (aI cI (md 59) 20 la), (aI cI (md 60) 20 lb)] s.heap := hP
  have hl := lv_entry ([.ref (md 64), .int q, .int a, .int b]) (n := 4) (Nat.le_of_ble_eq_true rfl)
  rw [lg_entry_eq]
  generalize (lg_sl ([.ref (md 64), .int q, .int a, .int b]) ++ List.replicate (4 - (lg_sl ([.ref (md 64), .int q, .int a, .int b])).length) Slot.unset).toArray = ls at hl ⊢
  have hl : lv_has ls 4 [(0, .ref (md 64)), (1, .int q), (2, .int a), (3, .int b)] := hl
  have km1000003 : (-1000003 : Int32).toInt = -1000003 := by decide
  have km1000001 : (-1000001 : Int32).toInt = -1000001 := by decide
  have k0 : (0 : Int32).toInt = 0 := by decide
  have k1 : (1 : Int32).toInt = 1 := by decide
  have k20 : (20 : Int32).toInt = 20 := by decide
  have kl9999 : (9999 : Int64).toInt = 9999 := by decide
  refine lv_aload_n hx hb dX11_list_0 rfl (lv_at hl 0 rfl) ?_
  refine lv_iconst (v := 0) hx hb dX11_list_1 (by decide) ?_
  refine va_put (D := D) (ci := 11) (v := .int 0) (ty := .int) (C := RX11) (T := TX11) (N := 64) hx hb hts inX11_list_X11 tyX11 tyX11_ok nmX11 hown hK hP hD hS 0 rfl rfl 0 (by decide) (hts (Cond.fieldLink RX11 1 "PortRoomsModel" "thrown" "I") (wm_t (wm_l (wm_i 0 rfl)))) (fun _ h9 => h9) rfl (tyX11_ok 0 (by decide)) rfl rfl (Nat.le_of_ble_eq_true rfl) dX11_list_2 (fun H locs => ?_)
  clear hP hD hS
  intro hP hD hS
  replace hP : va_P D vwCl [(moC md sd (0) mst hn cn pn mq gn mln mnn ln mlt msz mcu mtk mfr mti mfa mfb an un lc td mtn), (aI cI (md 58) 20 lp), (aI cI (md 59) 20 la), (aI cI (md 60) 20 lb)] H := hP
  replace hD : va_D A [(moC md sd (0) mst hn cn pn mq gn mln mnn ln mlt msz mcu mtk mfr mti mfa mfb an un lc td mtn), (aI cI (md 58) 20 lp), (aI cI (md 59) 20 la), (aI cI (md 60) 20 lb)] := hD
  refine lv_iload_n hx hb dX11_list_5 rfl (lv_at hl 1 rfl) ?_
  refine st_i1 (va_runS (As := [.int q]) (rest := []) ⟨hx, hb, hml, hown, hts⟩ (ct_X11_isPerson l D cI cY cJ cQ _ q) (va_cwS 1 hts gX11_list_X11_isPerson rfl rfl rfl cdX11_isPerson ⟨Nat.le_of_ble_eq_true rfl, Nat.le_of_ble_eq_true rfl⟩) (cPreS (hP.sub [] rfl) hK (hD.sub [] (by decide +kernel) rfl) hN) rfl rfl hl.1 rfl (lv_room (Nat.le_of_ble_eq_true rfl)) dX11_list_6 ⟨Nat.le_of_ble_eq_true rfl, Nat.le_of_ble_eq_true rfl⟩) hP hD hS hA [] rfl (fun _ => rfl) (fun r3 u1 H locs hw2 => ?_)
  clear hP hS
  intro hP hS
  replace hw2 : r3 = if 0 ≤ q.toInt ∧ q.toInt ≤ 9 then 1 else 0 := hw2
  refine lv_if_eq (tgt := 32) hx hb dX11_list_9 (by decide) (fun c4 => ?_) (fun c4 => ?_)
  · skip
    have f5 := bo_f hw2 c4
    refine lv_ldc hx hb hown (hts (Cond.constant RX11 157 (-1000001)) (wm_t (wm_l (wm_i 2 rfl)))) dX11_list_32 ?_
    have hP9 := hP
    have hD9 := hD
    exact W.iret (v := (-1000001)) hx hb hr (fun t ht hW => ⟨⟨(-1000001), (lc, lp, la, lb), rfl, (by unfold sp_list; (repeat' split) <;> first | rfl | (exfalso; omega) | (subst_vars; rfl)), by rw [ht]; exact hP9, va_K.moved hW.alike hK, hD9⟩, hS.F ht⟩) hS.2.2 dX11_list_34
  · skip
    have f6 := bo_t hw2 c4
    refine lv_iload_n hx hb dX11_list_12 rfl (lv_at hl 2 rfl) ?_
    refine st_i1 (va_runS (As := [.int a]) (rest := []) ⟨hx, hb, hml, hown, hts⟩ (ct_X11_isDay l D cI cY cJ cQ _ a) (va_cwS 1 hts gX11_list_X11_isDay rfl rfl rfl cdX11_isDay ⟨Nat.le_of_ble_eq_true rfl, Nat.le_of_ble_eq_true rfl⟩) (cPreS (hP.sub [] rfl) hK (hD.sub [] (by decide +kernel) rfl) hN) rfl rfl hl.1 rfl (lv_room (Nat.le_of_ble_eq_true rfl)) dX11_list_13 ⟨Nat.le_of_ble_eq_true rfl, Nat.le_of_ble_eq_true rfl⟩) hP hD hS hA [] rfl (fun _ => rfl) (fun r9 u7 H locs hw8 => ?_)
    clear hP hS
    intro hP hS
    replace hw8 : r9 = if 0 ≤ a.toInt ∧ a.toInt ≤ 9999 then 1 else 0 := hw8
    refine lv_if_eq (tgt := 32) hx hb dX11_list_16 (by decide) (fun c10 => ?_) (fun c10 => ?_)
    · skip
      have f11 := bo_f hw8 c10
      refine lv_ldc hx hb hown (hts (Cond.constant RX11 157 (-1000001)) (wm_t (wm_l (wm_i 2 rfl)))) dX11_list_32 ?_
      have hP9 := hP
      have hD9 := hD
      exact W.iret (v := (-1000001)) hx hb hr (fun t ht hW => ⟨⟨(-1000001), (lc, lp, la, lb), rfl, (by unfold sp_list; (repeat' split) <;> first | rfl | (exfalso; omega) | (subst_vars; rfl)), by rw [ht]; exact hP9, va_K.moved hW.alike hK, hD9⟩, hS.F ht⟩) hS.2.2 dX11_list_34
    · skip
      have f12 := bo_t hw8 c10
      refine lv_iload_n hx hb dX11_list_19 rfl (lv_at hl 3 rfl) ?_
      refine lv_i2l hx hb dX11_list_20 rfl ?_
      have w13 := i_w b
      have w14 := i_rng b
      refine lv_iload_n hx hb dX11_list_21 rfl (lv_at hl 2 rfl) ?_
      refine lv_i2l hx hb dX11_list_22 rfl ?_
      have w15 := i_w a
      have w16 := i_rng a
      refine lv_ldc2 hx hb hown (hts (Cond.constantLong RX11 168 (9999)) (wm_t (wm_l (wm_i 1 rfl)))) dX11_list_23 ?_
      refine st_i1 (va_runS (As := [.long (b.toInt64), .long (a.toInt64), .long 9999]) (rest := []) ⟨hx, hb, hml, hown, hts⟩ (ct_X11_in l D cI cY cJ cQ _ b.toInt64 a.toInt64 (9999 : Int64)) (va_cwS 3 hts gX11_list_X11_in rfl rfl rfl cdX11_in ⟨Nat.le_of_ble_eq_true rfl, Nat.le_of_ble_eq_true rfl⟩) (cPreS (hP.sub [] rfl) hK (hD.sub [] (by decide +kernel) rfl) hN) rfl rfl hl.1 rfl (lv_room (Nat.le_of_ble_eq_true rfl)) dX11_list_26 ⟨Nat.le_of_ble_eq_true rfl, Nat.le_of_ble_eq_true rfl⟩) hP hD hS hA [] rfl (fun _ => rfl) (fun r19 u17 H locs hw18 => ?_)
      clear hP hS
      intro hP hS
      replace hw18 : r19 = if a.toInt64.toInt ≤ b.toInt64.toInt ∧ b.toInt64.toInt ≤ (9999 : Int64).toInt then 1 else 0 := hw18
      refine lv_if_ne (tgt := 35) hx hb dX11_list_29 (by decide) (fun c20 => ?_) (fun c20 => ?_)
      · skip
        have f21 := bo_t hw18 c20
        refine lv_aload_n hx hb dX11_list_35 rfl (lv_at hl 0 rfl) ?_
        refine va_get (D := D) (ci := 11) (v := .int lc) (C := RX11) (T := TX11) (N := 64) hx hb hts inX11_list_X11 hown hK hP 0 rfl rfl 57 (by decide) (hts (Cond.fieldLink RX11 360 "PortRoomsModel" "lists" "I") (wm_t (wm_l (wm_i 3 rfl)))) (fun _ h9 => h9) rfl dX11_list_36 ?_
        refine lv_bipush (v := 20) hx hb dX11_list_39 (by decide) ?_
        refine lv_icmp_ne (tgt := 47) hx hb dX11_list_41 (by decide) (fun c22 => ?_) (fun c22 => ?_)
        · skip
          have f23 := i_ne c22
          refine lv_aload_n hx hb dX11_list_47 rfl (lv_at hl 0 rfl) ?_
          refine va_get (D := D) (ci := 11) (v := .ref (md 58)) (C := RX11) (T := TX11) (N := 64) hx hb hts inX11_list_X11 hown hK hP 0 rfl rfl 58 (by decide) (hts (Cond.fieldLink RX11 123 "PortRoomsModel" "listed" "[I") (wm_t (wm_l (wm_i 5 rfl)))) (fun _ h9 => h9) rfl dX11_list_48 ?_
          refine lv_aload_n hx hb dX11_list_51 rfl (lv_at hl 0 rfl) ?_
          refine va_get (D := D) (ci := 11) (v := .int lc) (C := RX11) (T := TX11) (N := 64) hx hb hts inX11_list_X11 hown hK hP 0 rfl rfl 57 (by decide) (hts (Cond.fieldLink RX11 360 "PortRoomsModel" "lists" "I") (wm_t (wm_l (wm_i 3 rfl)))) (fun _ h9 => h9) rfl dX11_list_52 ?_
          refine lv_iload_n hx hb dX11_list_55 rfl (lv_at hl 1 rfl) ?_
          refine va_iast hx hb hK hP hD hS 1 0 rfl rfl (i_in (by omega) (by omega)) dX11_list_56 (fun H locs => ?_)
          clear hP hD hS
          intro hP hD hS
          replace hP : va_P D vwCl [(moC md sd (0) mst hn cn pn mq gn mln mnn ln mlt msz mcu mtk mfr mti mfa mfb an un lc td mtn), (aI cI (md 58) 20 (upd lp lc.toNatClampNeg q)), (aI cI (md 59) 20 la), (aI cI (md 60) 20 lb)] H := hP
          replace hD : va_D A [(moC md sd (0) mst hn cn pn mq gn mln mnn ln mlt msz mcu mtk mfr mti mfa mfb an un lc td mtn), (aI cI (md 58) 20 (upd lp lc.toNatClampNeg q)), (aI cI (md 59) 20 la), (aI cI (md 60) 20 lb)] := hD
          refine lv_aload_n hx hb dX11_list_57 rfl (lv_at hl 0 rfl) ?_
          refine va_get (D := D) (ci := 11) (v := .ref (md 59)) (C := RX11) (T := TX11) (N := 64) hx hb hts inX11_list_X11 hown hK hP 0 rfl rfl 59 (by decide) (hts (Cond.fieldLink RX11 126 "PortRoomsModel" "listFrom" "[I") (wm_t (wm_l (wm_i 6 rfl)))) (fun _ h9 => h9) rfl dX11_list_58 ?_
          refine lv_aload_n hx hb dX11_list_61 rfl (lv_at hl 0 rfl) ?_
          refine va_get (D := D) (ci := 11) (v := .int lc) (C := RX11) (T := TX11) (N := 64) hx hb hts inX11_list_X11 hown hK hP 0 rfl rfl 57 (by decide) (hts (Cond.fieldLink RX11 360 "PortRoomsModel" "lists" "I") (wm_t (wm_l (wm_i 3 rfl)))) (fun _ h9 => h9) rfl dX11_list_62 ?_
          refine lv_iload_n hx hb dX11_list_65 rfl (lv_at hl 2 rfl) ?_
          refine va_iast hx hb hK hP hD hS 2 0 rfl rfl (i_in (by omega) (by omega)) dX11_list_66 (fun H locs => ?_)
          clear hP hD hS
          intro hP hD hS
          replace hP : va_P D vwCl [(moC md sd (0) mst hn cn pn mq gn mln mnn ln mlt msz mcu mtk mfr mti mfa mfb an un lc td mtn), (aI cI (md 58) 20 (upd lp lc.toNatClampNeg q)), (aI cI (md 59) 20 (upd la lc.toNatClampNeg a)), (aI cI (md 60) 20 lb)] H := hP
          replace hD : va_D A [(moC md sd (0) mst hn cn pn mq gn mln mnn ln mlt msz mcu mtk mfr mti mfa mfb an un lc td mtn), (aI cI (md 58) 20 (upd lp lc.toNatClampNeg q)), (aI cI (md 59) 20 (upd la lc.toNatClampNeg a)), (aI cI (md 60) 20 lb)] := hD
          refine lv_aload_n hx hb dX11_list_67 rfl (lv_at hl 0 rfl) ?_
          refine va_get (D := D) (ci := 11) (v := .ref (md 60)) (C := RX11) (T := TX11) (N := 64) hx hb hts inX11_list_X11 hown hK hP 0 rfl rfl 60 (by decide) (hts (Cond.fieldLink RX11 129 "PortRoomsModel" "listTo" "[I") (wm_t (wm_l (wm_i 7 rfl)))) (fun _ h9 => h9) rfl dX11_list_68 ?_
          refine lv_aload_n hx hb dX11_list_71 rfl (lv_at hl 0 rfl) ?_
          refine va_get (D := D) (ci := 11) (v := .int lc) (C := RX11) (T := TX11) (N := 64) hx hb hts inX11_list_X11 hown hK hP 0 rfl rfl 57 (by decide) (hts (Cond.fieldLink RX11 360 "PortRoomsModel" "lists" "I") (wm_t (wm_l (wm_i 3 rfl)))) (fun _ h9 => h9) rfl dX11_list_72 ?_
          refine lv_iload_n hx hb dX11_list_75 rfl (lv_at hl 3 rfl) ?_
          refine va_iast hx hb hK hP hD hS 3 0 rfl rfl (i_in (by omega) (by omega)) dX11_list_76 (fun H locs => ?_)
          clear hP hD hS
          intro hP hD hS
          replace hP : va_P D vwCl [(moC md sd (0) mst hn cn pn mq gn mln mnn ln mlt msz mcu mtk mfr mti mfa mfb an un lc td mtn), (aI cI (md 58) 20 (upd lp lc.toNatClampNeg q)), (aI cI (md 59) 20 (upd la lc.toNatClampNeg a)), (aI cI (md 60) 20 (upd lb lc.toNatClampNeg b))] H := hP
          replace hD : va_D A [(moC md sd (0) mst hn cn pn mq gn mln mnn ln mlt msz mcu mtk mfr mti mfa mfb an un lc td mtn), (aI cI (md 58) 20 (upd lp lc.toNatClampNeg q)), (aI cI (md 59) 20 (upd la lc.toNatClampNeg a)), (aI cI (md 60) 20 (upd lb lc.toNatClampNeg b))] := hD
          refine lv_aload_n hx hb dX11_list_77 rfl (lv_at hl 0 rfl) ?_
          refine lv_dup hx hb dX11_list_78 rfl ?_
          refine va_get (D := D) (ci := 11) (v := .int lc) (C := RX11) (T := TX11) (N := 64) hx hb hts inX11_list_X11 hown hK hP 0 rfl rfl 57 (by decide) (hts (Cond.fieldLink RX11 360 "PortRoomsModel" "lists" "I") (wm_t (wm_l (wm_i 3 rfl)))) (fun _ h9 => h9) rfl dX11_list_79 ?_
          refine lv_iconst (v := 1) hx hb dX11_list_82 (by decide) ?_
          refine lv_iadd hx hb dX11_list_83 ?_
          refine lv_topi (fun v24 ev24 => ?_)
          try have tv24 : v24.toInt = lc.toInt + 1 := by rw [ev24]; exact (i_add (x := lc) (y := (1 : Int32)) (by rw [k1]; omega) (by rw [k1]; omega)).trans (by rw [k1])
          refine va_put (D := D) (ci := 11) (v := .int v24) (ty := .int) (C := RX11) (T := TX11) (N := 64) hx hb hts inX11_list_X11 tyX11 tyX11_ok nmX11 hown hK hP hD hS 0 rfl rfl 57 (by decide) (hts (Cond.fieldLink RX11 360 "PortRoomsModel" "lists" "I") (wm_t (wm_l (wm_i 3 rfl)))) (fun _ h9 => h9) rfl (tyX11_ok 57 (by decide)) rfl rfl (Nat.le_of_ble_eq_true rfl) dX11_list_84 (fun H locs => ?_)
          clear hP hD hS
          intro hP hD hS
          replace hP : va_P D vwCl [(moC md sd (0) mst hn cn pn mq gn mln mnn ln mlt msz mcu mtk mfr mti mfa mfb an un v24 td mtn), (aI cI (md 58) 20 (upd lp lc.toNatClampNeg q)), (aI cI (md 59) 20 (upd la lc.toNatClampNeg a)), (aI cI (md 60) 20 (upd lb lc.toNatClampNeg b))] H := hP
          replace hD : va_D A [(moC md sd (0) mst hn cn pn mq gn mln mnn ln mlt msz mcu mtk mfr mti mfa mfb an un v24 td mtn), (aI cI (md 58) 20 (upd lp lc.toNatClampNeg q)), (aI cI (md 59) 20 (upd la lc.toNatClampNeg a)), (aI cI (md 60) 20 (upd lb lc.toNatClampNeg b))] := hD
          refine lv_aload_n hx hb dX11_list_87 rfl (lv_at hl 0 rfl) ?_
          refine va_get (D := D) (ci := 11) (v := .int v24) (C := RX11) (T := TX11) (N := 64) hx hb hts inX11_list_X11 hown hK hP 0 rfl rfl 57 (by decide) (hts (Cond.fieldLink RX11 360 "PortRoomsModel" "lists" "I") (wm_t (wm_l (wm_i 3 rfl)))) (fun _ h9 => h9) rfl dX11_list_88 ?_
          have hP9 := hP
          have hD9 := hD
          exact W.iret (v := v24) hx hb hr (fun t ht hW => ⟨⟨v24, (v24, upd lp lc.toNatClampNeg q, upd la lc.toNatClampNeg a, upd lb lc.toNatClampNeg b), rfl, (by unfold sp_list; (repeat' split) <;> first | rfl | (exfalso; omega) | (subst_vars; rfl)), by rw [ht]; exact hP9, va_K.moved hW.alike hK, hD9⟩, hS.F ht⟩) hS.2.2 dX11_list_91
        · skip
          have f25 := i_eq c22
          refine lv_ldc hx hb hown (hts (Cond.constant RX11 184 (-1000003)) (wm_t (wm_l (wm_i 4 rfl)))) dX11_list_44 ?_
          have hP9 := hP
          have hD9 := hD
          exact W.iret (v := (-1000003)) hx hb hr (fun t ht hW => ⟨⟨(-1000003), (lc, lp, la, lb), rfl, (by unfold sp_list; (repeat' split) <;> first | rfl | (exfalso; omega) | (subst_vars; rfl)), by rw [ht]; exact hP9, va_K.moved hW.alike hK, hD9⟩, hS.F ht⟩) hS.2.2 dX11_list_46
      · skip
        have f26 := bo_f hw18 c20
        refine lv_ldc hx hb hown (hts (Cond.constant RX11 157 (-1000001)) (wm_t (wm_l (wm_i 2 rfl)))) dX11_list_32 ?_
        have hP9 := hP
        have hD9 := hD
        exact W.iret (v := (-1000001)) hx hb hr (fun t ht hW => ⟨⟨(-1000001), (lc, lp, la, lb), rfl, (by unfold sp_list; (repeat' split) <;> first | rfl | (exfalso; omega) | (subst_vars; rfl)), by rw [ht]; exact hP9, va_K.moved hW.alike hK, hD9⟩, hS.F ht⟩) hS.2.2 dX11_list_34
