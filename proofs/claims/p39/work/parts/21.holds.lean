section
theorem cdX9_howMany : yX9_howMany.cls ≠ "java/lang/invoke/MethodHandle" ∧ yX9_howMany.cls ≠ "java/lang/invoke/VarHandle" ∧ (parseMethodDescriptor yX9_howMany.desc).map (fun d => d.parameters.length) = some 0 := by decide +kernel
theorem cdX10_hold : yX10_hold.cls ≠ "java/lang/invoke/MethodHandle" ∧ yX10_hold.cls ≠ "java/lang/invoke/VarHandle" ∧ (parseMethodDescriptor yX10_hold.desc).map (fun d => d.parameters.length) = some 4 := by decide +kernel
theorem Gd_X9_howMany : gdA wsX9_howMany := gd_cons (by decide +kernel) (gd_app (gd_all (ws := wsX9_howMany_o1) (by decide +kernel)) (gd_app Gd_X90 Gd_X9_isMissing))
theorem Gd_X10_hold : gdA wsX10_hold := gd_cons (by decide +kernel) (gd_app (gd_all (ws := wsX10_hold_o1) (by decide +kernel)) (gd_app (gd_app (gd_app Gd_X100 Gd_X30) Gd_X10_isPair) (gd_app (gd_app Gd_X10_isFrom Gd_X10_isDay) Gd_X3_tell)))
theorem inX10_holds_X10 : ∀ w ∈ u_ws RX10 TX10 14, w ∈ wsX10_holds := fun _ h => (List.mem_cons_of_mem _ (List.mem_append_right _ (List.mem_append_left _ (List.mem_append_left _ (List.mem_append_left _ (List.mem_append_left _ h))))))
theorem inX10_holds_X9 : ∀ w ∈ u_ws RX9 TX9 3, w ∈ wsX10_holds := fun _ h => (List.mem_cons_of_mem _ (List.mem_append_right _ (List.mem_append_left _ (List.mem_append_left _ (List.mem_append_left _ (List.mem_append_right _ h))))))
theorem inX10_count_X0 : ∀ w ∈ u_ws RX0 TX0 5, w ∈ wsX10_count := fun _ h => (List.mem_cons_of_mem _ (List.mem_append_right _ (List.mem_append_right _ (List.mem_append_left _ (List.mem_append_left _ (List.mem_append_left _ h))))))
theorem inX10_count_X6 : ∀ w ∈ u_ws RX6 TX6 5, w ∈ wsX10_count := fun _ h => (List.mem_cons_of_mem _ (List.mem_append_right _ (List.mem_append_right _ (List.mem_append_left _ (List.mem_append_left _ (List.mem_append_right _ h))))))
theorem inX10_count_X10 : ∀ w ∈ u_ws RX10 TX10 14, w ∈ wsX10_count := fun _ h => (List.mem_cons_of_mem _ (List.mem_append_right _ (List.mem_append_left _ (List.mem_append_left _ (List.mem_append_left _ (List.mem_append_left _ h))))))
theorem inX10_count_X4 : ∀ w ∈ u_ws RX4 TX4 4, w ∈ wsX10_count := fun _ h => (List.mem_cons_of_mem _ (List.mem_append_right _ (List.mem_append_right _ (List.mem_append_left _ (List.mem_append_right _ h)))))
theorem inX10_count_X3 : ∀ w ∈ u_ws RX3 TX3 9, w ∈ wsX10_count := fun _ h => (List.mem_cons_of_mem _ (List.mem_append_right _ (List.mem_append_left _ (List.mem_append_left _ (List.mem_append_left _ (List.mem_append_right _ h))))))
theorem inX10_count_X2 : ∀ w ∈ u_ws RX2 TX2 15, w ∈ wsX10_count := fun _ h => (List.mem_cons_of_mem _ (List.mem_append_right _ (List.mem_append_left _ (List.mem_append_right _ (List.mem_append_right _ h)))))
theorem inX10_count_X7 : ∀ w ∈ u_ws RX7 TX7 7, w ∈ wsX10_count := fun _ h => (List.mem_cons_of_mem _ (List.mem_append_right _ (List.mem_append_left _ (List.mem_append_right _ (List.mem_append_left _ (List.mem_append_left _ h))))))
theorem inX10_count_X8 : ∀ w ∈ u_ws RX8 TX8 6, w ∈ wsX10_count := fun _ h => (List.mem_cons_of_mem _ (List.mem_append_right _ (List.mem_append_left _ (List.mem_append_right _ (List.mem_append_left _ (List.mem_append_right _ h))))))
theorem inX10_count_X1 : ∀ w ∈ u_ws RX1 TX1 6, w ∈ wsX10_count := fun _ h => (List.mem_cons_of_mem _ (List.mem_append_right _ (List.mem_append_left _ (List.mem_append_left _ (List.mem_append_right _ h)))))
theorem ggX10_holds_X10_isBelow : GoodIn wsX10_holds wsX10_isBelow := goodIn_s (fun _ h => wm_t (wm_r (wm_l (wm_r (wm_l h))))) Gd_X10_isBelow
theorem gX10_holds_X10_isBelow : GoodIn wsX10_holds (va_wsS RX10 85 yX10_isBelow wsX10_isBelow) := goodIn_S (own := RX10) (idx := 85) (y := yX10_isBelow) (wm_t (wm_l (wm_i 3 rfl))) (wm_t (wm_l (wm_i 4 rfl))) (wm_t (wm_l (wm_i 5 rfl))) ggX10_holds_X10_isBelow
theorem ggX10_holds_X10_isFrom : GoodIn wsX10_holds wsX10_isFrom := goodIn_s (fun _ h => wm_t (wm_r (wm_l (wm_r (wm_r h))))) Gd_X10_isFrom
theorem gX10_holds_X10_isFrom : GoodIn wsX10_holds (va_wsS RX10 135 yX10_isFrom wsX10_isFrom) := goodIn_S (own := RX10) (idx := 135) (y := yX10_isFrom) (wm_t (wm_l (wm_i 6 rfl))) (wm_t (wm_l (wm_i 7 rfl))) (wm_t (wm_l (wm_i 5 rfl))) ggX10_holds_X10_isFrom
theorem ggX10_holds_X9_isMissing : GoodIn wsX10_holds wsX9_isMissing := goodIn_s (fun _ h => wm_t (wm_r (wm_r (wm_l (wm_l (wm_l h)))))) Gd_X9_isMissing
theorem gX10_holds_X9_isMissing : GoodIn wsX10_holds (wsV RX10 101 RX9 yX9_isMissing wsX9_isMissing) := goodIn_V (own := RX10) (idx := 101) (C := RX9) (y := yX9_isMissing) (wm_t (wm_l (wm_i 8 rfl))) (wm_t (wm_l (wm_i 9 rfl))) (wm_t (wm_l (wm_i 10 rfl))) (wm_t (wm_l (wm_i 11 rfl))) ggX10_holds_X9_isMissing
theorem ggX10_holds_X10_finding : GoodIn wsX10_holds wsX10_finding := goodIn_s (fun _ h => wm_t (wm_r (wm_r (wm_l (wm_l (wm_r h)))))) Gd_X10_finding
theorem gX10_holds_X10_finding : GoodIn wsX10_holds (wsV RX10 90 RX10 yX10_finding wsX10_finding) := goodIn_V (own := RX10) (idx := 90) (C := RX10) (y := yX10_finding) (wm_t (wm_l (wm_i 12 rfl))) (wm_t (wm_l (wm_i 13 rfl))) (wm_t (wm_l (wm_i 14 rfl))) (wm_t (wm_l (wm_i 5 rfl))) ggX10_holds_X10_finding
theorem ggX10_holds_X9_hasPlaces : GoodIn wsX10_holds wsX9_hasPlaces := goodIn_s (fun _ h => wm_t (wm_r (wm_r (wm_l (wm_r h))))) Gd_X9_hasPlaces
theorem gX10_holds_X9_hasPlaces : GoodIn wsX10_holds (wsV RX10 105 RX9 yX9_hasPlaces wsX9_hasPlaces) := goodIn_V (own := RX10) (idx := 105) (C := RX9) (y := yX9_hasPlaces) (wm_t (wm_l (wm_i 15 rfl))) (wm_t (wm_l (wm_i 16 rfl))) (wm_t (wm_l (wm_i 17 rfl))) (wm_t (wm_l (wm_i 11 rfl))) ggX10_holds_X9_hasPlaces
theorem ggX10_holds_X10_hold : GoodIn wsX10_holds wsX10_hold := goodIn_s (fun _ h => wm_t (wm_r (wm_r (wm_r (wm_l h))))) Gd_X10_hold
theorem gX10_holds_X10_hold : GoodIn wsX10_holds (wsV RX10 150 RX10 yX10_hold wsX10_hold) := goodIn_V (own := RX10) (idx := 150) (C := RX10) (y := yX10_hold) (wm_t (wm_l (wm_i 18 rfl))) (wm_t (wm_l (wm_i 19 rfl))) (wm_t (wm_l (wm_i 20 rfl))) (wm_t (wm_l (wm_i 5 rfl))) ggX10_holds_X10_hold
theorem ggX10_holds_X10_passed : GoodIn wsX10_holds wsX10_passed := goodIn_s (fun _ h => wm_t (wm_r (wm_r (wm_r (wm_r h))))) Gd_X10_passed
theorem gX10_holds_X10_passed : GoodIn wsX10_holds (wsV RX10 98 RX10 yX10_passed wsX10_passed) := goodIn_V (own := RX10) (idx := 98) (C := RX10) (y := yX10_passed) (wm_t (wm_l (wm_i 21 rfl))) (wm_t (wm_l (wm_i 22 rfl))) (wm_t (wm_l (wm_i 23 rfl))) (wm_t (wm_l (wm_i 5 rfl))) ggX10_holds_X10_passed
theorem dX10_holds_all0 : decode cX10_holds 0 = .ok (.iload_n 1, 1) ∧ decode cX10_holds 1 = .ok (.bipush 8, 2) ∧ decode cX10_holds 3 = .ok (.invokestatic 85, 3) ∧ decode cX10_holds 6 = .ok (.ifCond .eq 13, 3) ∧ decode cX10_holds 9 = .ok (.iload_n 3, 1) ∧ decode cX10_holds 10 = .ok (.iconst 1, 1) ∧ decode cX10_holds 11 = .ok (.bipush 15, 2) ∧ decode cX10_holds 13 = .ok (.invokestatic 135, 3) ∧ decode cX10_holds 16 = .ok (.ifCond .ne 6, 3) ∧ decode cX10_holds 19 = .ok (.ldc 89, 2) ∧ decode cX10_holds 21 = .ok (.ireturn, 1) ∧ decode cX10_holds 22 = .ok (.aload_n 0, 1) := by decide +kernel
theorem dX10_holds_0 : decode cX10_holds 0 = .ok (.iload_n 1, 1) := dX10_holds_all0.1
theorem dX10_holds_1 : decode cX10_holds 1 = .ok (.bipush 8, 2) := dX10_holds_all0.2.1
theorem dX10_holds_3 : decode cX10_holds 3 = .ok (.invokestatic 85, 3) := dX10_holds_all0.2.2.1
theorem dX10_holds_6 : decode cX10_holds 6 = .ok (.ifCond .eq 13, 3) := dX10_holds_all0.2.2.2.1
theorem dX10_holds_9 : decode cX10_holds 9 = .ok (.iload_n 3, 1) := dX10_holds_all0.2.2.2.2.1
theorem dX10_holds_10 : decode cX10_holds 10 = .ok (.iconst 1, 1) := dX10_holds_all0.2.2.2.2.2.1
theorem dX10_holds_11 : decode cX10_holds 11 = .ok (.bipush 15, 2) := dX10_holds_all0.2.2.2.2.2.2.1
theorem dX10_holds_13 : decode cX10_holds 13 = .ok (.invokestatic 135, 3) := dX10_holds_all0.2.2.2.2.2.2.2.1
theorem dX10_holds_16 : decode cX10_holds 16 = .ok (.ifCond .ne 6, 3) := dX10_holds_all0.2.2.2.2.2.2.2.2.1
theorem dX10_holds_19 : decode cX10_holds 19 = .ok (.ldc 89, 2) := dX10_holds_all0.2.2.2.2.2.2.2.2.2.1
theorem dX10_holds_21 : decode cX10_holds 21 = .ok (.ireturn, 1) := dX10_holds_all0.2.2.2.2.2.2.2.2.2.2.1
theorem dX10_holds_22 : decode cX10_holds 22 = .ok (.aload_n 0, 1) := dX10_holds_all0.2.2.2.2.2.2.2.2.2.2.2
theorem dX10_holds_all1 : decode cX10_holds 23 = .ok (.getfield 10, 3) ∧ decode cX10_holds 26 = .ok (.iload_n 1, 1) ∧ decode cX10_holds 27 = .ok (.invokevirtual 101, 3) ∧ decode cX10_holds 30 = .ok (.ifCond .eq 9, 3) ∧ decode cX10_holds 33 = .ok (.aload_n 0, 1) ∧ decode cX10_holds 34 = .ok (.iconst 1, 1) ∧ decode cX10_holds 35 = .ok (.invokevirtual 90, 3) ∧ decode cX10_holds 38 = .ok (.ireturn, 1) ∧ decode cX10_holds 39 = .ok (.aload_n 0, 1) ∧ decode cX10_holds 40 = .ok (.getfield 10, 3) ∧ decode cX10_holds 43 = .ok (.iload_n 1, 1) ∧ decode cX10_holds 44 = .ok (.iload_n 2, 1) := by decide +kernel
theorem dX10_holds_23 : decode cX10_holds 23 = .ok (.getfield 10, 3) := dX10_holds_all1.1
theorem dX10_holds_26 : decode cX10_holds 26 = .ok (.iload_n 1, 1) := dX10_holds_all1.2.1
theorem dX10_holds_27 : decode cX10_holds 27 = .ok (.invokevirtual 101, 3) := dX10_holds_all1.2.2.1
theorem dX10_holds_30 : decode cX10_holds 30 = .ok (.ifCond .eq 9, 3) := dX10_holds_all1.2.2.2.1
theorem dX10_holds_33 : decode cX10_holds 33 = .ok (.aload_n 0, 1) := dX10_holds_all1.2.2.2.2.1
theorem dX10_holds_34 : decode cX10_holds 34 = .ok (.iconst 1, 1) := dX10_holds_all1.2.2.2.2.2.1
theorem dX10_holds_35 : decode cX10_holds 35 = .ok (.invokevirtual 90, 3) := dX10_holds_all1.2.2.2.2.2.2.1
theorem dX10_holds_38 : decode cX10_holds 38 = .ok (.ireturn, 1) := dX10_holds_all1.2.2.2.2.2.2.2.1
theorem dX10_holds_39 : decode cX10_holds 39 = .ok (.aload_n 0, 1) := dX10_holds_all1.2.2.2.2.2.2.2.2.1
theorem dX10_holds_40 : decode cX10_holds 40 = .ok (.getfield 10, 3) := dX10_holds_all1.2.2.2.2.2.2.2.2.2.1
theorem dX10_holds_43 : decode cX10_holds 43 = .ok (.iload_n 1, 1) := dX10_holds_all1.2.2.2.2.2.2.2.2.2.2.1
theorem dX10_holds_44 : decode cX10_holds 44 = .ok (.iload_n 2, 1) := dX10_holds_all1.2.2.2.2.2.2.2.2.2.2.2
theorem dX10_holds_all2 : decode cX10_holds 45 = .ok (.iconst 4, 1) ∧ decode cX10_holds 46 = .ok (.iload_n 3, 1) ∧ decode cX10_holds 47 = .ok (.imul, 1) ∧ decode cX10_holds 48 = .ok (.invokevirtual 105, 3) ∧ decode cX10_holds 51 = .ok (.ifCond .ne 9, 3) ∧ decode cX10_holds 54 = .ok (.aload_n 0, 1) ∧ decode cX10_holds 55 = .ok (.iconst 2, 1) ∧ decode cX10_holds 56 = .ok (.invokevirtual 90, 3) ∧ decode cX10_holds 59 = .ok (.ireturn, 1) ∧ decode cX10_holds 60 = .ok (.aload_n 0, 1) ∧ decode cX10_holds 61 = .ok (.getfield 10, 3) ∧ decode cX10_holds 64 = .ok (.getfield 116, 3) := by decide +kernel
theorem dX10_holds_45 : decode cX10_holds 45 = .ok (.iconst 4, 1) := dX10_holds_all2.1
theorem dX10_holds_46 : decode cX10_holds 46 = .ok (.iload_n 3, 1) := dX10_holds_all2.2.1
theorem dX10_holds_47 : decode cX10_holds 47 = .ok (.imul, 1) := dX10_holds_all2.2.2.1
theorem dX10_holds_48 : decode cX10_holds 48 = .ok (.invokevirtual 105, 3) := dX10_holds_all2.2.2.2.1
theorem dX10_holds_51 : decode cX10_holds 51 = .ok (.ifCond .ne 9, 3) := dX10_holds_all2.2.2.2.2.1
theorem dX10_holds_54 : decode cX10_holds 54 = .ok (.aload_n 0, 1) := dX10_holds_all2.2.2.2.2.2.1
theorem dX10_holds_55 : decode cX10_holds 55 = .ok (.iconst 2, 1) := dX10_holds_all2.2.2.2.2.2.2.1
theorem dX10_holds_56 : decode cX10_holds 56 = .ok (.invokevirtual 90, 3) := dX10_holds_all2.2.2.2.2.2.2.2.1
theorem dX10_holds_59 : decode cX10_holds 59 = .ok (.ireturn, 1) := dX10_holds_all2.2.2.2.2.2.2.2.2.1
theorem dX10_holds_60 : decode cX10_holds 60 = .ok (.aload_n 0, 1) := dX10_holds_all2.2.2.2.2.2.2.2.2.2.1
theorem dX10_holds_61 : decode cX10_holds 61 = .ok (.getfield 10, 3) := dX10_holds_all2.2.2.2.2.2.2.2.2.2.2.1
theorem dX10_holds_64 : decode cX10_holds 64 = .ok (.getfield 116, 3) := dX10_holds_all2.2.2.2.2.2.2.2.2.2.2.2
theorem dX10_holds_all3 : decode cX10_holds 67 = .ok (.iload_n 1, 1) ∧ decode cX10_holds 68 = .ok (.aaload, 1) ∧ decode cX10_holds 69 = .ok (.astore 4, 2) ∧ decode cX10_holds 71 = .ok (.iconst 0, 1) ∧ decode cX10_holds 72 = .ok (.istore 5, 2) ∧ decode cX10_holds 74 = .ok (.iconst 0, 1) ∧ decode cX10_holds 75 = .ok (.istore 6, 2) ∧ decode cX10_holds 77 = .ok (.iload 6, 2) ∧ decode cX10_holds 79 = .ok (.iload_n 3, 1) ∧ decode cX10_holds 80 = .ok (.if_icmp .ge 53, 3) ∧ decode cX10_holds 83 = .ok (.iload_n 2, 1) ∧ decode cX10_holds 84 = .ok (.iconst 4, 1) := by decide +kernel
theorem dX10_holds_67 : decode cX10_holds 67 = .ok (.iload_n 1, 1) := dX10_holds_all3.1
theorem dX10_holds_68 : decode cX10_holds 68 = .ok (.aaload, 1) := dX10_holds_all3.2.1
theorem dX10_holds_69 : decode cX10_holds 69 = .ok (.astore 4, 2) := dX10_holds_all3.2.2.1
theorem dX10_holds_71 : decode cX10_holds 71 = .ok (.iconst 0, 1) := dX10_holds_all3.2.2.2.1
theorem dX10_holds_72 : decode cX10_holds 72 = .ok (.istore 5, 2) := dX10_holds_all3.2.2.2.2.1
theorem dX10_holds_74 : decode cX10_holds 74 = .ok (.iconst 0, 1) := dX10_holds_all3.2.2.2.2.2.1
theorem dX10_holds_75 : decode cX10_holds 75 = .ok (.istore 6, 2) := dX10_holds_all3.2.2.2.2.2.2.1
theorem dX10_holds_77 : decode cX10_holds 77 = .ok (.iload 6, 2) := dX10_holds_all3.2.2.2.2.2.2.2.1
theorem dX10_holds_79 : decode cX10_holds 79 = .ok (.iload_n 3, 1) := dX10_holds_all3.2.2.2.2.2.2.2.2.1
theorem dX10_holds_80 : decode cX10_holds 80 = .ok (.if_icmp .ge 53, 3) := dX10_holds_all3.2.2.2.2.2.2.2.2.2.1
theorem dX10_holds_83 : decode cX10_holds 83 = .ok (.iload_n 2, 1) := dX10_holds_all3.2.2.2.2.2.2.2.2.2.2.1
theorem dX10_holds_84 : decode cX10_holds 84 = .ok (.iconst 4, 1) := dX10_holds_all3.2.2.2.2.2.2.2.2.2.2.2
theorem dX10_holds_all4 : decode cX10_holds 85 = .ok (.iload 6, 2) ∧ decode cX10_holds 87 = .ok (.imul, 1) ∧ decode cX10_holds 88 = .ok (.iadd, 1) ∧ decode cX10_holds 89 = .ok (.istore 7, 2) ∧ decode cX10_holds 91 = .ok (.aload_n 0, 1) ∧ decode cX10_holds 92 = .ok (.aload 4, 2) ∧ decode cX10_holds 94 = .ok (.iload 7, 2) ∧ decode cX10_holds 96 = .ok (.iaload, 1) ∧ decode cX10_holds 97 = .ok (.aload 4, 2) ∧ decode cX10_holds 99 = .ok (.iload 7, 2) ∧ decode cX10_holds 101 = .ok (.iconst 1, 1) ∧ decode cX10_holds 102 = .ok (.iadd, 1) := by decide +kernel
theorem dX10_holds_85 : decode cX10_holds 85 = .ok (.iload 6, 2) := dX10_holds_all4.1
theorem dX10_holds_87 : decode cX10_holds 87 = .ok (.imul, 1) := dX10_holds_all4.2.1
theorem dX10_holds_88 : decode cX10_holds 88 = .ok (.iadd, 1) := dX10_holds_all4.2.2.1
theorem dX10_holds_89 : decode cX10_holds 89 = .ok (.istore 7, 2) := dX10_holds_all4.2.2.2.1
theorem dX10_holds_91 : decode cX10_holds 91 = .ok (.aload_n 0, 1) := dX10_holds_all4.2.2.2.2.1
theorem dX10_holds_92 : decode cX10_holds 92 = .ok (.aload 4, 2) := dX10_holds_all4.2.2.2.2.2.1
theorem dX10_holds_94 : decode cX10_holds 94 = .ok (.iload 7, 2) := dX10_holds_all4.2.2.2.2.2.2.1
theorem dX10_holds_96 : decode cX10_holds 96 = .ok (.iaload, 1) := dX10_holds_all4.2.2.2.2.2.2.2.1
theorem dX10_holds_97 : decode cX10_holds 97 = .ok (.aload 4, 2) := dX10_holds_all4.2.2.2.2.2.2.2.2.1
theorem dX10_holds_99 : decode cX10_holds 99 = .ok (.iload 7, 2) := dX10_holds_all4.2.2.2.2.2.2.2.2.2.1
theorem dX10_holds_101 : decode cX10_holds 101 = .ok (.iconst 1, 1) := dX10_holds_all4.2.2.2.2.2.2.2.2.2.2.1
theorem dX10_holds_102 : decode cX10_holds 102 = .ok (.iadd, 1) := dX10_holds_all4.2.2.2.2.2.2.2.2.2.2.2
theorem dX10_holds_all5 : decode cX10_holds 103 = .ok (.iaload, 1) ∧ decode cX10_holds 104 = .ok (.aload 4, 2) ∧ decode cX10_holds 106 = .ok (.iload 7, 2) ∧ decode cX10_holds 108 = .ok (.iconst 2, 1) ∧ decode cX10_holds 109 = .ok (.iadd, 1) ∧ decode cX10_holds 110 = .ok (.iaload, 1) ∧ decode cX10_holds 111 = .ok (.aload 4, 2) ∧ decode cX10_holds 113 = .ok (.iload 7, 2) ∧ decode cX10_holds 115 = .ok (.iconst 3, 1) ∧ decode cX10_holds 116 = .ok (.iadd, 1) ∧ decode cX10_holds 117 = .ok (.iaload, 1) ∧ decode cX10_holds 118 = .ok (.invokevirtual 150, 3) := by decide +kernel
theorem dX10_holds_103 : decode cX10_holds 103 = .ok (.iaload, 1) := dX10_holds_all5.1
theorem dX10_holds_104 : decode cX10_holds 104 = .ok (.aload 4, 2) := dX10_holds_all5.2.1
theorem dX10_holds_106 : decode cX10_holds 106 = .ok (.iload 7, 2) := dX10_holds_all5.2.2.1
theorem dX10_holds_108 : decode cX10_holds 108 = .ok (.iconst 2, 1) := dX10_holds_all5.2.2.2.1
theorem dX10_holds_109 : decode cX10_holds 109 = .ok (.iadd, 1) := dX10_holds_all5.2.2.2.2.1
theorem dX10_holds_110 : decode cX10_holds 110 = .ok (.iaload, 1) := dX10_holds_all5.2.2.2.2.2.1
theorem dX10_holds_111 : decode cX10_holds 111 = .ok (.aload 4, 2) := dX10_holds_all5.2.2.2.2.2.2.1
theorem dX10_holds_113 : decode cX10_holds 113 = .ok (.iload 7, 2) := dX10_holds_all5.2.2.2.2.2.2.2.1
theorem dX10_holds_115 : decode cX10_holds 115 = .ok (.iconst 3, 1) := dX10_holds_all5.2.2.2.2.2.2.2.2.1
theorem dX10_holds_116 : decode cX10_holds 116 = .ok (.iadd, 1) := dX10_holds_all5.2.2.2.2.2.2.2.2.2.1
theorem dX10_holds_117 : decode cX10_holds 117 = .ok (.iaload, 1) := dX10_holds_all5.2.2.2.2.2.2.2.2.2.2.1
theorem dX10_holds_118 : decode cX10_holds 118 = .ok (.invokevirtual 150, 3) := dX10_holds_all5.2.2.2.2.2.2.2.2.2.2.2
theorem dX10_holds_all6 : decode cX10_holds 121 = .ok (.ifCond .le 6, 3) ∧ decode cX10_holds 124 = .ok (.iinc 5 1, 3) ∧ decode cX10_holds 127 = .ok (.iinc 6 1, 3) ∧ decode cX10_holds 130 = .ok (.goto (-53), 3) ∧ decode cX10_holds 133 = .ok (.aload_n 0, 1) ∧ decode cX10_holds 134 = .ok (.iload 5, 2) ∧ decode cX10_holds 136 = .ok (.invokevirtual 98, 3) ∧ decode cX10_holds 139 = .ok (.ireturn, 1) := by decide +kernel
theorem dX10_holds_121 : decode cX10_holds 121 = .ok (.ifCond .le 6, 3) := dX10_holds_all6.1
theorem dX10_holds_124 : decode cX10_holds 124 = .ok (.iinc 5 1, 3) := dX10_holds_all6.2.1
theorem dX10_holds_127 : decode cX10_holds 127 = .ok (.iinc 6 1, 3) := dX10_holds_all6.2.2.1
theorem dX10_holds_130 : decode cX10_holds 130 = .ok (.goto (-53), 3) := dX10_holds_all6.2.2.2.1
theorem dX10_holds_133 : decode cX10_holds 133 = .ok (.aload_n 0, 1) := dX10_holds_all6.2.2.2.2.1
theorem dX10_holds_134 : decode cX10_holds 134 = .ok (.iload 5, 2) := dX10_holds_all6.2.2.2.2.2.1
theorem dX10_holds_136 : decode cX10_holds 136 = .ok (.invokevirtual 98, 3) := dX10_holds_all6.2.2.2.2.2.2.1
theorem dX10_holds_139 : decode cX10_holds 139 = .ok (.ireturn, 1) := dX10_holds_all6.2.2.2.2.2.2.2
theorem ggX10_count_X9_howMany : GoodIn wsX10_count wsX9_howMany := goodIn_s (fun _ h => wm_t (wm_r (wm_r (wm_r (wm_r h))))) Gd_X9_howMany
theorem gX10_count_X9_howMany : GoodIn wsX10_count (wsV RX10 316 RX9 yX9_howMany wsX9_howMany) := goodIn_V (own := RX10) (idx := 316) (C := RX9) (y := yX9_howMany) (wm_t (wm_l (wm_i 19 rfl))) (wm_t (wm_l (wm_i 20 rfl))) (wm_t (wm_l (wm_i 21 rfl))) (wm_t (wm_l (wm_i 22 rfl))) ggX10_count_X9_howMany
theorem dX10_count_all0 : decode cX10_count 0 = .ok (.iload_n 1, 1) ∧ decode cX10_count 1 = .ok (.tableswitch 135 0 9 #[55, 63, 71, 79, 87, 95, 103, 111, 119, 127], 55) ∧ decode cX10_count 56 = .ok (.aload_n 0, 1) ∧ decode cX10_count 57 = .ok (.getfield 10, 3) ∧ decode cX10_count 60 = .ok (.invokevirtual 316, 3) ∧ decode cX10_count 63 = .ok (.ireturn, 1) ∧ decode cX10_count 64 = .ok (.aload_n 0, 1) ∧ decode cX10_count 65 = .ok (.getfield 19, 3) ∧ decode cX10_count 68 = .ok (.getfield 141, 3) ∧ decode cX10_count 71 = .ok (.ireturn, 1) ∧ decode cX10_count 72 = .ok (.aload_n 0, 1) ∧ decode cX10_count 73 = .ok (.getfield 26, 3) := by decide +kernel
theorem dX10_count_0 : decode cX10_count 0 = .ok (.iload_n 1, 1) := dX10_count_all0.1
theorem dX10_count_1 : decode cX10_count 1 = .ok (.tableswitch 135 0 9 #[55, 63, 71, 79, 87, 95, 103, 111, 119, 127], 55) := dX10_count_all0.2.1
theorem dX10_count_56 : decode cX10_count 56 = .ok (.aload_n 0, 1) := dX10_count_all0.2.2.1
theorem dX10_count_57 : decode cX10_count 57 = .ok (.getfield 10, 3) := dX10_count_all0.2.2.2.1
theorem dX10_count_60 : decode cX10_count 60 = .ok (.invokevirtual 316, 3) := dX10_count_all0.2.2.2.2.1
theorem dX10_count_63 : decode cX10_count 63 = .ok (.ireturn, 1) := dX10_count_all0.2.2.2.2.2.1
theorem dX10_count_64 : decode cX10_count 64 = .ok (.aload_n 0, 1) := dX10_count_all0.2.2.2.2.2.2.1
theorem dX10_count_65 : decode cX10_count 65 = .ok (.getfield 19, 3) := dX10_count_all0.2.2.2.2.2.2.2.1
theorem dX10_count_68 : decode cX10_count 68 = .ok (.getfield 141, 3) := dX10_count_all0.2.2.2.2.2.2.2.2.1
theorem dX10_count_71 : decode cX10_count 71 = .ok (.ireturn, 1) := dX10_count_all0.2.2.2.2.2.2.2.2.2.1
theorem dX10_count_72 : decode cX10_count 72 = .ok (.aload_n 0, 1) := dX10_count_all0.2.2.2.2.2.2.2.2.2.2.1
theorem dX10_count_73 : decode cX10_count 73 = .ok (.getfield 26, 3) := dX10_count_all0.2.2.2.2.2.2.2.2.2.2.2
theorem dX10_count_all1 : decode cX10_count 76 = .ok (.getfield 177, 3) ∧ decode cX10_count 79 = .ok (.ireturn, 1) ∧ decode cX10_count 80 = .ok (.aload_n 0, 1) ∧ decode cX10_count 81 = .ok (.getfield 33, 3) ∧ decode cX10_count 84 = .ok (.getfield 186, 3) ∧ decode cX10_count 87 = .ok (.ireturn, 1) ∧ decode cX10_count 88 = .ok (.aload_n 0, 1) ∧ decode cX10_count 89 = .ok (.getfield 40, 3) ∧ decode cX10_count 92 = .ok (.getfield 199, 3) ∧ decode cX10_count 95 = .ok (.ireturn, 1) ∧ decode cX10_count 96 = .ok (.aload_n 0, 1) ∧ decode cX10_count 97 = .ok (.getfield 47, 3) := by decide +kernel
theorem dX10_count_76 : decode cX10_count 76 = .ok (.getfield 177, 3) := dX10_count_all1.1
theorem dX10_count_79 : decode cX10_count 79 = .ok (.ireturn, 1) := dX10_count_all1.2.1
theorem dX10_count_80 : decode cX10_count 80 = .ok (.aload_n 0, 1) := dX10_count_all1.2.2.1
theorem dX10_count_81 : decode cX10_count 81 = .ok (.getfield 33, 3) := dX10_count_all1.2.2.2.1
theorem dX10_count_84 : decode cX10_count 84 = .ok (.getfield 186, 3) := dX10_count_all1.2.2.2.2.1
theorem dX10_count_87 : decode cX10_count 87 = .ok (.ireturn, 1) := dX10_count_all1.2.2.2.2.2.1
theorem dX10_count_88 : decode cX10_count 88 = .ok (.aload_n 0, 1) := dX10_count_all1.2.2.2.2.2.2.1
theorem dX10_count_89 : decode cX10_count 89 = .ok (.getfield 40, 3) := dX10_count_all1.2.2.2.2.2.2.2.1
theorem dX10_count_92 : decode cX10_count 92 = .ok (.getfield 199, 3) := dX10_count_all1.2.2.2.2.2.2.2.2.1
theorem dX10_count_95 : decode cX10_count 95 = .ok (.ireturn, 1) := dX10_count_all1.2.2.2.2.2.2.2.2.2.1
theorem dX10_count_96 : decode cX10_count 96 = .ok (.aload_n 0, 1) := dX10_count_all1.2.2.2.2.2.2.2.2.2.2.1
theorem dX10_count_97 : decode cX10_count 97 = .ok (.getfield 47, 3) := dX10_count_all1.2.2.2.2.2.2.2.2.2.2.2
theorem dX10_count_all2 : decode cX10_count 100 = .ok (.getfield 319, 3) ∧ decode cX10_count 103 = .ok (.ireturn, 1) ∧ decode cX10_count 104 = .ok (.aload_n 0, 1) ∧ decode cX10_count 105 = .ok (.getfield 54, 3) ∧ decode cX10_count 108 = .ok (.getfield 227, 3) ∧ decode cX10_count 111 = .ok (.ireturn, 1) ∧ decode cX10_count 112 = .ok (.aload_n 0, 1) ∧ decode cX10_count 113 = .ok (.getfield 61, 3) ∧ decode cX10_count 116 = .ok (.getfield 287, 3) ∧ decode cX10_count 119 = .ok (.ireturn, 1) ∧ decode cX10_count 120 = .ok (.aload_n 0, 1) ∧ decode cX10_count 121 = .ok (.getfield 68, 3) := by decide +kernel
theorem dX10_count_100 : decode cX10_count 100 = .ok (.getfield 319, 3) := dX10_count_all2.1
theorem dX10_count_103 : decode cX10_count 103 = .ok (.ireturn, 1) := dX10_count_all2.2.1
theorem dX10_count_104 : decode cX10_count 104 = .ok (.aload_n 0, 1) := dX10_count_all2.2.2.1
theorem dX10_count_105 : decode cX10_count 105 = .ok (.getfield 54, 3) := dX10_count_all2.2.2.2.1
theorem dX10_count_108 : decode cX10_count 108 = .ok (.getfield 227, 3) := dX10_count_all2.2.2.2.2.1
theorem dX10_count_111 : decode cX10_count 111 = .ok (.ireturn, 1) := dX10_count_all2.2.2.2.2.2.1
theorem dX10_count_112 : decode cX10_count 112 = .ok (.aload_n 0, 1) := dX10_count_all2.2.2.2.2.2.2.1
theorem dX10_count_113 : decode cX10_count 113 = .ok (.getfield 61, 3) := dX10_count_all2.2.2.2.2.2.2.2.1
theorem dX10_count_116 : decode cX10_count 116 = .ok (.getfield 287, 3) := dX10_count_all2.2.2.2.2.2.2.2.2.1
theorem dX10_count_119 : decode cX10_count 119 = .ok (.ireturn, 1) := dX10_count_all2.2.2.2.2.2.2.2.2.2.1
theorem dX10_count_120 : decode cX10_count 120 = .ok (.aload_n 0, 1) := dX10_count_all2.2.2.2.2.2.2.2.2.2.2.1
theorem dX10_count_121 : decode cX10_count 121 = .ok (.getfield 68, 3) := dX10_count_all2.2.2.2.2.2.2.2.2.2.2.2
theorem dX10_count_all3 : decode cX10_count 124 = .ok (.getfield 292, 3) ∧ decode cX10_count 127 = .ok (.ireturn, 1) ∧ decode cX10_count 128 = .ok (.aload_n 0, 1) ∧ decode cX10_count 129 = .ok (.getfield 47, 3) ∧ decode cX10_count 132 = .ok (.getfield 213, 3) ∧ decode cX10_count 135 = .ok (.ireturn, 1) ∧ decode cX10_count 136 = .ok (.ldc 89, 2) ∧ decode cX10_count 138 = .ok (.ireturn, 1) := by decide +kernel
theorem dX10_count_124 : decode cX10_count 124 = .ok (.getfield 292, 3) := dX10_count_all3.1
theorem dX10_count_127 : decode cX10_count 127 = .ok (.ireturn, 1) := dX10_count_all3.2.1
theorem dX10_count_128 : decode cX10_count 128 = .ok (.aload_n 0, 1) := dX10_count_all3.2.2.1
theorem dX10_count_129 : decode cX10_count 129 = .ok (.getfield 47, 3) := dX10_count_all3.2.2.2.1
theorem dX10_count_132 : decode cX10_count 132 = .ok (.getfield 213, 3) := dX10_count_all3.2.2.2.2.1
theorem dX10_count_135 : decode cX10_count 135 = .ok (.ireturn, 1) := dX10_count_all3.2.2.2.2.2.1
theorem dX10_count_136 : decode cX10_count 136 = .ok (.ldc 89, 2) := dX10_count_all3.2.2.2.2.2.2.1
theorem dX10_count_138 : decode cX10_count 138 = .ok (.ireturn, 1) := dX10_count_all3.2.2.2.2.2.2.2

theorem sp_hold_ok {hn : Int32} {ho hc hp hs : Nat → Int32} {o k q d r hn' : Int32} {ho' hc' hp' hs' : Nat → Int32} (e : (r, hn', ho', hc', hp', hs') = sp_hold hn ho hc hp hs o k q d) (h1 : 0 ≤ hn.toInt) (h2 : hn.toInt ≤ 40) (h3 : okH hn ho hc) : 0 ≤ hn'.toInt ∧ hn'.toInt ≤ 40 ∧ okH hn' ho' hc' := by
  unfold sp_hold at e
  have ch := i_cl h1
  split at e
  · split at e
    · simp only [Prod.mk.injEq] at e
      obtain ⟨-, rfl, rfl, rfl, -, -⟩ := e
      exact ⟨h1, h2, h3⟩
    · rename_i g1 g2
      have k1 : (1 : Int32).toInt = 1 := rfl
      have t1 : (hn + 1).toInt = hn.toInt + 1 := by rw [i_add (by omega) (by omega), k1]
      simp only [Prod.mk.injEq] at e
      obtain ⟨-, rfl, rfl, rfl, -, -⟩ := e
      refine ⟨by omega, by omega, fun j hj => ?_⟩
      by_cases hk : j = hn.toNatClampNeg
      · subst hk; rw [upd_s, upd_s]; omega
      · rw [upd_n _ _ hk, upd_n _ _ hk]; exact h3 j (by omega)
  · simp only [Prod.mk.injEq] at e
    obtain ⟨-, rfl, rfl, rfl, -, -⟩ := e
    exact ⟨h1, h2, h3⟩


theorem sp_hold_pos {hn : Int32} {ho hc hp hs : Nat → Int32} {o k q d r hn' : Int32} {ho' hc' hp' hs' : Nat → Int32} (e : (r, hn', ho', hc', hp', hs') = sp_hold hn ho hc hp hs o k q d) (h1 : 0 ≤ hn.toInt) (h2 : hn.toInt ≤ 40) : r.toInt < 0 ∨ 0 < r.toInt := by
  unfold sp_hold at e
  split at e
  · split at e
    · simp only [Prod.mk.injEq] at e
      obtain ⟨rfl, -⟩ := e
      exact Or.inl (by decide)
    · rename_i g1 g2
      have k1 : (1 : Int32).toInt = 1 := rfl
      have t1 : (hn + 1).toInt = hn.toInt + 1 := by rw [i_add (by omega) (by omega), k1]
      simp only [Prod.mk.injEq] at e
      obtain ⟨rfl, -⟩ := e
      exact Or.inr (by omega)
  · simp only [Prod.mk.injEq] at e
    obtain ⟨rfl, -⟩ := e
    exact Or.inl (by decide)
/-- n holdings told, one after the other, out of the items it from place i on -/
def foldH (it : Nat → Int32) (i : Nat) (hn : Int32) (ho hc hp hs : Nat → Int32) : Nat → Int32 × Int32 × (Nat → Int32) × (Nat → Int32) × (Nat → Int32) × (Nat → Int32)
  | 0 => (0, hn, ho, hc, hp, hs)
  | k + 1 => (if 0 < (sp_hold (foldH it i hn ho hc hp hs k).2.1 (foldH it i hn ho hc hp hs k).2.2.1 (foldH it i hn ho hc hp hs k).2.2.2.1 (foldH it i hn ho hc hp hs k).2.2.2.2.1 (foldH it i hn ho hc hp hs k).2.2.2.2.2 (it (i + 4 * k)) (it (i + 4 * k + 1)) (it (i + 4 * k + 2)) (it (i + 4 * k + 3))).1.toInt then (foldH it i hn ho hc hp hs k).1 + 1 else (foldH it i hn ho hc hp hs k).1, (sp_hold (foldH it i hn ho hc hp hs k).2.1 (foldH it i hn ho hc hp hs k).2.2.1 (foldH it i hn ho hc hp hs k).2.2.2.1 (foldH it i hn ho hc hp hs k).2.2.2.2.1 (foldH it i hn ho hc hp hs k).2.2.2.2.2 (it (i + 4 * k)) (it (i + 4 * k + 1)) (it (i + 4 * k + 2)) (it (i + 4 * k + 3))).2)
theorem foldH_s {it : Nat → Int32} {i k : Nat} {hn c hnq r hn' x0 x1 x2 x3 : Int32} {ho hc hp hs hoq hcq hpq hsq ho' hc' hp' hs' : Nat → Int32} (h : (c, hnq, hoq, hcq, hpq, hsq) = foldH it i hn ho hc hp hs k) (e : (r, hn', ho', hc', hp', hs') = sp_hold hnq hoq hcq hpq hsq x0 x1 x2 x3) (e0 : x0 = it (i + 4 * k)) (e1 : x1 = it (i + 4 * k + 1)) (e2 : x2 = it (i + 4 * k + 2)) (e3 : x3 = it (i + 4 * k + 3)) (c' : Int32) (hc9 : c' = if 0 < r.toInt then c + 1 else c) : (c', hn', ho', hc', hp', hs') = foldH it i hn ho hc hp hs (k + 1) := by
  subst e0 e1 e2 e3
  show _ = (_, _)
  rw [← h, ← e, hc9]
theorem foldH_c {it jt : Nat → Int32} {i j : Nat} {hn : Int32} {ho hc hp hs : Nat → Int32} (n : Nat) (h : ∀ k, k < 4 * n → it (i + k) = jt (j + k)) : foldH it i hn ho hc hp hs n = foldH jt j hn ho hc hp hs n := by
  induction n with
  | zero => rfl
  | succ n ih =>
    have h0 := h (4 * n) (by omega)
    have h1 := h (4 * n + 1) (by omega)
    have h2 := h (4 * n + 2) (by omega)
    have h3 := h (4 * n + 3) (by omega)
    show (_, _) = (_, _)
    rw [ih (fun k hk => h k (by omega)), h0, show i + 4 * n + 1 = i + (4 * n + 1) by omega, show i + 4 * n + 2 = i + (4 * n + 2) by omega, show i + 4 * n + 3 = i + (4 * n + 3) by omega, h1, h2, h3]
    rfl
def sp_holds (lf : Int32) (rs : Nat → Nat → Int32) (ss : Nat → Int32) (hn : Int32) (ho hc hp hs : Nat → Int32) (a i n : Int32) : Int32 × Int32 × Int32 × (Nat → Int32) × (Nat → Int32) × (Nat → Int32) × (Nat → Int32) :=
  if 0 ≤ a.toInt ∧ a.toInt < 8 ∧ 1 ≤ n.toInt ∧ n.toInt ≤ 15 then
    (if (ss a.toNatClampNeg).toInt = -1 then (-1000011, 1, hn, ho, hc, hp, hs)
     else if 0 ≤ i.toInt ∧ i.toInt + 4 * n.toInt ≤ (ss a.toNatClampNeg).toInt then ((foldH (rs a.toNatClampNeg) i.toNatClampNeg hn ho hc hp hs n.toNatClampNeg).1, 0, (foldH (rs a.toNatClampNeg) i.toNatClampNeg hn ho hc hp hs n.toNatClampNeg).2)
     else (-1000012, 2, hn, ho, hc, hp, hs))
  else (-1000001, lf, hn, ho, hc, hp, hs)

set_option maxHeartbeats 4000000 in
set_option maxRecDepth 100000 in
theorem ct_X10_holds (l : Launch) (D : va_G) (cI cY cJ cQ : ClassId) (sz : Nat) (ad : Nat → Nat) (rw : Nat → Nat) (rs : Nat → Nat → Int32) (tn td lf hn : Int32) (sl ss ho hc hp hs : Nat → Int32) (a : Int32) (i : Int32) (n : Int32)  (h1 : 0 ≤ hn.toInt) (h2 : hn.toInt ≤ 40) (h3 : okH hn ho hc) (h4 : okS ss)  : Met l yX10_holds wsX10_holds ({ frames := 4, cells := 0, slots := 0, locals := 86 }) (cPre D (ty4 cI cY cJ cQ) [(aI cI (rw 0) 60 (rs 0)), (aI cI (rw 1) 60 (rs 1)), (aI cI (rw 2) 60 (rs 2)), (aI cI (rw 3) 60 (rs 3)), (aI cI (rw 4) 60 (rs 4)), (aI cI (rw 5) 60 (rs 5)), (aI cI (rw 6) 60 (rs 6)), (aI cI (rw 7) 60 (rs 7)), (oC10 ad tn td lf), (oC9 ad ), ((ad 12), .inl (cQ, 8, .inr (.inr (.inr (.inr (fun i => if i < 8 then some (rw i) else none)))))), (aI cI (ad 13) 8 sl), (aI cI (ad 14) 8 ss), (oC3 ad hn), (aI cI (ad 23) 40 ho), (aI cI (ad 24) 40 hc), (aI cI (ad 25) 40 hp), (aI cI (ad 26) 40 hs)] sz [.ref (ad 0), .int a, .int i, .int n]) (va_Qi (fun (r : Int32) (u : Int32 × Int32 × (Nat → Int32) × (Nat → Int32) × (Nat → Int32) × (Nat → Int32)) => (r, u) = sp_holds lf rs ss hn ho hc hp hs a i n ∧ 0 ≤ u.2.1.toInt ∧ u.2.1.toInt ≤ 40 ∧ okH u.2.1 u.2.2.1 u.2.2.2.1) (cB D (ty4 cI cY cJ cQ) (fun (u : Int32 × Int32 × (Nat → Int32) × (Nat → Int32) × (Nat → Int32) × (Nat → Int32)) => [(aI cI (rw 0) 60 (rs 0)), (aI cI (rw 1) 60 (rs 1)), (aI cI (rw 2) 60 (rs 2)), (aI cI (rw 3) 60 (rs 3)), (aI cI (rw 4) 60 (rs 4)), (aI cI (rw 5) 60 (rs 5)), (aI cI (rw 6) 60 (rs 6)), (aI cI (rw 7) 60 (rs 7)), (oC10 ad tn td u.1), (oC9 ad ), ((ad 12), .inl (cQ, 8, .inr (.inr (.inr (.inr (fun i => if i < 8 then some (rw i) else none)))))), (aI cI (ad 13) 8 sl), (aI cI (ad 14) 8 ss), (oC3 ad u.2.1), (aI cI (ad 23) 40 u.2.2.1), (aI cI (ad 24) 40 u.2.2.2.1), (aI cI (ad 25) 40 u.2.2.2.2.1), (aI cI (ad 26) 40 u.2.2.2.2.2)]) (va_A [(aI cI (rw 0) 60 (rs 0)), (aI cI (rw 1) 60 (rs 1)), (aI cI (rw 2) 60 (rs 2)), (aI cI (rw 3) 60 (rs 3)), (aI cI (rw 4) 60 (rs 4)), (aI cI (rw 5) 60 (rs 5)), (aI cI (rw 6) 60 (rs 6)), (aI cI (rw 7) 60 (rs 7)), (oC10 ad tn td lf), (oC9 ad ), ((ad 12), .inl (cQ, 8, .inr (.inr (.inr (.inr (fun i => if i < 8 then some (rw i) else none)))))), (aI cI (ad 13) 8 sl), (aI cI (ad 14) 8 ss), (oC3 ad hn), (aI cI (ad 23) 40 ho), (aI cI (ad 24) 40 hc), (aI cI (ad 25) 40 hp), (aI cI (ad 26) 40 hs)] sz)) (va_A [(aI cI (rw 0) 60 (rs 0)), (aI cI (rw 1) 60 (rs 1)), (aI cI (rw 2) 60 (rs 2)), (aI cI (rw 3) 60 (rs 3)), (aI cI (rw 4) 60 (rs 4)), (aI cI (rw 5) 60 (rs 5)), (aI cI (rw 6) 60 (rs 6)), (aI cI (rw 7) 60 (rs 7)), (oC10 ad tn td lf), (oC9 ad ), ((ad 12), .inl (cQ, 8, .inr (.inr (.inr (.inr (fun i => if i < 8 then some (rw i) else none)))))), (aI cI (ad 13) 8 sl), (aI cI (ad 14) 8 ss), (oC3 ad hn), (aI cI (ad 23) 40 ho), (aI cI (ad 24) 40 hc), (aI cI (ad 25) 40 hp), (aI cI (ad 26) 40 hs)] sz)) 0 0 (va_A [(aI cI (rw 0) 60 (rs 0)), (aI cI (rw 1) 60 (rs 1)), (aI cI (rw 2) 60 (rs 2)), (aI cI (rw 3) 60 (rs 3)), (aI cI (rw 4) 60 (rs 4)), (aI cI (rw 5) 60 (rs 5)), (aI cI (rw 6) 60 (rs 6)), (aI cI (rw 7) 60 (rs 7)), (oC10 ad tn td lf), (oC9 ad ), ((ad 12), .inl (cQ, 8, .inr (.inr (.inr (.inr (fun i => if i < 8 then some (rw i) else none)))))), (aI cI (ad 13) 8 sl), (aI cI (ad 14) 8 ss), (oC3 ad hn), (aI cI (ad 23) 40 ho), (aI cI (ad 24) 40 hc), (aI cI (ad 25) 40 hp), (aI cI (ad 26) 40 hs)] sz) := by
  refine Met.ofW (cc := cX10_holds) (maxL := 8) (ret := (some .int)) (by decide) rfl ?_
  intro p e s m args below meth c s₁ B hml hv
  obtain ⟨rfl, hsz, hP, hK, hD0, hN⟩ := hv
  have hx := B.exec
  have hb := B.bytes
  have hr := B.returns
  have hts := atoms_spec (ws := wsX10_holds) B.pre
  have hown : s.vm.findClass RX10 = some m.cls := findClass_of_methodNamed B.named
  have hlocks := B.notSynchronized
  subst hsz
  have hD := hD0.self (sz := s.heap.size)
  generalize hAe : va_A [(aI cI (rw 0) 60 (rs 0)), (aI cI (rw 1) 60 (rs 1)), (aI cI (rw 2) 60 (rs 2)), (aI cI (rw 3) 60 (rs 3)), (aI cI (rw 4) 60 (rs 4)), (aI cI (rw 5) 60 (rs 5)), (aI cI (rw 6) 60 (rs 6)), (aI cI (rw 7) 60 (rs 7)), (oC10 ad tn td lf), (oC9 ad ), ((ad 12), .inl (cQ, 8, .inr (.inr (.inr (.inr (fun i => if i < 8 then some (rw i) else none)))))), (aI cI (ad 13) 8 sl), (aI cI (ad 14) 8 ss), (oC3 ad hn), (aI cI (ad 23) 40 ho), (aI cI (ad 24) 40 hc), (aI cI (ad 25) 40 hp), (aI cI (ad 26) 40 hs)] s.heap.size = A at hD ⊢
  have hA : ∀ q : Nat, s.heap.size ≤ q → A q := fun q h => by rw [← hAe]; exact Or.inr h
  have hS : va_S A s.heap s.heap [] := va_S.rf
  have hP : va_P D vwCl [(aI cI (rw 0) 60 (rs 0)), (aI cI (rw 1) 60 (rs 1)), (aI cI (rw 2) 60 (rs 2)), (aI cI (rw 3) 60 (rs 3)), (aI cI (rw 4) 60 (rs 4)), (aI cI (rw 5) 60 (rs 5)), (aI cI (rw 6) 60 (rs 6)), (aI cI (rw 7) 60 (rs 7)), (oC10 ad tn td lf), (oC9 ad ), ((ad 12), .inl (cQ, 8, .inr (.inr (.inr (.inr (fun i => if i < 8 then some (rw i) else none)))))), (aI cI (ad 13) 8 sl), (aI cI (ad 14) 8 ss), (oC3 ad hn), (aI cI (ad 23) 40 ho), (aI cI (ad 24) 40 hc), (aI cI (ad 25) 40 hp), (aI cI (ad 26) 40 hs)] s.heap := hP
  have hl := lv_entry ([.ref (ad 0), .int a, .int i, .int n]) (n := 8) (Nat.le_of_ble_eq_true rfl)
  rw [lg_entry_eq]
  generalize (lg_sl ([.ref (ad 0), .int a, .int i, .int n]) ++ List.replicate (8 - (lg_sl ([.ref (ad 0), .int a, .int i, .int n])).length) Slot.unset).toArray = ls at hl ⊢
  have hl : lv_has ls 8 [(0, .ref (ad 0)), (1, .int a), (2, .int i), (3, .int n)] := hl
  have k0 : (0 : Int32).toInt = 0 := by decide
  have k1 : (1 : Int32).toInt = 1 := by decide
  have k2 : (2 : Int32).toInt = 2 := by decide
  have k3 : (3 : Int32).toInt = 3 := by decide
  have k4 : (4 : Int32).toInt = 4 := by decide
  have k8 : (8 : Int32).toInt = 8 := by decide
  have k15 : (15 : Int32).toInt = 15 := by decide
  refine lv_iload_n hx hb dX10_holds_0 rfl (lv_at hl 1 rfl) ?_
  refine lv_bipush (v := 8) hx hb dX10_holds_1 (by decide) ?_
  refine st_i1 (va_runS (As := [.int a, .int 8]) (rest := []) ⟨hx, hb, hml, hown, hts⟩ (ct_X10_isBelow l D cI cY cJ cQ _ a (8 : Int32)) (va_cwS 2 hts gX10_holds_X10_isBelow rfl rfl rfl cdX10_isBelow ⟨Nat.le_of_ble_eq_true rfl, Nat.le_of_ble_eq_true rfl⟩) (cPreS (hP.sub [] rfl) hK (hD.sub [] (by decide +kernel) rfl) hN) rfl rfl hl.1 rfl (lv_room (Nat.le_of_ble_eq_true rfl)) dX10_holds_3 ⟨Nat.le_of_ble_eq_true rfl, Nat.le_of_ble_eq_true rfl⟩) hP hD hS hA [] rfl (fun _ => rfl) (fun r3 u1 H locs hw2 => ?_)
  clear hP hS
  intro hP hS
  replace hw2 : r3 = if 0 ≤ a.toInt ∧ a.toInt < (8 : Int32).toInt then 1 else 0 := hw2
  refine lv_if_eq (tgt := 19) hx hb dX10_holds_6 (by decide) (fun c4 => ?_) (fun c4 => ?_)
  · skip
    have f5 := bo_f hw2 c4
    refine lv_ldc hx hb hown (hts (Cond.constant RX10 89 (-1000001)) (wm_t (wm_l (wm_i 0 rfl)))) dX10_holds_19 ?_
    have hP9 := hP
    have hD9 := hD
    exact W.iret (v := (-1000001)) hx hb hr (fun t ht hW => ⟨⟨(-1000001), (lf, hn, ho, hc, hp, hs), rfl, ⟨(by unfold sp_holds; (repeat' split) <;> first | rfl | (exfalso; omega)), by omega, by omega, by assumption⟩, by rw [ht]; exact hP9, va_K.moved hW.alike hK, hD9⟩, hS.F ht⟩) hS.2.2 dX10_holds_21
  · skip
    have f6 := bo_t hw2 c4
    refine lv_iload_n hx hb dX10_holds_9 rfl (lv_at hl 3 rfl) ?_
    refine lv_iconst (v := 1) hx hb dX10_holds_10 (by decide) ?_
    refine lv_bipush (v := 15) hx hb dX10_holds_11 (by decide) ?_
    refine st_i1 (va_runS (As := [.int n, .int 1, .int 15]) (rest := []) ⟨hx, hb, hml, hown, hts⟩ (ct_X10_isFrom l D cI cY cJ cQ _ n (1 : Int32) (15 : Int32)) (va_cwS 3 hts gX10_holds_X10_isFrom rfl rfl rfl cdX10_isFrom ⟨Nat.le_of_ble_eq_true rfl, Nat.le_of_ble_eq_true rfl⟩) (cPreS (hP.sub [] rfl) hK (hD.sub [] (by decide +kernel) rfl) hN) rfl rfl hl.1 rfl (lv_room (Nat.le_of_ble_eq_true rfl)) dX10_holds_13 ⟨Nat.le_of_ble_eq_true rfl, Nat.le_of_ble_eq_true rfl⟩) hP hD hS hA [] rfl (fun _ => rfl) (fun r9 u7 H locs hw8 => ?_)
    clear hP hS
    intro hP hS
    replace hw8 : r9 = if (1 : Int32).toInt ≤ n.toInt ∧ n.toInt ≤ (15 : Int32).toInt then 1 else 0 := hw8
    refine lv_if_ne (tgt := 22) hx hb dX10_holds_16 (by decide) (fun c10 => ?_) (fun c10 => ?_)
    · skip
      have f11 := bo_t hw8 c10
      refine lv_aload_n hx hb dX10_holds_22 rfl (lv_at hl 0 rfl) ?_
      refine va_get (D := D) (ci := 10) (v := .ref (ad 1)) (C := RX10) (T := TX10) (N := 14) hx hb hts inX10_holds_X10 hown hK hP 8 rfl rfl 0 (by decide) (hts (Cond.fieldLink RX10 10 "PortRooms" "sheets" "LPortRooms$Sheets;") (wm_t (wm_l (wm_i 1 rfl)))) (fun _ h9 => h9) rfl dX10_holds_23 ?_
      refine lv_iload_n hx hb dX10_holds_26 rfl (lv_at hl 1 rfl) ?_
      refine st_i1 (va_runV (C := RX9) (As := [.int a]) (rest := []) ⟨hx, hb, hml, hown, hts⟩ (ct_X9_isMissing l D cI cY cJ cQ _ ad ss a (by omega) (by omega)) (cwV 1 hts gX10_holds_X9_isMissing rfl rfl rfl ⟨rfl, cdX9_isMissing⟩ ⟨Nat.le_of_ble_eq_true rfl, Nat.le_of_ble_eq_true rfl⟩) (cPreV (hP.sub [9, 12] rfl) hK (hD.sub [9, 12] (by decide +kernel) rfl) hN (ci := 9) (q0 := 0) rfl rfl) rfl rfl hl.1 rfl (lv_room (Nat.le_of_ble_eq_true rfl)) dX10_holds_27 ⟨Nat.le_of_ble_eq_true rfl, Nat.le_of_ble_eq_true rfl⟩) hP hD hS hA [9, 12] rfl (fun _ => rfl) (fun r14 u12 H locs hw13 => ?_)
      clear hP hS
      intro hP hS
      replace hw13 : r14 = if (ss a.toNatClampNeg).toInt = -1 then 1 else 0 := hw13
      refine lv_if_eq (tgt := 39) hx hb dX10_holds_30 (by decide) (fun c15 => ?_) (fun c15 => ?_)
      · skip
        have f16 := bo_f hw13 c15
        refine lv_aload_n hx hb dX10_holds_39 rfl (lv_at hl 0 rfl) ?_
        refine va_get (D := D) (ci := 10) (v := .ref (ad 1)) (C := RX10) (T := TX10) (N := 14) hx hb hts inX10_holds_X10 hown hK hP 8 rfl rfl 0 (by decide) (hts (Cond.fieldLink RX10 10 "PortRooms" "sheets" "LPortRooms$Sheets;") (wm_t (wm_l (wm_i 1 rfl)))) (fun _ h9 => h9) rfl dX10_holds_40 ?_
        refine lv_iload_n hx hb dX10_holds_43 rfl (lv_at hl 1 rfl) ?_
        refine lv_iload_n hx hb dX10_holds_44 rfl (lv_at hl 2 rfl) ?_
        refine lv_iconst (v := 4) hx hb dX10_holds_45 (by decide) ?_
        refine lv_iload_n hx hb dX10_holds_46 rfl (lv_at hl 3 rfl) ?_
        refine lv_imul hx hb dX10_holds_47 ?_
        refine lv_topi (fun v17 ev17 => ?_)
        try have tv17 : v17.toInt = 4 * n.toInt := by rw [ev17]; exact (i_mul (x := (4 : Int32)) (y := n) (by rw [k4]; omega) (by rw [k4]; omega)).trans (by rw [k4])
        refine st_i1 (va_runV (C := RX9) (As := [.int a, .int i, .int v17]) (rest := []) ⟨hx, hb, hml, hown, hts⟩ (ct_X9_hasPlaces l D cI cY cJ cQ _ ad ss a i v17 (by omega) (by omega) h4) (cwV 3 hts gX10_holds_X9_hasPlaces rfl rfl rfl ⟨rfl, cdX9_hasPlaces⟩ ⟨Nat.le_of_ble_eq_true rfl, Nat.le_of_ble_eq_true rfl⟩) (cPreV (hP.sub [9, 12] rfl) hK (hD.sub [9, 12] (by decide +kernel) rfl) hN (ci := 9) (q0 := 0) rfl rfl) rfl rfl hl.1 rfl (lv_room (Nat.le_of_ble_eq_true rfl)) dX10_holds_48 ⟨Nat.le_of_ble_eq_true rfl, Nat.le_of_ble_eq_true rfl⟩) hP hD hS hA [9, 12] rfl (fun _ => rfl) (fun r20 u18 H locs hw19 => ?_)
        clear hP hS
        intro hP hS
        replace hw19 : r20 = if 0 ≤ i.toInt ∧ 0 ≤ v17.toInt ∧ i.toInt + v17.toInt ≤ (ss a.toNatClampNeg).toInt then 1 else 0 := hw19
        refine lv_if_ne (tgt := 60) hx hb dX10_holds_51 (by decide) (fun c21 => ?_) (fun c21 => ?_)
        · skip
          have f22 := bo_t hw19 c21
          have q9 := h4 a.toNatClampNeg (by have := i_cl (x := a) (by omega); omega)
          refine lv_aload_n hx hb dX10_holds_60 rfl (lv_at hl 0 rfl) ?_
          refine va_get (D := D) (ci := 10) (v := .ref (ad 1)) (C := RX10) (T := TX10) (N := 14) hx hb hts inX10_holds_X10 hown hK hP 8 rfl rfl 0 (by decide) (hts (Cond.fieldLink RX10 10 "PortRooms" "sheets" "LPortRooms$Sheets;") (wm_t (wm_l (wm_i 1 rfl)))) (fun _ h9 => h9) rfl dX10_holds_61 ?_
          refine va_get (D := D) (ci := 9) (v := .ref (ad 12)) (C := RX9) (T := TX9) (N := 3) hx hb hts inX10_holds_X9 hown hK hP 9 rfl rfl 0 (by decide) (hts (Cond.fieldLink RX10 116 "PortRooms$Sheets" "items" "[[I") (wm_t (wm_l (wm_i 2 rfl)))) (fun _ h9 => h9) rfl dX10_holds_64 ?_
          refine lv_iload_n hx hb dX10_holds_67 rfl (lv_at hl 1 rfl) ?_
          refine st_aaldR hx hb hK hP 10 3 rfl rfl (i_in (by omega) (by omega)) dX10_holds_68 ?_
          refine lv_astore (lv' := [(4, .ref (rw a.toNatClampNeg)), (0, .ref (ad 0)), (1, .int a), (2, .int i), (3, .int n)]) hx hb dX10_holds_69 hl (by decide) rfl (fun ls hl => ?_)
          refine lv_iconst (v := 0) hx hb dX10_holds_71 (by decide) ?_
          refine lv_istore (lv' := [(5, .int 0), (4, .ref (rw a.toNatClampNeg)), (0, .ref (ad 0)), (1, .int a), (2, .int i), (3, .int n)]) hx hb dX10_holds_72 hl (by decide) rfl (fun ls hl => ?_)
          refine lv_iconst (v := 0) hx hb dX10_holds_74 (by decide) ?_
          refine lv_istore (lv' := [(6, .int 0), (5, .int 0), (4, .ref (rw a.toNatClampNeg)), (0, .ref (ad 0)), (1, .int a), (2, .int i), (3, .int n)]) hx hb dX10_holds_75 hl (by decide) rfl (fun ls hl => ?_)
          refine st_loop 77 (fun _ => []) (fun (z : Int32 × Int32 × (Nat → Int32) × (Nat → Int32) × (Nat → Int32) × (Nat → Int32) × Int32) (ls : Array Slot) (H : Heap) (locs : List Loc) => match z with | (q77_5, q77_6, hoq, hcq, hpq, hsq, hnq) => (0 ≤ q77_6.toInt) ∧ (q77_6.toInt ≤ n.toInt) ∧ (0 ≤ q77_5.toInt) ∧ (q77_5.toInt ≤ q77_6.toInt) ∧ (0 ≤ hnq.toInt) ∧ (hnq.toInt ≤ 40) ∧ (okH hnq hoq hcq) ∧ ((q77_5, hnq, hoq, hcq, hpq, hsq) = foldH (rs a.toNatClampNeg) i.toNatClampNeg hn ho hc hp hs q77_6.toNatClampNeg) ∧ lv_has ls 8 [(0, .ref (ad 0)), (1, .int a), (2, .int i), (3, .int n), (4, .ref (rw a.toNatClampNeg)), (5, .int q77_5), (6, .int q77_6)] ∧ va_P D vwCl [(aI cI (rw 0) 60 (rs 0)), (aI cI (rw 1) 60 (rs 1)), (aI cI (rw 2) 60 (rs 2)), (aI cI (rw 3) 60 (rs 3)), (aI cI (rw 4) 60 (rs 4)), (aI cI (rw 5) 60 (rs 5)), (aI cI (rw 6) 60 (rs 6)), (aI cI (rw 7) 60 (rs 7)), (oC10 ad tn td lf), (oC9 ad ), ((ad 12), .inl (cQ, 8, .inr (.inr (.inr (.inr (fun i => if i < 8 then some (rw i) else none)))))), (aI cI (ad 13) 8 sl), (aI cI (ad 14) 8 ss), (oC3 ad hnq), (aI cI (ad 23) 40 hoq), (aI cI (ad 24) 40 hcq), (aI cI (ad 25) 40 hpq), (aI cI (ad 26) 40 hsq)] H ∧ va_D A [(aI cI (rw 0) 60 (rs 0)), (aI cI (rw 1) 60 (rs 1)), (aI cI (rw 2) 60 (rs 2)), (aI cI (rw 3) 60 (rs 3)), (aI cI (rw 4) 60 (rs 4)), (aI cI (rw 5) 60 (rs 5)), (aI cI (rw 6) 60 (rs 6)), (aI cI (rw 7) 60 (rs 7)), (oC10 ad tn td lf), (oC9 ad ), ((ad 12), .inl (cQ, 8, .inr (.inr (.inr (.inr (fun i => if i < 8 then some (rw i) else none)))))), (aI cI (ad 13) 8 sl), (aI cI (ad 14) 8 ss), (oC3 ad hnq), (aI cI (ad 23) 40 hoq), (aI cI (ad 24) 40 hcq), (aI cI (ad 25) 40 hpq), (aI cI (ad 26) 40 hsq)] ∧ va_S A s.heap H locs) (fun (z : Int32 × Int32 × (Nat → Int32) × (Nat → Int32) × (Nat → Int32) × (Nat → Int32) × Int32) => match z with | (q77_5, q77_6, hoq, hcq, hpq, hsq, hnq) => n.toInt - q77_6.toInt) ?_ ?_ ((0 : Int32), (0 : Int32), ho, hc, hp, hs, hn) ⟨(by omega), (by omega), (by omega), (by omega), (by omega), (by omega), (by assumption), (by rfl), lv_sub hl [3, 4, 5, 6, 2, 1, 0] rfl, hP, hD, hS⟩
          · rintro ⟨q77_5, q77_6, hoq, hcq, hpq, hsq, hnq⟩ ls H locs ⟨g23, g24, g25, g26, g27, g28, g29, g30, hl, hP, hD, hS⟩
            show (0 : Int) ≤ n.toInt - q77_6.toInt
            omega
          · rintro n33 ih31 ⟨q77_5, q77_6, hoq, hcq, hpq, hsq, hnq⟩ ls H locs ⟨g23, g24, g25, g26, g27, g28, g29, g30, hl, hP, hD, hS⟩ hm32
            have hm32 : n.toInt - q77_6.toInt < (n33 : Int) + 1 := hm32
            replace hl : lv_has ls 8 [(0, .ref (ad 0)), (1, .int a), (2, .int i), (3, .int n), (4, .ref (rw a.toNatClampNeg)), (5, .int q77_5), (6, .int q77_6)] := hl
            replace hP : va_P D vwCl [(aI cI (rw 0) 60 (rs 0)), (aI cI (rw 1) 60 (rs 1)), (aI cI (rw 2) 60 (rs 2)), (aI cI (rw 3) 60 (rs 3)), (aI cI (rw 4) 60 (rs 4)), (aI cI (rw 5) 60 (rs 5)), (aI cI (rw 6) 60 (rs 6)), (aI cI (rw 7) 60 (rs 7)), (oC10 ad tn td lf), (oC9 ad ), ((ad 12), .inl (cQ, 8, .inr (.inr (.inr (.inr (fun i => if i < 8 then some (rw i) else none)))))), (aI cI (ad 13) 8 sl), (aI cI (ad 14) 8 ss), (oC3 ad hnq), (aI cI (ad 23) 40 hoq), (aI cI (ad 24) 40 hcq), (aI cI (ad 25) 40 hpq), (aI cI (ad 26) 40 hsq)] H := hP
            replace hD : va_D A [(aI cI (rw 0) 60 (rs 0)), (aI cI (rw 1) 60 (rs 1)), (aI cI (rw 2) 60 (rs 2)), (aI cI (rw 3) 60 (rs 3)), (aI cI (rw 4) 60 (rs 4)), (aI cI (rw 5) 60 (rs 5)), (aI cI (rw 6) 60 (rs 6)), (aI cI (rw 7) 60 (rs 7)), (oC10 ad tn td lf), (oC9 ad ), ((ad 12), .inl (cQ, 8, .inr (.inr (.inr (.inr (fun i => if i < 8 then some (rw i) else none)))))), (aI cI (ad 13) 8 sl), (aI cI (ad 14) 8 ss), (oC3 ad hnq), (aI cI (ad 23) 40 hoq), (aI cI (ad 24) 40 hcq), (aI cI (ad 25) 40 hpq), (aI cI (ad 26) 40 hsq)] := hD
            show W _ _ _ _ _ _ _ _ _ _ _ _ _ _ _ (F0 m 77 ls [])
            refine lv_iload hx hb dX10_holds_77 (lv_at hl 6 rfl) ?_
            refine lv_iload_n hx hb dX10_holds_79 rfl (lv_at hl 3 rfl) ?_
            refine lv_icmp_ge (tgt := 133) hx hb dX10_holds_80 (by decide) (fun c34 => ?_) (fun c34 => ?_)
            · skip
              have f35 := i_le c34
              refine lv_aload_n hx hb dX10_holds_133 rfl (lv_at hl 0 rfl) ?_
              refine lv_iload hx hb dX10_holds_134 (lv_at hl 5 rfl) ?_
              refine st_i (wr := [(aI cI (rw 0) 60 (rs 0)), (aI cI (rw 1) 60 (rs 1)), (aI cI (rw 2) 60 (rs 2)), (aI cI (rw 3) 60 (rs 3)), (aI cI (rw 4) 60 (rs 4)), (aI cI (rw 5) 60 (rs 5)), (aI cI (rw 6) 60 (rs 6)), (aI cI (rw 7) 60 (rs 7)), (oC9 ad ), ((ad 12), .inl (cQ, 8, .inr (.inr (.inr (.inr (fun i => if i < 8 then some (rw i) else none)))))), (aI cI (ad 13) 8 sl), (aI cI (ad 14) 8 ss), (oC3 ad hnq), (aI cI (ad 23) 40 hoq), (aI cI (ad 24) 40 hcq), (aI cI (ad 25) 40 hpq), (aI cI (ad 26) 40 hsq)]) (va_runV (C := RX10) (As := [.int q77_5]) (rest := []) ⟨hx, hb, hml, hown, hts⟩ (ct_X10_passed l D cI cY cJ cQ _ ad tn td lf q77_5) (cwV 1 hts gX10_holds_X10_passed rfl rfl rfl ⟨rfl, cdX10_passed⟩ ⟨Nat.le_of_ble_eq_true rfl, Nat.le_of_ble_eq_true rfl⟩) (cPreV (hP.sub [8] rfl) hK (hD.sub [8] (by decide +kernel) rfl) hN (ci := 10) (q0 := 0) rfl rfl) rfl rfl hl.1 rfl (lv_room (Nat.le_of_ble_eq_true rfl)) dX10_holds_136 ⟨Nat.le_of_ble_eq_true rfl, Nat.le_of_ble_eq_true rfl⟩) hP hD hS hA [8] [0, 1, 2, 3, 4, 5, 6, 7, 9, 10, 11, 12, 13, 14, 15, 16, 17] rfl rfl (by decide +kernel) (by decide +kernel) (fun r38 u36 H locs hw37 => ?_)
              clear hP hD hS
              intro hP hD hS
              replace hw37 : r38 = q77_5 := hw37
              replace hP : va_P D vwCl [(aI cI (rw 0) 60 (rs 0)), (aI cI (rw 1) 60 (rs 1)), (aI cI (rw 2) 60 (rs 2)), (aI cI (rw 3) 60 (rs 3)), (aI cI (rw 4) 60 (rs 4)), (aI cI (rw 5) 60 (rs 5)), (aI cI (rw 6) 60 (rs 6)), (aI cI (rw 7) 60 (rs 7)), (oC9 ad ), ((ad 12), .inl (cQ, 8, .inr (.inr (.inr (.inr (fun i => if i < 8 then some (rw i) else none)))))), (aI cI (ad 13) 8 sl), (aI cI (ad 14) 8 ss), (oC3 ad hnq), (aI cI (ad 23) 40 hoq), (aI cI (ad 24) 40 hcq), (aI cI (ad 25) 40 hpq), (aI cI (ad 26) 40 hsq), (oC10 ad tn td (0))] H := hP
              replace hD : va_D A [(aI cI (rw 0) 60 (rs 0)), (aI cI (rw 1) 60 (rs 1)), (aI cI (rw 2) 60 (rs 2)), (aI cI (rw 3) 60 (rs 3)), (aI cI (rw 4) 60 (rs 4)), (aI cI (rw 5) 60 (rs 5)), (aI cI (rw 6) 60 (rs 6)), (aI cI (rw 7) 60 (rs 7)), (oC9 ad ), ((ad 12), .inl (cQ, 8, .inr (.inr (.inr (.inr (fun i => if i < 8 then some (rw i) else none)))))), (aI cI (ad 13) 8 sl), (aI cI (ad 14) 8 ss), (oC3 ad hnq), (aI cI (ad 23) 40 hoq), (aI cI (ad 24) 40 hcq), (aI cI (ad 25) 40 hpq), (aI cI (ad 26) 40 hsq), (oC10 ad tn td (0))] := hD
              replace hw37 := hw37.symm
              subst hw37
              have cn9 := i_cl (x := n) (by omega)
              have ck9 := i_cl (x := q77_6) (by omega)
              have en9 : q77_6.toNatClampNeg = n.toNatClampNeg := by omega
              have hz9 := g30
              rw [en9] at hz9
              have h99 : (q77_5, (0 : Int32), hnq, hoq, hcq, hpq, hsq) = sp_holds lf rs ss hn ho hc hp hs a i n := by unfold sp_holds; rw [if_pos (by omega), if_neg (by omega), if_pos (by omega), ← hz9]
              have hP9 := hP.sub (ws' := [(aI cI (rw 0) 60 (rs 0)), (aI cI (rw 1) 60 (rs 1)), (aI cI (rw 2) 60 (rs 2)), (aI cI (rw 3) 60 (rs 3)), (aI cI (rw 4) 60 (rs 4)), (aI cI (rw 5) 60 (rs 5)), (aI cI (rw 6) 60 (rs 6)), (aI cI (rw 7) 60 (rs 7)), (oC10 ad tn td (0)), (oC9 ad ), ((ad 12), .inl (cQ, 8, .inr (.inr (.inr (.inr (fun i => if i < 8 then some (rw i) else none)))))), (aI cI (ad 13) 8 sl), (aI cI (ad 14) 8 ss), (oC3 ad hnq), (aI cI (ad 23) 40 hoq), (aI cI (ad 24) 40 hcq), (aI cI (ad 25) 40 hpq), (aI cI (ad 26) 40 hsq)]) [0, 1, 2, 3, 4, 5, 6, 7, 17, 8, 9, 10, 11, 12, 13, 14, 15, 16] rfl
              have hD9 := hD.sub (ws' := [(aI cI (rw 0) 60 (rs 0)), (aI cI (rw 1) 60 (rs 1)), (aI cI (rw 2) 60 (rs 2)), (aI cI (rw 3) 60 (rs 3)), (aI cI (rw 4) 60 (rs 4)), (aI cI (rw 5) 60 (rs 5)), (aI cI (rw 6) 60 (rs 6)), (aI cI (rw 7) 60 (rs 7)), (oC10 ad tn td (0)), (oC9 ad ), ((ad 12), .inl (cQ, 8, .inr (.inr (.inr (.inr (fun i => if i < 8 then some (rw i) else none)))))), (aI cI (ad 13) 8 sl), (aI cI (ad 14) 8 ss), (oC3 ad hnq), (aI cI (ad 23) 40 hoq), (aI cI (ad 24) 40 hcq), (aI cI (ad 25) 40 hpq), (aI cI (ad 26) 40 hsq)]) [0, 1, 2, 3, 4, 5, 6, 7, 17, 8, 9, 10, 11, 12, 13, 14, 15, 16] (by decide +kernel) rfl
              exact W.iret (v := q77_5) hx hb hr (fun t ht hW => ⟨⟨q77_5, (0, hnq, hoq, hcq, hpq, hsq), rfl, ⟨h99, by omega, by omega, by assumption⟩, by rw [ht]; exact hP9, va_K.moved hW.alike hK, hD9⟩, hS.F ht⟩) hS.2.2 dX10_holds_139
            · skip
              have f39 := i_nle c34
              refine lv_iload_n hx hb dX10_holds_83 rfl (lv_at hl 2 rfl) ?_
              refine lv_iconst (v := 4) hx hb dX10_holds_84 (by decide) ?_
              refine lv_iload hx hb dX10_holds_85 (lv_at hl 6 rfl) ?_
              refine lv_imul hx hb dX10_holds_87 ?_
              refine lv_topi (fun v40 ev40 => ?_)
              try have tv40 : v40.toInt = 4 * q77_6.toInt := by rw [ev40]; exact (i_mul (x := (4 : Int32)) (y := q77_6) (by rw [k4]; omega) (by rw [k4]; omega)).trans (by rw [k4])
              refine lv_iadd hx hb dX10_holds_88 ?_
              refine lv_topi (fun v41 ev41 => ?_)
              try have tv41 : v41.toInt = i.toInt + v40.toInt := by rw [ev41]; exact (i_add (x := i) (y := v40) (by omega) (by omega))
              refine lv_istore (lv' := [(7, .int v41), (0, .ref (ad 0)), (1, .int a), (2, .int i), (3, .int n), (4, .ref (rw a.toNatClampNeg)), (5, .int q77_5), (6, .int q77_6)]) hx hb dX10_holds_89 hl (by decide) rfl (fun ls hl => ?_)
              refine lv_aload_n hx hb dX10_holds_91 rfl (lv_at hl 1 rfl) ?_
              refine lv_aload hx hb dX10_holds_92 (lv_at hl 5 rfl) ?_
              refine lv_iload hx hb dX10_holds_94 (lv_at hl 0 rfl) ?_
              refine va_iald hx hb hK hP a.toNatClampNeg 0 (rows_at (by have := i_cl (x := a) (by omega); omega)) rfl (i_in (by omega) (by omega)) dX10_holds_96 ?_
              refine lv_topi (fun v42 ev42 => ?_)
              have tlv42 : v42.toInt = ((rs a.toNatClampNeg) v41.toNatClampNeg).toInt := by rw [ev42]
              refine lv_aload hx hb dX10_holds_97 (lv_at hl 5 rfl) ?_
              refine lv_iload hx hb dX10_holds_99 (lv_at hl 0 rfl) ?_
              refine lv_iconst (v := 1) hx hb dX10_holds_101 (by decide) ?_
              refine lv_iadd hx hb dX10_holds_102 ?_
              refine lv_topi (fun v43 ev43 => ?_)
              try have tv43 : v43.toInt = v41.toInt + 1 := by rw [ev43]; exact (i_add (x := v41) (y := (1 : Int32)) (by rw [k1]; omega) (by rw [k1]; omega)).trans (by rw [k1])
              refine va_iald hx hb hK hP a.toNatClampNeg 0 (rows_at (by have := i_cl (x := a) (by omega); omega)) rfl (i_in (by omega) (by omega)) dX10_holds_103 ?_
              refine lv_topi (fun v44 ev44 => ?_)
              have tlv44 : v44.toInt = ((rs a.toNatClampNeg) v43.toNatClampNeg).toInt := by rw [ev44]
              refine lv_aload hx hb dX10_holds_104 (lv_at hl 5 rfl) ?_
              refine lv_iload hx hb dX10_holds_106 (lv_at hl 0 rfl) ?_
              refine lv_iconst (v := 2) hx hb dX10_holds_108 (by decide) ?_
              refine lv_iadd hx hb dX10_holds_109 ?_
              refine lv_topi (fun v45 ev45 => ?_)
              try have tv45 : v45.toInt = v41.toInt + 2 := by rw [ev45]; exact (i_add (x := v41) (y := (2 : Int32)) (by rw [k2]; omega) (by rw [k2]; omega)).trans (by rw [k2])
              refine va_iald hx hb hK hP a.toNatClampNeg 0 (rows_at (by have := i_cl (x := a) (by omega); omega)) rfl (i_in (by omega) (by omega)) dX10_holds_110 ?_
              refine lv_topi (fun v46 ev46 => ?_)
              have tlv46 : v46.toInt = ((rs a.toNatClampNeg) v45.toNatClampNeg).toInt := by rw [ev46]
              refine lv_aload hx hb dX10_holds_111 (lv_at hl 5 rfl) ?_
              refine lv_iload hx hb dX10_holds_113 (lv_at hl 0 rfl) ?_
              refine lv_iconst (v := 3) hx hb dX10_holds_115 (by decide) ?_
              refine lv_iadd hx hb dX10_holds_116 ?_
              refine lv_topi (fun v47 ev47 => ?_)
              try have tv47 : v47.toInt = v41.toInt + 3 := by rw [ev47]; exact (i_add (x := v41) (y := (3 : Int32)) (by rw [k3]; omega) (by rw [k3]; omega)).trans (by rw [k3])
              refine va_iald hx hb hK hP a.toNatClampNeg 0 (rows_at (by have := i_cl (x := a) (by omega); omega)) rfl (i_in (by omega) (by omega)) dX10_holds_117 ?_
              refine lv_topi (fun v48 ev48 => ?_)
              have tlv48 : v48.toInt = ((rs a.toNatClampNeg) v47.toNatClampNeg).toInt := by rw [ev48]
              refine st_i (wr := [(aI cI (rw 0) 60 (rs 0)), (aI cI (rw 1) 60 (rs 1)), (aI cI (rw 2) 60 (rs 2)), (aI cI (rw 3) 60 (rs 3)), (aI cI (rw 4) 60 (rs 4)), (aI cI (rw 5) 60 (rs 5)), (aI cI (rw 6) 60 (rs 6)), (aI cI (rw 7) 60 (rs 7)), (oC9 ad ), ((ad 12), .inl (cQ, 8, .inr (.inr (.inr (.inr (fun i => if i < 8 then some (rw i) else none)))))), (aI cI (ad 13) 8 sl), (aI cI (ad 14) 8 ss)]) (va_runV (C := RX10) (As := [.int v42, .int v44, .int v46, .int v48]) (rest := []) ⟨hx, hb, hml, hown, hts⟩ (ct_X10_hold l D cI cY cJ cQ _ ad tn td lf hnq hoq hcq hpq hsq v42 v44 v46 v48 (by omega) (by omega)) (cwV 4 hts gX10_holds_X10_hold rfl rfl rfl ⟨rfl, cdX10_hold⟩ ⟨Nat.le_of_ble_eq_true rfl, Nat.le_of_ble_eq_true rfl⟩) (cPreV (hP.sub [8, 13, 14, 15, 16, 17] rfl) hK (hD.sub [8, 13, 14, 15, 16, 17] (by decide +kernel) rfl) hN (ci := 10) (q0 := 0) rfl rfl) rfl rfl hl.1 rfl (lv_room (Nat.le_of_ble_eq_true rfl)) dX10_holds_118 ⟨Nat.le_of_ble_eq_true rfl, Nat.le_of_ble_eq_true rfl⟩) hP hD hS hA [8, 13, 14, 15, 16, 17] [0, 1, 2, 3, 4, 5, 6, 7, 9, 10, 11, 12] rfl rfl (by decide +kernel) (by decide +kernel) (fun r51 u49 H locs hw50 => ?_)
              clear hP hD hS
              intro hP hD hS
              obtain ⟨hn_52, ho_53, hc_54, hp_55, hs_56⟩ := u49
              replace hw50 : (r51, (hn_52, ho_53, hc_54, hp_55, hs_56)) = sp_hold hnq hoq hcq hpq hsq v42 v44 v46 v48 := hw50
              replace hP : va_P D vwCl [(aI cI (rw 0) 60 (rs 0)), (aI cI (rw 1) 60 (rs 1)), (aI cI (rw 2) 60 (rs 2)), (aI cI (rw 3) 60 (rs 3)), (aI cI (rw 4) 60 (rs 4)), (aI cI (rw 5) 60 (rs 5)), (aI cI (rw 6) 60 (rs 6)), (aI cI (rw 7) 60 (rs 7)), (oC9 ad ), ((ad 12), .inl (cQ, 8, .inr (.inr (.inr (.inr (fun i => if i < 8 then some (rw i) else none)))))), (aI cI (ad 13) 8 sl), (aI cI (ad 14) 8 ss), (oC10 ad tn td lf), (oC3 ad hn_52), (aI cI (ad 23) 40 ho_53), (aI cI (ad 24) 40 hc_54), (aI cI (ad 25) 40 hp_55), (aI cI (ad 26) 40 hs_56)] H := hP
              replace hD : va_D A [(aI cI (rw 0) 60 (rs 0)), (aI cI (rw 1) 60 (rs 1)), (aI cI (rw 2) 60 (rs 2)), (aI cI (rw 3) 60 (rs 3)), (aI cI (rw 4) 60 (rs 4)), (aI cI (rw 5) 60 (rs 5)), (aI cI (rw 6) 60 (rs 6)), (aI cI (rw 7) 60 (rs 7)), (oC9 ad ), ((ad 12), .inl (cQ, 8, .inr (.inr (.inr (.inr (fun i => if i < 8 then some (rw i) else none)))))), (aI cI (ad 13) 8 sl), (aI cI (ad 14) 8 ss), (oC10 ad tn td lf), (oC3 ad hn_52), (aI cI (ad 23) 40 ho_53), (aI cI (ad 24) 40 hc_54), (aI cI (ad 25) 40 hp_55), (aI cI (ad 26) 40 hs_56)] := hD
              obtain ⟨hw50a, hw50b, hw50c⟩ := sp_hold_ok hw50 (by omega) (by omega) (by assumption)
              have cla := i_cl (x := a) (by omega)
              have cli := i_cl (x := i) (by omega)
              have cln := i_cl (x := n) (by omega)
              have clq77_6 := i_cl (x := q77_6) (by omega)
              have clv41 := i_cl (x := v41) (by omega)
              have clv43 := i_cl (x := v43) (by omega)
              have clv45 := i_cl (x := v45) (by omega)
              have clv47 := i_cl (x := v47) (by omega)
              have ex0 : v42 = (rs a.toNatClampNeg) (i.toNatClampNeg + 4 * q77_6.toNatClampNeg) := ev42.trans (congrArg (rs a.toNatClampNeg) (by omega))
              have ex1 : v44 = (rs a.toNatClampNeg) (i.toNatClampNeg + 4 * q77_6.toNatClampNeg + 1) := ev44.trans (congrArg (rs a.toNatClampNeg) (by omega))
              have ex2 : v46 = (rs a.toNatClampNeg) (i.toNatClampNeg + 4 * q77_6.toNatClampNeg + 2) := ev46.trans (congrArg (rs a.toNatClampNeg) (by omega))
              have ex3 : v48 = (rs a.toNatClampNeg) (i.toNatClampNeg + 4 * q77_6.toNatClampNeg + 3) := ev48.trans (congrArg (rs a.toNatClampNeg) (by omega))
              have hps9 := sp_hold_pos hw50 (by omega) (by omega)
              have hf9 := foldH_s g30 hw50 ex0 ex1 ex2 ex3
              refine lv_if_le (tgt := 127) hx hb dX10_holds_121 (by decide) (fun c57 => ?_) (fun c57 => ?_)
              · skip
                have f58 := i_le c57
                obtain ⟨v59, ev59⟩ : ∃ y : Int32, y = q77_6 + 1 := ⟨_, rfl⟩
                try have tv59 : v59.toInt = q77_6.toInt + 1 := by rw [ev59]; exact (i_add (x := q77_6) (y := (1 : Int32)) (by rw [k1]; omega) (by rw [k1]; omega)).trans (by rw [k1])
                refine lv_iinc (v := v59) (lv' := [(6, .int v59), (7, .int v41), (0, .ref (ad 0)), (1, .int a), (2, .int i), (3, .int n), (4, .ref (rw a.toNatClampNeg)), (5, .int q77_5)]) hx hb dX10_holds_127 hl (k := 7) rfl (by rw [ev59]; rfl) (by decide) rfl (fun ls hl => ?_)
                refine lv_goto (tgt := 77) hx hb dX10_holds_130 (by decide) ?_
                have clk9 := i_cl (x := v59) (by omega)
                have ek9 : v59.toNatClampNeg = q77_6.toNatClampNeg + 1 := by omega
                exact ih31 (q77_5, v59, ho_53, hc_54, hp_55, hs_56, hn_52) ls H locs ⟨(by omega), (by omega), (by omega), (by omega), (by omega), (by omega), (by assumption), (by rw [ek9]; exact hf9 _ (by first | (rw [if_pos (by omega)]; assumption) | (rw [if_neg (by omega)]; done) | (rw [if_neg (by omega)]; rfl))), lv_sub hl [2, 3, 4, 5, 6, 7, 0] rfl, hP.sub [0, 1, 2, 3, 4, 5, 6, 7, 12, 8, 9, 10, 11, 13, 14, 15, 16, 17] rfl, hD.sub [0, 1, 2, 3, 4, 5, 6, 7, 12, 8, 9, 10, 11, 13, 14, 15, 16, 17] (by decide +kernel) rfl, hS⟩ (by show n.toInt - v59.toInt < _; omega)
              · skip
                have f60 := i_nle c57
                obtain ⟨v61, ev61⟩ : ∃ y : Int32, y = q77_5 + 1 := ⟨_, rfl⟩
                try have tv61 : v61.toInt = q77_5.toInt + 1 := by rw [ev61]; exact (i_add (x := q77_5) (y := (1 : Int32)) (by rw [k1]; omega) (by rw [k1]; omega)).trans (by rw [k1])
                refine lv_iinc (v := v61) (lv' := [(5, .int v61), (7, .int v41), (0, .ref (ad 0)), (1, .int a), (2, .int i), (3, .int n), (4, .ref (rw a.toNatClampNeg)), (6, .int q77_6)]) hx hb dX10_holds_124 hl (k := 6) rfl (by rw [ev61]; rfl) (by decide) rfl (fun ls hl => ?_)
                obtain ⟨v62, ev62⟩ : ∃ y : Int32, y = q77_6 + 1 := ⟨_, rfl⟩
                try have tv62 : v62.toInt = q77_6.toInt + 1 := by rw [ev62]; exact (i_add (x := q77_6) (y := (1 : Int32)) (by rw [k1]; omega) (by rw [k1]; omega)).trans (by rw [k1])
                refine lv_iinc (v := v62) (lv' := [(6, .int v62), (5, .int v61), (7, .int v41), (0, .ref (ad 0)), (1, .int a), (2, .int i), (3, .int n), (4, .ref (rw a.toNatClampNeg))]) hx hb dX10_holds_127 hl (k := 7) rfl (by rw [ev62]; rfl) (by decide) rfl (fun ls hl => ?_)
                refine lv_goto (tgt := 77) hx hb dX10_holds_130 (by decide) ?_
                have clk9 := i_cl (x := v62) (by omega)
                have ek9 : v62.toNatClampNeg = q77_6.toNatClampNeg + 1 := by omega
                exact ih31 (v61, v62, ho_53, hc_54, hp_55, hs_56, hn_52) ls H locs ⟨(by omega), (by omega), (by omega), (by omega), (by omega), (by omega), (by assumption), (by rw [ek9]; exact hf9 _ (by first | (rw [if_pos (by omega)]; assumption) | (rw [if_neg (by omega)]; done) | (rw [if_neg (by omega)]; rw [ev61]; exact Int32.add_zero _))), lv_sub hl [3, 4, 5, 6, 7, 1, 0] rfl, hP.sub [0, 1, 2, 3, 4, 5, 6, 7, 12, 8, 9, 10, 11, 13, 14, 15, 16, 17] rfl, hD.sub [0, 1, 2, 3, 4, 5, 6, 7, 12, 8, 9, 10, 11, 13, 14, 15, 16, 17] (by decide +kernel) rfl, hS⟩ (by show n.toInt - v62.toInt < _; omega)
        · skip
          have f63 := bo_f hw19 c21
          refine lv_aload_n hx hb dX10_holds_54 rfl (lv_at hl 0 rfl) ?_
          refine lv_iconst (v := 2) hx hb dX10_holds_55 (by decide) ?_
          refine st_i (wr := [(aI cI (rw 0) 60 (rs 0)), (aI cI (rw 1) 60 (rs 1)), (aI cI (rw 2) 60 (rs 2)), (aI cI (rw 3) 60 (rs 3)), (aI cI (rw 4) 60 (rs 4)), (aI cI (rw 5) 60 (rs 5)), (aI cI (rw 6) 60 (rs 6)), (aI cI (rw 7) 60 (rs 7)), (oC9 ad ), ((ad 12), .inl (cQ, 8, .inr (.inr (.inr (.inr (fun i => if i < 8 then some (rw i) else none)))))), (aI cI (ad 13) 8 sl), (aI cI (ad 14) 8 ss), (oC3 ad hn), (aI cI (ad 23) 40 ho), (aI cI (ad 24) 40 hc), (aI cI (ad 25) 40 hp), (aI cI (ad 26) 40 hs)]) (va_runV (C := RX10) (As := [.int 2]) (rest := []) ⟨hx, hb, hml, hown, hts⟩ (ct_X10_finding l D cI cY cJ cQ _ ad tn td lf (2 : Int32)) (cwV 1 hts gX10_holds_X10_finding rfl rfl rfl ⟨rfl, cdX10_finding⟩ ⟨Nat.le_of_ble_eq_true rfl, Nat.le_of_ble_eq_true rfl⟩) (cPreV (hP.sub [8] rfl) hK (hD.sub [8] (by decide +kernel) rfl) hN (ci := 10) (q0 := 0) rfl rfl) rfl rfl hl.1 rfl (lv_room (Nat.le_of_ble_eq_true rfl)) dX10_holds_56 ⟨Nat.le_of_ble_eq_true rfl, Nat.le_of_ble_eq_true rfl⟩) hP hD hS hA [8] [0, 1, 2, 3, 4, 5, 6, 7, 9, 10, 11, 12, 13, 14, 15, 16, 17] rfl rfl (by decide +kernel) (by decide +kernel) (fun r66 u64 H locs hw65 => ?_)
          clear hP hD hS
          intro hP hD hS
          replace hw65 : r66 = (-1000010) - (2 : Int32) := hw65
          replace hP : va_P D vwCl [(aI cI (rw 0) 60 (rs 0)), (aI cI (rw 1) 60 (rs 1)), (aI cI (rw 2) 60 (rs 2)), (aI cI (rw 3) 60 (rs 3)), (aI cI (rw 4) 60 (rs 4)), (aI cI (rw 5) 60 (rs 5)), (aI cI (rw 6) 60 (rs 6)), (aI cI (rw 7) 60 (rs 7)), (oC9 ad ), ((ad 12), .inl (cQ, 8, .inr (.inr (.inr (.inr (fun i => if i < 8 then some (rw i) else none)))))), (aI cI (ad 13) 8 sl), (aI cI (ad 14) 8 ss), (oC3 ad hn), (aI cI (ad 23) 40 ho), (aI cI (ad 24) 40 hc), (aI cI (ad 25) 40 hp), (aI cI (ad 26) 40 hs), (oC10 ad tn td (2 : Int32))] H := hP
          replace hD : va_D A [(aI cI (rw 0) 60 (rs 0)), (aI cI (rw 1) 60 (rs 1)), (aI cI (rw 2) 60 (rs 2)), (aI cI (rw 3) 60 (rs 3)), (aI cI (rw 4) 60 (rs 4)), (aI cI (rw 5) 60 (rs 5)), (aI cI (rw 6) 60 (rs 6)), (aI cI (rw 7) 60 (rs 7)), (oC9 ad ), ((ad 12), .inl (cQ, 8, .inr (.inr (.inr (.inr (fun i => if i < 8 then some (rw i) else none)))))), (aI cI (ad 13) 8 sl), (aI cI (ad 14) 8 ss), (oC3 ad hn), (aI cI (ad 23) 40 ho), (aI cI (ad 24) 40 hc), (aI cI (ad 25) 40 hp), (aI cI (ad 26) 40 hs), (oC10 ad tn td (2 : Int32))] := hD
          subst hw65
          have hP9 := hP.sub (ws' := [(aI cI (rw 0) 60 (rs 0)), (aI cI (rw 1) 60 (rs 1)), (aI cI (rw 2) 60 (rs 2)), (aI cI (rw 3) 60 (rs 3)), (aI cI (rw 4) 60 (rs 4)), (aI cI (rw 5) 60 (rs 5)), (aI cI (rw 6) 60 (rs 6)), (aI cI (rw 7) 60 (rs 7)), (oC10 ad tn td (2 : Int32)), (oC9 ad ), ((ad 12), .inl (cQ, 8, .inr (.inr (.inr (.inr (fun i => if i < 8 then some (rw i) else none)))))), (aI cI (ad 13) 8 sl), (aI cI (ad 14) 8 ss), (oC3 ad hn), (aI cI (ad 23) 40 ho), (aI cI (ad 24) 40 hc), (aI cI (ad 25) 40 hp), (aI cI (ad 26) 40 hs)]) [0, 1, 2, 3, 4, 5, 6, 7, 17, 8, 9, 10, 11, 12, 13, 14, 15, 16] rfl
          have hD9 := hD.sub (ws' := [(aI cI (rw 0) 60 (rs 0)), (aI cI (rw 1) 60 (rs 1)), (aI cI (rw 2) 60 (rs 2)), (aI cI (rw 3) 60 (rs 3)), (aI cI (rw 4) 60 (rs 4)), (aI cI (rw 5) 60 (rs 5)), (aI cI (rw 6) 60 (rs 6)), (aI cI (rw 7) 60 (rs 7)), (oC10 ad tn td (2 : Int32)), (oC9 ad ), ((ad 12), .inl (cQ, 8, .inr (.inr (.inr (.inr (fun i => if i < 8 then some (rw i) else none)))))), (aI cI (ad 13) 8 sl), (aI cI (ad 14) 8 ss), (oC3 ad hn), (aI cI (ad 23) 40 ho), (aI cI (ad 24) 40 hc), (aI cI (ad 25) 40 hp), (aI cI (ad 26) 40 hs)]) [0, 1, 2, 3, 4, 5, 6, 7, 17, 8, 9, 10, 11, 12, 13, 14, 15, 16] (by decide +kernel) rfl
          exact W.iret (v := (-1000010) - (2 : Int32)) hx hb hr (fun t ht hW => ⟨⟨(-1000010) - (2 : Int32), ((2 : Int32), hn, ho, hc, hp, hs), rfl, ⟨(by unfold sp_holds; (repeat' split) <;> first | rfl | (exfalso; omega)), by omega, by omega, by assumption⟩, by rw [ht]; exact hP9, va_K.moved hW.alike hK, hD9⟩, hS.F ht⟩) hS.2.2 dX10_holds_59
      · skip
        have f67 := bo_t hw13 c15
        refine lv_aload_n hx hb dX10_holds_33 rfl (lv_at hl 0 rfl) ?_
        refine lv_iconst (v := 1) hx hb dX10_holds_34 (by decide) ?_
        refine st_i (wr := [(aI cI (rw 0) 60 (rs 0)), (aI cI (rw 1) 60 (rs 1)), (aI cI (rw 2) 60 (rs 2)), (aI cI (rw 3) 60 (rs 3)), (aI cI (rw 4) 60 (rs 4)), (aI cI (rw 5) 60 (rs 5)), (aI cI (rw 6) 60 (rs 6)), (aI cI (rw 7) 60 (rs 7)), (oC9 ad ), ((ad 12), .inl (cQ, 8, .inr (.inr (.inr (.inr (fun i => if i < 8 then some (rw i) else none)))))), (aI cI (ad 13) 8 sl), (aI cI (ad 14) 8 ss), (oC3 ad hn), (aI cI (ad 23) 40 ho), (aI cI (ad 24) 40 hc), (aI cI (ad 25) 40 hp), (aI cI (ad 26) 40 hs)]) (va_runV (C := RX10) (As := [.int 1]) (rest := []) ⟨hx, hb, hml, hown, hts⟩ (ct_X10_finding l D cI cY cJ cQ _ ad tn td lf (1 : Int32)) (cwV 1 hts gX10_holds_X10_finding rfl rfl rfl ⟨rfl, cdX10_finding⟩ ⟨Nat.le_of_ble_eq_true rfl, Nat.le_of_ble_eq_true rfl⟩) (cPreV (hP.sub [8] rfl) hK (hD.sub [8] (by decide +kernel) rfl) hN (ci := 10) (q0 := 0) rfl rfl) rfl rfl hl.1 rfl (lv_room (Nat.le_of_ble_eq_true rfl)) dX10_holds_35 ⟨Nat.le_of_ble_eq_true rfl, Nat.le_of_ble_eq_true rfl⟩) hP hD hS hA [8] [0, 1, 2, 3, 4, 5, 6, 7, 9, 10, 11, 12, 13, 14, 15, 16, 17] rfl rfl (by decide +kernel) (by decide +kernel) (fun r70 u68 H locs hw69 => ?_)
        clear hP hD hS
        intro hP hD hS
        replace hw69 : r70 = (-1000010) - (1 : Int32) := hw69
        replace hP : va_P D vwCl [(aI cI (rw 0) 60 (rs 0)), (aI cI (rw 1) 60 (rs 1)), (aI cI (rw 2) 60 (rs 2)), (aI cI (rw 3) 60 (rs 3)), (aI cI (rw 4) 60 (rs 4)), (aI cI (rw 5) 60 (rs 5)), (aI cI (rw 6) 60 (rs 6)), (aI cI (rw 7) 60 (rs 7)), (oC9 ad ), ((ad 12), .inl (cQ, 8, .inr (.inr (.inr (.inr (fun i => if i < 8 then some (rw i) else none)))))), (aI cI (ad 13) 8 sl), (aI cI (ad 14) 8 ss), (oC3 ad hn), (aI cI (ad 23) 40 ho), (aI cI (ad 24) 40 hc), (aI cI (ad 25) 40 hp), (aI cI (ad 26) 40 hs), (oC10 ad tn td (1 : Int32))] H := hP
        replace hD : va_D A [(aI cI (rw 0) 60 (rs 0)), (aI cI (rw 1) 60 (rs 1)), (aI cI (rw 2) 60 (rs 2)), (aI cI (rw 3) 60 (rs 3)), (aI cI (rw 4) 60 (rs 4)), (aI cI (rw 5) 60 (rs 5)), (aI cI (rw 6) 60 (rs 6)), (aI cI (rw 7) 60 (rs 7)), (oC9 ad ), ((ad 12), .inl (cQ, 8, .inr (.inr (.inr (.inr (fun i => if i < 8 then some (rw i) else none)))))), (aI cI (ad 13) 8 sl), (aI cI (ad 14) 8 ss), (oC3 ad hn), (aI cI (ad 23) 40 ho), (aI cI (ad 24) 40 hc), (aI cI (ad 25) 40 hp), (aI cI (ad 26) 40 hs), (oC10 ad tn td (1 : Int32))] := hD
        subst hw69
        have hP9 := hP.sub (ws' := [(aI cI (rw 0) 60 (rs 0)), (aI cI (rw 1) 60 (rs 1)), (aI cI (rw 2) 60 (rs 2)), (aI cI (rw 3) 60 (rs 3)), (aI cI (rw 4) 60 (rs 4)), (aI cI (rw 5) 60 (rs 5)), (aI cI (rw 6) 60 (rs 6)), (aI cI (rw 7) 60 (rs 7)), (oC10 ad tn td (1 : Int32)), (oC9 ad ), ((ad 12), .inl (cQ, 8, .inr (.inr (.inr (.inr (fun i => if i < 8 then some (rw i) else none)))))), (aI cI (ad 13) 8 sl), (aI cI (ad 14) 8 ss), (oC3 ad hn), (aI cI (ad 23) 40 ho), (aI cI (ad 24) 40 hc), (aI cI (ad 25) 40 hp), (aI cI (ad 26) 40 hs)]) [0, 1, 2, 3, 4, 5, 6, 7, 17, 8, 9, 10, 11, 12, 13, 14, 15, 16] rfl
        have hD9 := hD.sub (ws' := [(aI cI (rw 0) 60 (rs 0)), (aI cI (rw 1) 60 (rs 1)), (aI cI (rw 2) 60 (rs 2)), (aI cI (rw 3) 60 (rs 3)), (aI cI (rw 4) 60 (rs 4)), (aI cI (rw 5) 60 (rs 5)), (aI cI (rw 6) 60 (rs 6)), (aI cI (rw 7) 60 (rs 7)), (oC10 ad tn td (1 : Int32)), (oC9 ad ), ((ad 12), .inl (cQ, 8, .inr (.inr (.inr (.inr (fun i => if i < 8 then some (rw i) else none)))))), (aI cI (ad 13) 8 sl), (aI cI (ad 14) 8 ss), (oC3 ad hn), (aI cI (ad 23) 40 ho), (aI cI (ad 24) 40 hc), (aI cI (ad 25) 40 hp), (aI cI (ad 26) 40 hs)]) [0, 1, 2, 3, 4, 5, 6, 7, 17, 8, 9, 10, 11, 12, 13, 14, 15, 16] (by decide +kernel) rfl
        exact W.iret (v := (-1000010) - (1 : Int32)) hx hb hr (fun t ht hW => ⟨⟨(-1000010) - (1 : Int32), ((1 : Int32), hn, ho, hc, hp, hs), rfl, ⟨(by unfold sp_holds; (repeat' split) <;> first | rfl | (exfalso; omega)), by omega, by omega, by assumption⟩, by rw [ht]; exact hP9, va_K.moved hW.alike hK, hD9⟩, hS.F ht⟩) hS.2.2 dX10_holds_38
    · skip
      have f71 := bo_f hw8 c10
      refine lv_ldc hx hb hown (hts (Cond.constant RX10 89 (-1000001)) (wm_t (wm_l (wm_i 0 rfl)))) dX10_holds_19 ?_
      have hP9 := hP
      have hD9 := hD
      exact W.iret (v := (-1000001)) hx hb hr (fun t ht hW => ⟨⟨(-1000001), (lf, hn, ho, hc, hp, hs), rfl, ⟨(by unfold sp_holds; (repeat' split) <;> first | rfl | (exfalso; omega)), by omega, by omega, by assumption⟩, by rw [ht]; exact hP9, va_K.moved hW.alike hK, hD9⟩, hS.F ht⟩) hS.2.2 dX10_holds_21

set_option maxHeartbeats 4000000 in
set_option maxRecDepth 100000 in
theorem ct_X10_count (l : Launch) (D : va_G) (cI cY cJ cQ : ClassId) (sz : Nat) (ad : Nat → Nat) (tn td lf hn cn pn gn ln lfa dl dr bs be tk nb an un lc : Int32) (ss : Nat → Int32) (w : Int32)   : Met l yX10_count wsX10_count ({ frames := 2, cells := 0, slots := 0, locals := 43 }) (cPre D (ty4 cI cY cJ cQ) [(oC10 ad tn td lf), (oC9 ad ), (aI cI (ad 14) 8 ss), (oC3 ad hn), (oC1 ad cn), (oC7 ad pn), (oC8 ad gn), (oC2 ad ln lfa dl dr bs be tk nb), (oC0 ad an), (oC6 ad un), (oC4 ad lc)] sz [.ref (ad 0), .int w]) (va_Qi (fun (r : Int32) (u : Unit) => True) (cB D (ty4 cI cY cJ cQ) (fun (u : Unit) => [(oC10 ad tn td lf), (oC9 ad ), (aI cI (ad 14) 8 ss), (oC3 ad hn), (oC1 ad cn), (oC7 ad pn), (oC8 ad gn), (oC2 ad ln lfa dl dr bs be tk nb), (oC0 ad an), (oC6 ad un), (oC4 ad lc)]) (va_A [(oC10 ad tn td lf), (oC9 ad ), (aI cI (ad 14) 8 ss), (oC3 ad hn), (oC1 ad cn), (oC7 ad pn), (oC8 ad gn), (oC2 ad ln lfa dl dr bs be tk nb), (oC0 ad an), (oC6 ad un), (oC4 ad lc)] sz)) (va_A [(oC10 ad tn td lf), (oC9 ad ), (aI cI (ad 14) 8 ss), (oC3 ad hn), (oC1 ad cn), (oC7 ad pn), (oC8 ad gn), (oC2 ad ln lfa dl dr bs be tk nb), (oC0 ad an), (oC6 ad un), (oC4 ad lc)] sz)) 0 0 (va_A [(oC10 ad tn td lf), (oC9 ad ), (aI cI (ad 14) 8 ss), (oC3 ad hn), (oC1 ad cn), (oC7 ad pn), (oC8 ad gn), (oC2 ad ln lfa dl dr bs be tk nb), (oC0 ad an), (oC6 ad un), (oC4 ad lc)] sz) := by
  refine Met.ofW (cc := cX10_count) (maxL := 2) (ret := (some .int)) (by decide) rfl ?_
  intro p e s m args below meth c s₁ B hml hv
  obtain ⟨rfl, hsz, hP, hK, hD0, hN⟩ := hv
  have hx := B.exec
  have hb := B.bytes
  have hr := B.returns
  have hts := atoms_spec (ws := wsX10_count) B.pre
  have hown : s.vm.findClass RX10 = some m.cls := findClass_of_methodNamed B.named
  have hlocks := B.notSynchronized
  subst hsz
  have hD := hD0.self (sz := s.heap.size)
  generalize hAe : va_A [(oC10 ad tn td lf), (oC9 ad ), (aI cI (ad 14) 8 ss), (oC3 ad hn), (oC1 ad cn), (oC7 ad pn), (oC8 ad gn), (oC2 ad ln lfa dl dr bs be tk nb), (oC0 ad an), (oC6 ad un), (oC4 ad lc)] s.heap.size = A at hD ⊢
  have hA : ∀ q : Nat, s.heap.size ≤ q → A q := fun q h => by rw [← hAe]; exact Or.inr h
  have hS : va_S A s.heap s.heap [] := va_S.rf
  have hP : va_P D vwCl [(oC10 ad tn td lf), (oC9 ad ), (aI cI (ad 14) 8 ss), (oC3 ad hn), (oC1 ad cn), (oC7 ad pn), (oC8 ad gn), (oC2 ad ln lfa dl dr bs be tk nb), (oC0 ad an), (oC6 ad un), (oC4 ad lc)] s.heap := hP
  have hl := lv_entry ([.ref (ad 0), .int w]) (n := 2) (Nat.le_of_ble_eq_true rfl)
  rw [lg_entry_eq]
  generalize (lg_sl ([.ref (ad 0), .int w]) ++ List.replicate (2 - (lg_sl ([.ref (ad 0), .int w])).length) Slot.unset).toArray = ls at hl ⊢
  have hl : lv_has ls 2 [(0, .ref (ad 0)), (1, .int w)] := hl
  refine lv_iload_n hx hb dX10_count_0 rfl (lv_at hl 1 rfl) ?_
  rcases (show (w.toInt < 0 ∨ 9 < w.toInt) ∨ w.toInt = 0 ∨ w.toInt = 1 ∨ w.toInt = 2 ∨ w.toInt = 3 ∨ w.toInt = 4 ∨ w.toInt = 5 ∨ w.toInt = 6 ∨ w.toInt = 7 ∨ w.toInt = 8 ∨ w.toInt = 9 by omega) with hsw1 | hsw1 | hsw1 | hsw1 | hsw1 | hsw1 | hsw1 | hsw1 | hsw1 | hsw1 | hsw1
  · skip
    refine lv_tableOut (tgt := 136) hx hb dX10_count_1 hsw1 (by decide) ?_
    refine lv_ldc hx hb hown (hts (Cond.constant RX10 89 (-1000001)) (wm_t (wm_l (wm_i 18 rfl)))) dX10_count_136 ?_
    have hP9 := hP
    have hD9 := hD
    exact W.iret (v := (-1000001)) hx hb hr (fun t ht hW => ⟨⟨(-1000001), (), rfl, trivial, by rw [ht]; exact hP9, va_K.moved hW.alike hK, hD9⟩, hS.F ht⟩) hS.2.2 dX10_count_138
  · skip
    refine lv_tableIn (tgt := 56) (off := 55) hx hb dX10_count_1 (by omega) (by omega) (by rw [hsw1]; rfl) (by decide) ?_
    refine lv_aload_n hx hb dX10_count_56 rfl (lv_at hl 0 rfl) ?_
    refine va_get (D := D) (ci := 10) (v := .ref (ad 1)) (C := RX10) (T := TX10) (N := 14) hx hb hts inX10_count_X10 hown hK hP 0 rfl rfl 0 (by decide) (hts (Cond.fieldLink RX10 10 "PortRooms" "sheets" "LPortRooms$Sheets;") (wm_t (wm_l (wm_i 0 rfl)))) (fun _ h9 => h9) rfl dX10_count_57 ?_
    refine st_i1 (va_runV (C := RX9) (As := []) (rest := []) ⟨hx, hb, hml, hown, hts⟩ (ct_X9_howMany l D cI cY cJ cQ _ ad ss) (cwV 0 hts gX10_count_X9_howMany rfl rfl rfl ⟨rfl, cdX9_howMany⟩ ⟨Nat.le_of_ble_eq_true rfl, Nat.le_of_ble_eq_true rfl⟩) (cPreV (hP.sub [1, 2] rfl) hK (hD.sub [1, 2] (by decide +kernel) rfl) hN (ci := 9) (q0 := 0) rfl rfl) rfl rfl hl.1 rfl (lv_room (Nat.le_of_ble_eq_true rfl)) dX10_count_60 ⟨Nat.le_of_ble_eq_true rfl, Nat.le_of_ble_eq_true rfl⟩) hP hD hS hA [1, 2] rfl (fun _ => rfl) (fun r4 u2 H locs hw3 => ?_)
    clear hP hS
    intro hP hS
    replace hw3 : True := hw3
    have hP9 := hP
    have hD9 := hD
    exact W.iret (v := r4) hx hb hr (fun t ht hW => ⟨⟨r4, (), rfl, trivial, by rw [ht]; exact hP9, va_K.moved hW.alike hK, hD9⟩, hS.F ht⟩) hS.2.2 dX10_count_63
  · skip
    refine lv_tableIn (tgt := 64) (off := 63) hx hb dX10_count_1 (by omega) (by omega) (by rw [hsw1]; rfl) (by decide) ?_
    refine lv_aload_n hx hb dX10_count_64 rfl (lv_at hl 0 rfl) ?_
    refine va_get (D := D) (ci := 10) (v := .ref (ad 2)) (C := RX10) (T := TX10) (N := 14) hx hb hts inX10_count_X10 hown hK hP 0 rfl rfl 1 (by decide) (hts (Cond.fieldLink RX10 19 "PortRooms" "holdings" "LPortRooms$Holdings;") (wm_t (wm_l (wm_i 1 rfl)))) (fun _ h9 => h9) rfl dX10_count_65 ?_
    refine va_get (D := D) (ci := 3) (v := .int hn) (C := RX3) (T := TX3) (N := 9) hx hb hts inX10_count_X3 hown hK hP 3 rfl rfl 4 (by decide) (hts (Cond.fieldLink RX10 141 "PortRooms$Holdings" "count" "I") (wm_t (wm_l (wm_i 2 rfl)))) (fun _ h9 => h9) rfl dX10_count_68 ?_
    have hP9 := hP
    have hD9 := hD
    exact W.iret (v := hn) hx hb hr (fun t ht hW => ⟨⟨hn, (), rfl, trivial, by rw [ht]; exact hP9, va_K.moved hW.alike hK, hD9⟩, hS.F ht⟩) hS.2.2 dX10_count_71
  · skip
    refine lv_tableIn (tgt := 72) (off := 71) hx hb dX10_count_1 (by omega) (by omega) (by rw [hsw1]; rfl) (by decide) ?_
    refine lv_aload_n hx hb dX10_count_72 rfl (lv_at hl 0 rfl) ?_
    refine va_get (D := D) (ci := 10) (v := .ref (ad 3)) (C := RX10) (T := TX10) (N := 14) hx hb hts inX10_count_X10 hown hK hP 0 rfl rfl 2 (by decide) (hts (Cond.fieldLink RX10 26 "PortRooms" "crates" "LPortRooms$Crates;") (wm_t (wm_l (wm_i 3 rfl)))) (fun _ h9 => h9) rfl dX10_count_73 ?_
    refine va_get (D := D) (ci := 1) (v := .int cn) (C := RX1) (T := TX1) (N := 6) hx hb hts inX10_count_X1 hown hK hP 4 rfl rfl 3 (by decide) (hts (Cond.fieldLink RX10 177 "PortRooms$Crates" "count" "I") (wm_t (wm_l (wm_i 4 rfl)))) (fun _ h9 => h9) rfl dX10_count_76 ?_
    have hP9 := hP
    have hD9 := hD
    exact W.iret (v := cn) hx hb hr (fun t ht hW => ⟨⟨cn, (), rfl, trivial, by rw [ht]; exact hP9, va_K.moved hW.alike hK, hD9⟩, hS.F ht⟩) hS.2.2 dX10_count_79
  · skip
    refine lv_tableIn (tgt := 80) (off := 79) hx hb dX10_count_1 (by omega) (by omega) (by rw [hsw1]; rfl) (by decide) ?_
    refine lv_aload_n hx hb dX10_count_80 rfl (lv_at hl 0 rfl) ?_
    refine va_get (D := D) (ci := 10) (v := .ref (ad 4)) (C := RX10) (T := TX10) (N := 14) hx hb hts inX10_count_X10 hown hK hP 0 rfl rfl 3 (by decide) (hts (Cond.fieldLink RX10 33 "PortRooms" "papers" "LPortRooms$Papers;") (wm_t (wm_l (wm_i 5 rfl)))) (fun _ h9 => h9) rfl dX10_count_81 ?_
    refine va_get (D := D) (ci := 7) (v := .int pn) (C := RX7) (T := TX7) (N := 7) hx hb hts inX10_count_X7 hown hK hP 5 rfl rfl 6 (by decide) (hts (Cond.fieldLink RX10 186 "PortRooms$Papers" "count" "I") (wm_t (wm_l (wm_i 6 rfl)))) (fun _ h9 => h9) rfl dX10_count_84 ?_
    have hP9 := hP
    have hD9 := hD
    exact W.iret (v := pn) hx hb hr (fun t ht hW => ⟨⟨pn, (), rfl, trivial, by rw [ht]; exact hP9, va_K.moved hW.alike hK, hD9⟩, hS.F ht⟩) hS.2.2 dX10_count_87
  · skip
    refine lv_tableIn (tgt := 88) (off := 87) hx hb dX10_count_1 (by omega) (by omega) (by rw [hsw1]; rfl) (by decide) ?_
    refine lv_aload_n hx hb dX10_count_88 rfl (lv_at hl 0 rfl) ?_
    refine va_get (D := D) (ci := 10) (v := .ref (ad 5)) (C := RX10) (T := TX10) (N := 14) hx hb hts inX10_count_X10 hown hK hP 0 rfl rfl 4 (by decide) (hts (Cond.fieldLink RX10 40 "PortRooms" "pledges" "LPortRooms$Pledges;") (wm_t (wm_l (wm_i 7 rfl)))) (fun _ h9 => h9) rfl dX10_count_89 ?_
    refine va_get (D := D) (ci := 8) (v := .int gn) (C := RX8) (T := TX8) (N := 6) hx hb hts inX10_count_X8 hown hK hP 6 rfl rfl 4 (by decide) (hts (Cond.fieldLink RX10 199 "PortRooms$Pledges" "count" "I") (wm_t (wm_l (wm_i 8 rfl)))) (fun _ h9 => h9) rfl dX10_count_92 ?_
    have hP9 := hP
    have hD9 := hD
    exact W.iret (v := gn) hx hb hr (fun t ht hW => ⟨⟨gn, (), rfl, trivial, by rw [ht]; exact hP9, va_K.moved hW.alike hK, hD9⟩, hS.F ht⟩) hS.2.2 dX10_count_95
  · skip
    refine lv_tableIn (tgt := 96) (off := 95) hx hb dX10_count_1 (by omega) (by omega) (by rw [hsw1]; rfl) (by decide) ?_
    refine lv_aload_n hx hb dX10_count_96 rfl (lv_at hl 0 rfl) ?_
    refine va_get (D := D) (ci := 10) (v := .ref (ad 6)) (C := RX10) (T := TX10) (N := 14) hx hb hts inX10_count_X10 hown hK hP 0 rfl rfl 5 (by decide) (hts (Cond.fieldLink RX10 47 "PortRooms" "duties" "LPortRooms$Duties;") (wm_t (wm_l (wm_i 9 rfl)))) (fun _ h9 => h9) rfl dX10_count_97 ?_
    refine va_get (D := D) (ci := 2) (v := .int dl) (C := RX2) (T := TX2) (N := 15) hx hb hts inX10_count_X2 hown hK hP 7 rfl rfl 6 (by decide) (hts (Cond.fieldLink RX10 319 "PortRooms$Duties" "lines" "I") (wm_t (wm_l (wm_i 10 rfl)))) (fun _ h9 => h9) rfl dX10_count_100 ?_
    have hP9 := hP
    have hD9 := hD
    exact W.iret (v := dl) hx hb hr (fun t ht hW => ⟨⟨dl, (), rfl, trivial, by rw [ht]; exact hP9, va_K.moved hW.alike hK, hD9⟩, hS.F ht⟩) hS.2.2 dX10_count_103
  · skip
    refine lv_tableIn (tgt := 104) (off := 103) hx hb dX10_count_1 (by omega) (by omega) (by rw [hsw1]; rfl) (by decide) ?_
    refine lv_aload_n hx hb dX10_count_104 rfl (lv_at hl 0 rfl) ?_
    refine va_get (D := D) (ci := 10) (v := .ref (ad 7)) (C := RX10) (T := TX10) (N := 14) hx hb hts inX10_count_X10 hown hK hP 0 rfl rfl 6 (by decide) (hts (Cond.fieldLink RX10 54 "PortRooms" "acts" "LPortRooms$Acts;") (wm_t (wm_l (wm_i 11 rfl)))) (fun _ h9 => h9) rfl dX10_count_105 ?_
    refine va_get (D := D) (ci := 0) (v := .int an) (C := RX0) (T := TX0) (N := 5) hx hb hts inX10_count_X0 hown hK hP 8 rfl rfl 4 (by decide) (hts (Cond.fieldLink RX10 227 "PortRooms$Acts" "count" "I") (wm_t (wm_l (wm_i 12 rfl)))) (fun _ h9 => h9) rfl dX10_count_108 ?_
    have hP9 := hP
    have hD9 := hD
    exact W.iret (v := an) hx hb hr (fun t ht hW => ⟨⟨an, (), rfl, trivial, by rw [ht]; exact hP9, va_K.moved hW.alike hK, hD9⟩, hS.F ht⟩) hS.2.2 dX10_count_111
  · skip
    refine lv_tableIn (tgt := 112) (off := 111) hx hb dX10_count_1 (by omega) (by omega) (by rw [hsw1]; rfl) (by decide) ?_
    refine lv_aload_n hx hb dX10_count_112 rfl (lv_at hl 0 rfl) ?_
    refine va_get (D := D) (ci := 10) (v := .ref (ad 9)) (C := RX10) (T := TX10) (N := 14) hx hb hts inX10_count_X10 hown hK hP 0 rfl rfl 8 (by decide) (hts (Cond.fieldLink RX10 61 "PortRooms" "openings" "LPortRooms$Openings;") (wm_t (wm_l (wm_i 13 rfl)))) (fun _ h9 => h9) rfl dX10_count_113 ?_
    refine va_get (D := D) (ci := 6) (v := .int un) (C := RX6) (T := TX6) (N := 5) hx hb hts inX10_count_X6 hown hK hP 9 rfl rfl 4 (by decide) (hts (Cond.fieldLink RX10 287 "PortRooms$Openings" "count" "I") (wm_t (wm_l (wm_i 14 rfl)))) (fun _ h9 => h9) rfl dX10_count_116 ?_
    have hP9 := hP
    have hD9 := hD
    exact W.iret (v := un) hx hb hr (fun t ht hW => ⟨⟨un, (), rfl, trivial, by rw [ht]; exact hP9, va_K.moved hW.alike hK, hD9⟩, hS.F ht⟩) hS.2.2 dX10_count_119
  · skip
    refine lv_tableIn (tgt := 120) (off := 119) hx hb dX10_count_1 (by omega) (by omega) (by rw [hsw1]; rfl) (by decide) ?_
    refine lv_aload_n hx hb dX10_count_120 rfl (lv_at hl 0 rfl) ?_
    refine va_get (D := D) (ci := 10) (v := .ref (ad 10)) (C := RX10) (T := TX10) (N := 14) hx hb hts inX10_count_X10 hown hK hP 0 rfl rfl 9 (by decide) (hts (Cond.fieldLink RX10 68 "PortRooms" "lists" "LPortRooms$Lists;") (wm_t (wm_l (wm_i 15 rfl)))) (fun _ h9 => h9) rfl dX10_count_121 ?_
    refine va_get (D := D) (ci := 4) (v := .int lc) (C := RX4) (T := TX4) (N := 4) hx hb hts inX10_count_X4 hown hK hP 10 rfl rfl 3 (by decide) (hts (Cond.fieldLink RX10 292 "PortRooms$Lists" "count" "I") (wm_t (wm_l (wm_i 16 rfl)))) (fun _ h9 => h9) rfl dX10_count_124 ?_
    have hP9 := hP
    have hD9 := hD
    exact W.iret (v := lc) hx hb hr (fun t ht hW => ⟨⟨lc, (), rfl, trivial, by rw [ht]; exact hP9, va_K.moved hW.alike hK, hD9⟩, hS.F ht⟩) hS.2.2 dX10_count_127
  · skip
    refine lv_tableIn (tgt := 128) (off := 127) hx hb dX10_count_1 (by omega) (by omega) (by rw [hsw1]; rfl) (by decide) ?_
    refine lv_aload_n hx hb dX10_count_128 rfl (lv_at hl 0 rfl) ?_
    refine va_get (D := D) (ci := 10) (v := .ref (ad 6)) (C := RX10) (T := TX10) (N := 14) hx hb hts inX10_count_X10 hown hK hP 0 rfl rfl 5 (by decide) (hts (Cond.fieldLink RX10 47 "PortRooms" "duties" "LPortRooms$Duties;") (wm_t (wm_l (wm_i 9 rfl)))) (fun _ h9 => h9) rfl dX10_count_129 ?_
    refine va_get (D := D) (ci := 2) (v := .int ln) (C := RX2) (T := TX2) (N := 15) hx hb hts inX10_count_X2 hown hK hP 7 rfl rfl 1 (by decide) (hts (Cond.fieldLink RX10 213 "PortRooms$Duties" "length" "I") (wm_t (wm_l (wm_i 17 rfl)))) (fun _ h9 => h9) rfl dX10_count_132 ?_
    have hP9 := hP
    have hD9 := hD
    exact W.iret (v := ln) hx hb hr (fun t ht hW => ⟨⟨ln, (), rfl, trivial, by rw [ht]; exact hP9, va_K.moved hW.alike hK, hD9⟩, hS.F ht⟩) hS.2.2 dX10_count_135
end

section

def sp_feed (ln n : Int32) : Int32 := if 1 ≤ n.toInt ∧ n.toInt ≤ 8 then (if 300 < ln.toInt + n.toInt then -1000003 else ln + n) else -1000001
def sq_feed (ln n : Int32) : Int32 := if 1 ≤ n.toInt ∧ n.toInt ≤ 8 then (if 300 < ln.toInt + n.toInt then ln else ln + n) else ln
end

section
theorem cdJ0_isLatin1_aae02 : yJ0_isLatin1_aae02.cls ≠ "java/lang/invoke/MethodHandle" ∧ yJ0_isLatin1_aae02.cls ≠ "java/lang/invoke/VarHandle" ∧ (parseMethodDescriptor yJ0_isLatin1_aae02.desc).map (fun d => d.parameters.length) = some 0 := by decide +kernel
theorem cdJ0_checkIndex_df160 : yJ0_checkIndex_df160.cls ≠ "java/lang/invoke/MethodHandle" ∧ yJ0_checkIndex_df160.cls ≠ "java/lang/invoke/VarHandle" ∧ (parseMethodDescriptor yJ0_checkIndex_df160.desc).map (fun d => d.parameters.length) = some 2 := by decide +kernel
theorem cdJ1_charAt_3b067 : yJ1_charAt_3b067.cls ≠ "java/lang/invoke/MethodHandle" ∧ yJ1_charAt_3b067.cls ≠ "java/lang/invoke/VarHandle" ∧ (parseMethodDescriptor yJ1_charAt_3b067.desc).map (fun d => d.parameters.length) = some 2 := by decide +kernel
theorem cdJ3_checkIndex_8e157 : yJ3_checkIndex_8e157.cls ≠ "java/lang/invoke/MethodHandle" ∧ yJ3_checkIndex_8e157.cls ≠ "java/lang/invoke/VarHandle" ∧ (parseMethodDescriptor yJ3_checkIndex_8e157.desc).map (fun d => d.parameters.length) = some 3 := by decide +kernel
theorem Gd_J0_isLatin1_aae02 : gdA wsJ0_isLatin1_aae02 := gd_cons (by decide +kernel) (gd_all (ws := wsJ0_isLatin1_aae02_o1) (by decide +kernel))
theorem Gd_J3_checkIndex_8e157 : gdA wsJ3_checkIndex_8e157 := gd_cons (by decide +kernel) (gd_all (ws := []) rfl)
theorem Gd_J0_checkIndex_df160 : gdA wsJ0_checkIndex_df160 := gd_cons (by decide +kernel) (gd_app (gd_all (ws := wsJ0_checkIndex_df160_o1) (by decide +kernel)) Gd_J3_checkIndex_8e157)
theorem Gd_J1_charAt_3b067 : gdA wsJ1_charAt_3b067 := gd_cons (by decide +kernel) (gd_app (gd_all (ws := wsJ1_charAt_3b067_o1) (by decide +kernel)) Gd_J0_checkIndex_df160)
theorem ggJ0_charAt_5068e_J0_isLatin1_aae02 : GoodIn wsJ0_charAt_5068e wsJ0_isLatin1_aae02 := goodIn_s (fun _ h => wm_t (wm_r (wm_l (wm_l h)))) Gd_J0_isLatin1_aae02
theorem gJ0_charAt_5068e_J0_isLatin1_aae02 : GoodIn wsJ0_charAt_5068e (wsV RJ0 492 RJ0 yJ0_isLatin1_aae02 wsJ0_isLatin1_aae02) := goodIn_V (own := RJ0) (idx := 492) (C := RJ0) (y := yJ0_isLatin1_aae02) (wm_t (wm_l (wm_i 1 rfl))) (wm_t (wm_l (wm_i 2 rfl))) (wm_t (wm_l (wm_i 3 rfl))) (wm_t (wm_l (wm_i 4 rfl))) ggJ0_charAt_5068e_J0_isLatin1_aae02
theorem ggJ0_charAt_5068e_J1_charAt_3b067 : GoodIn wsJ0_charAt_5068e wsJ1_charAt_3b067 := goodIn_s (fun _ h => wm_t (wm_r (wm_l (wm_r h)))) Gd_J1_charAt_3b067
theorem gJ0_charAt_5068e_J1_charAt_3b067 : GoodIn wsJ0_charAt_5068e (va_wsS RJ0 495 yJ1_charAt_3b067 wsJ1_charAt_3b067) := goodIn_S (own := RJ0) (idx := 495) (y := yJ1_charAt_3b067) (wm_t (wm_l (wm_i 5 rfl))) (wm_t (wm_l (wm_i 6 rfl))) (wm_t (wm_l (wm_i 7 rfl))) ggJ0_charAt_5068e_J1_charAt_3b067
theorem dJ0_charAt_5068e_all0 : decode cJ0_charAt_5068e 0 = .ok (.aload_n 0, 1) ∧ decode cJ0_charAt_5068e 1 = .ok (.invokevirtual 492, 3) ∧ decode cJ0_charAt_5068e 4 = .ok (.ifCond .eq 12, 3) ∧ decode cJ0_charAt_5068e 7 = .ok (.aload_n 0, 1) ∧ decode cJ0_charAt_5068e 8 = .ok (.getfield 9, 3) ∧ decode cJ0_charAt_5068e 11 = .ok (.iload_n 1, 1) ∧ decode cJ0_charAt_5068e 12 = .ok (.invokestatic 495, 3) ∧ decode cJ0_charAt_5068e 15 = .ok (.ireturn, 1) ∧ decode cJ0_charAt_5068e 16 = .ok (.aload_n 0, 1) ∧ decode cJ0_charAt_5068e 17 = .ok (.getfield 9, 3) ∧ decode cJ0_charAt_5068e 20 = .ok (.iload_n 1, 1) ∧ decode cJ0_charAt_5068e 21 = .ok (.invokestatic 498, 3) := by decide +kernel
theorem dJ0_charAt_5068e_0 : decode cJ0_charAt_5068e 0 = .ok (.aload_n 0, 1) := dJ0_charAt_5068e_all0.1
theorem dJ0_charAt_5068e_1 : decode cJ0_charAt_5068e 1 = .ok (.invokevirtual 492, 3) := dJ0_charAt_5068e_all0.2.1
theorem dJ0_charAt_5068e_4 : decode cJ0_charAt_5068e 4 = .ok (.ifCond .eq 12, 3) := dJ0_charAt_5068e_all0.2.2.1
theorem dJ0_charAt_5068e_7 : decode cJ0_charAt_5068e 7 = .ok (.aload_n 0, 1) := dJ0_charAt_5068e_all0.2.2.2.1
theorem dJ0_charAt_5068e_8 : decode cJ0_charAt_5068e 8 = .ok (.getfield 9, 3) := dJ0_charAt_5068e_all0.2.2.2.2.1
theorem dJ0_charAt_5068e_11 : decode cJ0_charAt_5068e 11 = .ok (.iload_n 1, 1) := dJ0_charAt_5068e_all0.2.2.2.2.2.1
theorem dJ0_charAt_5068e_12 : decode cJ0_charAt_5068e 12 = .ok (.invokestatic 495, 3) := dJ0_charAt_5068e_all0.2.2.2.2.2.2.1
theorem dJ0_charAt_5068e_15 : decode cJ0_charAt_5068e 15 = .ok (.ireturn, 1) := dJ0_charAt_5068e_all0.2.2.2.2.2.2.2.1
theorem dJ0_isLatin1_aae02_all0 : decode cJ0_isLatin1_aae02 0 = .ok (.getstatic 38, 3) ∧ decode cJ0_isLatin1_aae02 3 = .ok (.ifCond .eq 14, 3) ∧ decode cJ0_isLatin1_aae02 6 = .ok (.aload_n 0, 1) ∧ decode cJ0_isLatin1_aae02 7 = .ok (.getfield 15, 3) ∧ decode cJ0_isLatin1_aae02 10 = .ok (.ifCond .ne 7, 3) ∧ decode cJ0_isLatin1_aae02 13 = .ok (.iconst 1, 1) ∧ decode cJ0_isLatin1_aae02 14 = .ok (.goto 4, 3) ∧ decode cJ0_isLatin1_aae02 17 = .ok (.iconst 0, 1) ∧ decode cJ0_isLatin1_aae02 18 = .ok (.ireturn, 1) := by decide +kernel
theorem dJ0_isLatin1_aae02_0 : decode cJ0_isLatin1_aae02 0 = .ok (.getstatic 38, 3) := dJ0_isLatin1_aae02_all0.1
theorem dJ0_isLatin1_aae02_3 : decode cJ0_isLatin1_aae02 3 = .ok (.ifCond .eq 14, 3) := dJ0_isLatin1_aae02_all0.2.1
theorem dJ0_isLatin1_aae02_6 : decode cJ0_isLatin1_aae02 6 = .ok (.aload_n 0, 1) := dJ0_isLatin1_aae02_all0.2.2.1
theorem dJ0_isLatin1_aae02_7 : decode cJ0_isLatin1_aae02 7 = .ok (.getfield 15, 3) := dJ0_isLatin1_aae02_all0.2.2.2.1
theorem dJ0_isLatin1_aae02_10 : decode cJ0_isLatin1_aae02 10 = .ok (.ifCond .ne 7, 3) := dJ0_isLatin1_aae02_all0.2.2.2.2.1
theorem dJ0_isLatin1_aae02_13 : decode cJ0_isLatin1_aae02 13 = .ok (.iconst 1, 1) := dJ0_isLatin1_aae02_all0.2.2.2.2.2.1
theorem dJ0_isLatin1_aae02_14 : decode cJ0_isLatin1_aae02 14 = .ok (.goto 4, 3) := dJ0_isLatin1_aae02_all0.2.2.2.2.2.2.1
theorem dJ0_isLatin1_aae02_18 : decode cJ0_isLatin1_aae02 18 = .ok (.ireturn, 1) := dJ0_isLatin1_aae02_all0.2.2.2.2.2.2.2.2
theorem ggJ0_checkIndex_df160_J3_checkIndex_8e157 : GoodIn wsJ0_checkIndex_df160 wsJ3_checkIndex_8e157 := goodIn_s (fun _ h => wm_t (wm_r h)) Gd_J3_checkIndex_8e157
theorem gJ0_checkIndex_df160_J3_checkIndex_8e157 : GoodIn wsJ0_checkIndex_df160 (va_wsS RJ0 1059 yJ3_checkIndex_8e157 wsJ3_checkIndex_8e157) := goodIn_S (own := RJ0) (idx := 1059) (y := yJ3_checkIndex_8e157) (wm_t (wm_l (wm_i 1 rfl))) (wm_t (wm_l (wm_i 2 rfl))) (wm_t (wm_l (wm_i 3 rfl))) ggJ0_checkIndex_df160_J3_checkIndex_8e157
theorem dJ0_checkIndex_df160_all0 : decode cJ0_checkIndex_df160 0 = .ok (.iload_n 0, 1) ∧ decode cJ0_checkIndex_df160 1 = .ok (.iload_n 1, 1) ∧ decode cJ0_checkIndex_df160 2 = .ok (.getstatic 1053, 3) ∧ decode cJ0_checkIndex_df160 5 = .ok (.invokestatic 1059, 3) ∧ decode cJ0_checkIndex_df160 8 = .ok (.pop, 1) ∧ decode cJ0_checkIndex_df160 9 = .ok (.return_, 1) := by decide +kernel
theorem dJ0_checkIndex_df160_0 : decode cJ0_checkIndex_df160 0 = .ok (.iload_n 0, 1) := dJ0_checkIndex_df160_all0.1
theorem dJ0_checkIndex_df160_1 : decode cJ0_checkIndex_df160 1 = .ok (.iload_n 1, 1) := dJ0_checkIndex_df160_all0.2.1
theorem dJ0_checkIndex_df160_2 : decode cJ0_checkIndex_df160 2 = .ok (.getstatic 1053, 3) := dJ0_checkIndex_df160_all0.2.2.1
theorem dJ0_checkIndex_df160_5 : decode cJ0_checkIndex_df160 5 = .ok (.invokestatic 1059, 3) := dJ0_checkIndex_df160_all0.2.2.2.1
theorem dJ0_checkIndex_df160_8 : decode cJ0_checkIndex_df160 8 = .ok (.pop, 1) := dJ0_checkIndex_df160_all0.2.2.2.2.1
theorem dJ0_checkIndex_df160_9 : decode cJ0_checkIndex_df160 9 = .ok (.return_, 1) := dJ0_checkIndex_df160_all0.2.2.2.2.2
theorem ggJ1_charAt_3b067_J0_checkIndex_df160 : GoodIn wsJ1_charAt_3b067 wsJ0_checkIndex_df160 := goodIn_s (fun _ h => wm_t (wm_r h)) Gd_J0_checkIndex_df160
theorem gJ1_charAt_3b067_J0_checkIndex_df160 : GoodIn wsJ1_charAt_3b067 (va_wsS RJ1 9 yJ0_checkIndex_df160 wsJ0_checkIndex_df160) := goodIn_S (own := RJ1) (idx := 9) (y := yJ0_checkIndex_df160) (wm_t (wm_l (wm_i 0 rfl))) (wm_t (wm_l (wm_i 1 rfl))) (wm_t (wm_l (wm_i 2 rfl))) ggJ1_charAt_3b067_J0_checkIndex_df160
theorem dJ1_charAt_3b067_all0 : decode cJ1_charAt_3b067 0 = .ok (.iload_n 1, 1) ∧ decode cJ1_charAt_3b067 1 = .ok (.aload_n 0, 1) ∧ decode cJ1_charAt_3b067 2 = .ok (.arraylength, 1) ∧ decode cJ1_charAt_3b067 3 = .ok (.invokestatic 9, 3) ∧ decode cJ1_charAt_3b067 6 = .ok (.aload_n 0, 1) ∧ decode cJ1_charAt_3b067 7 = .ok (.iload_n 1, 1) ∧ decode cJ1_charAt_3b067 8 = .ok (.baload, 1) ∧ decode cJ1_charAt_3b067 9 = .ok (.sipush 255, 3) ∧ decode cJ1_charAt_3b067 12 = .ok (.iand, 1) ∧ decode cJ1_charAt_3b067 13 = .ok (.i2c, 1) ∧ decode cJ1_charAt_3b067 14 = .ok (.ireturn, 1) := by decide +kernel
theorem dJ1_charAt_3b067_0 : decode cJ1_charAt_3b067 0 = .ok (.iload_n 1, 1) := dJ1_charAt_3b067_all0.1
theorem dJ1_charAt_3b067_1 : decode cJ1_charAt_3b067 1 = .ok (.aload_n 0, 1) := dJ1_charAt_3b067_all0.2.1
theorem dJ1_charAt_3b067_2 : decode cJ1_charAt_3b067 2 = .ok (.arraylength, 1) := dJ1_charAt_3b067_all0.2.2.1
theorem dJ1_charAt_3b067_3 : decode cJ1_charAt_3b067 3 = .ok (.invokestatic 9, 3) := dJ1_charAt_3b067_all0.2.2.2.1
theorem dJ1_charAt_3b067_6 : decode cJ1_charAt_3b067 6 = .ok (.aload_n 0, 1) := dJ1_charAt_3b067_all0.2.2.2.2.1
theorem dJ1_charAt_3b067_7 : decode cJ1_charAt_3b067 7 = .ok (.iload_n 1, 1) := dJ1_charAt_3b067_all0.2.2.2.2.2.1
theorem dJ1_charAt_3b067_8 : decode cJ1_charAt_3b067 8 = .ok (.baload, 1) := dJ1_charAt_3b067_all0.2.2.2.2.2.2.1
theorem dJ1_charAt_3b067_9 : decode cJ1_charAt_3b067 9 = .ok (.sipush 255, 3) := dJ1_charAt_3b067_all0.2.2.2.2.2.2.2.1
theorem dJ1_charAt_3b067_12 : decode cJ1_charAt_3b067 12 = .ok (.iand, 1) := dJ1_charAt_3b067_all0.2.2.2.2.2.2.2.2.1
theorem dJ1_charAt_3b067_13 : decode cJ1_charAt_3b067 13 = .ok (.i2c, 1) := dJ1_charAt_3b067_all0.2.2.2.2.2.2.2.2.2.1
theorem dJ1_charAt_3b067_14 : decode cJ1_charAt_3b067 14 = .ok (.ireturn, 1) := dJ1_charAt_3b067_all0.2.2.2.2.2.2.2.2.2.2
theorem dJ3_checkIndex_8e157_all0 : decode cJ3_checkIndex_8e157 0 = .ok (.iload_n 0, 1) ∧ decode cJ3_checkIndex_8e157 1 = .ok (.ifCond .lt 8, 3) ∧ decode cJ3_checkIndex_8e157 4 = .ok (.iload_n 0, 1) ∧ decode cJ3_checkIndex_8e157 5 = .ok (.iload_n 1, 1) ∧ decode cJ3_checkIndex_8e157 6 = .ok (.if_icmp .lt 10, 3) ∧ decode cJ3_checkIndex_8e157 9 = .ok (.aload_n 2, 1) ∧ decode cJ3_checkIndex_8e157 10 = .ok (.iload_n 0, 1) ∧ decode cJ3_checkIndex_8e157 11 = .ok (.iload_n 1, 1) ∧ decode cJ3_checkIndex_8e157 12 = .ok (.invokestatic 95, 3) ∧ decode cJ3_checkIndex_8e157 15 = .ok (.athrow, 1) ∧ decode cJ3_checkIndex_8e157 16 = .ok (.iload_n 0, 1) ∧ decode cJ3_checkIndex_8e157 17 = .ok (.ireturn, 1) := by decide +kernel
theorem dJ3_checkIndex_8e157_0 : decode cJ3_checkIndex_8e157 0 = .ok (.iload_n 0, 1) := dJ3_checkIndex_8e157_all0.1
theorem dJ3_checkIndex_8e157_1 : decode cJ3_checkIndex_8e157 1 = .ok (.ifCond .lt 8, 3) := dJ3_checkIndex_8e157_all0.2.1
theorem dJ3_checkIndex_8e157_4 : decode cJ3_checkIndex_8e157 4 = .ok (.iload_n 0, 1) := dJ3_checkIndex_8e157_all0.2.2.1
theorem dJ3_checkIndex_8e157_5 : decode cJ3_checkIndex_8e157 5 = .ok (.iload_n 1, 1) := dJ3_checkIndex_8e157_all0.2.2.2.1
theorem dJ3_checkIndex_8e157_6 : decode cJ3_checkIndex_8e157 6 = .ok (.if_icmp .lt 10, 3) := dJ3_checkIndex_8e157_all0.2.2.2.2.1
theorem dJ3_checkIndex_8e157_16 : decode cJ3_checkIndex_8e157 16 = .ok (.iload_n 0, 1) := dJ3_checkIndex_8e157_all0.2.2.2.2.2.2.2.2.2.2.1
theorem dJ3_checkIndex_8e157_17 : decode cJ3_checkIndex_8e157 17 = .ok (.ireturn, 1) := dJ3_checkIndex_8e157_all0.2.2.2.2.2.2.2.2.2.2.2

/-- the text's own cells, outside A -/
def strW (aK aV : Nat) (A : Nat → Prop) (U : State) : Prop := vk_R RX2 95 WORDT aK U ∧ vk_S 1 [30] [WORDB] (fun _ => aK) (fun _ => aV) A U U.heap ∧ va_Z "java/lang/String" "COMPACT_STRINGS" "Z" (.int 1) A U U.heap ∧ va_Zq "jdk/internal/util/Preconditions" "SIOOBE_FORMATTER" "Ljava/util/function/BiFunction;" A U U.heap
theorem strW.step {aK aV : Nat} {A B : Nat → Prop} {s U : State} {H : Heap} {locs : List Loc} (h : strW aK aV A s) (hS : va_S A s.heap H locs) (hF : ∀ q, B q → A q) (hU : U.heap = H) (hW : s.WarmedH U.vm) : strW aK aV B U := by
  obtain ⟨h1, h2, h3, h4⟩ := h
  refine ⟨h1.warm hW, ?_, ?_, ?_⟩
  · rw [hU]; exact vk_S.moved hW.alike ((h2.kept hS.2.1).narrow hF)
  · rw [hU]; exact va_Z.moved hW.alike ((h3.kept hS.2.1).narrow hF)
  · rw [hU]; exact va_Zq.moved hW.alike ((h4.kept hS.2.1).narrow hF)
abbrev cPreT (aK aV : Nat) (D : va_G) (tys : List (ClassId × FieldType)) (wc : va_W) (sz : Nat) (av : List Value) : Array Value → State → Prop := va_Pc av (fun U => U.heap.size = sz ∧ va_P D vwCl wc U.heap ∧ va_K D vwCl tys U ∧ va_D (fun _ => True) wc ∧ nw U ∧ strW aK aV (va_A wc sz) U)
theorem cPreT_blind {aK aV : Nat} {D : va_G} {tys : List (ClassId × FieldType)} {wc : va_W} {sz : Nat} {av : List Value} : FrameBlind (cPreT aK aV D tys wc sz av) := fun a U g mk q => by
  obtain ⟨q0, q1, qP, qK, qD, qN, qT⟩ := q
  exact ⟨q0, q1, qP, va_K.moved (u := U) (U := U.calling g mk a) (Vm.Alike.refl U.vm) qK, qD, nw.same (u := U) (U := U.calling g mk a) rfl qN, vk_R.same (u := U) (U := U.calling g mk a) rfl qT.1, vk_S.moved (u := U) (U := U.calling g mk a) (Vm.Alike.refl U.vm) qT.2.1, va_Z.moved (u := U) (U := U.calling g mk a) (Vm.Alike.refl U.vm) qT.2.2.1, va_Zq.moved (u := U) (U := U.calling g mk a) (Vm.Alike.refl U.vm) qT.2.2.2⟩
theorem cPreTS {aK aV : Nat} {D : va_G} {tys : List (ClassId × FieldType)} {wc : va_W} {s : State} {H : Heap} {A : Nat → Prop} {locs : List Loc} {av : List Value} (hP : va_P D vwCl wc H) (hK : va_K D vwCl tys s) (hD : va_D A wc) (hN : nw s) (hS : va_S A s.heap H locs) (hF : ∀ q, va_A wc H.size q → A q) (hT : strW aK aV A s) : PreS s H (cPreT aK aV D tys wc H.size av) av :=
  ⟨cPreT_blind, fun U hU hW => ⟨rfl, by rw [hU], by rw [hU]; exact hP, va_K.moved hW.alike hK, hD.weaken (fun _ _ _ _ => trivial), hN.warm hW, hT.step hS hF hU hW⟩⟩
theorem cPreTV {aK aV : Nat} {D : va_G} {tys : List (ClassId × FieldType)} {wc : va_W} {s : State} {H : Heap} {A : Nat → Prop} {locs : List Loc} {b : Nat} {As : List Value} (hP : va_P D vwCl wc H) (hK : va_K D vwCl tys s) (hD : va_D A wc) (hN : nw s) (hS : va_S A s.heap H locs) (hF : ∀ q, va_A wc H.size q → A q) (hT : strW aK aV A s) {ci q0 : Nat} {fs : List Value} {q : vw_C} (hc : vwCl[ci]? = some q) (he : wc[q0]? = some (b, .inr (ci, fs))) : PreV s H q.1 b (cPreT aK aV D tys wc H.size (.ref b :: As)) As :=
  ⟨cPreT_blind, va_recv hK hP hc he, fun U hU hW => ⟨rfl, by rw [hU], by rw [hU]; exact hP, va_K.moved hW.alike hK, hD.weaken (fun _ _ _ _ => trivial), hN.warm hW, hT.step hS hF hU hW⟩⟩
theorem cPreTK {aK aV : Nat} {D : va_G} {tys : List (ClassId × FieldType)} {s : State} {H : Heap} {A : Nat → Prop} {locs : List Loc} {As : List Value} (hK : va_K D vwCl tys s) (hN : nw s) (hS : va_S A s.heap H locs) (hF : ∀ q, va_A [] H.size q → A q) (hT : strW aK aV A s) : PreV s H RJ0 aK (cPreT aK aV D tys [] H.size (.ref aK :: As)) As :=
  ⟨cPreT_blind, vk_recv (i := 0) hT.2.1 (by decide) hS, fun U hU hW => ⟨rfl, by rw [hU], va_P.nil, va_K.moved hW.alike hK, va_D.nil, hN.warm hW, hT.step hS hF hU hW⟩⟩
/-- the letter at a place of the words' text -/
def wch (a : Int32) : Int32 := (((WORDB.getD a.toNatClampNeg 0) &&& 255).toUInt32 % 65536).toInt32
theorem wch_nc (a : Int32) : narrow .char (.int (wch a)) = .int (wch a) := pk_nc _

set_option maxHeartbeats 4000000 in
set_option maxRecDepth 100000 in
theorem ct_isLatin1 (l : Launch) (D : va_G) (cI cY cJ cQ : ClassId) (sz : Nat) (aK aV : Nat)   : Met l yJ0_isLatin1_aae02 wsJ0_isLatin1_aae02 ({ frames := 0, cells := 0, slots := 0, locals := 0 }) (cPreT aK aV D (ty4 cI cY cJ cQ) [] sz [.ref aK]) (va_Qi (fun (r : Int32) (u : Unit) => r = 1) (cB D (ty4 cI cY cJ cQ) (fun (u : Unit) => []) (va_A [] sz)) (va_A [] sz)) 0 0 (va_A [] sz) := by
  refine Met.ofW (cc := cJ0_isLatin1_aae02) (maxL := 1) (ret := (some .boolean)) (by decide) rfl ?_
  intro p e s m args below meth c s₁ B hml hv
  obtain ⟨rfl, hsz, hP, hK, hD0, hN, hT⟩ := hv
  have hx := B.exec
  have hb := B.bytes
  have hr := B.returns
  have hts := atoms_spec (ws := wsJ0_isLatin1_aae02) B.pre
  have hown : s.vm.findClass RJ0 = some m.cls := findClass_of_methodNamed B.named
  have hlocks := B.notSynchronized
  subst hsz
  have hD := hD0.self (sz := s.heap.size)
  generalize hAe : va_A [] s.heap.size = A at hD hT ⊢
  have hA : ∀ q : Nat, s.heap.size ≤ q → A q := fun q h => by rw [← hAe]; exact Or.inr h
  have hS : va_S A s.heap s.heap [] := va_S.rf
  have hP : va_P D vwCl [] s.heap := hP
  have hl := lv_entry ([.ref aK]) (n := 1) (Nat.le_of_ble_eq_true rfl)
  rw [lg_entry_eq]
  generalize (lg_sl ([.ref aK]) ++ List.replicate (1 - (lg_sl ([.ref aK])).length) Slot.unset).toArray = ls at hl ⊢
  have hl : lv_has ls 1 [(0, .ref aK)] := hl
  refine va_gets (v := .int 1) hx hb hT.2.2.1 hS hown (hts (Cond.fieldLink RJ0 38 "java/lang/String" "COMPACT_STRINGS" "Z") (wm_t (wm_i 0 rfl))) (fun _ h9 => h9) dJ0_isLatin1_aae02_0 ?_
  refine lv_if_eq (tgt := 17) hx hb dJ0_isLatin1_aae02_3 (by decide) (fun c => absurd c (by decide)) (fun _ => ?_)
  refine lv_aload_n hx hb dJ0_isLatin1_aae02_6 rfl (lv_at hl 0 rfl) ?_
  refine vk_getf (v := .int 0) hx hb ((hT.2.1.1 0 (by decide)).2.1) hS hown (hts (Cond.fieldLink RJ0 15 "java/lang/String" "coder" "B") (wm_t (wm_i 1 rfl))) (fun _ h9 => h9) dJ0_isLatin1_aae02_7 ?_
  refine lv_if_ne (tgt := 17) hx hb dJ0_isLatin1_aae02_10 (by decide) (fun c => absurd c (by decide)) (fun _ => ?_)
  refine lv_iconst (v := 1) hx hb dJ0_isLatin1_aae02_13 (by decide) ?_
  refine lv_goto (tgt := 18) hx hb dJ0_isLatin1_aae02_14 (by decide) ?_
  have hP9 := hP
  have hD9 := hD
  exact W.zret (v := 1) hx hb hr rfl (fun t ht hW => ⟨⟨1, (), rfl, rfl, by rw [ht]; exact hP9, va_K.moved hW.alike hK, hD9⟩, hS.F ht⟩) hS.2.2 dJ0_isLatin1_aae02_18

set_option maxHeartbeats 4000000 in
set_option maxRecDepth 100000 in
theorem ct_chk0 (l : Launch) (D : va_G) (cI cY cJ cQ : ClassId) (sz : Nat) (a b : Int32) (h1 : 0 ≤ a.toInt) (h2 : a.toInt < b.toInt) : Met l yJ3_checkIndex_8e157 wsJ3_checkIndex_8e157 ({ frames := 0, cells := 0, slots := 0, locals := 0 }) (cPre D (ty4 cI cY cJ cQ) [] sz [.int a, .int b, .null]) (va_Qi (fun (r : Int32) (u : Unit) => True) (cB D (ty4 cI cY cJ cQ) (fun (u : Unit) => []) (va_A [] sz)) (va_A [] sz)) 0 0 (va_A [] sz) := by
  refine Met.ofW (cc := cJ3_checkIndex_8e157) (maxL := 3) (ret := (some .int)) (by decide) rfl ?_
  intro p e s m args below meth c s₁ B hml hv
  obtain ⟨rfl, hsz, hP, hK, hD0, hN⟩ := hv
  have hx := B.exec
  have hb := B.bytes
  have hr := B.returns
  have hts := atoms_spec (ws := wsJ3_checkIndex_8e157) B.pre
  have hown : s.vm.findClass RJ3 = some m.cls := findClass_of_methodNamed B.named
  have hlocks := B.notSynchronized
  subst hsz
  have hD := hD0.self (sz := s.heap.size)
  generalize hAe : va_A [] s.heap.size = A at hD ⊢
  have hA : ∀ q : Nat, s.heap.size ≤ q → A q := fun q h => by rw [← hAe]; exact Or.inr h
  have hS : va_S A s.heap s.heap [] := va_S.rf
  have hP : va_P D vwCl [] s.heap := hP
  have hl := lv_entry ([.int a, .int b, .null]) (n := 3) (Nat.le_of_ble_eq_true rfl)
  rw [lg_entry_eq]
  generalize (lg_sl ([.int a, .int b, .null]) ++ List.replicate (3 - (lg_sl ([.int a, .int b, .null])).length) Slot.unset).toArray = ls at hl ⊢
  have hl : lv_has ls 3 [(0, .int a), (1, .int b), (2, .null)] := hl
  have k0 : (0 : Int32).toInt = 0 := by decide
  refine lv_iload_n hx hb dJ3_checkIndex_8e157_0 rfl (lv_at hl 0 rfl) ?_
  refine lv_if_lt (tgt := 9) hx hb dJ3_checkIndex_8e157_1 (by decide) (fun c1 => by exfalso; have := i_lt c1; omega) (fun _ => ?_)
  refine lv_iload_n hx hb dJ3_checkIndex_8e157_4 rfl (lv_at hl 0 rfl) ?_
  refine lv_iload_n hx hb dJ3_checkIndex_8e157_5 rfl (lv_at hl 1 rfl) ?_
  refine lv_icmp_lt (tgt := 16) hx hb dJ3_checkIndex_8e157_6 (by decide) (fun _ => ?_) (fun c2 => by exfalso; have := i_nlt c2; omega)
  refine lv_iload_n hx hb dJ3_checkIndex_8e157_16 rfl (lv_at hl 0 rfl) ?_
  have hP9 := hP
  have hD9 := hD
  exact W.iret (v := a) hx hb hr (fun t ht hW => ⟨⟨a, (), rfl, trivial, by rw [ht]; exact hP9, va_K.moved hW.alike hK, hD9⟩, hS.F ht⟩) hS.2.2 dJ3_checkIndex_8e157_17

set_option maxHeartbeats 4000000 in
set_option maxRecDepth 100000 in
theorem ct_chk1 (l : Launch) (D : va_G) (cI cY cJ cQ : ClassId) (sz : Nat) (a b : Int32) (tz : Nat) (h1 : 0 ≤ a.toInt) (h2 : a.toInt < b.toInt) : Met l yJ3_checkIndex_8e157 wsJ3_checkIndex_8e157 ({ frames := 0, cells := 0, slots := 0, locals := 0 }) (cPre D (ty4 cI cY cJ cQ) [] sz [.int a, .int b, .ref tz]) (va_Qi (fun (r : Int32) (u : Unit) => True) (cB D (ty4 cI cY cJ cQ) (fun (u : Unit) => []) (va_A [] sz)) (va_A [] sz)) 0 0 (va_A [] sz) := by
  refine Met.ofW (cc := cJ3_checkIndex_8e157) (maxL := 3) (ret := (some .int)) (by decide) rfl ?_
  intro p e s m args below meth c s₁ B hml hv
  obtain ⟨rfl, hsz, hP, hK, hD0, hN⟩ := hv
  have hx := B.exec
  have hb := B.bytes
  have hr := B.returns
  have hts := atoms_spec (ws := wsJ3_checkIndex_8e157) B.pre
  have hown : s.vm.findClass RJ3 = some m.cls := findClass_of_methodNamed B.named
  have hlocks := B.notSynchronized
  subst hsz
  have hD := hD0.self (sz := s.heap.size)
  generalize hAe : va_A [] s.heap.size = A at hD ⊢
  have hA : ∀ q : Nat, s.heap.size ≤ q → A q := fun q h => by rw [← hAe]; exact Or.inr h
  have hS : va_S A s.heap s.heap [] := va_S.rf
  have hP : va_P D vwCl [] s.heap := hP
  have hl := lv_entry ([.int a, .int b, .ref tz]) (n := 3) (Nat.le_of_ble_eq_true rfl)
  rw [lg_entry_eq]
  generalize (lg_sl ([.int a, .int b, .ref tz]) ++ List.replicate (3 - (lg_sl ([.int a, .int b, .ref tz])).length) Slot.unset).toArray = ls at hl ⊢
  have hl : lv_has ls 3 [(0, .int a), (1, .int b), (2, .ref tz)] := hl
  have k0 : (0 : Int32).toInt = 0 := by decide
  refine lv_iload_n hx hb dJ3_checkIndex_8e157_0 rfl (lv_at hl 0 rfl) ?_
  refine lv_if_lt (tgt := 9) hx hb dJ3_checkIndex_8e157_1 (by decide) (fun c1 => by exfalso; have := i_lt c1; omega) (fun _ => ?_)
  refine lv_iload_n hx hb dJ3_checkIndex_8e157_4 rfl (lv_at hl 0 rfl) ?_
  refine lv_iload_n hx hb dJ3_checkIndex_8e157_5 rfl (lv_at hl 1 rfl) ?_
  refine lv_icmp_lt (tgt := 16) hx hb dJ3_checkIndex_8e157_6 (by decide) (fun _ => ?_) (fun c2 => by exfalso; have := i_nlt c2; omega)
  refine lv_iload_n hx hb dJ3_checkIndex_8e157_16 rfl (lv_at hl 0 rfl) ?_
  have hP9 := hP
  have hD9 := hD
  exact W.iret (v := a) hx hb hr (fun t ht hW => ⟨⟨a, (), rfl, trivial, by rw [ht]; exact hP9, va_K.moved hW.alike hK, hD9⟩, hS.F ht⟩) hS.2.2 dJ3_checkIndex_8e157_17

set_option maxHeartbeats 4000000 in
set_option maxRecDepth 100000 in
theorem ct_checkIndex (l : Launch) (D : va_G) (cI cY cJ cQ : ClassId) (sz : Nat) (aK aV : Nat) (a : Int32) (b : Int32)  (h1 : 0 ≤ a.toInt) (h2 : a.toInt < b.toInt)  : Met l yJ0_checkIndex_df160 wsJ0_checkIndex_df160 ({ frames := 1, cells := 0, slots := 0, locals := 22 }) (cPreT aK aV D (ty4 cI cY cJ cQ) [] sz [.int a, .int b]) (va_Qv (fun (u : Unit) => True) (cB D (ty4 cI cY cJ cQ) (fun (u : Unit) => []) (va_A [] sz)) (va_A [] sz)) 0 0 (va_A [] sz) := by
  refine Met.ofW (cc := cJ0_checkIndex_df160) (maxL := 2) (ret := none) (by decide) rfl ?_
  intro p e s m args below meth c s₁ B hml hv
  obtain ⟨rfl, hsz, hP, hK, hD0, hN, hT⟩ := hv
  have hx := B.exec
  have hb := B.bytes
  have hr := B.returns
  have hts := atoms_spec (ws := wsJ0_checkIndex_df160) B.pre
  have hown : s.vm.findClass RJ0 = some m.cls := findClass_of_methodNamed B.named
  have hlocks := B.notSynchronized
  subst hsz
  have hD := hD0.self (sz := s.heap.size)
  generalize hAe : va_A [] s.heap.size = A at hD hT ⊢
  have hA : ∀ q : Nat, s.heap.size ≤ q → A q := fun q h => by rw [← hAe]; exact Or.inr h
  have hS : va_S A s.heap s.heap [] := va_S.rf
  have hP : va_P D vwCl [] s.heap := hP
  have hl := lv_entry ([.int a, .int b]) (n := 2) (Nat.le_of_ble_eq_true rfl)
  rw [lg_entry_eq]
  generalize (lg_sl ([.int a, .int b]) ++ List.replicate (2 - (lg_sl ([.int a, .int b])).length) Slot.unset).toArray = ls at hl ⊢
  have hl : lv_has ls 2 [(0, .int a), (1, .int b)] := hl
  refine lv_iload_n hx hb dJ0_checkIndex_df160_0 rfl (lv_at hl 0 rfl) ?_
  refine lv_iload_n hx hb dJ0_checkIndex_df160_1 rfl (lv_at hl 1 rfl) ?_
  rcases hT.2.2.2 with hz9 | ⟨tz9, hz9⟩
  · skip
    refine va_gets (v := .null) hx hb hz9 hS hown (hts (Cond.fieldLink RJ0 1053 "jdk/internal/util/Preconditions" "SIOOBE_FORMATTER" "Ljava/util/function/BiFunction;") (wm_t (wm_l (wm_i 0 rfl)))) (fun _ h9 => h9) dJ0_checkIndex_df160_2 ?_
    refine st_i (wr := []) (va_runS (As := [.int a, .int b, .null]) (rest := []) ⟨hx, hb, hml, hown, hts⟩ (ct_chk0 l D cI cY cJ cQ _ a b (by omega) (by omega)) (va_cwS 3 hts gJ0_checkIndex_df160_J3_checkIndex_8e157 rfl rfl rfl cdJ3_checkIndex_8e157 ⟨Nat.le_of_ble_eq_true rfl, Nat.le_of_ble_eq_true rfl⟩) (cPreS (hP.sub [] rfl) hK (hD.sub [] (by decide +kernel) rfl) hN) rfl rfl hl.1 rfl (lv_room (Nat.le_of_ble_eq_true rfl)) dJ0_checkIndex_df160_5 ⟨Nat.le_of_ble_eq_true rfl, Nat.le_of_ble_eq_true rfl⟩) hP hD hS hA [] [] rfl rfl (by decide +kernel) (by decide +kernel) (fun r3 u1 H locs hw2 => ?_)
    clear hP hD hS
    intro hP hD hS
    replace hP : va_P D vwCl [] H := hP
    replace hD : va_D A [] := hD
    refine lv_pop hx hb dJ0_checkIndex_df160_8 rfl ?_
    have hP9 := hP
    have hD9 := hD
    exact W.vret hx hb hr (fun t ht hW => ⟨⟨(), rfl, trivial, by rw [ht]; exact hP9, va_K.moved hW.alike hK, hD9⟩, hS.F ht⟩) hS.2.2 dJ0_checkIndex_df160_9
  · skip
    refine va_gets (v := .ref tz9) hx hb hz9 hS hown (hts (Cond.fieldLink RJ0 1053 "jdk/internal/util/Preconditions" "SIOOBE_FORMATTER" "Ljava/util/function/BiFunction;") (wm_t (wm_l (wm_i 0 rfl)))) (fun _ h9 => h9) dJ0_checkIndex_df160_2 ?_
    refine st_i (wr := []) (va_runS (As := [.int a, .int b, .ref tz9]) (rest := []) ⟨hx, hb, hml, hown, hts⟩ (ct_chk1 l D cI cY cJ cQ _ a b tz9 (by omega) (by omega)) (va_cwS 3 hts gJ0_checkIndex_df160_J3_checkIndex_8e157 rfl rfl rfl cdJ3_checkIndex_8e157 ⟨Nat.le_of_ble_eq_true rfl, Nat.le_of_ble_eq_true rfl⟩) (cPreS (hP.sub [] rfl) hK (hD.sub [] (by decide +kernel) rfl) hN) rfl rfl hl.1 rfl (lv_room (Nat.le_of_ble_eq_true rfl)) dJ0_checkIndex_df160_5 ⟨Nat.le_of_ble_eq_true rfl, Nat.le_of_ble_eq_true rfl⟩) hP hD hS hA [] [] rfl rfl (by decide +kernel) (by decide +kernel) (fun r6 u4 H locs hw5 => ?_)
    clear hP hD hS
    intro hP hD hS
    replace hP : va_P D vwCl [] H := hP
    replace hD : va_D A [] := hD
    refine lv_pop hx hb dJ0_checkIndex_df160_8 rfl ?_
    have hP9 := hP
    have hD9 := hD
    exact W.vret hx hb hr (fun t ht hW => ⟨⟨(), rfl, trivial, by rw [ht]; exact hP9, va_K.moved hW.alike hK, hD9⟩, hS.F ht⟩) hS.2.2 dJ0_checkIndex_df160_9

set_option maxHeartbeats 4000000 in
set_option maxRecDepth 100000 in
theorem ct_latinAt (l : Launch) (D : va_G) (cI cY cJ cQ : ClassId) (sz : Nat) (aK aV : Nat) (a : Int32)  (h1 : 0 ≤ a.toInt) (h2 : a.toInt < 30)  : Met l yJ1_charAt_3b067 wsJ1_charAt_3b067 ({ frames := 2, cells := 0, slots := 0, locals := 43 }) (cPreT aK aV D (ty4 cI cY cJ cQ) [] sz [.ref aV, .int a]) (va_Qi (fun (r : Int32) (u : Unit) => r = wch a) (cB D (ty4 cI cY cJ cQ) (fun (u : Unit) => []) (va_A [] sz)) (va_A [] sz)) 0 0 (va_A [] sz) := by
  refine Met.ofW (cc := cJ1_charAt_3b067) (maxL := 2) (ret := (some .char)) (by decide) rfl ?_
  intro p e s m args below meth c s₁ B hml hv
  obtain ⟨rfl, hsz, hP, hK, hD0, hN, hT⟩ := hv
  have hx := B.exec
  have hb := B.bytes
  have hr := B.returns
  have hts := atoms_spec (ws := wsJ1_charAt_3b067) B.pre
  have hown : s.vm.findClass RJ1 = some m.cls := findClass_of_methodNamed B.named
  have hlocks := B.notSynchronized
  subst hsz
  have hD := hD0.self (sz := s.heap.size)
  generalize hAe : va_A [] s.heap.size = A at hD hT ⊢
  have hA : ∀ q : Nat, s.heap.size ≤ q → A q := fun q h => by rw [← hAe]; exact Or.inr h
  have hS : va_S A s.heap s.heap [] := va_S.rf
  have hP : va_P D vwCl [] s.heap := hP
  have hl := lv_entry ([.ref aV, .int a]) (n := 2) (Nat.le_of_ble_eq_true rfl)
  rw [lg_entry_eq]
  generalize (lg_sl ([.ref aV, .int a]) ++ List.replicate (2 - (lg_sl ([.ref aV, .int a])).length) Slot.unset).toArray = ls at hl ⊢
  have hl : lv_has ls 2 [(0, .ref aV), (1, .int a)] := hl
  have k30 : (30 : Int32).toInt = 30 := by decide
  have k255 : (255 : Int32).toInt = 255 := by decide
  refine lv_iload_n hx hb dJ1_charAt_3b067_0 rfl (lv_at hl 1 rfl) ?_
  refine lv_aload_n hx hb dJ1_charAt_3b067_1 rfl (lv_at hl 0 rfl) ?_
  refine va_tlen (v := 30) hx hb ((hT.2.1.1 0 (by decide)).2.2.2) hS rfl dJ1_charAt_3b067_2 ?_
  refine st_v1 (va_runS (As := [.int a, .int 30]) (rest := []) ⟨hx, hb, hml, hown, hts⟩ (ct_checkIndex l D cI cY cJ cQ _ aK aV a (30 : Int32) h1 (by omega)) (va_cwS 2 hts gJ1_charAt_3b067_J0_checkIndex_df160 rfl rfl rfl cdJ0_checkIndex_df160 ⟨Nat.le_of_ble_eq_true rfl, Nat.le_of_ble_eq_true rfl⟩) (cPreTS (hP.sub [] rfl) hK (hD.sub [] (by decide +kernel) rfl) hN hS (va_free hD hS hA [] rfl) hT) rfl rfl hl.1 rfl (lv_room (Nat.le_of_ble_eq_true rfl)) dJ1_charAt_3b067_3 ⟨Nat.le_of_ble_eq_true rfl, Nat.le_of_ble_eq_true rfl⟩) hP hD hS hA [] rfl (fun _ => rfl) (fun u1 H locs hw2 => ?_)
  clear hP hS
  intro hP hS
  replace hw2 : True := hw2
  refine lv_aload_n hx hb dJ1_charAt_3b067_6 rfl (lv_at hl 0 rfl) ?_
  refine lv_iload_n hx hb dJ1_charAt_3b067_7 rfl (lv_at hl 1 rfl) ?_
  refine va_tb (v := .int (WORDB.getD a.toNatClampNeg 0)) hx hb ((hT.2.1.1 0 (by decide)).2.2.2) hS (i_in (by omega) (by show _ < ((30 : Nat) : Int); omega)) rfl dJ1_charAt_3b067_8 ?_
  refine lv_topi (fun v4 ev4 => ?_)
  refine lv_sipush (v := 255) hx hb dJ1_charAt_3b067_9 (by decide) ?_
  refine lv_iand hx hb dJ1_charAt_3b067_12 ?_
  refine lv_topi (fun v5 ev5 => ?_)
  refine lv_i2c hx hb dJ1_charAt_3b067_13 rfl ?_
  refine lv_topi (fun v6 ev6 => ?_)
  have hP9 := hP
  have hD9 := hD
  exact W.zret (v := v6) hx hb hr (by rw [ev6]; exact pk_nc _) (fun t ht hW => ⟨⟨v6, (), rfl, (by subst_vars; rfl), by rw [ht]; exact hP9, va_K.moved hW.alike hK, hD9⟩, hS.F ht⟩) hS.2.2 dJ1_charAt_3b067_14

set_option maxHeartbeats 4000000 in
set_option maxRecDepth 100000 in
theorem ct_charAt (l : Launch) (D : va_G) (cI cY cJ cQ : ClassId) (sz : Nat) (aK aV : Nat) (a : Int32)  (h1 : 0 ≤ a.toInt) (h2 : a.toInt < 30)  : Met l yJ0_charAt_5068e wsJ0_charAt_5068e ({ frames := 3, cells := 0, slots := 0, locals := 64 }) (cPreT aK aV D (ty4 cI cY cJ cQ) [] sz [.ref aK, .int a]) (va_Qi (fun (r : Int32) (u : Unit) => r = wch a) (cB D (ty4 cI cY cJ cQ) (fun (u : Unit) => []) (va_A [] sz)) (va_A [] sz)) 0 0 (va_A [] sz) := by
  refine Met.ofW (cc := cJ0_charAt_5068e) (maxL := 2) (ret := (some .char)) (by decide) rfl ?_
  intro p e s m args below meth c s₁ B hml hv
  obtain ⟨rfl, hsz, hP, hK, hD0, hN, hT⟩ := hv
  have hx := B.exec
  have hb := B.bytes
  have hr := B.returns
  have hts := atoms_spec (ws := wsJ0_charAt_5068e) B.pre
  have hown : s.vm.findClass RJ0 = some m.cls := findClass_of_methodNamed B.named
  have hlocks := B.notSynchronized
  subst hsz
  have hD := hD0.self (sz := s.heap.size)
  generalize hAe : va_A [] s.heap.size = A at hD hT ⊢
  have hA : ∀ q : Nat, s.heap.size ≤ q → A q := fun q h => by rw [← hAe]; exact Or.inr h
  have hS : va_S A s.heap s.heap [] := va_S.rf
  have hP : va_P D vwCl [] s.heap := hP
  have hl := lv_entry ([.ref aK, .int a]) (n := 2) (Nat.le_of_ble_eq_true rfl)
  rw [lg_entry_eq]
  generalize (lg_sl ([.ref aK, .int a]) ++ List.replicate (2 - (lg_sl ([.ref aK, .int a])).length) Slot.unset).toArray = ls at hl ⊢
  have hl : lv_has ls 2 [(0, .ref aK), (1, .int a)] := hl
  refine lv_aload_n hx hb dJ0_charAt_5068e_0 rfl (lv_at hl 0 rfl) ?_
  refine st_i1 (va_runV (C := RJ0) (As := []) (rest := []) ⟨hx, hb, hml, hown, hts⟩ (ct_isLatin1 l D cI cY cJ cQ _ aK aV ) (cwV 0 hts gJ0_charAt_5068e_J0_isLatin1_aae02 rfl rfl rfl ⟨rfl, cdJ0_isLatin1_aae02⟩ ⟨Nat.le_of_ble_eq_true rfl, Nat.le_of_ble_eq_true rfl⟩) (cPreTK hK hN hS (va_free (wc := []) hD hS hA [] rfl) hT) rfl rfl hl.1 rfl (lv_room (Nat.le_of_ble_eq_true rfl)) dJ0_charAt_5068e_1 ⟨Nat.le_of_ble_eq_true rfl, Nat.le_of_ble_eq_true rfl⟩) hP hD hS hA [] rfl (fun _ => rfl) (fun r3 u1 H locs hw2 => ?_)
  clear hP hS
  intro hP hS
  replace hw2 : r3 = 1 := hw2
  subst hw2
  refine lv_if_eq (tgt := 16) hx hb dJ0_charAt_5068e_4 (by decide) (fun c => absurd c (by decide)) (fun _ => ?_)
  refine lv_aload_n hx hb dJ0_charAt_5068e_7 rfl (lv_at hl 0 rfl) ?_
  refine vk_getf (v := .ref aV) hx hb ((hT.2.1.1 0 (by decide)).2.2.1) hS hown (hts (Cond.fieldLink RJ0 9 "java/lang/String" "value" "[B") (wm_t (wm_l (wm_i 0 rfl)))) (fun _ h9 => h9) dJ0_charAt_5068e_8 ?_
  refine lv_iload_n hx hb dJ0_charAt_5068e_11 rfl (lv_at hl 1 rfl) ?_
  refine st_i1 (va_runS (As := [.ref aV, .int a]) (rest := []) ⟨hx, hb, hml, hown, hts⟩ (ct_latinAt l D cI cY cJ cQ _ aK aV a h1 h2) (va_cwS 2 hts gJ0_charAt_5068e_J1_charAt_3b067 rfl rfl rfl cdJ1_charAt_3b067 ⟨Nat.le_of_ble_eq_true rfl, Nat.le_of_ble_eq_true rfl⟩) (cPreTS (hP.sub [] rfl) hK (hD.sub [] (by decide +kernel) rfl) hN hS (va_free hD hS hA [] rfl) hT) rfl rfl hl.1 rfl (lv_room (Nat.le_of_ble_eq_true rfl)) dJ0_charAt_5068e_12 ⟨Nat.le_of_ble_eq_true rfl, Nat.le_of_ble_eq_true rfl⟩) hP hD hS hA [] rfl (fun _ => rfl) (fun r6 u4 H locs hw5 => ?_)
  clear hP hS
  intro hP hS
  replace hw5 : r6 = wch a := hw5
  have hP9 := hP
  have hD9 := hD
  exact W.zret (v := r6) hx hb hr (by rw [hw5]; exact wch_nc _) (fun t ht hW => ⟨⟨r6, (), rfl, hw5, by rw [ht]; exact hP9, va_K.moved hW.alike hK, hD9⟩, hS.F ht⟩) hS.2.2 dJ0_charAt_5068e_15
end
