theorem cdX10_isBelow : yX10_isBelow.cls ≠ "java/lang/invoke/MethodHandle" ∧ yX10_isBelow.cls ≠ "java/lang/invoke/VarHandle" ∧ (parseMethodDescriptor yX10_isBelow.desc).map (fun d => d.parameters.length) = some 2 := by decide +kernel
theorem cdX10_isDay : yX10_isDay.cls ≠ "java/lang/invoke/MethodHandle" ∧ yX10_isDay.cls ≠ "java/lang/invoke/VarHandle" ∧ (parseMethodDescriptor yX10_isDay.desc).map (fun d => d.parameters.length) = some 1 := by decide +kernel
theorem cdX10_isPerson : yX10_isPerson.cls ≠ "java/lang/invoke/MethodHandle" ∧ yX10_isPerson.cls ≠ "java/lang/invoke/VarHandle" ∧ (parseMethodDescriptor yX10_isPerson.desc).map (fun d => d.parameters.length) = some 1 := by decide +kernel
theorem cdX10_isOwner : yX10_isOwner.cls ≠ "java/lang/invoke/MethodHandle" ∧ yX10_isOwner.cls ≠ "java/lang/invoke/VarHandle" ∧ (parseMethodDescriptor yX10_isOwner.desc).map (fun d => d.parameters.length) = some 1 := by decide +kernel
theorem Gd_X10_isBelow : gdA wsX10_isBelow := gd_cons (by decide +kernel) (gd_all (ws := []) rfl)
theorem inX10_finding_X10 : ∀ w ∈ u_ws RX10 TX10 14, w ∈ wsX10_finding := fun _ h => (List.mem_cons_of_mem _ (List.mem_append_right _ h))
theorem inX10_passed_X10 : ∀ w ∈ u_ws RX10 TX10 14, w ∈ wsX10_passed := fun _ h => (List.mem_cons_of_mem _ (List.mem_append_right _ h))
theorem Gd_X10_isOwner : gdA wsX10_isOwner := gd_cons (by decide +kernel) (gd_app (gd_all (ws := wsX10_isOwner_o1) (by decide +kernel)) Gd_X10_isBelow)
theorem Gd_X10_isPerson : gdA wsX10_isPerson := gd_cons (by decide +kernel) (gd_app (gd_all (ws := wsX10_isPerson_o1) (by decide +kernel)) Gd_X10_isBelow)
theorem Gd_X10_isDay : gdA wsX10_isDay := gd_cons (by decide +kernel) (gd_app (gd_all (ws := wsX10_isDay_o1) (by decide +kernel)) Gd_X10_isBelow)
theorem inX10_isCrate_X10 : ∀ w ∈ u_ws RX10 TX10 14, w ∈ wsX10_isCrate := fun _ h => (List.mem_cons_of_mem _ (List.mem_append_right _ (List.mem_append_left _ (List.mem_append_left _ h))))
theorem inX10_isCrate_X1 : ∀ w ∈ u_ws RX1 TX1 6, w ∈ wsX10_isCrate := fun _ h => (List.mem_cons_of_mem _ (List.mem_append_right _ (List.mem_append_left _ (List.mem_append_right _ h))))
theorem inX10_fault_X2 : ∀ w ∈ u_ws RX2 TX2 15, w ∈ wsX10_fault := fun _ h => (List.mem_cons_of_mem _ (List.mem_append_right _ (List.mem_append_right _ h)))
theorem inX10_fault_X10 : ∀ w ∈ u_ws RX10 TX10 14, w ∈ wsX10_fault := fun _ h => (List.mem_cons_of_mem _ (List.mem_append_right _ (List.mem_append_left _ h)))
theorem inX10_day_X10 : ∀ w ∈ u_ws RX10 TX10 14, w ∈ wsX10_day := fun _ h => (List.mem_cons_of_mem _ (List.mem_append_right _ (List.mem_append_left _ h)))
theorem inX10_status_X10 : ∀ w ∈ u_ws RX10 TX10 14, w ∈ wsX10_status := fun _ h => (List.mem_cons_of_mem _ (List.mem_append_right _ h))
theorem dX2_isLetter_all0 : decode cX2_isLetter 0 = .ok (.iload_n 0, 1) ∧ decode cX2_isLetter 1 = .ok (.bipush 97, 2) ∧ decode cX2_isLetter 3 = .ok (.if_icmp .lt 13, 3) ∧ decode cX2_isLetter 6 = .ok (.iload_n 0, 1) ∧ decode cX2_isLetter 7 = .ok (.bipush 122, 2) ∧ decode cX2_isLetter 9 = .ok (.if_icmp .gt 7, 3) ∧ decode cX2_isLetter 12 = .ok (.iconst 1, 1) ∧ decode cX2_isLetter 13 = .ok (.goto 4, 3) ∧ decode cX2_isLetter 16 = .ok (.iconst 0, 1) ∧ decode cX2_isLetter 17 = .ok (.ireturn, 1) := by decide +kernel
theorem dX2_isLetter_0 : decode cX2_isLetter 0 = .ok (.iload_n 0, 1) := dX2_isLetter_all0.1
theorem dX2_isLetter_1 : decode cX2_isLetter 1 = .ok (.bipush 97, 2) := dX2_isLetter_all0.2.1
theorem dX2_isLetter_3 : decode cX2_isLetter 3 = .ok (.if_icmp .lt 13, 3) := dX2_isLetter_all0.2.2.1
theorem dX2_isLetter_6 : decode cX2_isLetter 6 = .ok (.iload_n 0, 1) := dX2_isLetter_all0.2.2.2.1
theorem dX2_isLetter_7 : decode cX2_isLetter 7 = .ok (.bipush 122, 2) := dX2_isLetter_all0.2.2.2.2.1
theorem dX2_isLetter_9 : decode cX2_isLetter 9 = .ok (.if_icmp .gt 7, 3) := dX2_isLetter_all0.2.2.2.2.2.1
theorem dX2_isLetter_12 : decode cX2_isLetter 12 = .ok (.iconst 1, 1) := dX2_isLetter_all0.2.2.2.2.2.2.1
theorem dX2_isLetter_13 : decode cX2_isLetter 13 = .ok (.goto 4, 3) := dX2_isLetter_all0.2.2.2.2.2.2.2.1
theorem dX2_isLetter_16 : decode cX2_isLetter 16 = .ok (.iconst 0, 1) := dX2_isLetter_all0.2.2.2.2.2.2.2.2.1
theorem dX2_isLetter_17 : decode cX2_isLetter 17 = .ok (.ireturn, 1) := dX2_isLetter_all0.2.2.2.2.2.2.2.2.2
theorem dX2_isFigure_all0 : decode cX2_isFigure 0 = .ok (.iload_n 0, 1) ∧ decode cX2_isFigure 1 = .ok (.bipush 48, 2) ∧ decode cX2_isFigure 3 = .ok (.if_icmp .lt 13, 3) ∧ decode cX2_isFigure 6 = .ok (.iload_n 0, 1) ∧ decode cX2_isFigure 7 = .ok (.bipush 57, 2) ∧ decode cX2_isFigure 9 = .ok (.if_icmp .gt 7, 3) ∧ decode cX2_isFigure 12 = .ok (.iconst 1, 1) ∧ decode cX2_isFigure 13 = .ok (.goto 4, 3) ∧ decode cX2_isFigure 16 = .ok (.iconst 0, 1) ∧ decode cX2_isFigure 17 = .ok (.ireturn, 1) := by decide +kernel
theorem dX2_isFigure_0 : decode cX2_isFigure 0 = .ok (.iload_n 0, 1) := dX2_isFigure_all0.1
theorem dX2_isFigure_1 : decode cX2_isFigure 1 = .ok (.bipush 48, 2) := dX2_isFigure_all0.2.1
theorem dX2_isFigure_3 : decode cX2_isFigure 3 = .ok (.if_icmp .lt 13, 3) := dX2_isFigure_all0.2.2.1
theorem dX2_isFigure_6 : decode cX2_isFigure 6 = .ok (.iload_n 0, 1) := dX2_isFigure_all0.2.2.2.1
theorem dX2_isFigure_7 : decode cX2_isFigure 7 = .ok (.bipush 57, 2) := dX2_isFigure_all0.2.2.2.2.1
theorem dX2_isFigure_9 : decode cX2_isFigure 9 = .ok (.if_icmp .gt 7, 3) := dX2_isFigure_all0.2.2.2.2.2.1
theorem dX2_isFigure_12 : decode cX2_isFigure 12 = .ok (.iconst 1, 1) := dX2_isFigure_all0.2.2.2.2.2.2.1
theorem dX2_isFigure_13 : decode cX2_isFigure 13 = .ok (.goto 4, 3) := dX2_isFigure_all0.2.2.2.2.2.2.2.1
theorem dX2_isFigure_16 : decode cX2_isFigure 16 = .ok (.iconst 0, 1) := dX2_isFigure_all0.2.2.2.2.2.2.2.2.1
theorem dX2_isFigure_17 : decode cX2_isFigure 17 = .ok (.ireturn, 1) := dX2_isFigure_all0.2.2.2.2.2.2.2.2.2
theorem dX10_fault_all0 : decode cX10_fault 0 = .ok (.aload_n 0, 1) ∧ decode cX10_fault 1 = .ok (.getfield 47, 3) ∧ decode cX10_fault 4 = .ok (.getfield 224, 3) ∧ decode cX10_fault 7 = .ok (.ireturn, 1) := by decide +kernel
theorem dX10_fault_0 : decode cX10_fault 0 = .ok (.aload_n 0, 1) := dX10_fault_all0.1
theorem dX10_fault_1 : decode cX10_fault 1 = .ok (.getfield 47, 3) := dX10_fault_all0.2.1
theorem dX10_fault_4 : decode cX10_fault 4 = .ok (.getfield 224, 3) := dX10_fault_all0.2.2.1
theorem dX10_fault_7 : decode cX10_fault 7 = .ok (.ireturn, 1) := dX10_fault_all0.2.2.2
theorem ggX10_day_X10_isDay : GoodIn wsX10_day wsX10_isDay := goodIn_s (fun _ h => wm_t (wm_r (wm_r h))) Gd_X10_isDay
theorem gX10_day_X10_isDay : GoodIn wsX10_day (va_wsS RX10 138 yX10_isDay wsX10_isDay) := goodIn_S (own := RX10) (idx := 138) (y := yX10_isDay) (wm_t (wm_l (wm_i 2 rfl))) (wm_t (wm_l (wm_i 3 rfl))) (wm_t (wm_l (wm_i 4 rfl))) ggX10_day_X10_isDay
theorem dX10_day_all0 : decode cX10_day 0 = .ok (.iload_n 1, 1) ∧ decode cX10_day 1 = .ok (.invokestatic 138, 3) ∧ decode cX10_day 4 = .ok (.ifCond .ne 6, 3) ∧ decode cX10_day 7 = .ok (.ldc 89, 2) ∧ decode cX10_day 9 = .ok (.ireturn, 1) ∧ decode cX10_day 10 = .ok (.aload_n 0, 1) ∧ decode cX10_day 11 = .ok (.getfield 298, 3) ∧ decode cX10_day 14 = .ok (.istore_n 2, 1) ∧ decode cX10_day 15 = .ok (.aload_n 0, 1) ∧ decode cX10_day 16 = .ok (.iload_n 1, 1) ∧ decode cX10_day 17 = .ok (.putfield 298, 3) ∧ decode cX10_day 20 = .ok (.iload_n 2, 1) := by decide +kernel
theorem dX10_day_0 : decode cX10_day 0 = .ok (.iload_n 1, 1) := dX10_day_all0.1
theorem dX10_day_1 : decode cX10_day 1 = .ok (.invokestatic 138, 3) := dX10_day_all0.2.1
theorem dX10_day_4 : decode cX10_day 4 = .ok (.ifCond .ne 6, 3) := dX10_day_all0.2.2.1
theorem dX10_day_7 : decode cX10_day 7 = .ok (.ldc 89, 2) := dX10_day_all0.2.2.2.1
theorem dX10_day_9 : decode cX10_day 9 = .ok (.ireturn, 1) := dX10_day_all0.2.2.2.2.1
theorem dX10_day_10 : decode cX10_day 10 = .ok (.aload_n 0, 1) := dX10_day_all0.2.2.2.2.2.1
theorem dX10_day_11 : decode cX10_day 11 = .ok (.getfield 298, 3) := dX10_day_all0.2.2.2.2.2.2.1
theorem dX10_day_14 : decode cX10_day 14 = .ok (.istore_n 2, 1) := dX10_day_all0.2.2.2.2.2.2.2.1
theorem dX10_day_15 : decode cX10_day 15 = .ok (.aload_n 0, 1) := dX10_day_all0.2.2.2.2.2.2.2.2.1
theorem dX10_day_16 : decode cX10_day 16 = .ok (.iload_n 1, 1) := dX10_day_all0.2.2.2.2.2.2.2.2.2.1
theorem dX10_day_17 : decode cX10_day 17 = .ok (.putfield 298, 3) := dX10_day_all0.2.2.2.2.2.2.2.2.2.2.1
theorem dX10_day_20 : decode cX10_day 20 = .ok (.iload_n 2, 1) := dX10_day_all0.2.2.2.2.2.2.2.2.2.2.2
theorem dX10_day_21 : decode cX10_day 21 = .ok (.ireturn, 1) := by decide +kernel
theorem dX10_status_all0 : decode cX10_status 0 = .ok (.aload_n 0, 1) ∧ decode cX10_status 1 = .ok (.getfield 322, 3) ∧ decode cX10_status 4 = .ok (.ireturn, 1) := by decide +kernel
theorem dX10_status_0 : decode cX10_status 0 = .ok (.aload_n 0, 1) := dX10_status_all0.1
theorem dX10_status_1 : decode cX10_status 1 = .ok (.getfield 322, 3) := dX10_status_all0.2.1
theorem dX10_status_4 : decode cX10_status 4 = .ok (.ireturn, 1) := dX10_status_all0.2.2
theorem dX10_isBelow_all0 : decode cX10_isBelow 0 = .ok (.iload_n 0, 1) ∧ decode cX10_isBelow 1 = .ok (.ifCond .lt 12, 3) ∧ decode cX10_isBelow 4 = .ok (.iload_n 0, 1) ∧ decode cX10_isBelow 5 = .ok (.iload_n 1, 1) ∧ decode cX10_isBelow 6 = .ok (.if_icmp .ge 7, 3) ∧ decode cX10_isBelow 9 = .ok (.iconst 1, 1) ∧ decode cX10_isBelow 10 = .ok (.goto 4, 3) ∧ decode cX10_isBelow 13 = .ok (.iconst 0, 1) ∧ decode cX10_isBelow 14 = .ok (.ireturn, 1) := by decide +kernel
theorem dX10_isBelow_0 : decode cX10_isBelow 0 = .ok (.iload_n 0, 1) := dX10_isBelow_all0.1
theorem dX10_isBelow_1 : decode cX10_isBelow 1 = .ok (.ifCond .lt 12, 3) := dX10_isBelow_all0.2.1
theorem dX10_isBelow_4 : decode cX10_isBelow 4 = .ok (.iload_n 0, 1) := dX10_isBelow_all0.2.2.1
theorem dX10_isBelow_5 : decode cX10_isBelow 5 = .ok (.iload_n 1, 1) := dX10_isBelow_all0.2.2.2.1
theorem dX10_isBelow_6 : decode cX10_isBelow 6 = .ok (.if_icmp .ge 7, 3) := dX10_isBelow_all0.2.2.2.2.1
theorem dX10_isBelow_9 : decode cX10_isBelow 9 = .ok (.iconst 1, 1) := dX10_isBelow_all0.2.2.2.2.2.1
theorem dX10_isBelow_10 : decode cX10_isBelow 10 = .ok (.goto 4, 3) := dX10_isBelow_all0.2.2.2.2.2.2.1
theorem dX10_isBelow_13 : decode cX10_isBelow 13 = .ok (.iconst 0, 1) := dX10_isBelow_all0.2.2.2.2.2.2.2.1
theorem dX10_isBelow_14 : decode cX10_isBelow 14 = .ok (.ireturn, 1) := dX10_isBelow_all0.2.2.2.2.2.2.2.2
theorem dX10_isFrom_all0 : decode cX10_isFrom 0 = .ok (.iload_n 0, 1) ∧ decode cX10_isFrom 1 = .ok (.iload_n 1, 1) ∧ decode cX10_isFrom 2 = .ok (.if_icmp .lt 12, 3) ∧ decode cX10_isFrom 5 = .ok (.iload_n 0, 1) ∧ decode cX10_isFrom 6 = .ok (.iload_n 2, 1) ∧ decode cX10_isFrom 7 = .ok (.if_icmp .gt 7, 3) ∧ decode cX10_isFrom 10 = .ok (.iconst 1, 1) ∧ decode cX10_isFrom 11 = .ok (.goto 4, 3) ∧ decode cX10_isFrom 14 = .ok (.iconst 0, 1) ∧ decode cX10_isFrom 15 = .ok (.ireturn, 1) := by decide +kernel
theorem dX10_isFrom_0 : decode cX10_isFrom 0 = .ok (.iload_n 0, 1) := dX10_isFrom_all0.1
theorem dX10_isFrom_1 : decode cX10_isFrom 1 = .ok (.iload_n 1, 1) := dX10_isFrom_all0.2.1
theorem dX10_isFrom_2 : decode cX10_isFrom 2 = .ok (.if_icmp .lt 12, 3) := dX10_isFrom_all0.2.2.1
theorem dX10_isFrom_5 : decode cX10_isFrom 5 = .ok (.iload_n 0, 1) := dX10_isFrom_all0.2.2.2.1
theorem dX10_isFrom_6 : decode cX10_isFrom 6 = .ok (.iload_n 2, 1) := dX10_isFrom_all0.2.2.2.2.1
theorem dX10_isFrom_7 : decode cX10_isFrom 7 = .ok (.if_icmp .gt 7, 3) := dX10_isFrom_all0.2.2.2.2.2.1
theorem dX10_isFrom_10 : decode cX10_isFrom 10 = .ok (.iconst 1, 1) := dX10_isFrom_all0.2.2.2.2.2.2.1
theorem dX10_isFrom_11 : decode cX10_isFrom 11 = .ok (.goto 4, 3) := dX10_isFrom_all0.2.2.2.2.2.2.2.1
theorem dX10_isFrom_14 : decode cX10_isFrom 14 = .ok (.iconst 0, 1) := dX10_isFrom_all0.2.2.2.2.2.2.2.2.1
theorem dX10_isFrom_15 : decode cX10_isFrom 15 = .ok (.ireturn, 1) := dX10_isFrom_all0.2.2.2.2.2.2.2.2.2
theorem ggX10_isDay_X10_isBelow : GoodIn wsX10_isDay wsX10_isBelow := goodIn_s (fun _ h => wm_t (wm_r h)) Gd_X10_isBelow
theorem gX10_isDay_X10_isBelow : GoodIn wsX10_isDay (va_wsS RX10 85 yX10_isBelow wsX10_isBelow) := goodIn_S (own := RX10) (idx := 85) (y := yX10_isBelow) (wm_t (wm_l (wm_i 0 rfl))) (wm_t (wm_l (wm_i 1 rfl))) (wm_t (wm_l (wm_i 2 rfl))) ggX10_isDay_X10_isBelow
theorem dX10_isDay_all0 : decode cX10_isDay 0 = .ok (.iload_n 0, 1) ∧ decode cX10_isDay 1 = .ok (.sipush 10000, 3) ∧ decode cX10_isDay 4 = .ok (.invokestatic 85, 3) ∧ decode cX10_isDay 7 = .ok (.ireturn, 1) := by decide +kernel
theorem dX10_isDay_0 : decode cX10_isDay 0 = .ok (.iload_n 0, 1) := dX10_isDay_all0.1
theorem dX10_isDay_1 : decode cX10_isDay 1 = .ok (.sipush 10000, 3) := dX10_isDay_all0.2.1
theorem dX10_isDay_4 : decode cX10_isDay 4 = .ok (.invokestatic 85, 3) := dX10_isDay_all0.2.2.1
theorem dX10_isDay_7 : decode cX10_isDay 7 = .ok (.ireturn, 1) := dX10_isDay_all0.2.2.2
theorem ggX10_areDays_X10_isDay : GoodIn wsX10_areDays wsX10_isDay := goodIn_s (fun _ h => wm_t (wm_r h)) Gd_X10_isDay
theorem gX10_areDays_X10_isDay : GoodIn wsX10_areDays (va_wsS RX10 138 yX10_isDay wsX10_isDay) := goodIn_S (own := RX10) (idx := 138) (y := yX10_isDay) (wm_t (wm_l (wm_i 0 rfl))) (wm_t (wm_l (wm_i 1 rfl))) (wm_t (wm_l (wm_i 2 rfl))) ggX10_areDays_X10_isDay
theorem dX10_areDays_all0 : decode cX10_areDays 0 = .ok (.iload_n 0, 1) ∧ decode cX10_areDays 1 = .ok (.invokestatic 138, 3) ∧ decode cX10_areDays 4 = .ok (.ifCond .eq 19, 3) ∧ decode cX10_areDays 7 = .ok (.iload_n 1, 1) ∧ decode cX10_areDays 8 = .ok (.invokestatic 138, 3) ∧ decode cX10_areDays 11 = .ok (.ifCond .eq 12, 3) ∧ decode cX10_areDays 14 = .ok (.iload_n 0, 1) ∧ decode cX10_areDays 15 = .ok (.iload_n 1, 1) ∧ decode cX10_areDays 16 = .ok (.if_icmp .gt 7, 3) ∧ decode cX10_areDays 19 = .ok (.iconst 1, 1) ∧ decode cX10_areDays 20 = .ok (.goto 4, 3) ∧ decode cX10_areDays 23 = .ok (.iconst 0, 1) := by decide +kernel
theorem dX10_areDays_0 : decode cX10_areDays 0 = .ok (.iload_n 0, 1) := dX10_areDays_all0.1
theorem dX10_areDays_1 : decode cX10_areDays 1 = .ok (.invokestatic 138, 3) := dX10_areDays_all0.2.1
theorem dX10_areDays_4 : decode cX10_areDays 4 = .ok (.ifCond .eq 19, 3) := dX10_areDays_all0.2.2.1
theorem dX10_areDays_7 : decode cX10_areDays 7 = .ok (.iload_n 1, 1) := dX10_areDays_all0.2.2.2.1
theorem dX10_areDays_8 : decode cX10_areDays 8 = .ok (.invokestatic 138, 3) := dX10_areDays_all0.2.2.2.2.1
theorem dX10_areDays_11 : decode cX10_areDays 11 = .ok (.ifCond .eq 12, 3) := dX10_areDays_all0.2.2.2.2.2.1
theorem dX10_areDays_14 : decode cX10_areDays 14 = .ok (.iload_n 0, 1) := dX10_areDays_all0.2.2.2.2.2.2.1
theorem dX10_areDays_15 : decode cX10_areDays 15 = .ok (.iload_n 1, 1) := dX10_areDays_all0.2.2.2.2.2.2.2.1
theorem dX10_areDays_16 : decode cX10_areDays 16 = .ok (.if_icmp .gt 7, 3) := dX10_areDays_all0.2.2.2.2.2.2.2.2.1
theorem dX10_areDays_19 : decode cX10_areDays 19 = .ok (.iconst 1, 1) := dX10_areDays_all0.2.2.2.2.2.2.2.2.2.1
theorem dX10_areDays_20 : decode cX10_areDays 20 = .ok (.goto 4, 3) := dX10_areDays_all0.2.2.2.2.2.2.2.2.2.2.1
theorem dX10_areDays_23 : decode cX10_areDays 23 = .ok (.iconst 0, 1) := dX10_areDays_all0.2.2.2.2.2.2.2.2.2.2.2
theorem dX10_areDays_24 : decode cX10_areDays 24 = .ok (.ireturn, 1) := by decide +kernel
theorem ggX10_isPerson_X10_isBelow : GoodIn wsX10_isPerson wsX10_isBelow := goodIn_s (fun _ h => wm_t (wm_r h)) Gd_X10_isBelow
theorem gX10_isPerson_X10_isBelow : GoodIn wsX10_isPerson (va_wsS RX10 85 yX10_isBelow wsX10_isBelow) := goodIn_S (own := RX10) (idx := 85) (y := yX10_isBelow) (wm_t (wm_l (wm_i 0 rfl))) (wm_t (wm_l (wm_i 1 rfl))) (wm_t (wm_l (wm_i 2 rfl))) ggX10_isPerson_X10_isBelow
theorem dX10_isPerson_all0 : decode cX10_isPerson 0 = .ok (.iload_n 0, 1) ∧ decode cX10_isPerson 1 = .ok (.bipush 10, 2) ∧ decode cX10_isPerson 3 = .ok (.invokestatic 85, 3) ∧ decode cX10_isPerson 6 = .ok (.ireturn, 1) := by decide +kernel
theorem dX10_isPerson_0 : decode cX10_isPerson 0 = .ok (.iload_n 0, 1) := dX10_isPerson_all0.1
theorem dX10_isPerson_1 : decode cX10_isPerson 1 = .ok (.bipush 10, 2) := dX10_isPerson_all0.2.1
theorem dX10_isPerson_3 : decode cX10_isPerson 3 = .ok (.invokestatic 85, 3) := dX10_isPerson_all0.2.2.1
theorem dX10_isPerson_6 : decode cX10_isPerson 6 = .ok (.ireturn, 1) := dX10_isPerson_all0.2.2.2
theorem ggX10_isOwner_X10_isBelow : GoodIn wsX10_isOwner wsX10_isBelow := goodIn_s (fun _ h => wm_t (wm_r h)) Gd_X10_isBelow
theorem gX10_isOwner_X10_isBelow : GoodIn wsX10_isOwner (va_wsS RX10 85 yX10_isBelow wsX10_isBelow) := goodIn_S (own := RX10) (idx := 85) (y := yX10_isBelow) (wm_t (wm_l (wm_i 0 rfl))) (wm_t (wm_l (wm_i 1 rfl))) (wm_t (wm_l (wm_i 2 rfl))) ggX10_isOwner_X10_isBelow
theorem dX10_isOwner_all0 : decode cX10_isOwner 0 = .ok (.iload_n 0, 1) ∧ decode cX10_isOwner 1 = .ok (.bipush 20, 2) ∧ decode cX10_isOwner 3 = .ok (.invokestatic 85, 3) ∧ decode cX10_isOwner 6 = .ok (.ireturn, 1) := by decide +kernel
theorem dX10_isOwner_0 : decode cX10_isOwner 0 = .ok (.iload_n 0, 1) := dX10_isOwner_all0.1
theorem dX10_isOwner_1 : decode cX10_isOwner 1 = .ok (.bipush 20, 2) := dX10_isOwner_all0.2.1
theorem dX10_isOwner_3 : decode cX10_isOwner 3 = .ok (.invokestatic 85, 3) := dX10_isOwner_all0.2.2.1
theorem dX10_isOwner_6 : decode cX10_isOwner 6 = .ok (.ireturn, 1) := dX10_isOwner_all0.2.2.2
theorem ggX10_isPair_X10_isOwner : GoodIn wsX10_isPair wsX10_isOwner := goodIn_s (fun _ h => wm_t (wm_r (wm_l h))) Gd_X10_isOwner
theorem gX10_isPair_X10_isOwner : GoodIn wsX10_isPair (va_wsS RX10 163 yX10_isOwner wsX10_isOwner) := goodIn_S (own := RX10) (idx := 163) (y := yX10_isOwner) (wm_t (wm_l (wm_i 0 rfl))) (wm_t (wm_l (wm_i 1 rfl))) (wm_t (wm_l (wm_i 2 rfl))) ggX10_isPair_X10_isOwner
theorem ggX10_isPair_X10_isPerson : GoodIn wsX10_isPair wsX10_isPerson := goodIn_s (fun _ h => wm_t (wm_r (wm_r h))) Gd_X10_isPerson
theorem gX10_isPair_X10_isPerson : GoodIn wsX10_isPair (va_wsS RX10 160 yX10_isPerson wsX10_isPerson) := goodIn_S (own := RX10) (idx := 160) (y := yX10_isPerson) (wm_t (wm_l (wm_i 3 rfl))) (wm_t (wm_l (wm_i 4 rfl))) (wm_t (wm_l (wm_i 2 rfl))) ggX10_isPair_X10_isPerson
theorem dX10_isPair_all0 : decode cX10_isPair 0 = .ok (.iload_n 0, 1) ∧ decode cX10_isPair 1 = .ok (.invokestatic 163, 3) ∧ decode cX10_isPair 4 = .ok (.ifCond .eq 26, 3) ∧ decode cX10_isPair 7 = .ok (.iload_n 1, 1) ∧ decode cX10_isPair 8 = .ok (.invokestatic 163, 3) ∧ decode cX10_isPair 11 = .ok (.ifCond .eq 19, 3) ∧ decode cX10_isPair 14 = .ok (.iload_n 1, 1) ∧ decode cX10_isPair 15 = .ok (.invokestatic 160, 3) ∧ decode cX10_isPair 18 = .ok (.ifCond .ne 12, 3) ∧ decode cX10_isPair 21 = .ok (.iload_n 0, 1) ∧ decode cX10_isPair 22 = .ok (.iload_n 1, 1) ∧ decode cX10_isPair 23 = .ok (.if_icmp .eq 7, 3) := by decide +kernel
theorem dX10_isPair_0 : decode cX10_isPair 0 = .ok (.iload_n 0, 1) := dX10_isPair_all0.1
theorem dX10_isPair_1 : decode cX10_isPair 1 = .ok (.invokestatic 163, 3) := dX10_isPair_all0.2.1
theorem dX10_isPair_4 : decode cX10_isPair 4 = .ok (.ifCond .eq 26, 3) := dX10_isPair_all0.2.2.1
theorem dX10_isPair_7 : decode cX10_isPair 7 = .ok (.iload_n 1, 1) := dX10_isPair_all0.2.2.2.1
theorem dX10_isPair_8 : decode cX10_isPair 8 = .ok (.invokestatic 163, 3) := dX10_isPair_all0.2.2.2.2.1
theorem dX10_isPair_11 : decode cX10_isPair 11 = .ok (.ifCond .eq 19, 3) := dX10_isPair_all0.2.2.2.2.2.1
theorem dX10_isPair_14 : decode cX10_isPair 14 = .ok (.iload_n 1, 1) := dX10_isPair_all0.2.2.2.2.2.2.1
theorem dX10_isPair_15 : decode cX10_isPair 15 = .ok (.invokestatic 160, 3) := dX10_isPair_all0.2.2.2.2.2.2.2.1
theorem dX10_isPair_18 : decode cX10_isPair 18 = .ok (.ifCond .ne 12, 3) := dX10_isPair_all0.2.2.2.2.2.2.2.2.1
theorem dX10_isPair_21 : decode cX10_isPair 21 = .ok (.iload_n 0, 1) := dX10_isPair_all0.2.2.2.2.2.2.2.2.2.1
theorem dX10_isPair_22 : decode cX10_isPair 22 = .ok (.iload_n 1, 1) := dX10_isPair_all0.2.2.2.2.2.2.2.2.2.2.1
theorem dX10_isPair_23 : decode cX10_isPair 23 = .ok (.if_icmp .eq 7, 3) := dX10_isPair_all0.2.2.2.2.2.2.2.2.2.2.2
theorem dX10_isPair_all1 : decode cX10_isPair 26 = .ok (.iconst 1, 1) ∧ decode cX10_isPair 27 = .ok (.goto 4, 3) ∧ decode cX10_isPair 30 = .ok (.iconst 0, 1) ∧ decode cX10_isPair 31 = .ok (.ireturn, 1) := by decide +kernel
theorem dX10_isPair_26 : decode cX10_isPair 26 = .ok (.iconst 1, 1) := dX10_isPair_all1.1
theorem dX10_isPair_27 : decode cX10_isPair 27 = .ok (.goto 4, 3) := dX10_isPair_all1.2.1
theorem dX10_isPair_30 : decode cX10_isPair 30 = .ok (.iconst 0, 1) := dX10_isPair_all1.2.2.1
theorem dX10_isPair_31 : decode cX10_isPair 31 = .ok (.ireturn, 1) := dX10_isPair_all1.2.2.2
theorem ggX10_isCrate_X10_isBelow : GoodIn wsX10_isCrate wsX10_isBelow := goodIn_s (fun _ h => wm_t (wm_r (wm_r h))) Gd_X10_isBelow
theorem gX10_isCrate_X10_isBelow : GoodIn wsX10_isCrate (va_wsS RX10 85 yX10_isBelow wsX10_isBelow) := goodIn_S (own := RX10) (idx := 85) (y := yX10_isBelow) (wm_t (wm_l (wm_i 2 rfl))) (wm_t (wm_l (wm_i 3 rfl))) (wm_t (wm_l (wm_i 4 rfl))) ggX10_isCrate_X10_isBelow
theorem dX10_isCrate_all0 : decode cX10_isCrate 0 = .ok (.iload_n 1, 1) ∧ decode cX10_isCrate 1 = .ok (.aload_n 0, 1) ∧ decode cX10_isCrate 2 = .ok (.getfield 26, 3) ∧ decode cX10_isCrate 5 = .ok (.getfield 177, 3) ∧ decode cX10_isCrate 8 = .ok (.invokestatic 85, 3) ∧ decode cX10_isCrate 11 = .ok (.ireturn, 1) := by decide +kernel
theorem dX10_isCrate_0 : decode cX10_isCrate 0 = .ok (.iload_n 1, 1) := dX10_isCrate_all0.1
theorem dX10_isCrate_1 : decode cX10_isCrate 1 = .ok (.aload_n 0, 1) := dX10_isCrate_all0.2.1
theorem dX10_isCrate_2 : decode cX10_isCrate 2 = .ok (.getfield 26, 3) := dX10_isCrate_all0.2.2.1
theorem dX10_isCrate_5 : decode cX10_isCrate 5 = .ok (.getfield 177, 3) := dX10_isCrate_all0.2.2.2.1
theorem dX10_isCrate_8 : decode cX10_isCrate 8 = .ok (.invokestatic 85, 3) := dX10_isCrate_all0.2.2.2.2.1
theorem dX10_isCrate_11 : decode cX10_isCrate 11 = .ok (.ireturn, 1) := dX10_isCrate_all0.2.2.2.2.2
theorem dX10_hasBit_all0 : decode cX10_hasBit 0 = .ok (.iload_n 0, 1) ∧ decode cX10_hasBit 1 = .ok (.iload_n 1, 1) ∧ decode cX10_hasBit 2 = .ok (.iushr, 1) ∧ decode cX10_hasBit 3 = .ok (.iconst 1, 1) ∧ decode cX10_hasBit 4 = .ok (.iand, 1) ∧ decode cX10_hasBit 5 = .ok (.ifCond .eq 7, 3) ∧ decode cX10_hasBit 8 = .ok (.iconst 1, 1) ∧ decode cX10_hasBit 9 = .ok (.goto 4, 3) ∧ decode cX10_hasBit 12 = .ok (.iconst 0, 1) ∧ decode cX10_hasBit 13 = .ok (.ireturn, 1) := by decide +kernel
theorem dX10_hasBit_0 : decode cX10_hasBit 0 = .ok (.iload_n 0, 1) := dX10_hasBit_all0.1
theorem dX10_hasBit_1 : decode cX10_hasBit 1 = .ok (.iload_n 1, 1) := dX10_hasBit_all0.2.1
theorem dX10_hasBit_2 : decode cX10_hasBit 2 = .ok (.iushr, 1) := dX10_hasBit_all0.2.2.1
theorem dX10_hasBit_3 : decode cX10_hasBit 3 = .ok (.iconst 1, 1) := dX10_hasBit_all0.2.2.2.1
theorem dX10_hasBit_4 : decode cX10_hasBit 4 = .ok (.iand, 1) := dX10_hasBit_all0.2.2.2.2.1
theorem dX10_hasBit_5 : decode cX10_hasBit 5 = .ok (.ifCond .eq 7, 3) := dX10_hasBit_all0.2.2.2.2.2.1
theorem dX10_hasBit_8 : decode cX10_hasBit 8 = .ok (.iconst 1, 1) := dX10_hasBit_all0.2.2.2.2.2.2.1
theorem dX10_hasBit_9 : decode cX10_hasBit 9 = .ok (.goto 4, 3) := dX10_hasBit_all0.2.2.2.2.2.2.2.1
theorem dX10_hasBit_12 : decode cX10_hasBit 12 = .ok (.iconst 0, 1) := dX10_hasBit_all0.2.2.2.2.2.2.2.2.1
theorem dX10_hasBit_13 : decode cX10_hasBit 13 = .ok (.ireturn, 1) := dX10_hasBit_all0.2.2.2.2.2.2.2.2.2
theorem dX10_finding_all0 : decode cX10_finding 0 = .ok (.aload_n 0, 1) ∧ decode cX10_finding 1 = .ok (.iload_n 1, 1) ∧ decode cX10_finding 2 = .ok (.putfield 322, 3) ∧ decode cX10_finding 5 = .ok (.ldc_w 325, 3) ∧ decode cX10_finding 8 = .ok (.iload_n 1, 1) ∧ decode cX10_finding 9 = .ok (.isub, 1) ∧ decode cX10_finding 10 = .ok (.ireturn, 1) := by decide +kernel
theorem dX10_finding_0 : decode cX10_finding 0 = .ok (.aload_n 0, 1) := dX10_finding_all0.1
theorem dX10_finding_1 : decode cX10_finding 1 = .ok (.iload_n 1, 1) := dX10_finding_all0.2.1
theorem dX10_finding_2 : decode cX10_finding 2 = .ok (.putfield 322, 3) := dX10_finding_all0.2.2.1
theorem dX10_finding_5 : decode cX10_finding 5 = .ok (.ldc_w 325, 3) := dX10_finding_all0.2.2.2.1
theorem dX10_finding_8 : decode cX10_finding 8 = .ok (.iload_n 1, 1) := dX10_finding_all0.2.2.2.2.1
theorem dX10_finding_9 : decode cX10_finding 9 = .ok (.isub, 1) := dX10_finding_all0.2.2.2.2.2.1
theorem dX10_finding_10 : decode cX10_finding 10 = .ok (.ireturn, 1) := dX10_finding_all0.2.2.2.2.2.2
theorem dX10_passed_all0 : decode cX10_passed 0 = .ok (.aload_n 0, 1) ∧ decode cX10_passed 1 = .ok (.iconst 0, 1) ∧ decode cX10_passed 2 = .ok (.putfield 322, 3) ∧ decode cX10_passed 5 = .ok (.iload_n 1, 1) ∧ decode cX10_passed 6 = .ok (.ireturn, 1) := by decide +kernel
theorem dX10_passed_0 : decode cX10_passed 0 = .ok (.aload_n 0, 1) := dX10_passed_all0.1
theorem dX10_passed_1 : decode cX10_passed 1 = .ok (.iconst 0, 1) := dX10_passed_all0.2.1
theorem dX10_passed_2 : decode cX10_passed 2 = .ok (.putfield 322, 3) := dX10_passed_all0.2.2.1
theorem dX10_passed_5 : decode cX10_passed 5 = .ok (.iload_n 1, 1) := dX10_passed_all0.2.2.2.1
theorem dX10_passed_6 : decode cX10_passed 6 = .ok (.ireturn, 1) := dX10_passed_all0.2.2.2.2

/-- the words' text, its bytes -/
def WORDT : String := "sold  shown out   mendedpart  "
def WORDB : List Int32 := [115, 111, 108, 100, 32, 32, 115, 104, 111, 119, 110, 32, 111, 117, 116, 32, 32, 32, 109, 101, 110, 100, 101, 100, 112, 97, 114, 116, 32, 32]
/-- the end of a run of bytes -/
def runE (P : Int → Bool) (T : Nat → Int32) (L : Nat) : Nat → Nat → Nat
  | 0, i => i
  | f + 1, i => if i < L ∧ P (T i).toInt = true then runE P T L f (i + 1) else i
def runTo (P : Int → Bool) (T : Nat → Int32) (L i : Nat) : Nat := runE P T L (L - i) i
theorem runTo_in {P : Int → Bool} {T : Nat → Int32} {L i : Nat} (h : i < L) (hp : P (T i).toInt = true) : runTo P T L i = runTo P T L (i + 1) := by
  unfold runTo
  rw [show L - i = (L - (i + 1)) + 1 by omega]
  show (if i < L ∧ P (T i).toInt = true then runE P T L (L - (i + 1)) (i + 1) else i) = _
  rw [if_pos ⟨h, hp⟩]
theorem runTo_out {P : Int → Bool} {T : Nat → Int32} {L i : Nat} (h : ¬ (i < L ∧ P (T i).toInt = true)) : runTo P T L i = i := by
  unfold runTo
  cases L - i with
  | zero => rfl
  | succ f =>
    show (if i < L ∧ P (T i).toInt = true then runE P T L f (i + 1) else i) = i
    rw [if_neg h]
theorem runE_le {P : Int → Bool} {T : Nat → Int32} {L : Nat} (f i : Nat) (h : i ≤ L) : i ≤ runE P T L f i ∧ runE P T L f i ≤ L := by
  induction f generalizing i with
  | zero => exact ⟨Nat.le_refl _, h⟩
  | succ f ih =>
    show i ≤ (if i < L ∧ P (T i).toInt = true then runE P T L f (i + 1) else i) ∧ (if i < L ∧ P (T i).toInt = true then runE P T L f (i + 1) else i) ≤ L
    split
    · have h9 := ih (i + 1) (by omega)
      omega
    · omega
theorem runTo_le {P : Int → Bool} {T : Nat → Int32} {L i : Nat} (h : i ≤ L) : i ≤ runTo P T L i ∧ runTo P T L i ≤ L := runE_le _ _ h
def spB (x : Int) : Bool := decide (x = 32 ∨ x = 10)
def leB (x : Int) : Bool := decide (97 ≤ x ∧ x ≤ 122)
def fiB (x : Int) : Bool := decide (48 ≤ x ∧ x ≤ 57)
theorem sp_in {T : Nat → Int32} {L i : Nat} (h : i < L) (hp : (T i).toInt = 32 ∨ (T i).toInt = 10) : runTo spB T L i = runTo spB T L (i + 1) := runTo_in h (decide_eq_true hp)
theorem sp_out {T : Nat → Int32} {L i : Nat} (h : ¬ i < L ∨ ¬ ((T i).toInt = 32 ∨ (T i).toInt = 10)) : runTo spB T L i = i := runTo_out (fun z => by have z2 := of_decide_eq_true z.2; rcases h with h | h; exact h z.1; exact h z2)
theorem le_in {T : Nat → Int32} {L i : Nat} (h : i < L) (hp : 97 ≤ (T i).toInt ∧ (T i).toInt ≤ 122) : runTo leB T L i = runTo leB T L (i + 1) := runTo_in h (decide_eq_true hp)
theorem le_out {T : Nat → Int32} {L i : Nat} (h : ¬ i < L ∨ ¬ (97 ≤ (T i).toInt ∧ (T i).toInt ≤ 122)) : runTo leB T L i = i := runTo_out (fun z => by have z2 := of_decide_eq_true z.2; rcases h with h | h; exact h z.1; exact h z2)
theorem fi_in {T : Nat → Int32} {L i : Nat} (h : i < L) (hp : 48 ≤ (T i).toInt ∧ (T i).toInt ≤ 57) : runTo fiB T L i = runTo fiB T L (i + 1) := runTo_in h (decide_eq_true hp)
theorem fi_out {T : Nat → Int32} {L i : Nat} (h : ¬ i < L ∨ ¬ (48 ≤ (T i).toInt ∧ (T i).toInt ≤ 57)) : runTo fiB T L i = i := runTo_out (fun z => by have z2 := of_decide_eq_true z.2; rcases h with h | h; exact h z.1; exact h z2)
/-- where the next token begins, where it ends -/
def tS (T : Nat → Int32) (L c : Nat) : Nat := runTo spB T L c
def tE (T : Nat → Int32) (L c : Nat) : Nat := if tS T L c < L then (if 97 ≤ (T (tS T L c)).toInt ∧ (T (tS T L c)).toInt ≤ 122 then runTo leB T L (tS T L c) else if 48 ≤ (T (tS T L c)).toInt ∧ (T (tS T L c)).toInt ≤ 57 then runTo fiB T L (tS T L c) else tS T L c + 1) else tS T L c
/-- the letters from s to e are word w -/
abbrev wdIs (T : Nat → Int32) (s e w : Nat) : Prop := ∀ k, k < 6 → (if s + k < e then (T (s + k)).toInt else 32) = (WORDB.getD (6 * w + k) 0).toInt
def wdK (T : Nat → Int32) (s e : Nat) : Nat → Int
  | 0 => 9
  | w + 1 => if wdIs T s e w then (w : Int) else wdK T s e w
theorem wdK_s (T : Nat → Int32) (s e w : Nat) : wdK T s e (w + 1) = if wdIs T s e w then (w : Int) else wdK T s e w := rfl
/-- the number of n figures from s on -/
def nmV (T : Nat → Int32) (s : Nat) : Nat → Int
  | 0 => 0
  | n + 1 => nmV T s n * 10 + (T (s + n)).toInt - 48
theorem nmV_s (T : Nat → Int32) (s n : Nat) : nmV T s (n + 1) = nmV T s n * 10 + (T (s + n)).toInt - 48 := rfl
/-- what the next token is: 0 to 3 an act, 4 part, 5 a number, 6 ;, 7 >, 8 the end, 9 none -/
def tK (T : Nat → Int32) (L c : Nat) : Int := if tS T L c < L then (if 97 ≤ (T (tS T L c)).toInt ∧ (T (tS T L c)).toInt ≤ 122 then (if tS T L c + 6 < tE T L c then 9 else wdK T (tS T L c) (tE T L c) 5) else if 48 ≤ (T (tS T L c)).toInt ∧ (T (tS T L c)).toInt ≤ 57 then (if tS T L c + 4 < tE T L c then 9 else 5) else if (T (tS T L c)).toInt = 59 then 6 else if (T (tS T L c)).toInt = 62 then 7 else 9) else 8
def tN (T : Nat → Int32) (L c : Nat) : Int := nmV T (tS T L c) (tE T L c - tS T L c)
theorem tok_end {T : Nat → Int32} {L c s : Nat} (hs : tS T L c = s) (h : ¬ s < L) : tE T L c = s ∧ tK T L c = 8 := by
  unfold tK tE
  rw [hs, if_neg h, if_neg h]
  exact ⟨rfl, rfl⟩
theorem tok_let {T : Nat → Int32} {L c s e : Nat} (hs : tS T L c = s) (h : s < L) (hl : 97 ≤ (T s).toInt ∧ (T s).toInt ≤ 122) (he : runTo leB T L s = e) : tE T L c = e ∧ tK T L c = (if s + 6 < e then 9 else wdK T s e 5) := by
  have e1 : tE T L c = e := by
    unfold tE
    rw [hs, if_pos h, if_pos hl, he]
  refine ⟨e1, ?_⟩
  unfold tK
  rw [e1, hs, if_pos h, if_pos hl]
theorem tok_fig {T : Nat → Int32} {L c s e : Nat} (hs : tS T L c = s) (h : s < L) (hl : 48 ≤ (T s).toInt ∧ (T s).toInt ≤ 57) (he : runTo fiB T L s = e) : tE T L c = e ∧ tK T L c = (if s + 4 < e then 9 else 5) ∧ tN T L c = nmV T s (e - s) := by
  have e1 : tE T L c = e := by
    unfold tE
    rw [hs, if_pos h, if_neg (by omega), if_pos hl, he]
  refine ⟨e1, ?_, ?_⟩
  · unfold tK
    rw [e1, hs, if_pos h, if_neg (by omega), if_pos hl]
  · unfold tN
    rw [e1, hs]
theorem tok_sgn {T : Nat → Int32} {L c s : Nat} (hs : tS T L c = s) (h : s < L) (hl : ¬ (97 ≤ (T s).toInt ∧ (T s).toInt ≤ 122)) (hf : ¬ (48 ≤ (T s).toInt ∧ (T s).toInt ≤ 57)) : tE T L c = s + 1 ∧ tK T L c = (if (T s).toInt = 59 then 6 else if (T s).toInt = 62 then 7 else 9) := by
  unfold tK tE
  rw [hs, if_pos h, if_pos h, if_neg hl, if_neg hl, if_neg hf, if_neg hf]
  exact ⟨rfl, rfl⟩
theorem tS_le {T : Nat → Int32} {L c : Nat} (h : c ≤ L) : c ≤ tS T L c ∧ tS T L c ≤ L := runTo_le h
theorem tE_le {T : Nat → Int32} {L c : Nat} (h : c ≤ L) : tS T L c ≤ tE T L c ∧ tE T L c ≤ L ∧ (tS T L c < L → tS T L c < tE T L c) := by
  have h1 := tS_le (T := T) h
  unfold tE
  split
  · rename_i g
    split
    · rename_i gl
      have h2 := runTo_le (P := leB) (T := T) (show tS T L c + 1 ≤ L by omega)
      rw [le_in g gl]
      omega
    · split
      · rename_i gf
        have h2 := runTo_le (P := fiB) (T := T) (show tS T L c + 1 ≤ L by omega)
        rw [fi_in g gf]
        omega
      · omega
  · omega
theorem wdK_rng (T : Nat → Int32) (s e : Nat) : ∀ w, w ≤ 5 → 0 ≤ wdK T s e w ∧ (wdK T s e w < w ∨ wdK T s e w = 9)
  | 0, _ => ⟨by show (0 : Int) ≤ 9; decide, Or.inr rfl⟩
  | w + 1, h => by
    rw [wdK_s]
    have h9 := wdK_rng T s e w (by omega)
    split <;> omega
/-- the act of a line: behind its word, at c -/
def acR (T : Nat → Int32) (L c : Nat) : Int := if tK T L c = 7 ∧ ¬ tK T L (tE T L c) = 5 then 1 else 0
def acP (T : Nat → Int32) (L c : Nat) : Nat := if tK T L c = 7 then (if tK T L (tE T L c) = 5 then tE T L (tE T L c) else tE T L c) else c
def acD (T : Nat → Int32) (L c : Nat) : Int := if tK T L c = 7 then tN T L (tE T L c) else -1
/-- the part of a line: behind the word part, at c -/
def paR (T : Nat → Int32) (L c : Nat) : Int := if ¬ tK T L c = 5 then 1 else if 100 < tN T L c then 2 else if ¬ tK T L (tE T L c) = 6 then 1 else 0
def paP (T : Nat → Int32) (L c : Nat) : Nat := if ¬ tK T L c = 5 then c else if 100 < tN T L c then c else if ¬ tK T L (tE T L c) = 6 then tE T L c else tE T L (tE T L c)
/-- a line that begins at c: its fault, the fault's place, the next line's beginning -/
def lnR (T : Nat → Int32) (L c : Nat) : Int := if 4 ≤ tK T L c then 1 else if acR T L (tE T L c) = 1 then 1 else if ¬ tK T L (acP T L (tE T L c)) = 4 then 1 else paR T L (tE T L (acP T L (tE T L c)))
def lnX (T : Nat → Int32) (L c : Nat) : Nat := if 4 ≤ tK T L c then tS T L c else if acR T L (tE T L c) = 1 then tS T L (acP T L (tE T L c)) else if ¬ tK T L (acP T L (tE T L c)) = 4 then tS T L (acP T L (tE T L c)) else tS T L (paP T L (tE T L (acP T L (tE T L c))))
def lnN (T : Nat → Int32) (L c : Nat) : Nat := paP T L (tE T L (acP T L (tE T L c)))
def lnD (T : Nat → Int32) (L c : Nat) : Int := acD T L (tE T L c)
def lnP (T : Nat → Int32) (L c : Nat) : Int := tN T L (tE T L (acP T L (tE T L c)))
/-- where line n begins -/
def poL (T : Nat → Int32) (L : Nat) : Nat → Nat
  | 0 => 0
  | n + 1 => lnN T L (poL T L n)
theorem poL_s (T : Nat → Int32) (L n : Nat) : poL T L (n + 1) = lnN T L (poL T L n) := rfl
/-- the first n lines are good -/
def duOk (T : Nat → Int32) (L n : Nat) : Prop := ∀ j, j < n → ¬ tK T L (poL T L j) = 8 ∧ lnR T L (poL T L j) = 0
theorem duOk_s {T : Nat → Int32} {L n : Nat} (h : duOk T L n) (h1 : ¬ tK T L (poL T L n) = 8) (h2 : lnR T L (poL T L n) = 0) : duOk T L (n + 1) := fun j hj => if e : j = n then (by rw [e]; exact ⟨h1, h2⟩) else h j (by omega)
/-- the fault at line n, and its place -/
def dcF (T : Nat → Int32) (L n : Nat) : Int := if n < 12 then lnR T L (poL T L n) else if 4 ≤ tK T L (poL T L n) then 1 else 3
def dpF (T : Nat → Int32) (L n : Nat) : Nat := if n < 12 then lnX T L (poL T L n) else tS T L (poL T L n)
/-- the first n lines stand in the rows -/
def duLn (T : Nat → Int32) (L n : Nat) (w d p : Nat → Int32) : Prop := ∀ j, j < n → (w j).toInt = tK T L (poL T L j) ∧ (d j).toInt = lnD T L (poL T L j) ∧ (p j).toInt = lnP T L (poL T L j)
/-- what reading the tape answers and leaves -/
def duP (T : Nat → Int32) (L : Nat) (r lfa dl lfa' dl' : Int32) (w d p w' d' p' : Nat → Int32) : Prop := ∃ n, n ≤ 12 ∧ duOk T L n ∧ ((tK T L (poL T L n) = 8 ∧ r.toInt = n ∧ lfa' = lfa ∧ dl'.toInt = n ∧ duLn T L n w' d' p') ∨ (¬ tK T L (poL T L n) = 8 ∧ ¬ dcF T L n = 0 ∧ lfa'.toInt = dcF T L n ∧ r.toInt = -1000100 - (dpF T L n : Int) ∧ dl' = dl ∧ w' = w ∧ d' = d ∧ p' = p))
theorem poL_le (T : Nat → Int32) (L : Nat) : ∀ n, poL T L n ≤ L
  | 0 => Nat.zero_le _
  | n + 1 => by
    have h0 := poL_le T L n
    rw [poL_s]
    have e1 := (tE_le (T := T) h0).2.1
    have a1 : acP T L (tE T L (poL T L n)) ≤ L := by
      have e2 := (tE_le (T := T) e1).2.1
      have e3 := (tE_le (T := T) e2).2.1
      unfold acP
      (repeat' split) <;> omega
    have e4 := (tE_le (T := T) a1).2.1
    have e5 := (tE_le (T := T) e4).2.1
    have e6 := (tE_le (T := T) e5).2.1
    unfold lnN paP
    (repeat' split) <;> omega
/-- the token at c stands in the reader's fields -/
def tokQ (T : Nat → Int32) (L c : Nat) (bs be tk nb : Int32) : Prop := bs.toInt = (tS T L c : Int) ∧ be.toInt = (tE T L c : Int) ∧ tk.toInt = tK T L c ∧ (tk.toInt = 5 → nb.toInt = tN T L c)
def raQ (T : Nat → Int32) (L : Nat) (dr bs be tk : Int32) (xw xd : Nat → Int32) (r bs' be' tk' nb' : Int32) (xw' xd' : Nat → Int32) : Prop := (∀ j, ¬ j = dr.toNatClampNeg → xw' j = xw j ∧ xd' j = xd j) ∧ ((4 ≤ tk.toInt ∧ r.toInt = 1 ∧ bs' = bs) ∨ (tk.toInt < 4 ∧ 12 ≤ dr.toInt ∧ r.toInt = 3 ∧ bs' = bs) ∨ (tk.toInt < 4 ∧ dr.toInt < 12 ∧ r.toInt = acR T L be.toNatClampNeg ∧ tokQ T L (acP T L be.toNatClampNeg) bs' be' tk' nb' ∧ xw' dr.toNatClampNeg = tk ∧ (r.toInt = 0 → (xd' dr.toNatClampNeg).toInt = acD T L be.toNatClampNeg)))
def rpQ (T : Nat → Int32) (L : Nat) (dr bs be tk : Int32) (xp : Nat → Int32) (r bs' be' tk' nb' dr' : Int32) (xp' : Nat → Int32) : Prop := (∀ j, ¬ j = dr.toNatClampNeg → xp' j = xp j) ∧ ((¬ tk.toInt = 4 ∧ r.toInt = 1 ∧ bs' = bs ∧ dr' = dr) ∨ (tk.toInt = 4 ∧ r.toInt = paR T L be.toNatClampNeg ∧ tokQ T L (paP T L be.toNatClampNeg) bs' be' tk' nb' ∧ (r.toInt = 0 → dr'.toInt = dr.toInt + 1 ∧ (xp' dr.toNatClampNeg).toInt = tN T L be.toNatClampNeg) ∧ (¬ r.toInt = 0 → dr' = dr)))
/-- between two lines -/
def rdI (T : Nat → Int32) (L : Nat) (f k dr bs be tk nb : Int32) (xw xd xp : Nat → Int32) : Prop := duOk T L dr.toNatClampNeg ∧ duLn T L dr.toNatClampNeg xw xd xp ∧ ((f.toInt = 0 ∧ k.toInt = dr.toInt ∧ tokQ T L (poL T L dr.toNatClampNeg) bs be tk nb) ∨ (¬ f.toInt = 0 ∧ f.toInt = dcF T L dr.toNatClampNeg ∧ bs.toInt = (dpF T L dr.toNatClampNeg : Int) ∧ ¬ tK T L (poL T L dr.toNatClampNeg) = 8))
theorem acR_01 (T : Nat → Int32) (L c : Nat) : acR T L c = 0 ∨ acR T L c = 1 := by
  unfold acR
  split
  · exact Or.inr rfl
  · exact Or.inl rfl
theorem du_a1 {T : Nat → Int32} {L n : Nat} (h : 4 ≤ tK T L (poL T L n)) : dcF T L n = 1 ∧ dpF T L n = tS T L (poL T L n) := by
  unfold dcF dpF lnR lnX
  by_cases c : n < 12
  · constructor <;> simp only [if_pos c, if_pos h]
  · constructor <;> simp only [if_neg c, if_pos h]
theorem du_a2 {T : Nat → Int32} {L n : Nat} (h : tK T L (poL T L n) < 4) (c : ¬ n < 12) : dcF T L n = 3 ∧ dpF T L n = tS T L (poL T L n) := by
  unfold dcF dpF
  have h4 : ¬ 4 ≤ tK T L (poL T L n) := by omega
  constructor <;> simp only [if_neg c, if_neg h4]
theorem du_a3 {T : Nat → Int32} {L n : Nat} (h : tK T L (poL T L n) < 4) (c : n < 12) (ha : acR T L (tE T L (poL T L n)) = 1) : dcF T L n = 1 ∧ dpF T L n = tS T L (acP T L (tE T L (poL T L n))) := by
  unfold dcF dpF lnR lnX
  have h4 : ¬ 4 ≤ tK T L (poL T L n) := by omega
  constructor <;> simp only [if_pos c, if_neg h4, if_pos ha]
theorem du_b1 {T : Nat → Int32} {L n : Nat} (h : tK T L (poL T L n) < 4) (c : n < 12) (ha : acR T L (tE T L (poL T L n)) = 0) (hp : ¬ tK T L (acP T L (tE T L (poL T L n))) = 4) : dcF T L n = 1 ∧ dpF T L n = tS T L (acP T L (tE T L (poL T L n))) := by
  unfold dcF dpF lnR lnX
  have h4 : ¬ 4 ≤ tK T L (poL T L n) := by omega
  have h5 : ¬ acR T L (tE T L (poL T L n)) = 1 := by omega
  constructor <;> simp only [if_pos c, if_neg h4, if_neg h5, if_pos hp]
theorem du_b2 {T : Nat → Int32} {L n : Nat} (h : tK T L (poL T L n) < 4) (c : n < 12) (ha : acR T L (tE T L (poL T L n)) = 0) (hp : tK T L (acP T L (tE T L (poL T L n))) = 4) : dcF T L n = paR T L (tE T L (acP T L (tE T L (poL T L n)))) ∧ dpF T L n = tS T L (lnN T L (poL T L n)) ∧ lnR T L (poL T L n) = paR T L (tE T L (acP T L (tE T L (poL T L n)))) := by
  have h4 : ¬ 4 ≤ tK T L (poL T L n) := by omega
  have h5 : ¬ acR T L (tE T L (poL T L n)) = 1 := by omega
  have h6 : ¬ ¬ tK T L (acP T L (tE T L (poL T L n))) = 4 := by omega
  have e : lnR T L (poL T L n) = paR T L (tE T L (acP T L (tE T L (poL T L n)))) := by
    unfold lnR
    rw [if_neg h4, if_neg h5, if_neg h6]
  unfold dcF dpF
  rw [if_pos c, if_pos c, e]
  refine ⟨rfl, ?_, rfl⟩
  unfold lnX lnN
  rw [if_neg h4, if_neg h5, if_neg h6]
theorem duLn_same {T : Nat → Int32} {L n : Nat} {w d p w' d' p' : Nat → Int32} (h : duLn T L n w d p) (h1 : ∀ j, ¬ j = n → w' j = w j ∧ d' j = d j) (h2 : ∀ j, ¬ j = n → p' j = p j) : duLn T L n w' d' p' := fun j hj => by
  have a := h1 j (by omega)
  rw [a.1, a.2, h2 j (by omega)]
  exact h j hj
theorem rd_A {T : Nat → Int32} {L : Nat} {f k k' dr bs be tk nb r bs' be' tk' nb' : Int32} {xw xd xp xw' xd' : Nat → Int32} (h : rdI T L f k dr bs be tk nb xw xd xp) (hf : f.toInt = 0) (h8 : ¬ tk.toInt = 8) (d0 : 0 ≤ dr.toInt) (b0 : 0 ≤ be.toInt) (ra : raQ T L dr bs be tk xw xd r bs' be' tk' nb' xw' xd') (hr : ¬ r.toInt = 0) : rdI T L r k' dr bs' be' tk' nb' xw' xd' xp := by
  obtain ⟨i1, i2, i3⟩ := h
  obtain ⟨ra0, ra⟩ := ra
  have cd := i_cl d0
  have cb := i_cl b0
  rcases i3 with ⟨-, i4, q1, q2, q3, q4⟩ | ⟨i4, -⟩
  · have eb : be.toNatClampNeg = tE T L (poL T L dr.toNatClampNeg) := by omega
    refine ⟨i1, duLn_same i2 ra0 (fun _ _ => rfl), Or.inr ⟨hr, ?_⟩⟩
    rcases ra with ⟨a1, a2, a3⟩ | ⟨a1, a2, a3, a4⟩ | ⟨a1, a2, a3, a4, -⟩
    · obtain ⟨c1, c2⟩ := du_a1 (T := T) (L := L) (n := dr.toNatClampNeg) (by omega)
      rw [a3]
      exact ⟨by omega, by omega, by omega⟩
    · obtain ⟨c1, c2⟩ := du_a2 (T := T) (L := L) (n := dr.toNatClampNeg) (by omega) (by omega)
      rw [a4]
      exact ⟨by omega, by omega, by omega⟩
    · rw [eb] at a3 a4
      have e1 := acR_01 T L (tE T L (poL T L dr.toNatClampNeg))
      obtain ⟨c1, c2⟩ := du_a3 (T := T) (L := L) (n := dr.toNatClampNeg) (by omega) (by omega) (by omega)
      have a5 := a4.1
      exact ⟨by omega, by omega, by omega⟩
  · exact absurd hf i4
theorem rd_B {T : Nat → Int32} {L : Nat} {f k k' dr dr' bs be tk nb r r2 bs' be' tk' nb' bs2 be2 tk2 nb2 : Int32} {xw xd xp xw' xd' xp' : Nat → Int32} (h : rdI T L f k dr bs be tk nb xw xd xp) (hf : f.toInt = 0) (h8 : ¬ tk.toInt = 8) (d0 : 0 ≤ dr.toInt) (b0 : 0 ≤ be.toInt) (b1 : 0 ≤ be'.toInt) (hk : k'.toInt = k.toInt + 1) (ra : raQ T L dr bs be tk xw xd r bs' be' tk' nb' xw' xd') (hr : r.toInt = 0) (rp : rpQ T L dr bs' be' tk' xp r2 bs2 be2 tk2 nb2 dr' xp') : rdI T L r2 k' dr' bs2 be2 tk2 nb2 xw' xd' xp' := by
  obtain ⟨i1, i2, i3⟩ := h
  obtain ⟨ra0, ra⟩ := ra
  obtain ⟨rp0, rp⟩ := rp
  have cd := i_cl d0
  have cb := i_cl b0
  have cb' := i_cl b1
  rcases i3 with ⟨-, i4, q1, q2, q3, q4⟩ | ⟨i4, -⟩
  · have eb : be.toNatClampNeg = tE T L (poL T L dr.toNatClampNeg) := by omega
    rcases ra with ⟨a1, a2, a3⟩ | ⟨a1, a2, a3, a4⟩ | ⟨a1, a2, a3, a4, a5, a6⟩
    · omega
    · omega
    · rw [eb] at a3 a4 a6
      have a7 := a6 hr
      obtain ⟨t1, t2, t3, t4⟩ := a4
      have eb' : be'.toNatClampNeg = tE T L (acP T L (tE T L (poL T L dr.toNatClampNeg))) := by omega
      rcases rp with ⟨p1, p2, p3, p4⟩ | ⟨p1, p2, p3, p4, p5⟩
      · obtain ⟨c1, c2⟩ := du_b1 (T := T) (L := L) (n := dr.toNatClampNeg) (by omega) (by omega) (by omega) (by omega)
        rw [p4, p3]
        exact ⟨i1, duLn_same i2 ra0 rp0, Or.inr ⟨by omega, by omega, by omega, by omega⟩⟩
      · rw [eb'] at p2 p3 p4
        obtain ⟨c1, c2, c3⟩ := du_b2 (T := T) (L := L) (n := dr.toNatClampNeg) (by omega) (by omega) (by omega) (by omega)
        by_cases z : r2.toInt = 0
        · obtain ⟨p6, p7⟩ := p4 z
          have cd' := i_cl (x := dr') (by omega)
          have ed : dr'.toNatClampNeg = dr.toNatClampNeg + 1 := by omega
          rw [show rdI T L r2 k' dr' bs2 be2 tk2 nb2 xw' xd' xp' = (duOk T L dr'.toNatClampNeg ∧ duLn T L dr'.toNatClampNeg xw' xd' xp' ∧ ((r2.toInt = 0 ∧ k'.toInt = dr'.toInt ∧ tokQ T L (poL T L dr'.toNatClampNeg) bs2 be2 tk2 nb2) ∨ (¬ r2.toInt = 0 ∧ r2.toInt = dcF T L dr'.toNatClampNeg ∧ bs2.toInt = (dpF T L dr'.toNatClampNeg : Int) ∧ ¬ tK T L (poL T L dr'.toNatClampNeg) = 8))) from rfl, ed]
          refine ⟨duOk_s i1 (by omega) (by omega), fun j hj => ?_, Or.inl ⟨z, by omega, ?_⟩⟩
          · by_cases e : j = dr.toNatClampNeg
            · rw [e, a5]
              exact ⟨q3, a7, p7⟩
            · have s := duLn_same i2 ra0 rp0 j (by omega)
              exact s
          · rw [poL_s]
            exact p3
        · rw [p5 z]
          have p8 := p3.1
          have e9 : paP T L (tE T L (acP T L (tE T L (poL T L dr.toNatClampNeg)))) = lnN T L (poL T L dr.toNatClampNeg) := rfl
          rw [e9] at p8
          exact ⟨i1, duLn_same i2 ra0 rp0, Or.inr ⟨z, by omega, by omega, by omega⟩⟩
  · exact absurd hf i4
theorem rd_0 {T : Nat → Int32} {L : Nat} {bs be tk nb : Int32} {xw xd xp : Nat → Int32} (h : tokQ T L ((0 : Int32).toNatClampNeg) bs be tk nb) : rdI T L 0 0 0 bs be tk nb xw xd xp := by
  have z0 : (0 : Int32).toNatClampNeg = 0 := rfl
  rw [z0] at h
  unfold rdI
  rw [z0]
  exact ⟨fun j hj => absurd hj (by omega), fun j hj => absurd hj (by omega), Or.inl ⟨rfl, rfl, h⟩⟩


theorem l_bmod {z : Int} (h1 : -9223372036854775808 ≤ z) (h2 : z < 9223372036854775808) : z.bmod (2 ^ 64) = z := by
  rw [Int.bmod_def]; omega
theorem l_add {x y : Int64} (h1 : -9223372036854775808 ≤ x.toInt + y.toInt) (h2 : x.toInt + y.toInt < 9223372036854775808) : (x + y).toInt = x.toInt + y.toInt := by
  rw [Int64.toInt_add]; exact l_bmod h1 h2
theorem l_sub {x y : Int64} (h1 : -9223372036854775808 ≤ x.toInt - y.toInt) (h2 : x.toInt - y.toInt < 9223372036854775808) : (x - y).toInt = x.toInt - y.toInt := by
  rw [Int64.toInt_sub]; exact l_bmod h1 h2

set_option maxHeartbeats 4000000 in
set_option maxRecDepth 100000 in
theorem ct_X10_isBelow (l : Launch) (D : va_G) (cI cY cJ cQ : ClassId) (sz : Nat) (a : Int32) (b : Int32)   : Met l yX10_isBelow wsX10_isBelow ({ frames := 0, cells := 0, slots := 0, locals := 0 }) (cPre D (ty4 cI cY cJ cQ) [] sz [.int a, .int b]) (va_Qi (fun (r : Int32) (u : Unit) => r = if 0 ≤ a.toInt ∧ a.toInt < b.toInt then 1 else 0) (cB D (ty4 cI cY cJ cQ) (fun (u : Unit) => []) (va_A [] sz)) (va_A [] sz)) 0 0 (va_A [] sz) := by
  refine Met.ofW (cc := cX10_isBelow) (maxL := 2) (ret := (some .boolean)) (by decide) rfl ?_
  intro p e s m args below meth c s₁ B hml hv
  obtain ⟨rfl, hsz, hP, hK, hD0, hN⟩ := hv
  have hx := B.exec
  have hb := B.bytes
  have hr := B.returns
  have hts := atoms_spec (ws := wsX10_isBelow) B.pre
  have hown : s.vm.findClass RX10 = some m.cls := findClass_of_methodNamed B.named
  have hlocks := B.notSynchronized
  subst hsz
  have hD := hD0.self (sz := s.heap.size)
  generalize hAe : va_A [] s.heap.size = A at hD ⊢
  have hA : ∀ q : Nat, s.heap.size ≤ q → A q := fun q h => by rw [← hAe]; exact Or.inr h
  have hS : va_S A s.heap s.heap [] := va_S.rf
  have hP : va_P D vwCl [] s.heap := hP
  have hl := lv_entry ([.int a, .int b]) (n := 2) (Nat.le_of_ble_eq_true rfl)
  rw [lg_entry_eq]
  generalize (lg_sl ([.int a, .int b]) ++ List.replicate (2 - (lg_sl ([.int a, .int b])).length) Slot.unset).toArray = ls at hl ⊢
  have hl : lv_has ls 2 [(0, .int a), (1, .int b)] := hl
  have k0 : (0 : Int32).toInt = 0 := by decide
  refine lv_iload_n hx hb dX10_isBelow_0 rfl (lv_at hl 0 rfl) ?_
  refine lv_if_lt (tgt := 13) hx hb dX10_isBelow_1 (by decide) (fun c1 => ?_) (fun c1 => ?_)
  · skip
    have f2 := i_lt c1
    refine lv_iconst (v := 0) hx hb dX10_isBelow_13 (by decide) ?_
    have hP9 := hP
    have hD9 := hD
    exact W.zret (v := 0) hx hb hr rfl (fun t ht hW => ⟨⟨0, (), rfl, bo_no (by omega), by rw [ht]; exact hP9, va_K.moved hW.alike hK, hD9⟩, hS.F ht⟩) hS.2.2 dX10_isBelow_14
  · skip
    have f3 := i_nlt c1
    refine lv_iload_n hx hb dX10_isBelow_4 rfl (lv_at hl 0 rfl) ?_
    refine lv_iload_n hx hb dX10_isBelow_5 rfl (lv_at hl 1 rfl) ?_
    refine lv_icmp_ge (tgt := 13) hx hb dX10_isBelow_6 (by decide) (fun c4 => ?_) (fun c4 => ?_)
    · skip
      have f5 := i_le c4
      refine lv_iconst (v := 0) hx hb dX10_isBelow_13 (by decide) ?_
      have hP9 := hP
      have hD9 := hD
      exact W.zret (v := 0) hx hb hr rfl (fun t ht hW => ⟨⟨0, (), rfl, bo_no (by omega), by rw [ht]; exact hP9, va_K.moved hW.alike hK, hD9⟩, hS.F ht⟩) hS.2.2 dX10_isBelow_14
    · skip
      have f6 := i_nle c4
      refine lv_iconst (v := 1) hx hb dX10_isBelow_9 (by decide) ?_
      refine lv_goto (tgt := 14) hx hb dX10_isBelow_10 (by decide) ?_
      have hP9 := hP
      have hD9 := hD
      exact W.zret (v := 1) hx hb hr rfl (fun t ht hW => ⟨⟨1, (), rfl, bo_yes (by omega), by rw [ht]; exact hP9, va_K.moved hW.alike hK, hD9⟩, hS.F ht⟩) hS.2.2 dX10_isBelow_14

set_option maxHeartbeats 4000000 in
set_option maxRecDepth 100000 in
theorem ct_X10_isFrom (l : Launch) (D : va_G) (cI cY cJ cQ : ClassId) (sz : Nat) (a : Int32) (b : Int32) (d : Int32)   : Met l yX10_isFrom wsX10_isFrom ({ frames := 0, cells := 0, slots := 0, locals := 0 }) (cPre D (ty4 cI cY cJ cQ) [] sz [.int a, .int b, .int d]) (va_Qi (fun (r : Int32) (u : Unit) => r = if b.toInt ≤ a.toInt ∧ a.toInt ≤ d.toInt then 1 else 0) (cB D (ty4 cI cY cJ cQ) (fun (u : Unit) => []) (va_A [] sz)) (va_A [] sz)) 0 0 (va_A [] sz) := by
  refine Met.ofW (cc := cX10_isFrom) (maxL := 3) (ret := (some .boolean)) (by decide) rfl ?_
  intro p e s m args below meth c s₁ B hml hv
  obtain ⟨rfl, hsz, hP, hK, hD0, hN⟩ := hv
  have hx := B.exec
  have hb := B.bytes
  have hr := B.returns
  have hts := atoms_spec (ws := wsX10_isFrom) B.pre
  have hown : s.vm.findClass RX10 = some m.cls := findClass_of_methodNamed B.named
  have hlocks := B.notSynchronized
  subst hsz
  have hD := hD0.self (sz := s.heap.size)
  generalize hAe : va_A [] s.heap.size = A at hD ⊢
  have hA : ∀ q : Nat, s.heap.size ≤ q → A q := fun q h => by rw [← hAe]; exact Or.inr h
  have hS : va_S A s.heap s.heap [] := va_S.rf
  have hP : va_P D vwCl [] s.heap := hP
  have hl := lv_entry ([.int a, .int b, .int d]) (n := 3) (Nat.le_of_ble_eq_true rfl)
  rw [lg_entry_eq]
  generalize (lg_sl ([.int a, .int b, .int d]) ++ List.replicate (3 - (lg_sl ([.int a, .int b, .int d])).length) Slot.unset).toArray = ls at hl ⊢
  have hl : lv_has ls 3 [(0, .int a), (1, .int b), (2, .int d)] := hl
  refine lv_iload_n hx hb dX10_isFrom_0 rfl (lv_at hl 0 rfl) ?_
  refine lv_iload_n hx hb dX10_isFrom_1 rfl (lv_at hl 1 rfl) ?_
  refine lv_icmp_lt (tgt := 14) hx hb dX10_isFrom_2 (by decide) (fun c1 => ?_) (fun c1 => ?_)
  · skip
    have f2 := i_lt c1
    refine lv_iconst (v := 0) hx hb dX10_isFrom_14 (by decide) ?_
    have hP9 := hP
    have hD9 := hD
    exact W.zret (v := 0) hx hb hr rfl (fun t ht hW => ⟨⟨0, (), rfl, bo_no (by omega), by rw [ht]; exact hP9, va_K.moved hW.alike hK, hD9⟩, hS.F ht⟩) hS.2.2 dX10_isFrom_15
  · skip
    have f3 := i_nlt c1
    refine lv_iload_n hx hb dX10_isFrom_5 rfl (lv_at hl 0 rfl) ?_
    refine lv_iload_n hx hb dX10_isFrom_6 rfl (lv_at hl 2 rfl) ?_
    refine lv_icmp_gt (tgt := 14) hx hb dX10_isFrom_7 (by decide) (fun c4 => ?_) (fun c4 => ?_)
    · skip
      have f5 := i_lt c4
      refine lv_iconst (v := 0) hx hb dX10_isFrom_14 (by decide) ?_
      have hP9 := hP
      have hD9 := hD
      exact W.zret (v := 0) hx hb hr rfl (fun t ht hW => ⟨⟨0, (), rfl, bo_no (by omega), by rw [ht]; exact hP9, va_K.moved hW.alike hK, hD9⟩, hS.F ht⟩) hS.2.2 dX10_isFrom_15
    · skip
      have f6 := i_nlt c4
      refine lv_iconst (v := 1) hx hb dX10_isFrom_10 (by decide) ?_
      refine lv_goto (tgt := 15) hx hb dX10_isFrom_11 (by decide) ?_
      have hP9 := hP
      have hD9 := hD
      exact W.zret (v := 1) hx hb hr rfl (fun t ht hW => ⟨⟨1, (), rfl, bo_yes (by omega), by rw [ht]; exact hP9, va_K.moved hW.alike hK, hD9⟩, hS.F ht⟩) hS.2.2 dX10_isFrom_15

set_option maxHeartbeats 4000000 in
set_option maxRecDepth 100000 in
theorem ct_X10_isDay (l : Launch) (D : va_G) (cI cY cJ cQ : ClassId) (sz : Nat) (a : Int32)   : Met l yX10_isDay wsX10_isDay ({ frames := 1, cells := 0, slots := 0, locals := 21 }) (cPre D (ty4 cI cY cJ cQ) [] sz [.int a]) (va_Qi (fun (r : Int32) (u : Unit) => r = if 0 ≤ a.toInt ∧ a.toInt < 10000 then 1 else 0) (cB D (ty4 cI cY cJ cQ) (fun (u : Unit) => []) (va_A [] sz)) (va_A [] sz)) 0 0 (va_A [] sz) := by
  refine Met.ofW (cc := cX10_isDay) (maxL := 1) (ret := (some .boolean)) (by decide) rfl ?_
  intro p e s m args below meth c s₁ B hml hv
  obtain ⟨rfl, hsz, hP, hK, hD0, hN⟩ := hv
  have hx := B.exec
  have hb := B.bytes
  have hr := B.returns
  have hts := atoms_spec (ws := wsX10_isDay) B.pre
  have hown : s.vm.findClass RX10 = some m.cls := findClass_of_methodNamed B.named
  have hlocks := B.notSynchronized
  subst hsz
  have hD := hD0.self (sz := s.heap.size)
  generalize hAe : va_A [] s.heap.size = A at hD ⊢
  have hA : ∀ q : Nat, s.heap.size ≤ q → A q := fun q h => by rw [← hAe]; exact Or.inr h
  have hS : va_S A s.heap s.heap [] := va_S.rf
  have hP : va_P D vwCl [] s.heap := hP
  have hl := lv_entry ([.int a]) (n := 1) (Nat.le_of_ble_eq_true rfl)
  rw [lg_entry_eq]
  generalize (lg_sl ([.int a]) ++ List.replicate (1 - (lg_sl ([.int a])).length) Slot.unset).toArray = ls at hl ⊢
  have hl : lv_has ls 1 [(0, .int a)] := hl
  have k10000 : (10000 : Int32).toInt = 10000 := by decide
  refine lv_iload_n hx hb dX10_isDay_0 rfl (lv_at hl 0 rfl) ?_
  refine lv_sipush (v := 10000) hx hb dX10_isDay_1 (by decide) ?_
  refine st_i1 (va_runS (As := [.int a, .int 10000]) (rest := []) ⟨hx, hb, hml, hown, hts⟩ (ct_X10_isBelow l D cI cY cJ cQ _ a (10000 : Int32)) (va_cwS 2 hts gX10_isDay_X10_isBelow rfl rfl rfl cdX10_isBelow ⟨Nat.le_of_ble_eq_true rfl, Nat.le_of_ble_eq_true rfl⟩) (cPreS (hP.sub [] rfl) hK (hD.sub [] (by decide +kernel) rfl) hN) rfl rfl hl.1 rfl (lv_room (Nat.le_of_ble_eq_true rfl)) dX10_isDay_4 ⟨Nat.le_of_ble_eq_true rfl, Nat.le_of_ble_eq_true rfl⟩) hP hD hS hA [] rfl (fun _ => rfl) (fun r3 u1 H locs hw2 => ?_)
  clear hP hS
  intro hP hS
  replace hw2 : r3 = if 0 ≤ a.toInt ∧ a.toInt < (10000 : Int32).toInt then 1 else 0 := hw2
  have hP9 := hP
  have hD9 := hD
  exact W.zret (v := r3) hx hb hr (zn_b hw2) (fun t ht hW => ⟨⟨r3, (), rfl, bo_iff hw2 ⟨fun h => by omega, fun h => by omega⟩, by rw [ht]; exact hP9, va_K.moved hW.alike hK, hD9⟩, hS.F ht⟩) hS.2.2 dX10_isDay_7

set_option maxHeartbeats 4000000 in
set_option maxRecDepth 100000 in
theorem ct_X10_areDays (l : Launch) (D : va_G) (cI cY cJ cQ : ClassId) (sz : Nat) (a : Int32) (b : Int32)   : Met l yX10_areDays wsX10_areDays ({ frames := 2, cells := 0, slots := 0, locals := 41 }) (cPre D (ty4 cI cY cJ cQ) [] sz [.int a, .int b]) (va_Qi (fun (r : Int32) (u : Unit) => r = if 0 ≤ a.toInt ∧ b.toInt < 10000 ∧ a.toInt ≤ b.toInt then 1 else 0) (cB D (ty4 cI cY cJ cQ) (fun (u : Unit) => []) (va_A [] sz)) (va_A [] sz)) 0 0 (va_A [] sz) := by
  refine Met.ofW (cc := cX10_areDays) (maxL := 2) (ret := (some .boolean)) (by decide) rfl ?_
  intro p e s m args below meth c s₁ B hml hv
  obtain ⟨rfl, hsz, hP, hK, hD0, hN⟩ := hv
  have hx := B.exec
  have hb := B.bytes
  have hr := B.returns
  have hts := atoms_spec (ws := wsX10_areDays) B.pre
  have hown : s.vm.findClass RX10 = some m.cls := findClass_of_methodNamed B.named
  have hlocks := B.notSynchronized
  subst hsz
  have hD := hD0.self (sz := s.heap.size)
  generalize hAe : va_A [] s.heap.size = A at hD ⊢
  have hA : ∀ q : Nat, s.heap.size ≤ q → A q := fun q h => by rw [← hAe]; exact Or.inr h
  have hS : va_S A s.heap s.heap [] := va_S.rf
  have hP : va_P D vwCl [] s.heap := hP
  have hl := lv_entry ([.int a, .int b]) (n := 2) (Nat.le_of_ble_eq_true rfl)
  rw [lg_entry_eq]
  generalize (lg_sl ([.int a, .int b]) ++ List.replicate (2 - (lg_sl ([.int a, .int b])).length) Slot.unset).toArray = ls at hl ⊢
  have hl : lv_has ls 2 [(0, .int a), (1, .int b)] := hl
  have k0 : (0 : Int32).toInt = 0 := by decide
  refine lv_iload_n hx hb dX10_areDays_0 rfl (lv_at hl 0 rfl) ?_
  refine st_i1 (va_runS (As := [.int a]) (rest := []) ⟨hx, hb, hml, hown, hts⟩ (ct_X10_isDay l D cI cY cJ cQ _ a) (va_cwS 1 hts gX10_areDays_X10_isDay rfl rfl rfl cdX10_isDay ⟨Nat.le_of_ble_eq_true rfl, Nat.le_of_ble_eq_true rfl⟩) (cPreS (hP.sub [] rfl) hK (hD.sub [] (by decide +kernel) rfl) hN) rfl rfl hl.1 rfl (lv_room (Nat.le_of_ble_eq_true rfl)) dX10_areDays_1 ⟨Nat.le_of_ble_eq_true rfl, Nat.le_of_ble_eq_true rfl⟩) hP hD hS hA [] rfl (fun _ => rfl) (fun r3 u1 H locs hw2 => ?_)
  clear hP hS
  intro hP hS
  replace hw2 : r3 = if 0 ≤ a.toInt ∧ a.toInt < 10000 then 1 else 0 := hw2
  refine lv_if_eq (tgt := 23) hx hb dX10_areDays_4 (by decide) (fun c4 => ?_) (fun c4 => ?_)
  · skip
    have f5 := bo_f hw2 c4
    refine lv_iconst (v := 0) hx hb dX10_areDays_23 (by decide) ?_
    have hP9 := hP
    have hD9 := hD
    exact W.zret (v := 0) hx hb hr rfl (fun t ht hW => ⟨⟨0, (), rfl, bo_no (by omega), by rw [ht]; exact hP9, va_K.moved hW.alike hK, hD9⟩, hS.F ht⟩) hS.2.2 dX10_areDays_24
  · skip
    have f6 := bo_t hw2 c4
    refine lv_iload_n hx hb dX10_areDays_7 rfl (lv_at hl 1 rfl) ?_
    refine st_i1 (va_runS (As := [.int b]) (rest := []) ⟨hx, hb, hml, hown, hts⟩ (ct_X10_isDay l D cI cY cJ cQ _ b) (va_cwS 1 hts gX10_areDays_X10_isDay rfl rfl rfl cdX10_isDay ⟨Nat.le_of_ble_eq_true rfl, Nat.le_of_ble_eq_true rfl⟩) (cPreS (hP.sub [] rfl) hK (hD.sub [] (by decide +kernel) rfl) hN) rfl rfl hl.1 rfl (lv_room (Nat.le_of_ble_eq_true rfl)) dX10_areDays_8 ⟨Nat.le_of_ble_eq_true rfl, Nat.le_of_ble_eq_true rfl⟩) hP hD hS hA [] rfl (fun _ => rfl) (fun r9 u7 H locs hw8 => ?_)
    clear hP hS
    intro hP hS
    replace hw8 : r9 = if 0 ≤ b.toInt ∧ b.toInt < 10000 then 1 else 0 := hw8
    refine lv_if_eq (tgt := 23) hx hb dX10_areDays_11 (by decide) (fun c10 => ?_) (fun c10 => ?_)
    · skip
      have f11 := bo_f hw8 c10
      refine lv_iconst (v := 0) hx hb dX10_areDays_23 (by decide) ?_
      have hP9 := hP
      have hD9 := hD
      exact W.zret (v := 0) hx hb hr rfl (fun t ht hW => ⟨⟨0, (), rfl, bo_no (by omega), by rw [ht]; exact hP9, va_K.moved hW.alike hK, hD9⟩, hS.F ht⟩) hS.2.2 dX10_areDays_24
    · skip
      have f12 := bo_t hw8 c10
      refine lv_iload_n hx hb dX10_areDays_14 rfl (lv_at hl 0 rfl) ?_
      refine lv_iload_n hx hb dX10_areDays_15 rfl (lv_at hl 1 rfl) ?_
      refine lv_icmp_gt (tgt := 23) hx hb dX10_areDays_16 (by decide) (fun c13 => ?_) (fun c13 => ?_)
      · skip
        have f14 := i_lt c13
        refine lv_iconst (v := 0) hx hb dX10_areDays_23 (by decide) ?_
        have hP9 := hP
        have hD9 := hD
        exact W.zret (v := 0) hx hb hr rfl (fun t ht hW => ⟨⟨0, (), rfl, bo_no (by omega), by rw [ht]; exact hP9, va_K.moved hW.alike hK, hD9⟩, hS.F ht⟩) hS.2.2 dX10_areDays_24
      · skip
        have f15 := i_nlt c13
        refine lv_iconst (v := 1) hx hb dX10_areDays_19 (by decide) ?_
        refine lv_goto (tgt := 24) hx hb dX10_areDays_20 (by decide) ?_
        have hP9 := hP
        have hD9 := hD
        exact W.zret (v := 1) hx hb hr rfl (fun t ht hW => ⟨⟨1, (), rfl, bo_yes (by omega), by rw [ht]; exact hP9, va_K.moved hW.alike hK, hD9⟩, hS.F ht⟩) hS.2.2 dX10_areDays_24

set_option maxHeartbeats 4000000 in
set_option maxRecDepth 100000 in
theorem ct_X10_isPerson (l : Launch) (D : va_G) (cI cY cJ cQ : ClassId) (sz : Nat) (a : Int32)   : Met l yX10_isPerson wsX10_isPerson ({ frames := 1, cells := 0, slots := 0, locals := 21 }) (cPre D (ty4 cI cY cJ cQ) [] sz [.int a]) (va_Qi (fun (r : Int32) (u : Unit) => r = if 0 ≤ a.toInt ∧ a.toInt < 10 then 1 else 0) (cB D (ty4 cI cY cJ cQ) (fun (u : Unit) => []) (va_A [] sz)) (va_A [] sz)) 0 0 (va_A [] sz) := by
  refine Met.ofW (cc := cX10_isPerson) (maxL := 1) (ret := (some .boolean)) (by decide) rfl ?_
  intro p e s m args below meth c s₁ B hml hv
  obtain ⟨rfl, hsz, hP, hK, hD0, hN⟩ := hv
  have hx := B.exec
  have hb := B.bytes
  have hr := B.returns
  have hts := atoms_spec (ws := wsX10_isPerson) B.pre
  have hown : s.vm.findClass RX10 = some m.cls := findClass_of_methodNamed B.named
  have hlocks := B.notSynchronized
  subst hsz
  have hD := hD0.self (sz := s.heap.size)
  generalize hAe : va_A [] s.heap.size = A at hD ⊢
  have hA : ∀ q : Nat, s.heap.size ≤ q → A q := fun q h => by rw [← hAe]; exact Or.inr h
  have hS : va_S A s.heap s.heap [] := va_S.rf
  have hP : va_P D vwCl [] s.heap := hP
  have hl := lv_entry ([.int a]) (n := 1) (Nat.le_of_ble_eq_true rfl)
  rw [lg_entry_eq]
  generalize (lg_sl ([.int a]) ++ List.replicate (1 - (lg_sl ([.int a])).length) Slot.unset).toArray = ls at hl ⊢
  have hl : lv_has ls 1 [(0, .int a)] := hl
  have k10 : (10 : Int32).toInt = 10 := by decide
  refine lv_iload_n hx hb dX10_isPerson_0 rfl (lv_at hl 0 rfl) ?_
  refine lv_bipush (v := 10) hx hb dX10_isPerson_1 (by decide) ?_
  refine st_i1 (va_runS (As := [.int a, .int 10]) (rest := []) ⟨hx, hb, hml, hown, hts⟩ (ct_X10_isBelow l D cI cY cJ cQ _ a (10 : Int32)) (va_cwS 2 hts gX10_isPerson_X10_isBelow rfl rfl rfl cdX10_isBelow ⟨Nat.le_of_ble_eq_true rfl, Nat.le_of_ble_eq_true rfl⟩) (cPreS (hP.sub [] rfl) hK (hD.sub [] (by decide +kernel) rfl) hN) rfl rfl hl.1 rfl (lv_room (Nat.le_of_ble_eq_true rfl)) dX10_isPerson_3 ⟨Nat.le_of_ble_eq_true rfl, Nat.le_of_ble_eq_true rfl⟩) hP hD hS hA [] rfl (fun _ => rfl) (fun r3 u1 H locs hw2 => ?_)
  clear hP hS
  intro hP hS
  replace hw2 : r3 = if 0 ≤ a.toInt ∧ a.toInt < (10 : Int32).toInt then 1 else 0 := hw2
  have hP9 := hP
  have hD9 := hD
  exact W.zret (v := r3) hx hb hr (zn_b hw2) (fun t ht hW => ⟨⟨r3, (), rfl, bo_iff hw2 ⟨fun h => by omega, fun h => by omega⟩, by rw [ht]; exact hP9, va_K.moved hW.alike hK, hD9⟩, hS.F ht⟩) hS.2.2 dX10_isPerson_6

set_option maxHeartbeats 4000000 in
set_option maxRecDepth 100000 in
theorem ct_X10_isOwner (l : Launch) (D : va_G) (cI cY cJ cQ : ClassId) (sz : Nat) (a : Int32)   : Met l yX10_isOwner wsX10_isOwner ({ frames := 1, cells := 0, slots := 0, locals := 21 }) (cPre D (ty4 cI cY cJ cQ) [] sz [.int a]) (va_Qi (fun (r : Int32) (u : Unit) => r = if 0 ≤ a.toInt ∧ a.toInt < 20 then 1 else 0) (cB D (ty4 cI cY cJ cQ) (fun (u : Unit) => []) (va_A [] sz)) (va_A [] sz)) 0 0 (va_A [] sz) := by
  refine Met.ofW (cc := cX10_isOwner) (maxL := 1) (ret := (some .boolean)) (by decide) rfl ?_
  intro p e s m args below meth c s₁ B hml hv
  obtain ⟨rfl, hsz, hP, hK, hD0, hN⟩ := hv
  have hx := B.exec
  have hb := B.bytes
  have hr := B.returns
  have hts := atoms_spec (ws := wsX10_isOwner) B.pre
  have hown : s.vm.findClass RX10 = some m.cls := findClass_of_methodNamed B.named
  have hlocks := B.notSynchronized
  subst hsz
  have hD := hD0.self (sz := s.heap.size)
  generalize hAe : va_A [] s.heap.size = A at hD ⊢
  have hA : ∀ q : Nat, s.heap.size ≤ q → A q := fun q h => by rw [← hAe]; exact Or.inr h
  have hS : va_S A s.heap s.heap [] := va_S.rf
  have hP : va_P D vwCl [] s.heap := hP
  have hl := lv_entry ([.int a]) (n := 1) (Nat.le_of_ble_eq_true rfl)
  rw [lg_entry_eq]
  generalize (lg_sl ([.int a]) ++ List.replicate (1 - (lg_sl ([.int a])).length) Slot.unset).toArray = ls at hl ⊢
  have hl : lv_has ls 1 [(0, .int a)] := hl
  have k20 : (20 : Int32).toInt = 20 := by decide
  refine lv_iload_n hx hb dX10_isOwner_0 rfl (lv_at hl 0 rfl) ?_
  refine lv_bipush (v := 20) hx hb dX10_isOwner_1 (by decide) ?_
  refine st_i1 (va_runS (As := [.int a, .int 20]) (rest := []) ⟨hx, hb, hml, hown, hts⟩ (ct_X10_isBelow l D cI cY cJ cQ _ a (20 : Int32)) (va_cwS 2 hts gX10_isOwner_X10_isBelow rfl rfl rfl cdX10_isBelow ⟨Nat.le_of_ble_eq_true rfl, Nat.le_of_ble_eq_true rfl⟩) (cPreS (hP.sub [] rfl) hK (hD.sub [] (by decide +kernel) rfl) hN) rfl rfl hl.1 rfl (lv_room (Nat.le_of_ble_eq_true rfl)) dX10_isOwner_3 ⟨Nat.le_of_ble_eq_true rfl, Nat.le_of_ble_eq_true rfl⟩) hP hD hS hA [] rfl (fun _ => rfl) (fun r3 u1 H locs hw2 => ?_)
  clear hP hS
  intro hP hS
  replace hw2 : r3 = if 0 ≤ a.toInt ∧ a.toInt < (20 : Int32).toInt then 1 else 0 := hw2
  have hP9 := hP
  have hD9 := hD
  exact W.zret (v := r3) hx hb hr (zn_b hw2) (fun t ht hW => ⟨⟨r3, (), rfl, bo_iff hw2 ⟨fun h => by omega, fun h => by omega⟩, by rw [ht]; exact hP9, va_K.moved hW.alike hK, hD9⟩, hS.F ht⟩) hS.2.2 dX10_isOwner_6

set_option maxHeartbeats 4000000 in
set_option maxRecDepth 100000 in
theorem ct_X10_isPair (l : Launch) (D : va_G) (cI cY cJ cQ : ClassId) (sz : Nat) (a : Int32) (b : Int32)   : Met l yX10_isPair wsX10_isPair ({ frames := 2, cells := 0, slots := 0, locals := 41 }) (cPre D (ty4 cI cY cJ cQ) [] sz [.int a, .int b]) (va_Qi (fun (r : Int32) (u : Unit) => r = if 0 ≤ a.toInt ∧ a.toInt < 20 ∧ 10 ≤ b.toInt ∧ b.toInt < 20 ∧ ¬ a.toInt = b.toInt then 1 else 0) (cB D (ty4 cI cY cJ cQ) (fun (u : Unit) => []) (va_A [] sz)) (va_A [] sz)) 0 0 (va_A [] sz) := by
  refine Met.ofW (cc := cX10_isPair) (maxL := 2) (ret := (some .boolean)) (by decide) rfl ?_
  intro p e s m args below meth c s₁ B hml hv
  obtain ⟨rfl, hsz, hP, hK, hD0, hN⟩ := hv
  have hx := B.exec
  have hb := B.bytes
  have hr := B.returns
  have hts := atoms_spec (ws := wsX10_isPair) B.pre
  have hown : s.vm.findClass RX10 = some m.cls := findClass_of_methodNamed B.named
  have hlocks := B.notSynchronized
  subst hsz
  have hD := hD0.self (sz := s.heap.size)
  generalize hAe : va_A [] s.heap.size = A at hD ⊢
  have hA : ∀ q : Nat, s.heap.size ≤ q → A q := fun q h => by rw [← hAe]; exact Or.inr h
  have hS : va_S A s.heap s.heap [] := va_S.rf
  have hP : va_P D vwCl [] s.heap := hP
  have hl := lv_entry ([.int a, .int b]) (n := 2) (Nat.le_of_ble_eq_true rfl)
  rw [lg_entry_eq]
  generalize (lg_sl ([.int a, .int b]) ++ List.replicate (2 - (lg_sl ([.int a, .int b])).length) Slot.unset).toArray = ls at hl ⊢
  have hl : lv_has ls 2 [(0, .int a), (1, .int b)] := hl
  have k0 : (0 : Int32).toInt = 0 := by decide
  refine lv_iload_n hx hb dX10_isPair_0 rfl (lv_at hl 0 rfl) ?_
  refine st_i1 (va_runS (As := [.int a]) (rest := []) ⟨hx, hb, hml, hown, hts⟩ (ct_X10_isOwner l D cI cY cJ cQ _ a) (va_cwS 1 hts gX10_isPair_X10_isOwner rfl rfl rfl cdX10_isOwner ⟨Nat.le_of_ble_eq_true rfl, Nat.le_of_ble_eq_true rfl⟩) (cPreS (hP.sub [] rfl) hK (hD.sub [] (by decide +kernel) rfl) hN) rfl rfl hl.1 rfl (lv_room (Nat.le_of_ble_eq_true rfl)) dX10_isPair_1 ⟨Nat.le_of_ble_eq_true rfl, Nat.le_of_ble_eq_true rfl⟩) hP hD hS hA [] rfl (fun _ => rfl) (fun r3 u1 H locs hw2 => ?_)
  clear hP hS
  intro hP hS
  replace hw2 : r3 = if 0 ≤ a.toInt ∧ a.toInt < 20 then 1 else 0 := hw2
  refine lv_if_eq (tgt := 30) hx hb dX10_isPair_4 (by decide) (fun c4 => ?_) (fun c4 => ?_)
  · skip
    have f5 := bo_f hw2 c4
    refine lv_iconst (v := 0) hx hb dX10_isPair_30 (by decide) ?_
    have hP9 := hP
    have hD9 := hD
    exact W.zret (v := 0) hx hb hr rfl (fun t ht hW => ⟨⟨0, (), rfl, bo_no (by omega), by rw [ht]; exact hP9, va_K.moved hW.alike hK, hD9⟩, hS.F ht⟩) hS.2.2 dX10_isPair_31
  · skip
    have f6 := bo_t hw2 c4
    refine lv_iload_n hx hb dX10_isPair_7 rfl (lv_at hl 1 rfl) ?_
    refine st_i1 (va_runS (As := [.int b]) (rest := []) ⟨hx, hb, hml, hown, hts⟩ (ct_X10_isOwner l D cI cY cJ cQ _ b) (va_cwS 1 hts gX10_isPair_X10_isOwner rfl rfl rfl cdX10_isOwner ⟨Nat.le_of_ble_eq_true rfl, Nat.le_of_ble_eq_true rfl⟩) (cPreS (hP.sub [] rfl) hK (hD.sub [] (by decide +kernel) rfl) hN) rfl rfl hl.1 rfl (lv_room (Nat.le_of_ble_eq_true rfl)) dX10_isPair_8 ⟨Nat.le_of_ble_eq_true rfl, Nat.le_of_ble_eq_true rfl⟩) hP hD hS hA [] rfl (fun _ => rfl) (fun r9 u7 H locs hw8 => ?_)
    clear hP hS
    intro hP hS
    replace hw8 : r9 = if 0 ≤ b.toInt ∧ b.toInt < 20 then 1 else 0 := hw8
    refine lv_if_eq (tgt := 30) hx hb dX10_isPair_11 (by decide) (fun c10 => ?_) (fun c10 => ?_)
    · skip
      have f11 := bo_f hw8 c10
      refine lv_iconst (v := 0) hx hb dX10_isPair_30 (by decide) ?_
      have hP9 := hP
      have hD9 := hD
      exact W.zret (v := 0) hx hb hr rfl (fun t ht hW => ⟨⟨0, (), rfl, bo_no (by omega), by rw [ht]; exact hP9, va_K.moved hW.alike hK, hD9⟩, hS.F ht⟩) hS.2.2 dX10_isPair_31
    · skip
      have f12 := bo_t hw8 c10
      refine lv_iload_n hx hb dX10_isPair_14 rfl (lv_at hl 1 rfl) ?_
      refine st_i1 (va_runS (As := [.int b]) (rest := []) ⟨hx, hb, hml, hown, hts⟩ (ct_X10_isPerson l D cI cY cJ cQ _ b) (va_cwS 1 hts gX10_isPair_X10_isPerson rfl rfl rfl cdX10_isPerson ⟨Nat.le_of_ble_eq_true rfl, Nat.le_of_ble_eq_true rfl⟩) (cPreS (hP.sub [] rfl) hK (hD.sub [] (by decide +kernel) rfl) hN) rfl rfl hl.1 rfl (lv_room (Nat.le_of_ble_eq_true rfl)) dX10_isPair_15 ⟨Nat.le_of_ble_eq_true rfl, Nat.le_of_ble_eq_true rfl⟩) hP hD hS hA [] rfl (fun _ => rfl) (fun r15 u13 H locs hw14 => ?_)
      clear hP hS
      intro hP hS
      replace hw14 : r15 = if 0 ≤ b.toInt ∧ b.toInt < 10 then 1 else 0 := hw14
      refine lv_if_ne (tgt := 30) hx hb dX10_isPair_18 (by decide) (fun c16 => ?_) (fun c16 => ?_)
      · skip
        have f17 := bo_t hw14 c16
        refine lv_iconst (v := 0) hx hb dX10_isPair_30 (by decide) ?_
        have hP9 := hP
        have hD9 := hD
        exact W.zret (v := 0) hx hb hr rfl (fun t ht hW => ⟨⟨0, (), rfl, bo_no (by omega), by rw [ht]; exact hP9, va_K.moved hW.alike hK, hD9⟩, hS.F ht⟩) hS.2.2 dX10_isPair_31
      · skip
        have f18 := bo_f hw14 c16
        refine lv_iload_n hx hb dX10_isPair_21 rfl (lv_at hl 0 rfl) ?_
        refine lv_iload_n hx hb dX10_isPair_22 rfl (lv_at hl 1 rfl) ?_
        refine lv_icmp_eq (tgt := 30) hx hb dX10_isPair_23 (by decide) (fun c19 => ?_) (fun c19 => ?_)
        · skip
          have f20 := i_eq c19
          refine lv_iconst (v := 0) hx hb dX10_isPair_30 (by decide) ?_
          have hP9 := hP
          have hD9 := hD
          exact W.zret (v := 0) hx hb hr rfl (fun t ht hW => ⟨⟨0, (), rfl, bo_no (by omega), by rw [ht]; exact hP9, va_K.moved hW.alike hK, hD9⟩, hS.F ht⟩) hS.2.2 dX10_isPair_31
        · skip
          have f21 := i_ne c19
          refine lv_iconst (v := 1) hx hb dX10_isPair_26 (by decide) ?_
          refine lv_goto (tgt := 31) hx hb dX10_isPair_27 (by decide) ?_
          have hP9 := hP
          have hD9 := hD
          exact W.zret (v := 1) hx hb hr rfl (fun t ht hW => ⟨⟨1, (), rfl, bo_yes (by omega), by rw [ht]; exact hP9, va_K.moved hW.alike hK, hD9⟩, hS.F ht⟩) hS.2.2 dX10_isPair_31

set_option maxHeartbeats 4000000 in
set_option maxRecDepth 100000 in
theorem ct_X2_isLetter (l : Launch) (D : va_G) (cI cY cJ cQ : ClassId) (sz : Nat) (a : Int32)   : Met l yX2_isLetter wsX2_isLetter ({ frames := 0, cells := 0, slots := 0, locals := 0 }) (cPre D (ty4 cI cY cJ cQ) [] sz [.int a]) (va_Qi (fun (r : Int32) (u : Unit) => r = if 97 ≤ a.toInt ∧ a.toInt ≤ 122 then 1 else 0) (cB D (ty4 cI cY cJ cQ) (fun (u : Unit) => []) (va_A [] sz)) (va_A [] sz)) 0 0 (va_A [] sz) := by
  refine Met.ofW (cc := cX2_isLetter) (maxL := 1) (ret := (some .boolean)) (by decide) rfl ?_
  intro p e s m args below meth c s₁ B hml hv
  obtain ⟨rfl, hsz, hP, hK, hD0, hN⟩ := hv
  have hx := B.exec
  have hb := B.bytes
  have hr := B.returns
  have hts := atoms_spec (ws := wsX2_isLetter) B.pre
  have hown : s.vm.findClass RX2 = some m.cls := findClass_of_methodNamed B.named
  have hlocks := B.notSynchronized
  subst hsz
  have hD := hD0.self (sz := s.heap.size)
  generalize hAe : va_A [] s.heap.size = A at hD ⊢
  have hA : ∀ q : Nat, s.heap.size ≤ q → A q := fun q h => by rw [← hAe]; exact Or.inr h
  have hS : va_S A s.heap s.heap [] := va_S.rf
  have hP : va_P D vwCl [] s.heap := hP
  have hl := lv_entry ([.int a]) (n := 1) (Nat.le_of_ble_eq_true rfl)
  rw [lg_entry_eq]
  generalize (lg_sl ([.int a]) ++ List.replicate (1 - (lg_sl ([.int a])).length) Slot.unset).toArray = ls at hl ⊢
  have hl : lv_has ls 1 [(0, .int a)] := hl
  have k97 : (97 : Int32).toInt = 97 := by decide
  have k122 : (122 : Int32).toInt = 122 := by decide
  refine lv_iload_n hx hb dX2_isLetter_0 rfl (lv_at hl 0 rfl) ?_
  refine lv_bipush (v := 97) hx hb dX2_isLetter_1 (by decide) ?_
  refine lv_icmp_lt (tgt := 16) hx hb dX2_isLetter_3 (by decide) (fun c1 => ?_) (fun c1 => ?_)
  · skip
    have f2 := i_lt c1
    refine lv_iconst (v := 0) hx hb dX2_isLetter_16 (by decide) ?_
    have hP9 := hP
    have hD9 := hD
    exact W.zret (v := 0) hx hb hr rfl (fun t ht hW => ⟨⟨0, (), rfl, bo_no (by omega), by rw [ht]; exact hP9, va_K.moved hW.alike hK, hD9⟩, hS.F ht⟩) hS.2.2 dX2_isLetter_17
  · skip
    have f3 := i_nlt c1
    refine lv_iload_n hx hb dX2_isLetter_6 rfl (lv_at hl 0 rfl) ?_
    refine lv_bipush (v := 122) hx hb dX2_isLetter_7 (by decide) ?_
    refine lv_icmp_gt (tgt := 16) hx hb dX2_isLetter_9 (by decide) (fun c4 => ?_) (fun c4 => ?_)
    · skip
      have f5 := i_lt c4
      refine lv_iconst (v := 0) hx hb dX2_isLetter_16 (by decide) ?_
      have hP9 := hP
      have hD9 := hD
      exact W.zret (v := 0) hx hb hr rfl (fun t ht hW => ⟨⟨0, (), rfl, bo_no (by omega), by rw [ht]; exact hP9, va_K.moved hW.alike hK, hD9⟩, hS.F ht⟩) hS.2.2 dX2_isLetter_17
    · skip
      have f6 := i_nlt c4
      refine lv_iconst (v := 1) hx hb dX2_isLetter_12 (by decide) ?_
      refine lv_goto (tgt := 17) hx hb dX2_isLetter_13 (by decide) ?_
      have hP9 := hP
      have hD9 := hD
      exact W.zret (v := 1) hx hb hr rfl (fun t ht hW => ⟨⟨1, (), rfl, bo_yes (by omega), by rw [ht]; exact hP9, va_K.moved hW.alike hK, hD9⟩, hS.F ht⟩) hS.2.2 dX2_isLetter_17

set_option maxHeartbeats 4000000 in
set_option maxRecDepth 100000 in
theorem ct_X2_isFigure (l : Launch) (D : va_G) (cI cY cJ cQ : ClassId) (sz : Nat) (a : Int32)   : Met l yX2_isFigure wsX2_isFigure ({ frames := 0, cells := 0, slots := 0, locals := 0 }) (cPre D (ty4 cI cY cJ cQ) [] sz [.int a]) (va_Qi (fun (r : Int32) (u : Unit) => r = if 48 ≤ a.toInt ∧ a.toInt ≤ 57 then 1 else 0) (cB D (ty4 cI cY cJ cQ) (fun (u : Unit) => []) (va_A [] sz)) (va_A [] sz)) 0 0 (va_A [] sz) := by
  refine Met.ofW (cc := cX2_isFigure) (maxL := 1) (ret := (some .boolean)) (by decide) rfl ?_
  intro p e s m args below meth c s₁ B hml hv
  obtain ⟨rfl, hsz, hP, hK, hD0, hN⟩ := hv
  have hx := B.exec
  have hb := B.bytes
  have hr := B.returns
  have hts := atoms_spec (ws := wsX2_isFigure) B.pre
  have hown : s.vm.findClass RX2 = some m.cls := findClass_of_methodNamed B.named
  have hlocks := B.notSynchronized
  subst hsz
  have hD := hD0.self (sz := s.heap.size)
  generalize hAe : va_A [] s.heap.size = A at hD ⊢
  have hA : ∀ q : Nat, s.heap.size ≤ q → A q := fun q h => by rw [← hAe]; exact Or.inr h
  have hS : va_S A s.heap s.heap [] := va_S.rf
  have hP : va_P D vwCl [] s.heap := hP
  have hl := lv_entry ([.int a]) (n := 1) (Nat.le_of_ble_eq_true rfl)
  rw [lg_entry_eq]
  generalize (lg_sl ([.int a]) ++ List.replicate (1 - (lg_sl ([.int a])).length) Slot.unset).toArray = ls at hl ⊢
  have hl : lv_has ls 1 [(0, .int a)] := hl
  have k48 : (48 : Int32).toInt = 48 := by decide
  have k57 : (57 : Int32).toInt = 57 := by decide
  refine lv_iload_n hx hb dX2_isFigure_0 rfl (lv_at hl 0 rfl) ?_
  refine lv_bipush (v := 48) hx hb dX2_isFigure_1 (by decide) ?_
  refine lv_icmp_lt (tgt := 16) hx hb dX2_isFigure_3 (by decide) (fun c1 => ?_) (fun c1 => ?_)
  · skip
    have f2 := i_lt c1
    refine lv_iconst (v := 0) hx hb dX2_isFigure_16 (by decide) ?_
    have hP9 := hP
    have hD9 := hD
    exact W.zret (v := 0) hx hb hr rfl (fun t ht hW => ⟨⟨0, (), rfl, bo_no (by omega), by rw [ht]; exact hP9, va_K.moved hW.alike hK, hD9⟩, hS.F ht⟩) hS.2.2 dX2_isFigure_17
  · skip
    have f3 := i_nlt c1
    refine lv_iload_n hx hb dX2_isFigure_6 rfl (lv_at hl 0 rfl) ?_
    refine lv_bipush (v := 57) hx hb dX2_isFigure_7 (by decide) ?_
    refine lv_icmp_gt (tgt := 16) hx hb dX2_isFigure_9 (by decide) (fun c4 => ?_) (fun c4 => ?_)
    · skip
      have f5 := i_lt c4
      refine lv_iconst (v := 0) hx hb dX2_isFigure_16 (by decide) ?_
      have hP9 := hP
      have hD9 := hD
      exact W.zret (v := 0) hx hb hr rfl (fun t ht hW => ⟨⟨0, (), rfl, bo_no (by omega), by rw [ht]; exact hP9, va_K.moved hW.alike hK, hD9⟩, hS.F ht⟩) hS.2.2 dX2_isFigure_17
    · skip
      have f6 := i_nlt c4
      refine lv_iconst (v := 1) hx hb dX2_isFigure_12 (by decide) ?_
      refine lv_goto (tgt := 17) hx hb dX2_isFigure_13 (by decide) ?_
      have hP9 := hP
      have hD9 := hD
      exact W.zret (v := 1) hx hb hr rfl (fun t ht hW => ⟨⟨1, (), rfl, bo_yes (by omega), by rw [ht]; exact hP9, va_K.moved hW.alike hK, hD9⟩, hS.F ht⟩) hS.2.2 dX2_isFigure_17

/-- bit b of a is set -/
abbrev hbP (a b : Int32) : Prop := ¬ (((a.toUInt32 >>> (b.toUInt32 &&& Int32.toUInt32 31)).toInt32 &&& 1) = 0)

set_option maxHeartbeats 4000000 in
set_option maxRecDepth 100000 in
theorem ct_X10_hasBit (l : Launch) (D : va_G) (cI cY cJ cQ : ClassId) (sz : Nat) (a : Int32) (b : Int32)   : Met l yX10_hasBit wsX10_hasBit ({ frames := 0, cells := 0, slots := 0, locals := 0 }) (cPre D (ty4 cI cY cJ cQ) [] sz [.int a, .int b]) (va_Qi (fun (r : Int32) (u : Unit) => r = if hbP a b then 1 else 0) (cB D (ty4 cI cY cJ cQ) (fun (u : Unit) => []) (va_A [] sz)) (va_A [] sz)) 0 0 (va_A [] sz) := by
  refine Met.ofW (cc := cX10_hasBit) (maxL := 2) (ret := (some .boolean)) (by decide) rfl ?_
  intro p e s m args below meth c s₁ B hml hv
  obtain ⟨rfl, hsz, hP, hK, hD0, hN⟩ := hv
  have hx := B.exec
  have hb := B.bytes
  have hr := B.returns
  have hts := atoms_spec (ws := wsX10_hasBit) B.pre
  have hown : s.vm.findClass RX10 = some m.cls := findClass_of_methodNamed B.named
  have hlocks := B.notSynchronized
  subst hsz
  have hD := hD0.self (sz := s.heap.size)
  generalize hAe : va_A [] s.heap.size = A at hD ⊢
  have hA : ∀ q : Nat, s.heap.size ≤ q → A q := fun q h => by rw [← hAe]; exact Or.inr h
  have hS : va_S A s.heap s.heap [] := va_S.rf
  have hP : va_P D vwCl [] s.heap := hP
  have hl := lv_entry ([.int a, .int b]) (n := 2) (Nat.le_of_ble_eq_true rfl)
  rw [lg_entry_eq]
  generalize (lg_sl ([.int a, .int b]) ++ List.replicate (2 - (lg_sl ([.int a, .int b])).length) Slot.unset).toArray = ls at hl ⊢
  have hl : lv_has ls 2 [(0, .int a), (1, .int b)] := hl
  have k0 : (0 : Int32).toInt = 0 := by decide
  have k1 : (1 : Int32).toInt = 1 := by decide
  refine lv_iload_n hx hb dX10_hasBit_0 rfl (lv_at hl 0 rfl) ?_
  refine lv_iload_n hx hb dX10_hasBit_1 rfl (lv_at hl 1 rfl) ?_
  obtain ⟨v1, ev1⟩ : ∃ q : Int32, q = (a.toUInt32 >>> (b.toUInt32 &&& Int32.toUInt32 31)).toInt32 := ⟨_, rfl⟩
  refine lv_iushr (v := v1) hx hb dX10_hasBit_2 ev1.symm ?_
  refine lv_iconst (v := 1) hx hb dX10_hasBit_3 (by decide) ?_
  refine lv_iand hx hb dX10_hasBit_4 ?_
  refine lv_topi (fun v2 ev2 => ?_)
  refine lv_if_eq (tgt := 12) hx hb dX10_hasBit_5 (by decide) (fun c3 => ?_) (fun c3 => ?_)
  · skip
    have f4 := i_eq c3
    refine lv_iconst (v := 0) hx hb dX10_hasBit_12 (by decide) ?_
    have hP9 := hP
    have hD9 := hD
    exact W.zret (v := 0) hx hb hr rfl (fun t ht hW => ⟨⟨0, (), rfl, bo_no (by subst_vars; exact fun h9 => h9 (by first | assumption | (symm; assumption))), by rw [ht]; exact hP9, va_K.moved hW.alike hK, hD9⟩, hS.F ht⟩) hS.2.2 dX10_hasBit_13
  · skip
    have f5 := i_ne c3
    refine lv_iconst (v := 1) hx hb dX10_hasBit_8 (by decide) ?_
    refine lv_goto (tgt := 13) hx hb dX10_hasBit_9 (by decide) ?_
    have hP9 := hP
    have hD9 := hD
    exact W.zret (v := 1) hx hb hr rfl (fun t ht hW => ⟨⟨1, (), rfl, bo_yes (by subst_vars; assumption), by rw [ht]; exact hP9, va_K.moved hW.alike hK, hD9⟩, hS.F ht⟩) hS.2.2 dX10_hasBit_13

set_option maxHeartbeats 4000000 in
set_option maxRecDepth 100000 in
theorem ct_X10_isCrate (l : Launch) (D : va_G) (cI cY cJ cQ : ClassId) (sz : Nat) (ad : Nat → Nat) (tn td lf cn : Int32) (a : Int32)   : Met l yX10_isCrate wsX10_isCrate ({ frames := 1, cells := 0, slots := 0, locals := 21 }) (cPre D (ty4 cI cY cJ cQ) [(oC10 ad tn td lf), (oC1 ad cn)] sz [.ref (ad 0), .int a]) (va_Qi (fun (r : Int32) (u : Unit) => r = if 0 ≤ a.toInt ∧ a.toInt < cn.toInt then 1 else 0) (cB D (ty4 cI cY cJ cQ) (fun (u : Unit) => [(oC10 ad tn td lf), (oC1 ad cn)]) (va_A [(oC10 ad tn td lf), (oC1 ad cn)] sz)) (va_A [(oC10 ad tn td lf), (oC1 ad cn)] sz)) 0 0 (va_A [(oC10 ad tn td lf), (oC1 ad cn)] sz) := by
  refine Met.ofW (cc := cX10_isCrate) (maxL := 2) (ret := (some .boolean)) (by decide) rfl ?_
  intro p e s m args below meth c s₁ B hml hv
  obtain ⟨rfl, hsz, hP, hK, hD0, hN⟩ := hv
  have hx := B.exec
  have hb := B.bytes
  have hr := B.returns
  have hts := atoms_spec (ws := wsX10_isCrate) B.pre
  have hown : s.vm.findClass RX10 = some m.cls := findClass_of_methodNamed B.named
  have hlocks := B.notSynchronized
  subst hsz
  have hD := hD0.self (sz := s.heap.size)
  generalize hAe : va_A [(oC10 ad tn td lf), (oC1 ad cn)] s.heap.size = A at hD ⊢
  have hA : ∀ q : Nat, s.heap.size ≤ q → A q := fun q h => by rw [← hAe]; exact Or.inr h
  have hS : va_S A s.heap s.heap [] := va_S.rf
  have hP : va_P D vwCl [(oC10 ad tn td lf), (oC1 ad cn)] s.heap := hP
  have hl := lv_entry ([.ref (ad 0), .int a]) (n := 2) (Nat.le_of_ble_eq_true rfl)
  rw [lg_entry_eq]
  generalize (lg_sl ([.ref (ad 0), .int a]) ++ List.replicate (2 - (lg_sl ([.ref (ad 0), .int a])).length) Slot.unset).toArray = ls at hl ⊢
  have hl : lv_has ls 2 [(0, .ref (ad 0)), (1, .int a)] := hl
  refine lv_iload_n hx hb dX10_isCrate_0 rfl (lv_at hl 1 rfl) ?_
  refine lv_aload_n hx hb dX10_isCrate_1 rfl (lv_at hl 0 rfl) ?_
  refine va_get (D := D) (ci := 10) (v := .ref (ad 3)) (C := RX10) (T := TX10) (N := 14) hx hb hts inX10_isCrate_X10 hown hK hP 0 rfl rfl 2 (by decide) (hts (Cond.fieldLink RX10 26 "PortRooms" "crates" "LPortRooms$Crates;") (wm_t (wm_l (wm_i 0 rfl)))) (fun _ h9 => h9) rfl dX10_isCrate_2 ?_
  refine va_get (D := D) (ci := 1) (v := .int cn) (C := RX1) (T := TX1) (N := 6) hx hb hts inX10_isCrate_X1 hown hK hP 1 rfl rfl 3 (by decide) (hts (Cond.fieldLink RX10 177 "PortRooms$Crates" "count" "I") (wm_t (wm_l (wm_i 1 rfl)))) (fun _ h9 => h9) rfl dX10_isCrate_5 ?_
  refine st_i1 (va_runS (As := [.int a, .int cn]) (rest := []) ⟨hx, hb, hml, hown, hts⟩ (ct_X10_isBelow l D cI cY cJ cQ _ a cn) (va_cwS 2 hts gX10_isCrate_X10_isBelow rfl rfl rfl cdX10_isBelow ⟨Nat.le_of_ble_eq_true rfl, Nat.le_of_ble_eq_true rfl⟩) (cPreS (hP.sub [] rfl) hK (hD.sub [] (by decide +kernel) rfl) hN) rfl rfl hl.1 rfl (lv_room (Nat.le_of_ble_eq_true rfl)) dX10_isCrate_8 ⟨Nat.le_of_ble_eq_true rfl, Nat.le_of_ble_eq_true rfl⟩) hP hD hS hA [] rfl (fun _ => rfl) (fun r3 u1 H locs hw2 => ?_)
  clear hP hS
  intro hP hS
  replace hw2 : r3 = if 0 ≤ a.toInt ∧ a.toInt < cn.toInt then 1 else 0 := hw2
  have hP9 := hP
  have hD9 := hD
  exact W.zret (v := r3) hx hb hr (zn_b hw2) (fun t ht hW => ⟨⟨r3, (), rfl, bo_iff hw2 ⟨fun h => by omega, fun h => by omega⟩, by rw [ht]; exact hP9, va_K.moved hW.alike hK, hD9⟩, hS.F ht⟩) hS.2.2 dX10_isCrate_11

set_option maxHeartbeats 4000000 in
set_option maxRecDepth 100000 in
theorem ct_X10_finding (l : Launch) (D : va_G) (cI cY cJ cQ : ClassId) (sz : Nat) (ad : Nat → Nat) (tn td lf : Int32) (a : Int32)   : Met l yX10_finding wsX10_finding ({ frames := 0, cells := 0, slots := 0, locals := 0 }) (cPre D (ty4 cI cY cJ cQ) [(oC10 ad tn td lf)] sz [.ref (ad 0), .int a]) (va_Qi (fun (r : Int32) (u : Unit) => r = (-1000010) - a) (cB D (ty4 cI cY cJ cQ) (fun (u : Unit) => [(oC10 ad tn td a)]) (va_A [(oC10 ad tn td lf)] sz)) (va_A [(oC10 ad tn td lf)] sz)) 0 0 (va_A [(oC10 ad tn td lf)] sz) := by
  refine Met.ofW (cc := cX10_finding) (maxL := 2) (ret := (some .int)) (by decide) rfl ?_
  intro p e s m args below meth c s₁ B hml hv
  obtain ⟨rfl, hsz, hP, hK, hD0, hN⟩ := hv
  have hx := B.exec
  have hb := B.bytes
  have hr := B.returns
  have hts := atoms_spec (ws := wsX10_finding) B.pre
  have hown : s.vm.findClass RX10 = some m.cls := findClass_of_methodNamed B.named
  have hlocks := B.notSynchronized
  subst hsz
  have hD := hD0.self (sz := s.heap.size)
  generalize hAe : va_A [(oC10 ad tn td lf)] s.heap.size = A at hD ⊢
  have hA : ∀ q : Nat, s.heap.size ≤ q → A q := fun q h => by rw [← hAe]; exact Or.inr h
  have hS : va_S A s.heap s.heap [] := va_S.rf
  have hP : va_P D vwCl [(oC10 ad tn td lf)] s.heap := hP
  have hl := lv_entry ([.ref (ad 0), .int a]) (n := 2) (Nat.le_of_ble_eq_true rfl)
  rw [lg_entry_eq]
  generalize (lg_sl ([.ref (ad 0), .int a]) ++ List.replicate (2 - (lg_sl ([.ref (ad 0), .int a])).length) Slot.unset).toArray = ls at hl ⊢
  have hl : lv_has ls 2 [(0, .ref (ad 0)), (1, .int a)] := hl
  have km1000010 : (-1000010 : Int32).toInt = -1000010 := by decide
  refine lv_aload_n hx hb dX10_finding_0 rfl (lv_at hl 0 rfl) ?_
  refine lv_iload_n hx hb dX10_finding_1 rfl (lv_at hl 1 rfl) ?_
  refine va_put (D := D) (ci := 10) (v := .int a) (ty := .int) (C := RX10) (T := TX10) (N := 14) hx hb hts inX10_finding_X10 tyX10 tyX10_ok nmX10 hown hK hP hD hS 0 rfl rfl 13 (by decide) (hts (Cond.fieldLink RX10 322 "PortRooms" "latestFinding" "I") (wm_t (wm_l (wm_i 0 rfl)))) (fun _ h9 => h9) rfl (tyX10_ok 13 (by decide)) rfl rfl (Nat.le_of_ble_eq_true rfl) dX10_finding_2 (fun H locs => ?_)
  clear hP hD hS
  intro hP hD hS
  replace hP : va_P D vwCl [(oC10 ad tn td a)] H := hP
  replace hD : va_D A [(oC10 ad tn td a)] := hD
  refine lv_ldcw hx hb hown (hts (Cond.constant RX10 325 (-1000010)) (wm_t (wm_l (wm_i 1 rfl)))) dX10_finding_5 ?_
  refine lv_iload_n hx hb dX10_finding_8 rfl (lv_at hl 1 rfl) ?_
  refine lv_isub hx hb dX10_finding_9 ?_
  refine lv_topi (fun v1 ev1 => ?_)
  try have tv1 : v1.toInt = (-1000010) - a.toInt := by rw [ev1]; exact (i_sub (x := ((-1000010) : Int32)) (y := a) (by rw [km1000010]; omega) (by rw [km1000010]; omega)).trans (by rw [km1000010])
  have hP9 := hP
  have hD9 := hD
  exact W.iret (v := v1) hx hb hr (fun t ht hW => ⟨⟨v1, (), rfl, ev1, by rw [ht]; exact hP9, va_K.moved hW.alike hK, hD9⟩, hS.F ht⟩) hS.2.2 dX10_finding_10

set_option maxHeartbeats 4000000 in
set_option maxRecDepth 100000 in
theorem ct_X10_passed (l : Launch) (D : va_G) (cI cY cJ cQ : ClassId) (sz : Nat) (ad : Nat → Nat) (tn td lf : Int32) (a : Int32)   : Met l yX10_passed wsX10_passed ({ frames := 0, cells := 0, slots := 0, locals := 0 }) (cPre D (ty4 cI cY cJ cQ) [(oC10 ad tn td lf)] sz [.ref (ad 0), .int a]) (va_Qi (fun (r : Int32) (u : Unit) => r = a) (cB D (ty4 cI cY cJ cQ) (fun (u : Unit) => [(oC10 ad tn td 0)]) (va_A [(oC10 ad tn td lf)] sz)) (va_A [(oC10 ad tn td lf)] sz)) 0 0 (va_A [(oC10 ad tn td lf)] sz) := by
  refine Met.ofW (cc := cX10_passed) (maxL := 2) (ret := (some .int)) (by decide) rfl ?_
  intro p e s m args below meth c s₁ B hml hv
  obtain ⟨rfl, hsz, hP, hK, hD0, hN⟩ := hv
  have hx := B.exec
  have hb := B.bytes
  have hr := B.returns
  have hts := atoms_spec (ws := wsX10_passed) B.pre
  have hown : s.vm.findClass RX10 = some m.cls := findClass_of_methodNamed B.named
  have hlocks := B.notSynchronized
  subst hsz
  have hD := hD0.self (sz := s.heap.size)
  generalize hAe : va_A [(oC10 ad tn td lf)] s.heap.size = A at hD ⊢
  have hA : ∀ q : Nat, s.heap.size ≤ q → A q := fun q h => by rw [← hAe]; exact Or.inr h
  have hS : va_S A s.heap s.heap [] := va_S.rf
  have hP : va_P D vwCl [(oC10 ad tn td lf)] s.heap := hP
  have hl := lv_entry ([.ref (ad 0), .int a]) (n := 2) (Nat.le_of_ble_eq_true rfl)
  rw [lg_entry_eq]
  generalize (lg_sl ([.ref (ad 0), .int a]) ++ List.replicate (2 - (lg_sl ([.ref (ad 0), .int a])).length) Slot.unset).toArray = ls at hl ⊢
  have hl : lv_has ls 2 [(0, .ref (ad 0)), (1, .int a)] := hl
  refine lv_aload_n hx hb dX10_passed_0 rfl (lv_at hl 0 rfl) ?_
  refine lv_iconst (v := 0) hx hb dX10_passed_1 (by decide) ?_
  refine va_put (D := D) (ci := 10) (v := .int 0) (ty := .int) (C := RX10) (T := TX10) (N := 14) hx hb hts inX10_passed_X10 tyX10 tyX10_ok nmX10 hown hK hP hD hS 0 rfl rfl 13 (by decide) (hts (Cond.fieldLink RX10 322 "PortRooms" "latestFinding" "I") (wm_t (wm_l (wm_i 0 rfl)))) (fun _ h9 => h9) rfl (tyX10_ok 13 (by decide)) rfl rfl (Nat.le_of_ble_eq_true rfl) dX10_passed_2 (fun H locs => ?_)
  clear hP hD hS
  intro hP hD hS
  replace hP : va_P D vwCl [(oC10 ad tn td (0))] H := hP
  replace hD : va_D A [(oC10 ad tn td (0))] := hD
  refine lv_iload_n hx hb dX10_passed_5 rfl (lv_at hl 1 rfl) ?_
  have hP9 := hP
  have hD9 := hD
  exact W.iret (v := a) hx hb hr (fun t ht hW => ⟨⟨a, (), rfl, rfl, by rw [ht]; exact hP9, va_K.moved hW.alike hK, hD9⟩, hS.F ht⟩) hS.2.2 dX10_passed_6

set_option maxHeartbeats 4000000 in
set_option maxRecDepth 100000 in
theorem ct_X10_status (l : Launch) (D : va_G) (cI cY cJ cQ : ClassId) (sz : Nat) (ad : Nat → Nat) (tn td lf : Int32)   : Met l yX10_status wsX10_status ({ frames := 0, cells := 0, slots := 0, locals := 0 }) (cPre D (ty4 cI cY cJ cQ) [(oC10 ad tn td lf)] sz [.ref (ad 0)]) (va_Qi (fun (r : Int32) (u : Unit) => r = lf) (cB D (ty4 cI cY cJ cQ) (fun (u : Unit) => [(oC10 ad tn td lf)]) (va_A [(oC10 ad tn td lf)] sz)) (va_A [(oC10 ad tn td lf)] sz)) 0 0 (va_A [(oC10 ad tn td lf)] sz) := by
  refine Met.ofW (cc := cX10_status) (maxL := 1) (ret := (some .int)) (by decide) rfl ?_
  intro p e s m args below meth c s₁ B hml hv
  obtain ⟨rfl, hsz, hP, hK, hD0, hN⟩ := hv
  have hx := B.exec
  have hb := B.bytes
  have hr := B.returns
  have hts := atoms_spec (ws := wsX10_status) B.pre
  have hown : s.vm.findClass RX10 = some m.cls := findClass_of_methodNamed B.named
  have hlocks := B.notSynchronized
  subst hsz
  have hD := hD0.self (sz := s.heap.size)
  generalize hAe : va_A [(oC10 ad tn td lf)] s.heap.size = A at hD ⊢
  have hA : ∀ q : Nat, s.heap.size ≤ q → A q := fun q h => by rw [← hAe]; exact Or.inr h
  have hS : va_S A s.heap s.heap [] := va_S.rf
  have hP : va_P D vwCl [(oC10 ad tn td lf)] s.heap := hP
  have hl := lv_entry ([.ref (ad 0)]) (n := 1) (Nat.le_of_ble_eq_true rfl)
  rw [lg_entry_eq]
  generalize (lg_sl ([.ref (ad 0)]) ++ List.replicate (1 - (lg_sl ([.ref (ad 0)])).length) Slot.unset).toArray = ls at hl ⊢
  have hl : lv_has ls 1 [(0, .ref (ad 0))] := hl
  refine lv_aload_n hx hb dX10_status_0 rfl (lv_at hl 0 rfl) ?_
  refine va_get (D := D) (ci := 10) (v := .int lf) (C := RX10) (T := TX10) (N := 14) hx hb hts inX10_status_X10 hown hK hP 0 rfl rfl 13 (by decide) (hts (Cond.fieldLink RX10 322 "PortRooms" "latestFinding" "I") (wm_t (wm_l (wm_i 0 rfl)))) (fun _ h9 => h9) rfl dX10_status_1 ?_
  have hP9 := hP
  have hD9 := hD
  exact W.iret (v := lf) hx hb hr (fun t ht hW => ⟨⟨lf, (), rfl, rfl, by rw [ht]; exact hP9, va_K.moved hW.alike hK, hD9⟩, hS.F ht⟩) hS.2.2 dX10_status_4

def sp_day (td d : Int32) : Int32 × Int32 := if 0 ≤ d.toInt ∧ d.toInt < 10000 then (td, d) else (-1000001, td)

set_option maxHeartbeats 4000000 in
set_option maxRecDepth 100000 in
theorem ct_X10_day (l : Launch) (D : va_G) (cI cY cJ cQ : ClassId) (sz : Nat) (ad : Nat → Nat) (tn td lf : Int32) (d : Int32)   : Met l yX10_day wsX10_day ({ frames := 2, cells := 0, slots := 0, locals := 41 }) (cPre D (ty4 cI cY cJ cQ) [(oC10 ad tn td lf)] sz [.ref (ad 0), .int d]) (va_Qi (fun (r : Int32) (u : Int32) => (r, u) = sp_day td d) (cB D (ty4 cI cY cJ cQ) (fun (u : Int32) => [(oC10 ad tn u lf)]) (va_A [(oC10 ad tn td lf)] sz)) (va_A [(oC10 ad tn td lf)] sz)) 0 0 (va_A [(oC10 ad tn td lf)] sz) := by
  refine Met.ofW (cc := cX10_day) (maxL := 3) (ret := (some .int)) (by decide) rfl ?_
  intro p e s m args below meth c s₁ B hml hv
  obtain ⟨rfl, hsz, hP, hK, hD0, hN⟩ := hv
  have hx := B.exec
  have hb := B.bytes
  have hr := B.returns
  have hts := atoms_spec (ws := wsX10_day) B.pre
  have hown : s.vm.findClass RX10 = some m.cls := findClass_of_methodNamed B.named
  have hlocks := B.notSynchronized
  subst hsz
  have hD := hD0.self (sz := s.heap.size)
  generalize hAe : va_A [(oC10 ad tn td lf)] s.heap.size = A at hD ⊢
  have hA : ∀ q : Nat, s.heap.size ≤ q → A q := fun q h => by rw [← hAe]; exact Or.inr h
  have hS : va_S A s.heap s.heap [] := va_S.rf
  have hP : va_P D vwCl [(oC10 ad tn td lf)] s.heap := hP
  have hl := lv_entry ([.ref (ad 0), .int d]) (n := 3) (Nat.le_of_ble_eq_true rfl)
  rw [lg_entry_eq]
  generalize (lg_sl ([.ref (ad 0), .int d]) ++ List.replicate (3 - (lg_sl ([.ref (ad 0), .int d])).length) Slot.unset).toArray = ls at hl ⊢
  have hl : lv_has ls 3 [(0, .ref (ad 0)), (1, .int d)] := hl
  have km1000001 : (-1000001 : Int32).toInt = -1000001 := by decide
  have k0 : (0 : Int32).toInt = 0 := by decide
  refine lv_iload_n hx hb dX10_day_0 rfl (lv_at hl 1 rfl) ?_
  refine st_i1 (va_runS (As := [.int d]) (rest := []) ⟨hx, hb, hml, hown, hts⟩ (ct_X10_isDay l D cI cY cJ cQ _ d) (va_cwS 1 hts gX10_day_X10_isDay rfl rfl rfl cdX10_isDay ⟨Nat.le_of_ble_eq_true rfl, Nat.le_of_ble_eq_true rfl⟩) (cPreS (hP.sub [] rfl) hK (hD.sub [] (by decide +kernel) rfl) hN) rfl rfl hl.1 rfl (lv_room (Nat.le_of_ble_eq_true rfl)) dX10_day_1 ⟨Nat.le_of_ble_eq_true rfl, Nat.le_of_ble_eq_true rfl⟩) hP hD hS hA [] rfl (fun _ => rfl) (fun r3 u1 H locs hw2 => ?_)
  clear hP hS
  intro hP hS
  replace hw2 : r3 = if 0 ≤ d.toInt ∧ d.toInt < 10000 then 1 else 0 := hw2
  refine lv_if_ne (tgt := 10) hx hb dX10_day_4 (by decide) (fun c4 => ?_) (fun c4 => ?_)
  · skip
    have f5 := bo_t hw2 c4
    refine lv_aload_n hx hb dX10_day_10 rfl (lv_at hl 0 rfl) ?_
    refine va_get (D := D) (ci := 10) (v := .int td) (C := RX10) (T := TX10) (N := 14) hx hb hts inX10_day_X10 hown hK hP 0 rfl rfl 12 (by decide) (hts (Cond.fieldLink RX10 298 "PortRooms" "today" "I") (wm_t (wm_l (wm_i 1 rfl)))) (fun _ h9 => h9) rfl dX10_day_11 ?_
    refine lv_istore_n (lv' := [(2, .int td), (0, .ref (ad 0)), (1, .int d)]) hx hb dX10_day_14 rfl hl (by decide) rfl (fun ls hl => ?_)
    refine lv_aload_n hx hb dX10_day_15 rfl (lv_at hl 1 rfl) ?_
    refine lv_iload_n hx hb dX10_day_16 rfl (lv_at hl 2 rfl) ?_
    refine va_put (D := D) (ci := 10) (v := .int d) (ty := .int) (C := RX10) (T := TX10) (N := 14) hx hb hts inX10_day_X10 tyX10 tyX10_ok nmX10 hown hK hP hD hS 0 rfl rfl 12 (by decide) (hts (Cond.fieldLink RX10 298 "PortRooms" "today" "I") (wm_t (wm_l (wm_i 1 rfl)))) (fun _ h9 => h9) rfl (tyX10_ok 12 (by decide)) rfl rfl (Nat.le_of_ble_eq_true rfl) dX10_day_17 (fun H locs => ?_)
    clear hP hD hS
    intro hP hD hS
    replace hP : va_P D vwCl [(oC10 ad tn d lf)] H := hP
    replace hD : va_D A [(oC10 ad tn d lf)] := hD
    refine lv_iload_n hx hb dX10_day_20 rfl (lv_at hl 0 rfl) ?_
    have hP9 := hP
    have hD9 := hD
    exact W.iret (v := td) hx hb hr (fun t ht hW => ⟨⟨td, d, rfl, (by unfold sp_day; (repeat' split) <;> first | rfl | (exfalso; omega) | (subst_vars; rfl)), by rw [ht]; exact hP9, va_K.moved hW.alike hK, hD9⟩, hS.F ht⟩) hS.2.2 dX10_day_21
  · skip
    have f6 := bo_f hw2 c4
    refine lv_ldc hx hb hown (hts (Cond.constant RX10 89 (-1000001)) (wm_t (wm_l (wm_i 0 rfl)))) dX10_day_7 ?_
    have hP9 := hP
    have hD9 := hD
    exact W.iret (v := (-1000001)) hx hb hr (fun t ht hW => ⟨⟨(-1000001), td, rfl, (by unfold sp_day; (repeat' split) <;> first | rfl | (exfalso; omega) | (subst_vars; rfl)), by rw [ht]; exact hP9, va_K.moved hW.alike hK, hD9⟩, hS.F ht⟩) hS.2.2 dX10_day_9

set_option maxHeartbeats 4000000 in
set_option maxRecDepth 100000 in
theorem ct_X10_fault (l : Launch) (D : va_G) (cI cY cJ cQ : ClassId) (sz : Nat) (ad : Nat → Nat) (tn td lf ln lfa dl dr bs be tk nb : Int32)   : Met l yX10_fault wsX10_fault ({ frames := 0, cells := 0, slots := 0, locals := 0 }) (cPre D (ty4 cI cY cJ cQ) [(oC10 ad tn td lf), (oC2 ad ln lfa dl dr bs be tk nb)] sz [.ref (ad 0)]) (va_Qi (fun (r : Int32) (u : Unit) => r = lfa) (cB D (ty4 cI cY cJ cQ) (fun (u : Unit) => [(oC10 ad tn td lf), (oC2 ad ln lfa dl dr bs be tk nb)]) (va_A [(oC10 ad tn td lf), (oC2 ad ln lfa dl dr bs be tk nb)] sz)) (va_A [(oC10 ad tn td lf), (oC2 ad ln lfa dl dr bs be tk nb)] sz)) 0 0 (va_A [(oC10 ad tn td lf), (oC2 ad ln lfa dl dr bs be tk nb)] sz) := by
  refine Met.ofW (cc := cX10_fault) (maxL := 1) (ret := (some .int)) (by decide) rfl ?_
  intro p e s m args below meth c s₁ B hml hv
  obtain ⟨rfl, hsz, hP, hK, hD0, hN⟩ := hv
  have hx := B.exec
  have hb := B.bytes
  have hr := B.returns
  have hts := atoms_spec (ws := wsX10_fault) B.pre
  have hown : s.vm.findClass RX10 = some m.cls := findClass_of_methodNamed B.named
  have hlocks := B.notSynchronized
  subst hsz
  have hD := hD0.self (sz := s.heap.size)
  generalize hAe : va_A [(oC10 ad tn td lf), (oC2 ad ln lfa dl dr bs be tk nb)] s.heap.size = A at hD ⊢
  have hA : ∀ q : Nat, s.heap.size ≤ q → A q := fun q h => by rw [← hAe]; exact Or.inr h
  have hS : va_S A s.heap s.heap [] := va_S.rf
  have hP : va_P D vwCl [(oC10 ad tn td lf), (oC2 ad ln lfa dl dr bs be tk nb)] s.heap := hP
  have hl := lv_entry ([.ref (ad 0)]) (n := 1) (Nat.le_of_ble_eq_true rfl)
  rw [lg_entry_eq]
  generalize (lg_sl ([.ref (ad 0)]) ++ List.replicate (1 - (lg_sl ([.ref (ad 0)])).length) Slot.unset).toArray = ls at hl ⊢
  have hl : lv_has ls 1 [(0, .ref (ad 0))] := hl
  refine lv_aload_n hx hb dX10_fault_0 rfl (lv_at hl 0 rfl) ?_
  refine va_get (D := D) (ci := 10) (v := .ref (ad 6)) (C := RX10) (T := TX10) (N := 14) hx hb hts inX10_fault_X10 hown hK hP 0 rfl rfl 5 (by decide) (hts (Cond.fieldLink RX10 47 "PortRooms" "duties" "LPortRooms$Duties;") (wm_t (wm_l (wm_i 0 rfl)))) (fun _ h9 => h9) rfl dX10_fault_1 ?_
  refine va_get (D := D) (ci := 2) (v := .int lfa) (C := RX2) (T := TX2) (N := 15) hx hb hts inX10_fault_X2 hown hK hP 1 rfl rfl 2 (by decide) (hts (Cond.fieldLink RX10 224 "PortRooms$Duties" "latestFault" "I") (wm_t (wm_l (wm_i 1 rfl)))) (fun _ h9 => h9) rfl dX10_fault_4 ?_
  have hP9 := hP
  have hD9 := hD
  exact W.iret (v := lfa) hx hb hr (fun t ht hW => ⟨⟨lfa, (), rfl, rfl, by rw [ht]; exact hP9, va_K.moved hW.alike hK, hD9⟩, hS.F ht⟩) hS.2.2 dX10_fault_7
