theorem cdX4_peopleOn : yX4_peopleOn.cls ≠ "java/lang/invoke/MethodHandle" ∧ yX4_peopleOn.cls ≠ "java/lang/invoke/VarHandle" ∧ (parseMethodDescriptor yX4_peopleOn.desc).map (fun d => d.parameters.length) = some 1 := by decide +kernel
theorem cdX8_sumsOn : yX8_sumsOn.cls ≠ "java/lang/invoke/MethodHandle" ∧ yX8_sumsOn.cls ≠ "java/lang/invoke/VarHandle" ∧ (parseMethodDescriptor yX8_sumsOn.desc).map (fun d => d.parameters.length) = some 2 := by decide +kernel
theorem cdX10_finding : yX10_finding.cls ≠ "java/lang/invoke/MethodHandle" ∧ yX10_finding.cls ≠ "java/lang/invoke/VarHandle" ∧ (parseMethodDescriptor yX10_finding.desc).map (fun d => d.parameters.length) = some 1 := by decide +kernel
theorem cdX10_passed : yX10_passed.cls ≠ "java/lang/invoke/MethodHandle" ∧ yX10_passed.cls ≠ "java/lang/invoke/VarHandle" ∧ (parseMethodDescriptor yX10_passed.desc).map (fun d => d.parameters.length) = some 1 := by decide +kernel
theorem cdX10_isBarred : yX10_isBarred.cls ≠ "java/lang/invoke/MethodHandle" ∧ yX10_isBarred.cls ≠ "java/lang/invoke/VarHandle" ∧ (parseMethodDescriptor yX10_isBarred.desc).map (fun d => d.parameters.length) = some 2 := by decide +kernel
theorem cdX10_kindToday : yX10_kindToday.cls ≠ "java/lang/invoke/MethodHandle" ∧ yX10_kindToday.cls ≠ "java/lang/invoke/VarHandle" ∧ (parseMethodDescriptor yX10_kindToday.desc).map (fun d => d.parameters.length) = some 1 := by decide +kernel
theorem cdX10_isOfKind : yX10_isOfKind.cls ≠ "java/lang/invoke/MethodHandle" ∧ yX10_isOfKind.cls ≠ "java/lang/invoke/VarHandle" ∧ (parseMethodDescriptor yX10_isOfKind.desc).map (fun d => d.parameters.length) = some 2 := by decide +kernel
theorem cdX10_askSize : yX10_askSize.cls ≠ "java/lang/invoke/MethodHandle" ∧ yX10_askSize.cls ≠ "java/lang/invoke/VarHandle" ∧ (parseMethodDescriptor yX10_askSize.desc).map (fun d => d.parameters.length) = some 2 := by decide +kernel
theorem cdX10_askMark : yX10_askMark.cls ≠ "java/lang/invoke/MethodHandle" ∧ yX10_askMark.cls ≠ "java/lang/invoke/VarHandle" ∧ (parseMethodDescriptor yX10_askMark.desc).map (fun d => d.parameters.length) = some 2 := by decide +kernel
theorem cdX10_leave : yX10_leave.cls ≠ "java/lang/invoke/MethodHandle" ∧ yX10_leave.cls ≠ "java/lang/invoke/VarHandle" ∧ (parseMethodDescriptor yX10_leave.desc).map (fun d => d.parameters.length) = some 1 := by decide +kernel
theorem cdX10_sizeLent : yX10_sizeLent.cls ≠ "java/lang/invoke/MethodHandle" ∧ yX10_sizeLent.cls ≠ "java/lang/invoke/VarHandle" ∧ (parseMethodDescriptor yX10_sizeLent.desc).map (fun d => d.parameters.length) = some 1 := by decide +kernel
theorem cdX10_sizeOfOwed : yX10_sizeOfOwed.cls ≠ "java/lang/invoke/MethodHandle" ∧ yX10_sizeOfOwed.cls ≠ "java/lang/invoke/VarHandle" ∧ (parseMethodDescriptor yX10_sizeOfOwed.desc).map (fun d => d.parameters.length) = some 1 := by decide +kernel
theorem cdX10_sizeOfDeep : yX10_sizeOfDeep.cls ≠ "java/lang/invoke/MethodHandle" ∧ yX10_sizeOfDeep.cls ≠ "java/lang/invoke/VarHandle" ∧ (parseMethodDescriptor yX10_sizeOfDeep.desc).map (fun d => d.parameters.length) = some 1 := by decide +kernel
theorem cdX10_sizeOfStopped : yX10_sizeOfStopped.cls ≠ "java/lang/invoke/MethodHandle" ∧ yX10_sizeOfStopped.cls ≠ "java/lang/invoke/VarHandle" ∧ (parseMethodDescriptor yX10_sizeOfStopped.desc).map (fun d => d.parameters.length) = some 1 := by decide +kernel
theorem cdX10_markLent : yX10_markLent.cls ≠ "java/lang/invoke/MethodHandle" ∧ yX10_markLent.cls ≠ "java/lang/invoke/VarHandle" ∧ (parseMethodDescriptor yX10_markLent.desc).map (fun d => d.parameters.length) = some 1 := by decide +kernel
theorem cdX10_markOfOwed : yX10_markOfOwed.cls ≠ "java/lang/invoke/MethodHandle" ∧ yX10_markOfOwed.cls ≠ "java/lang/invoke/VarHandle" ∧ (parseMethodDescriptor yX10_markOfOwed.desc).map (fun d => d.parameters.length) = some 1 := by decide +kernel
theorem cdX10_markOfStopped : yX10_markOfStopped.cls ≠ "java/lang/invoke/MethodHandle" ∧ yX10_markOfStopped.cls ≠ "java/lang/invoke/VarHandle" ∧ (parseMethodDescriptor yX10_markOfStopped.desc).map (fun d => d.parameters.length) = some 1 := by decide +kernel
theorem cdX10_markOfClean : yX10_markOfClean.cls ≠ "java/lang/invoke/MethodHandle" ∧ yX10_markOfClean.cls ≠ "java/lang/invoke/VarHandle" ∧ (parseMethodDescriptor yX10_markOfClean.desc).map (fun d => d.parameters.length) = some 1 := by decide +kernel
theorem Gd_X4_peopleOn : gdA wsX4_peopleOn := gd_cons (by decide +kernel) (gd_app (gd_all (ws := wsX4_peopleOn_o1) (by decide +kernel)) Gd_X40)
theorem Gd_X8_sumsOn : gdA wsX8_sumsOn := gd_cons (by decide +kernel) (gd_app (gd_all (ws := wsX8_sumsOn_o1) (by decide +kernel)) (gd_app Gd_X80 Gd_X8_isKnown))
theorem Gd_X10_finding : gdA wsX10_finding := gd_cons (by decide +kernel) (gd_app (gd_all (ws := wsX10_finding_o1) (by decide +kernel)) Gd_X100)
theorem Gd_X10_passed : gdA wsX10_passed := gd_cons (by decide +kernel) (gd_app (gd_all (ws := wsX10_passed_o1) (by decide +kernel)) Gd_X100)
theorem Gd_X10_isBarred : gdA wsX10_isBarred := gd_cons (by decide +kernel) (gd_app (gd_all (ws := wsX10_isBarred_o1) (by decide +kernel)) (gd_app (gd_app (gd_app (gd_app Gd_X100 Gd_X10) Gd_X40) (gd_app Gd_X70 Gd_X30)) (gd_app (gd_app (gd_app Gd_X4_peopleOn Gd_X7_ownerOf) Gd_X3_lookAt) (gd_app Gd_X10_hasBit Gd_X3_shareOf))))
theorem inX10_isBarred_X1 : ∀ w ∈ u_ws RX1 TX1 6, w ∈ wsX10_isBarred := fun _ h => (List.mem_cons_of_mem _ (List.mem_append_right _ (List.mem_append_left _ (List.mem_append_left _ (List.mem_append_left _ (List.mem_append_right _ h))))))
theorem inX10_isBarred_X10 : ∀ w ∈ u_ws RX10 TX10 14, w ∈ wsX10_isBarred := fun _ h => (List.mem_cons_of_mem _ (List.mem_append_right _ (List.mem_append_left _ (List.mem_append_left _ (List.mem_append_left _ (List.mem_append_left _ h))))))
theorem Gd_X10_kindToday : gdA wsX10_kindToday := gd_cons (by decide +kernel) (gd_app (gd_all (ws := wsX10_kindToday_o1) (by decide +kernel)) (gd_app (gd_app (gd_app Gd_X100 Gd_X10) (gd_app Gd_X40 Gd_X70)) (gd_app (gd_app Gd_X30 Gd_X80) (gd_app Gd_X10_isBarred Gd_X8_sumsOn))))
theorem inX10_kindToday_X10 : ∀ w ∈ u_ws RX10 TX10 14, w ∈ wsX10_kindToday := fun _ h => (List.mem_cons_of_mem _ (List.mem_append_right _ (List.mem_append_left _ (List.mem_append_left _ (List.mem_append_left _ h)))))
theorem inX10_kindToday_X1 : ∀ w ∈ u_ws RX1 TX1 6, w ∈ wsX10_kindToday := fun _ h => (List.mem_cons_of_mem _ (List.mem_append_right _ (List.mem_append_left _ (List.mem_append_left _ (List.mem_append_right _ h)))))
theorem Gd_X10_isOfKind : gdA wsX10_isOfKind := gd_cons (by decide +kernel) (gd_all (ws := []) rfl)
theorem inX10_as_X1 : ∀ w ∈ u_ws RX1 TX1 6, w ∈ wsX10_as := fun _ h => (List.mem_cons_of_mem _ (List.mem_append_right _ (List.mem_append_left _ (List.mem_append_left _ (List.mem_append_left _ (List.mem_append_right _ h))))))
theorem inX10_as_X10 : ∀ w ∈ u_ws RX10 TX10 14, w ∈ wsX10_as := fun _ h => (List.mem_cons_of_mem _ (List.mem_append_right _ (List.mem_append_left _ (List.mem_append_left _ (List.mem_append_left _ (List.mem_append_left _ h))))))
theorem Gd_X10_leave : gdA wsX10_leave := gd_cons (by decide +kernel) (gd_app (gd_all (ws := wsX10_leave_o1) (by decide +kernel)) Gd_X100)
theorem inX10_leave_X10 : ∀ w ∈ u_ws RX10 TX10 14, w ∈ wsX10_leave := fun _ h => (List.mem_cons_of_mem _ (List.mem_append_right _ h))
theorem Gd_X10_sizeLent : gdA wsX10_sizeLent := gd_cons (by decide +kernel) (gd_app (gd_all (ws := wsX10_sizeLent_o1) (by decide +kernel)) (gd_app (gd_app Gd_X100 Gd_X10) Gd_X10_leave))
theorem inX10_sizeLent_X10 : ∀ w ∈ u_ws RX10 TX10 14, w ∈ wsX10_sizeLent := fun _ h => (List.mem_cons_of_mem _ (List.mem_append_right _ (List.mem_append_left _ (List.mem_append_left _ h))))
theorem inX10_sizeLent_X1 : ∀ w ∈ u_ws RX1 TX1 6, w ∈ wsX10_sizeLent := fun _ h => (List.mem_cons_of_mem _ (List.mem_append_right _ (List.mem_append_left _ (List.mem_append_right _ h))))
theorem Gd_X10_sizeOfOwed : gdA wsX10_sizeOfOwed := gd_cons (by decide +kernel) (gd_app (gd_all (ws := wsX10_sizeOfOwed_o1) (by decide +kernel)) (gd_app (gd_app (gd_app Gd_X100 Gd_X10) Gd_X80) (gd_app (gd_app Gd_X10_leave Gd_X10_sizeLent) Gd_X8_sumsOn)))
theorem inX10_sizeOfOwed_X10 : ∀ w ∈ u_ws RX10 TX10 14, w ∈ wsX10_sizeOfOwed := fun _ h => (List.mem_cons_of_mem _ (List.mem_append_right _ (List.mem_append_left _ (List.mem_append_left _ (List.mem_append_left _ h)))))
theorem Gd_X10_sizeOfDeep : gdA wsX10_sizeOfDeep := gd_cons (by decide +kernel) (gd_app (gd_all (ws := wsX10_sizeOfDeep_o1) (by decide +kernel)) (gd_app (gd_app (gd_app Gd_X100 Gd_X10) Gd_X80) (gd_app Gd_X10_leave Gd_X10_sizeOfOwed)))
theorem Gd_X10_markLent : gdA wsX10_markLent := gd_cons (by decide +kernel) (gd_app (gd_all (ws := wsX10_markLent_o1) (by decide +kernel)) (gd_app (gd_app (gd_app Gd_X100 Gd_X10) Gd_X70) (gd_app Gd_X10_leave Gd_X7_ownerOf)))
theorem inX10_markLent_X1 : ∀ w ∈ u_ws RX1 TX1 6, w ∈ wsX10_markLent := fun _ h => (List.mem_cons_of_mem _ (List.mem_append_right _ (List.mem_append_left _ (List.mem_append_left _ (List.mem_append_right _ h)))))
theorem inX10_markLent_X10 : ∀ w ∈ u_ws RX10 TX10 14, w ∈ wsX10_markLent := fun _ h => (List.mem_cons_of_mem _ (List.mem_append_right _ (List.mem_append_left _ (List.mem_append_left _ (List.mem_append_left _ h)))))
theorem Gd_X10_markOfStopped : gdA wsX10_markOfStopped := gd_cons (by decide +kernel) (gd_app (gd_all (ws := wsX10_markOfStopped_o1) (by decide +kernel)) (gd_app (gd_app (gd_app Gd_X100 Gd_X10) Gd_X70) (gd_app Gd_X10_leave Gd_X10_markLent)))
theorem Gd_X10_sizeOfStopped : gdA wsX10_sizeOfStopped := gd_cons (by decide +kernel) (gd_app (gd_all (ws := wsX10_sizeOfStopped_o1) (by decide +kernel)) (gd_app (gd_app (gd_app Gd_X100 Gd_X10) Gd_X70) (gd_app Gd_X10_leave Gd_X10_markOfStopped)))
theorem Gd_X10_askSize : gdA wsX10_askSize := gd_cons (by decide +kernel) (gd_app (gd_all (ws := wsX10_askSize_o1) (by decide +kernel)) (gd_app (gd_app (gd_app Gd_X100 Gd_X10) (gd_app Gd_X80 Gd_X70)) (gd_app (gd_app Gd_X10_sizeOfOwed Gd_X10_sizeOfDeep) (gd_app Gd_X10_sizeOfStopped Gd_X10_sizeLent))))
theorem Gd_X10_markOfOwed : gdA wsX10_markOfOwed := gd_cons (by decide +kernel) (gd_app (gd_all (ws := wsX10_markOfOwed_o1) (by decide +kernel)) (gd_app (gd_app (gd_app Gd_X100 Gd_X10) Gd_X70) (gd_app Gd_X10_leave Gd_X10_markLent)))
theorem Gd_X10_markOfClean : gdA wsX10_markOfClean := gd_cons (by decide +kernel) (gd_app (gd_all (ws := wsX10_markOfClean_o1) (by decide +kernel)) (gd_app (gd_app (gd_app Gd_X100 Gd_X10) Gd_X70) (gd_app (gd_app Gd_X10_leave Gd_X10_markLent) Gd_X10_sizeLent)))
theorem Gd_X10_askMark : gdA wsX10_askMark := gd_cons (by decide +kernel) (gd_app (gd_all (ws := wsX10_askMark_o1) (by decide +kernel)) (gd_app (gd_app (gd_app Gd_X100 Gd_X10) (gd_app Gd_X70 Gd_X10_markOfOwed)) (gd_app (gd_app Gd_X10_markOfStopped Gd_X10_markOfClean) Gd_X10_markLent)))
theorem inX10_ask_X10 : ∀ w ∈ u_ws RX10 TX10 14, w ∈ wsX10_ask := fun _ h => (List.mem_cons_of_mem _ (List.mem_append_right _ (List.mem_append_left _ (List.mem_append_left _ (List.mem_append_left _ (List.mem_append_left _ h))))))
theorem inX10_trace_X10 : ∀ w ∈ u_ws RX10 TX10 14, w ∈ wsX10_trace := fun _ h => (List.mem_cons_of_mem _ (List.mem_append_right _ (List.mem_append_left _ h)))
theorem ggX10_barred_X10_isCrate : GoodIn wsX10_barred wsX10_isCrate := goodIn_s (fun _ h => wm_t (wm_r (wm_r (wm_l (wm_r h))))) Gd_X10_isCrate
theorem gX10_barred_X10_isCrate : GoodIn wsX10_barred (wsV RX10 180 RX10 yX10_isCrate wsX10_isCrate) := goodIn_V (own := RX10) (idx := 180) (C := RX10) (y := yX10_isCrate) (wm_t (wm_l (wm_i 1 rfl))) (wm_t (wm_l (wm_i 2 rfl))) (wm_t (wm_l (wm_i 3 rfl))) (wm_t (wm_l (wm_i 4 rfl))) ggX10_barred_X10_isCrate
theorem ggX10_barred_X10_isDay : GoodIn wsX10_barred wsX10_isDay := goodIn_s (fun _ h => wm_t (wm_r (wm_r (wm_r (wm_l h))))) Gd_X10_isDay
theorem gX10_barred_X10_isDay : GoodIn wsX10_barred (va_wsS RX10 138 yX10_isDay wsX10_isDay) := goodIn_S (own := RX10) (idx := 138) (y := yX10_isDay) (wm_t (wm_l (wm_i 5 rfl))) (wm_t (wm_l (wm_i 6 rfl))) (wm_t (wm_l (wm_i 4 rfl))) ggX10_barred_X10_isDay
theorem ggX10_barred_X10_isBarred : GoodIn wsX10_barred wsX10_isBarred := goodIn_s (fun _ h => wm_t (wm_r (wm_r (wm_r (wm_r h))))) Gd_X10_isBarred
theorem gX10_barred_X10_isBarred : GoodIn wsX10_barred (wsV RX10 295 RX10 yX10_isBarred wsX10_isBarred) := goodIn_V (own := RX10) (idx := 295) (C := RX10) (y := yX10_isBarred) (wm_t (wm_l (wm_i 7 rfl))) (wm_t (wm_l (wm_i 8 rfl))) (wm_t (wm_l (wm_i 9 rfl))) (wm_t (wm_l (wm_i 4 rfl))) ggX10_barred_X10_isBarred
theorem dX10_barred_all0 : decode cX10_barred 0 = .ok (.aload_n 0, 1) ∧ decode cX10_barred 1 = .ok (.iload_n 1, 1) ∧ decode cX10_barred 2 = .ok (.invokevirtual 180, 3) ∧ decode cX10_barred 5 = .ok (.ifCond .eq 10, 3) ∧ decode cX10_barred 8 = .ok (.iload_n 2, 1) ∧ decode cX10_barred 9 = .ok (.invokestatic 138, 3) ∧ decode cX10_barred 12 = .ok (.ifCond .ne 6, 3) ∧ decode cX10_barred 15 = .ok (.ldc 89, 2) ∧ decode cX10_barred 17 = .ok (.ireturn, 1) ∧ decode cX10_barred 18 = .ok (.aload_n 0, 1) ∧ decode cX10_barred 19 = .ok (.iload_n 1, 1) ∧ decode cX10_barred 20 = .ok (.iload_n 2, 1) := by decide +kernel
theorem dX10_barred_0 : decode cX10_barred 0 = .ok (.aload_n 0, 1) := dX10_barred_all0.1
theorem dX10_barred_1 : decode cX10_barred 1 = .ok (.iload_n 1, 1) := dX10_barred_all0.2.1
theorem dX10_barred_2 : decode cX10_barred 2 = .ok (.invokevirtual 180, 3) := dX10_barred_all0.2.2.1
theorem dX10_barred_5 : decode cX10_barred 5 = .ok (.ifCond .eq 10, 3) := dX10_barred_all0.2.2.2.1
theorem dX10_barred_8 : decode cX10_barred 8 = .ok (.iload_n 2, 1) := dX10_barred_all0.2.2.2.2.1
theorem dX10_barred_9 : decode cX10_barred 9 = .ok (.invokestatic 138, 3) := dX10_barred_all0.2.2.2.2.2.1
theorem dX10_barred_12 : decode cX10_barred 12 = .ok (.ifCond .ne 6, 3) := dX10_barred_all0.2.2.2.2.2.2.1
theorem dX10_barred_15 : decode cX10_barred 15 = .ok (.ldc 89, 2) := dX10_barred_all0.2.2.2.2.2.2.2.1
theorem dX10_barred_17 : decode cX10_barred 17 = .ok (.ireturn, 1) := dX10_barred_all0.2.2.2.2.2.2.2.2.1
theorem dX10_barred_18 : decode cX10_barred 18 = .ok (.aload_n 0, 1) := dX10_barred_all0.2.2.2.2.2.2.2.2.2.1
theorem dX10_barred_19 : decode cX10_barred 19 = .ok (.iload_n 1, 1) := dX10_barred_all0.2.2.2.2.2.2.2.2.2.2.1
theorem dX10_barred_20 : decode cX10_barred 20 = .ok (.iload_n 2, 1) := dX10_barred_all0.2.2.2.2.2.2.2.2.2.2.2
theorem dX10_barred_all1 : decode cX10_barred 21 = .ok (.invokevirtual 295, 3) ∧ decode cX10_barred 24 = .ok (.ifCond .eq 7, 3) ∧ decode cX10_barred 27 = .ok (.iconst 1, 1) ∧ decode cX10_barred 28 = .ok (.goto 4, 3) ∧ decode cX10_barred 31 = .ok (.iconst 0, 1) ∧ decode cX10_barred 32 = .ok (.ireturn, 1) := by decide +kernel
theorem dX10_barred_21 : decode cX10_barred 21 = .ok (.invokevirtual 295, 3) := dX10_barred_all1.1
theorem dX10_barred_24 : decode cX10_barred 24 = .ok (.ifCond .eq 7, 3) := dX10_barred_all1.2.1
theorem dX10_barred_27 : decode cX10_barred 27 = .ok (.iconst 1, 1) := dX10_barred_all1.2.2.1
theorem dX10_barred_28 : decode cX10_barred 28 = .ok (.goto 4, 3) := dX10_barred_all1.2.2.2.1
theorem dX10_barred_31 : decode cX10_barred 31 = .ok (.iconst 0, 1) := dX10_barred_all1.2.2.2.2.1
theorem dX10_barred_32 : decode cX10_barred 32 = .ok (.ireturn, 1) := dX10_barred_all1.2.2.2.2.2
theorem ggX10_kind_X10_isCrate : GoodIn wsX10_kind wsX10_isCrate := goodIn_s (fun _ h => wm_t (wm_r (wm_r (wm_r (wm_l h))))) Gd_X10_isCrate
theorem gX10_kind_X10_isCrate : GoodIn wsX10_kind (wsV RX10 180 RX10 yX10_isCrate wsX10_isCrate) := goodIn_V (own := RX10) (idx := 180) (C := RX10) (y := yX10_isCrate) (wm_t (wm_l (wm_i 1 rfl))) (wm_t (wm_l (wm_i 2 rfl))) (wm_t (wm_l (wm_i 3 rfl))) (wm_t (wm_l (wm_i 4 rfl))) ggX10_kind_X10_isCrate
theorem ggX10_kind_X10_kindToday : GoodIn wsX10_kind wsX10_kindToday := goodIn_s (fun _ h => wm_t (wm_r (wm_r (wm_r (wm_r h))))) Gd_X10_kindToday
theorem gX10_kind_X10_kindToday : GoodIn wsX10_kind (wsV RX10 301 RX10 yX10_kindToday wsX10_kindToday) := goodIn_V (own := RX10) (idx := 301) (C := RX10) (y := yX10_kindToday) (wm_t (wm_l (wm_i 5 rfl))) (wm_t (wm_l (wm_i 6 rfl))) (wm_t (wm_l (wm_i 7 rfl))) (wm_t (wm_l (wm_i 4 rfl))) ggX10_kind_X10_kindToday
theorem dX10_kind_all0 : decode cX10_kind 0 = .ok (.aload_n 0, 1) ∧ decode cX10_kind 1 = .ok (.iload_n 1, 1) ∧ decode cX10_kind 2 = .ok (.invokevirtual 180, 3) ∧ decode cX10_kind 5 = .ok (.ifCond .eq 11, 3) ∧ decode cX10_kind 8 = .ok (.aload_n 0, 1) ∧ decode cX10_kind 9 = .ok (.iload_n 1, 1) ∧ decode cX10_kind 10 = .ok (.invokevirtual 301, 3) ∧ decode cX10_kind 13 = .ok (.goto 5, 3) ∧ decode cX10_kind 16 = .ok (.ldc 89, 2) ∧ decode cX10_kind 18 = .ok (.ireturn, 1) := by decide +kernel
theorem dX10_kind_0 : decode cX10_kind 0 = .ok (.aload_n 0, 1) := dX10_kind_all0.1
theorem dX10_kind_1 : decode cX10_kind 1 = .ok (.iload_n 1, 1) := dX10_kind_all0.2.1
theorem dX10_kind_2 : decode cX10_kind 2 = .ok (.invokevirtual 180, 3) := dX10_kind_all0.2.2.1
theorem dX10_kind_5 : decode cX10_kind 5 = .ok (.ifCond .eq 11, 3) := dX10_kind_all0.2.2.2.1
theorem dX10_kind_8 : decode cX10_kind 8 = .ok (.aload_n 0, 1) := dX10_kind_all0.2.2.2.2.1
theorem dX10_kind_9 : decode cX10_kind 9 = .ok (.iload_n 1, 1) := dX10_kind_all0.2.2.2.2.2.1
theorem dX10_kind_10 : decode cX10_kind 10 = .ok (.invokevirtual 301, 3) := dX10_kind_all0.2.2.2.2.2.2.1
theorem dX10_kind_13 : decode cX10_kind 13 = .ok (.goto 5, 3) := dX10_kind_all0.2.2.2.2.2.2.2.1
theorem dX10_kind_16 : decode cX10_kind 16 = .ok (.ldc 89, 2) := dX10_kind_all0.2.2.2.2.2.2.2.2.1
theorem dX10_kind_18 : decode cX10_kind 18 = .ok (.ireturn, 1) := dX10_kind_all0.2.2.2.2.2.2.2.2.2
theorem ggX10_as_X10_isCrate : GoodIn wsX10_as wsX10_isCrate := goodIn_s (fun _ h => wm_t (wm_r (wm_r (wm_l (wm_l (wm_l h)))))) Gd_X10_isCrate
theorem gX10_as_X10_isCrate : GoodIn wsX10_as (wsV RX10 180 RX10 yX10_isCrate wsX10_isCrate) := goodIn_V (own := RX10) (idx := 180) (C := RX10) (y := yX10_isCrate) (wm_t (wm_l (wm_i 3 rfl))) (wm_t (wm_l (wm_i 4 rfl))) (wm_t (wm_l (wm_i 5 rfl))) (wm_t (wm_l (wm_i 6 rfl))) ggX10_as_X10_isCrate
theorem ggX10_as_X10_isBelow : GoodIn wsX10_as wsX10_isBelow := goodIn_s (fun _ h => wm_t (wm_r (wm_r (wm_l (wm_l (wm_r h)))))) Gd_X10_isBelow
theorem gX10_as_X10_isBelow : GoodIn wsX10_as (va_wsS RX10 85 yX10_isBelow wsX10_isBelow) := goodIn_S (own := RX10) (idx := 85) (y := yX10_isBelow) (wm_t (wm_l (wm_i 7 rfl))) (wm_t (wm_l (wm_i 8 rfl))) (wm_t (wm_l (wm_i 6 rfl))) ggX10_as_X10_isBelow
theorem ggX10_as_X10_kindToday : GoodIn wsX10_as wsX10_kindToday := goodIn_s (fun _ h => wm_t (wm_r (wm_r (wm_l (wm_r h))))) Gd_X10_kindToday
theorem gX10_as_X10_kindToday : GoodIn wsX10_as (wsV RX10 301 RX10 yX10_kindToday wsX10_kindToday) := goodIn_V (own := RX10) (idx := 301) (C := RX10) (y := yX10_kindToday) (wm_t (wm_l (wm_i 9 rfl))) (wm_t (wm_l (wm_i 10 rfl))) (wm_t (wm_l (wm_i 11 rfl))) (wm_t (wm_l (wm_i 6 rfl))) ggX10_as_X10_kindToday
theorem ggX10_as_X10_isOfKind : GoodIn wsX10_as wsX10_isOfKind := goodIn_s (fun _ h => wm_t (wm_r (wm_r (wm_r (wm_l (wm_l h)))))) Gd_X10_isOfKind
theorem gX10_as_X10_isOfKind : GoodIn wsX10_as (va_wsS RX10 304 yX10_isOfKind wsX10_isOfKind) := goodIn_S (own := RX10) (idx := 304) (y := yX10_isOfKind) (wm_t (wm_l (wm_i 12 rfl))) (wm_t (wm_l (wm_i 13 rfl))) (wm_t (wm_l (wm_i 6 rfl))) ggX10_as_X10_isOfKind
theorem ggX10_as_X10_finding : GoodIn wsX10_as wsX10_finding := goodIn_s (fun _ h => wm_t (wm_r (wm_r (wm_r (wm_l (wm_r h)))))) Gd_X10_finding
theorem gX10_as_X10_finding : GoodIn wsX10_as (wsV RX10 90 RX10 yX10_finding wsX10_finding) := goodIn_V (own := RX10) (idx := 90) (C := RX10) (y := yX10_finding) (wm_t (wm_l (wm_i 14 rfl))) (wm_t (wm_l (wm_i 15 rfl))) (wm_t (wm_l (wm_i 16 rfl))) (wm_t (wm_l (wm_i 6 rfl))) ggX10_as_X10_finding
theorem ggX10_as_X10_passed : GoodIn wsX10_as wsX10_passed := goodIn_s (fun _ h => wm_t (wm_r (wm_r (wm_r (wm_r h))))) Gd_X10_passed
theorem gX10_as_X10_passed : GoodIn wsX10_as (wsV RX10 98 RX10 yX10_passed wsX10_passed) := goodIn_V (own := RX10) (idx := 98) (C := RX10) (y := yX10_passed) (wm_t (wm_l (wm_i 17 rfl))) (wm_t (wm_l (wm_i 18 rfl))) (wm_t (wm_l (wm_i 19 rfl))) (wm_t (wm_l (wm_i 6 rfl))) ggX10_as_X10_passed
theorem dX10_as_all0 : decode cX10_as 0 = .ok (.aload_n 0, 1) ∧ decode cX10_as 1 = .ok (.iload_n 1, 1) ∧ decode cX10_as 2 = .ok (.invokevirtual 180, 3) ∧ decode cX10_as 5 = .ok (.ifCond .eq 11, 3) ∧ decode cX10_as 8 = .ok (.iload_n 2, 1) ∧ decode cX10_as 9 = .ok (.iconst 5, 1) ∧ decode cX10_as 10 = .ok (.invokestatic 85, 3) ∧ decode cX10_as 13 = .ok (.ifCond .ne 6, 3) ∧ decode cX10_as 16 = .ok (.ldc 89, 2) ∧ decode cX10_as 18 = .ok (.ireturn, 1) ∧ decode cX10_as 19 = .ok (.aload_n 0, 1) ∧ decode cX10_as 20 = .ok (.iload_n 1, 1) := by decide +kernel
theorem dX10_as_0 : decode cX10_as 0 = .ok (.aload_n 0, 1) := dX10_as_all0.1
theorem dX10_as_1 : decode cX10_as 1 = .ok (.iload_n 1, 1) := dX10_as_all0.2.1
theorem dX10_as_2 : decode cX10_as 2 = .ok (.invokevirtual 180, 3) := dX10_as_all0.2.2.1
theorem dX10_as_5 : decode cX10_as 5 = .ok (.ifCond .eq 11, 3) := dX10_as_all0.2.2.2.1
theorem dX10_as_8 : decode cX10_as 8 = .ok (.iload_n 2, 1) := dX10_as_all0.2.2.2.2.1
theorem dX10_as_9 : decode cX10_as 9 = .ok (.iconst 5, 1) := dX10_as_all0.2.2.2.2.2.1
theorem dX10_as_10 : decode cX10_as 10 = .ok (.invokestatic 85, 3) := dX10_as_all0.2.2.2.2.2.2.1
theorem dX10_as_13 : decode cX10_as 13 = .ok (.ifCond .ne 6, 3) := dX10_as_all0.2.2.2.2.2.2.2.1
theorem dX10_as_16 : decode cX10_as 16 = .ok (.ldc 89, 2) := dX10_as_all0.2.2.2.2.2.2.2.2.1
theorem dX10_as_18 : decode cX10_as 18 = .ok (.ireturn, 1) := dX10_as_all0.2.2.2.2.2.2.2.2.2.1
theorem dX10_as_19 : decode cX10_as 19 = .ok (.aload_n 0, 1) := dX10_as_all0.2.2.2.2.2.2.2.2.2.2.1
theorem dX10_as_20 : decode cX10_as 20 = .ok (.iload_n 1, 1) := dX10_as_all0.2.2.2.2.2.2.2.2.2.2.2
theorem dX10_as_all1 : decode cX10_as 21 = .ok (.invokevirtual 301, 3) ∧ decode cX10_as 24 = .ok (.iload_n 2, 1) ∧ decode cX10_as 25 = .ok (.invokestatic 304, 3) ∧ decode cX10_as 28 = .ok (.ifCond .ne 9, 3) ∧ decode cX10_as 31 = .ok (.aload_n 0, 1) ∧ decode cX10_as 32 = .ok (.iconst 3, 1) ∧ decode cX10_as 33 = .ok (.invokevirtual 90, 3) ∧ decode cX10_as 36 = .ok (.ireturn, 1) ∧ decode cX10_as 37 = .ok (.aload_n 0, 1) ∧ decode cX10_as 38 = .ok (.aload_n 0, 1) ∧ decode cX10_as 39 = .ok (.getfield 26, 3) ∧ decode cX10_as 42 = .ok (.getfield 207, 3) := by decide +kernel
theorem dX10_as_21 : decode cX10_as 21 = .ok (.invokevirtual 301, 3) := dX10_as_all1.1
theorem dX10_as_24 : decode cX10_as 24 = .ok (.iload_n 2, 1) := dX10_as_all1.2.1
theorem dX10_as_25 : decode cX10_as 25 = .ok (.invokestatic 304, 3) := dX10_as_all1.2.2.1
theorem dX10_as_28 : decode cX10_as 28 = .ok (.ifCond .ne 9, 3) := dX10_as_all1.2.2.2.1
theorem dX10_as_31 : decode cX10_as 31 = .ok (.aload_n 0, 1) := dX10_as_all1.2.2.2.2.1
theorem dX10_as_32 : decode cX10_as 32 = .ok (.iconst 3, 1) := dX10_as_all1.2.2.2.2.2.1
theorem dX10_as_33 : decode cX10_as 33 = .ok (.invokevirtual 90, 3) := dX10_as_all1.2.2.2.2.2.2.1
theorem dX10_as_36 : decode cX10_as 36 = .ok (.ireturn, 1) := dX10_as_all1.2.2.2.2.2.2.2.1
theorem dX10_as_37 : decode cX10_as 37 = .ok (.aload_n 0, 1) := dX10_as_all1.2.2.2.2.2.2.2.2.1
theorem dX10_as_38 : decode cX10_as 38 = .ok (.aload_n 0, 1) := dX10_as_all1.2.2.2.2.2.2.2.2.2.1
theorem dX10_as_39 : decode cX10_as 39 = .ok (.getfield 26, 3) := dX10_as_all1.2.2.2.2.2.2.2.2.2.2.1
theorem dX10_as_42 : decode cX10_as 42 = .ok (.getfield 207, 3) := dX10_as_all1.2.2.2.2.2.2.2.2.2.2.2
theorem dX10_as_all2 : decode cX10_as 45 = .ok (.iload_n 1, 1) ∧ decode cX10_as 46 = .ok (.iaload, 1) ∧ decode cX10_as 47 = .ok (.invokevirtual 98, 3) ∧ decode cX10_as 50 = .ok (.ireturn, 1) := by decide +kernel
theorem dX10_as_45 : decode cX10_as 45 = .ok (.iload_n 1, 1) := dX10_as_all2.1
theorem dX10_as_46 : decode cX10_as 46 = .ok (.iaload, 1) := dX10_as_all2.2.1
theorem dX10_as_47 : decode cX10_as 47 = .ok (.invokevirtual 98, 3) := dX10_as_all2.2.2.1
theorem dX10_as_50 : decode cX10_as 50 = .ok (.ireturn, 1) := dX10_as_all2.2.2.2
theorem ggX10_ask_X10_isCrate : GoodIn wsX10_ask wsX10_isCrate := goodIn_s (fun _ h => wm_t (wm_r (wm_r (wm_l (wm_l (wm_l h)))))) Gd_X10_isCrate
theorem gX10_ask_X10_isCrate : GoodIn wsX10_ask (wsV RX10 180 RX10 yX10_isCrate wsX10_isCrate) := goodIn_V (own := RX10) (idx := 180) (C := RX10) (y := yX10_isCrate) (wm_t (wm_l (wm_i 2 rfl))) (wm_t (wm_l (wm_i 3 rfl))) (wm_t (wm_l (wm_i 4 rfl))) (wm_t (wm_l (wm_i 5 rfl))) ggX10_ask_X10_isCrate
theorem ggX10_ask_X10_isBelow : GoodIn wsX10_ask wsX10_isBelow := goodIn_s (fun _ h => wm_t (wm_r (wm_r (wm_l (wm_l (wm_r h)))))) Gd_X10_isBelow
theorem gX10_ask_X10_isBelow : GoodIn wsX10_ask (va_wsS RX10 85 yX10_isBelow wsX10_isBelow) := goodIn_S (own := RX10) (idx := 85) (y := yX10_isBelow) (wm_t (wm_l (wm_i 6 rfl))) (wm_t (wm_l (wm_i 7 rfl))) (wm_t (wm_l (wm_i 5 rfl))) ggX10_ask_X10_isBelow
theorem ggX10_ask_X10_kindToday : GoodIn wsX10_ask wsX10_kindToday := goodIn_s (fun _ h => wm_t (wm_r (wm_r (wm_l (wm_r h))))) Gd_X10_kindToday
theorem gX10_ask_X10_kindToday : GoodIn wsX10_ask (wsV RX10 301 RX10 yX10_kindToday wsX10_kindToday) := goodIn_V (own := RX10) (idx := 301) (C := RX10) (y := yX10_kindToday) (wm_t (wm_l (wm_i 8 rfl))) (wm_t (wm_l (wm_i 9 rfl))) (wm_t (wm_l (wm_i 10 rfl))) (wm_t (wm_l (wm_i 5 rfl))) ggX10_ask_X10_kindToday
theorem ggX10_ask_X10_askSize : GoodIn wsX10_ask wsX10_askSize := goodIn_s (fun _ h => wm_t (wm_r (wm_r (wm_r (wm_l h))))) Gd_X10_askSize
theorem gX10_ask_X10_askSize : GoodIn wsX10_ask (wsV RX10 310 RX10 yX10_askSize wsX10_askSize) := goodIn_V (own := RX10) (idx := 310) (C := RX10) (y := yX10_askSize) (wm_t (wm_l (wm_i 11 rfl))) (wm_t (wm_l (wm_i 12 rfl))) (wm_t (wm_l (wm_i 13 rfl))) (wm_t (wm_l (wm_i 5 rfl))) ggX10_ask_X10_askSize
theorem ggX10_ask_X10_askMark : GoodIn wsX10_ask wsX10_askMark := goodIn_s (fun _ h => wm_t (wm_r (wm_r (wm_r (wm_r h))))) Gd_X10_askMark
theorem gX10_ask_X10_askMark : GoodIn wsX10_ask (wsV RX10 313 RX10 yX10_askMark wsX10_askMark) := goodIn_V (own := RX10) (idx := 313) (C := RX10) (y := yX10_askMark) (wm_t (wm_l (wm_i 14 rfl))) (wm_t (wm_l (wm_i 15 rfl))) (wm_t (wm_l (wm_i 16 rfl))) (wm_t (wm_l (wm_i 5 rfl))) ggX10_ask_X10_askMark
theorem dX10_ask_all0 : decode cX10_ask 0 = .ok (.aload_n 0, 1) ∧ decode cX10_ask 1 = .ok (.iload_n 1, 1) ∧ decode cX10_ask 2 = .ok (.invokevirtual 180, 3) ∧ decode cX10_ask 5 = .ok (.ifCond .eq 11, 3) ∧ decode cX10_ask 8 = .ok (.iload_n 2, 1) ∧ decode cX10_ask 9 = .ok (.iconst 2, 1) ∧ decode cX10_ask 10 = .ok (.invokestatic 85, 3) ∧ decode cX10_ask 13 = .ok (.ifCond .ne 6, 3) ∧ decode cX10_ask 16 = .ok (.ldc 89, 2) ∧ decode cX10_ask 18 = .ok (.ireturn, 1) ∧ decode cX10_ask 19 = .ok (.aload_n 0, 1) ∧ decode cX10_ask 20 = .ok (.iconst 0, 1) := by decide +kernel
theorem dX10_ask_0 : decode cX10_ask 0 = .ok (.aload_n 0, 1) := dX10_ask_all0.1
theorem dX10_ask_1 : decode cX10_ask 1 = .ok (.iload_n 1, 1) := dX10_ask_all0.2.1
theorem dX10_ask_2 : decode cX10_ask 2 = .ok (.invokevirtual 180, 3) := dX10_ask_all0.2.2.1
theorem dX10_ask_5 : decode cX10_ask 5 = .ok (.ifCond .eq 11, 3) := dX10_ask_all0.2.2.2.1
theorem dX10_ask_8 : decode cX10_ask 8 = .ok (.iload_n 2, 1) := dX10_ask_all0.2.2.2.2.1
theorem dX10_ask_9 : decode cX10_ask 9 = .ok (.iconst 2, 1) := dX10_ask_all0.2.2.2.2.2.1
theorem dX10_ask_10 : decode cX10_ask 10 = .ok (.invokestatic 85, 3) := dX10_ask_all0.2.2.2.2.2.2.1
theorem dX10_ask_13 : decode cX10_ask 13 = .ok (.ifCond .ne 6, 3) := dX10_ask_all0.2.2.2.2.2.2.2.1
theorem dX10_ask_16 : decode cX10_ask 16 = .ok (.ldc 89, 2) := dX10_ask_all0.2.2.2.2.2.2.2.2.1
theorem dX10_ask_18 : decode cX10_ask 18 = .ok (.ireturn, 1) := dX10_ask_all0.2.2.2.2.2.2.2.2.2.1
theorem dX10_ask_19 : decode cX10_ask 19 = .ok (.aload_n 0, 1) := dX10_ask_all0.2.2.2.2.2.2.2.2.2.2.1
theorem dX10_ask_20 : decode cX10_ask 20 = .ok (.iconst 0, 1) := dX10_ask_all0.2.2.2.2.2.2.2.2.2.2.2
theorem dX10_ask_all1 : decode cX10_ask 21 = .ok (.putfield 307, 3) ∧ decode cX10_ask 24 = .ok (.aload_n 0, 1) ∧ decode cX10_ask 25 = .ok (.iload_n 1, 1) ∧ decode cX10_ask 26 = .ok (.invokevirtual 301, 3) ∧ decode cX10_ask 29 = .ok (.istore_n 3, 1) ∧ decode cX10_ask 30 = .ok (.iload_n 2, 1) ∧ decode cX10_ask 31 = .ok (.ifCond .ne 12, 3) ∧ decode cX10_ask 34 = .ok (.aload_n 0, 1) ∧ decode cX10_ask 35 = .ok (.iload_n 1, 1) ∧ decode cX10_ask 36 = .ok (.iload_n 3, 1) ∧ decode cX10_ask 37 = .ok (.invokevirtual 310, 3) ∧ decode cX10_ask 40 = .ok (.goto 9, 3) := by decide +kernel
theorem dX10_ask_21 : decode cX10_ask 21 = .ok (.putfield 307, 3) := dX10_ask_all1.1
theorem dX10_ask_24 : decode cX10_ask 24 = .ok (.aload_n 0, 1) := dX10_ask_all1.2.1
theorem dX10_ask_25 : decode cX10_ask 25 = .ok (.iload_n 1, 1) := dX10_ask_all1.2.2.1
theorem dX10_ask_26 : decode cX10_ask 26 = .ok (.invokevirtual 301, 3) := dX10_ask_all1.2.2.2.1
theorem dX10_ask_29 : decode cX10_ask 29 = .ok (.istore_n 3, 1) := dX10_ask_all1.2.2.2.2.1
theorem dX10_ask_30 : decode cX10_ask 30 = .ok (.iload_n 2, 1) := dX10_ask_all1.2.2.2.2.2.1
theorem dX10_ask_31 : decode cX10_ask 31 = .ok (.ifCond .ne 12, 3) := dX10_ask_all1.2.2.2.2.2.2.1
theorem dX10_ask_34 : decode cX10_ask 34 = .ok (.aload_n 0, 1) := dX10_ask_all1.2.2.2.2.2.2.2.1
theorem dX10_ask_35 : decode cX10_ask 35 = .ok (.iload_n 1, 1) := dX10_ask_all1.2.2.2.2.2.2.2.2.1
theorem dX10_ask_36 : decode cX10_ask 36 = .ok (.iload_n 3, 1) := dX10_ask_all1.2.2.2.2.2.2.2.2.2.1
theorem dX10_ask_37 : decode cX10_ask 37 = .ok (.invokevirtual 310, 3) := dX10_ask_all1.2.2.2.2.2.2.2.2.2.2.1
theorem dX10_ask_40 : decode cX10_ask 40 = .ok (.goto 9, 3) := dX10_ask_all1.2.2.2.2.2.2.2.2.2.2.2
theorem dX10_ask_all2 : decode cX10_ask 43 = .ok (.aload_n 0, 1) ∧ decode cX10_ask 44 = .ok (.iload_n 1, 1) ∧ decode cX10_ask 45 = .ok (.iload_n 3, 1) ∧ decode cX10_ask 46 = .ok (.invokevirtual 313, 3) ∧ decode cX10_ask 49 = .ok (.ireturn, 1) := by decide +kernel
theorem dX10_ask_43 : decode cX10_ask 43 = .ok (.aload_n 0, 1) := dX10_ask_all2.1
theorem dX10_ask_44 : decode cX10_ask 44 = .ok (.iload_n 1, 1) := dX10_ask_all2.2.1
theorem dX10_ask_45 : decode cX10_ask 45 = .ok (.iload_n 3, 1) := dX10_ask_all2.2.2.1
theorem dX10_ask_46 : decode cX10_ask 46 = .ok (.invokevirtual 313, 3) := dX10_ask_all2.2.2.2.1
theorem dX10_ask_49 : decode cX10_ask 49 = .ok (.ireturn, 1) := dX10_ask_all2.2.2.2.2
theorem ggX10_trace_X10_isBelow : GoodIn wsX10_trace wsX10_isBelow := goodIn_s (fun _ h => wm_t (wm_r (wm_r h))) Gd_X10_isBelow
theorem gX10_trace_X10_isBelow : GoodIn wsX10_trace (va_wsS RX10 85 yX10_isBelow wsX10_isBelow) := goodIn_S (own := RX10) (idx := 85) (y := yX10_isBelow) (wm_t (wm_l (wm_i 3 rfl))) (wm_t (wm_l (wm_i 4 rfl))) (wm_t (wm_l (wm_i 5 rfl))) ggX10_trace_X10_isBelow
theorem dX10_trace_all0 : decode cX10_trace 0 = .ok (.iload_n 1, 1) ∧ decode cX10_trace 1 = .ok (.aload_n 0, 1) ∧ decode cX10_trace 2 = .ok (.getfield 307, 3) ∧ decode cX10_trace 5 = .ok (.invokestatic 85, 3) ∧ decode cX10_trace 8 = .ok (.ifCond .eq 12, 3) ∧ decode cX10_trace 11 = .ok (.aload_n 0, 1) ∧ decode cX10_trace 12 = .ok (.getfield 72, 3) ∧ decode cX10_trace 15 = .ok (.iload_n 1, 1) ∧ decode cX10_trace 16 = .ok (.iaload, 1) ∧ decode cX10_trace 17 = .ok (.goto 5, 3) ∧ decode cX10_trace 20 = .ok (.ldc 169, 2) ∧ decode cX10_trace 22 = .ok (.ireturn, 1) := by decide +kernel
theorem dX10_trace_0 : decode cX10_trace 0 = .ok (.iload_n 1, 1) := dX10_trace_all0.1
theorem dX10_trace_1 : decode cX10_trace 1 = .ok (.aload_n 0, 1) := dX10_trace_all0.2.1
theorem dX10_trace_2 : decode cX10_trace 2 = .ok (.getfield 307, 3) := dX10_trace_all0.2.2.1
theorem dX10_trace_5 : decode cX10_trace 5 = .ok (.invokestatic 85, 3) := dX10_trace_all0.2.2.2.1
theorem dX10_trace_8 : decode cX10_trace 8 = .ok (.ifCond .eq 12, 3) := dX10_trace_all0.2.2.2.2.1
theorem dX10_trace_11 : decode cX10_trace 11 = .ok (.aload_n 0, 1) := dX10_trace_all0.2.2.2.2.2.1
theorem dX10_trace_12 : decode cX10_trace 12 = .ok (.getfield 72, 3) := dX10_trace_all0.2.2.2.2.2.2.1
theorem dX10_trace_15 : decode cX10_trace 15 = .ok (.iload_n 1, 1) := dX10_trace_all0.2.2.2.2.2.2.2.1
theorem dX10_trace_16 : decode cX10_trace 16 = .ok (.iaload, 1) := dX10_trace_all0.2.2.2.2.2.2.2.2.1
theorem dX10_trace_17 : decode cX10_trace 17 = .ok (.goto 5, 3) := dX10_trace_all0.2.2.2.2.2.2.2.2.2.1
theorem dX10_trace_20 : decode cX10_trace 20 = .ok (.ldc 169, 2) := dX10_trace_all0.2.2.2.2.2.2.2.2.2.2.1
theorem dX10_trace_22 : decode cX10_trace 22 = .ok (.ireturn, 1) := dX10_trace_all0.2.2.2.2.2.2.2.2.2.2.2
theorem ggX10_isBarred_X4_peopleOn : GoodIn wsX10_isBarred wsX4_peopleOn := goodIn_s (fun _ h => wm_t (wm_r (wm_r (wm_l (wm_l (wm_l h)))))) Gd_X4_peopleOn
theorem gX10_isBarred_X4_peopleOn : GoodIn wsX10_isBarred (wsV RX10 326 RX4 yX4_peopleOn wsX4_peopleOn) := goodIn_V (own := RX10) (idx := 326) (C := RX4) (y := yX4_peopleOn) (wm_t (wm_l (wm_i 6 rfl))) (wm_t (wm_l (wm_i 7 rfl))) (wm_t (wm_l (wm_i 8 rfl))) (wm_t (wm_l (wm_i 9 rfl))) ggX10_isBarred_X4_peopleOn
theorem ggX10_isBarred_X7_ownerOf : GoodIn wsX10_isBarred wsX7_ownerOf := goodIn_s (fun _ h => wm_t (wm_r (wm_r (wm_l (wm_l (wm_r h)))))) Gd_X7_ownerOf
theorem gX10_isBarred_X7_ownerOf : GoodIn wsX10_isBarred (wsV RX10 193 RX7 yX7_ownerOf wsX7_ownerOf) := goodIn_V (own := RX10) (idx := 193) (C := RX7) (y := yX7_ownerOf) (wm_t (wm_l (wm_i 10 rfl))) (wm_t (wm_l (wm_i 11 rfl))) (wm_t (wm_l (wm_i 12 rfl))) (wm_t (wm_l (wm_i 13 rfl))) ggX10_isBarred_X7_ownerOf
theorem ggX10_isBarred_X3_lookAt : GoodIn wsX10_isBarred wsX3_lookAt := goodIn_s (fun _ h => wm_t (wm_r (wm_r (wm_l (wm_r h))))) Gd_X3_lookAt
theorem gX10_isBarred_X3_lookAt : GoodIn wsX10_isBarred (wsV RX10 153 RX3 yX3_lookAt wsX3_lookAt) := goodIn_V (own := RX10) (idx := 153) (C := RX3) (y := yX3_lookAt) (wm_t (wm_l (wm_i 14 rfl))) (wm_t (wm_l (wm_i 15 rfl))) (wm_t (wm_l (wm_i 16 rfl))) (wm_t (wm_l (wm_i 17 rfl))) ggX10_isBarred_X3_lookAt
theorem ggX10_isBarred_X10_hasBit : GoodIn wsX10_isBarred wsX10_hasBit := goodIn_s (fun _ h => wm_t (wm_r (wm_r (wm_r (wm_l h))))) Gd_X10_hasBit
theorem gX10_isBarred_X10_hasBit : GoodIn wsX10_isBarred (va_wsS RX10 173 yX10_hasBit wsX10_hasBit) := goodIn_S (own := RX10) (idx := 173) (y := yX10_hasBit) (wm_t (wm_l (wm_i 20 rfl))) (wm_t (wm_l (wm_i 18 rfl))) (wm_t (wm_l (wm_i 19 rfl))) ggX10_isBarred_X10_hasBit
theorem ggX10_isBarred_X3_shareOf : GoodIn wsX10_isBarred wsX3_shareOf := goodIn_s (fun _ h => wm_t (wm_r (wm_r (wm_r (wm_r h))))) Gd_X3_shareOf
theorem gX10_isBarred_X3_shareOf : GoodIn wsX10_isBarred (wsV RX10 166 RX3 yX3_shareOf wsX3_shareOf) := goodIn_V (own := RX10) (idx := 166) (C := RX3) (y := yX3_shareOf) (wm_t (wm_l (wm_i 21 rfl))) (wm_t (wm_l (wm_i 22 rfl))) (wm_t (wm_l (wm_i 23 rfl))) (wm_t (wm_l (wm_i 17 rfl))) ggX10_isBarred_X3_shareOf
theorem dX10_isBarred_all0 : decode cX10_isBarred 0 = .ok (.aload_n 0, 1) ∧ decode cX10_isBarred 1 = .ok (.getfield 68, 3) ∧ decode cX10_isBarred 4 = .ok (.iload_n 2, 1) ∧ decode cX10_isBarred 5 = .ok (.invokevirtual 326, 3) ∧ decode cX10_isBarred 8 = .ok (.istore_n 3, 1) ∧ decode cX10_isBarred 9 = .ok (.iload_n 3, 1) ∧ decode cX10_isBarred 10 = .ok (.ifCond .ne 5, 3) ∧ decode cX10_isBarred 13 = .ok (.iconst 0, 1) ∧ decode cX10_isBarred 14 = .ok (.ireturn, 1) ∧ decode cX10_isBarred 15 = .ok (.aload_n 0, 1) ∧ decode cX10_isBarred 16 = .ok (.getfield 33, 3) ∧ decode cX10_isBarred 19 = .ok (.iload_n 1, 1) := by decide +kernel
theorem dX10_isBarred_0 : decode cX10_isBarred 0 = .ok (.aload_n 0, 1) := dX10_isBarred_all0.1
theorem dX10_isBarred_1 : decode cX10_isBarred 1 = .ok (.getfield 68, 3) := dX10_isBarred_all0.2.1
theorem dX10_isBarred_4 : decode cX10_isBarred 4 = .ok (.iload_n 2, 1) := dX10_isBarred_all0.2.2.1
theorem dX10_isBarred_5 : decode cX10_isBarred 5 = .ok (.invokevirtual 326, 3) := dX10_isBarred_all0.2.2.2.1
theorem dX10_isBarred_8 : decode cX10_isBarred 8 = .ok (.istore_n 3, 1) := dX10_isBarred_all0.2.2.2.2.1
theorem dX10_isBarred_9 : decode cX10_isBarred 9 = .ok (.iload_n 3, 1) := dX10_isBarred_all0.2.2.2.2.2.1
theorem dX10_isBarred_10 : decode cX10_isBarred 10 = .ok (.ifCond .ne 5, 3) := dX10_isBarred_all0.2.2.2.2.2.2.1
theorem dX10_isBarred_13 : decode cX10_isBarred 13 = .ok (.iconst 0, 1) := dX10_isBarred_all0.2.2.2.2.2.2.2.1
theorem dX10_isBarred_14 : decode cX10_isBarred 14 = .ok (.ireturn, 1) := dX10_isBarred_all0.2.2.2.2.2.2.2.2.1
theorem dX10_isBarred_15 : decode cX10_isBarred 15 = .ok (.aload_n 0, 1) := dX10_isBarred_all0.2.2.2.2.2.2.2.2.2.1
theorem dX10_isBarred_16 : decode cX10_isBarred 16 = .ok (.getfield 33, 3) := dX10_isBarred_all0.2.2.2.2.2.2.2.2.2.2.1
theorem dX10_isBarred_19 : decode cX10_isBarred 19 = .ok (.iload_n 1, 1) := dX10_isBarred_all0.2.2.2.2.2.2.2.2.2.2.2
theorem dX10_isBarred_all1 : decode cX10_isBarred 20 = .ok (.aload_n 0, 1) ∧ decode cX10_isBarred 21 = .ok (.getfield 26, 3) ∧ decode cX10_isBarred 24 = .ok (.getfield 190, 3) ∧ decode cX10_isBarred 27 = .ok (.iload_n 1, 1) ∧ decode cX10_isBarred 28 = .ok (.iaload, 1) ∧ decode cX10_isBarred 29 = .ok (.iload_n 2, 1) ∧ decode cX10_isBarred 30 = .ok (.iload_n 2, 1) ∧ decode cX10_isBarred 31 = .ok (.invokevirtual 193, 3) ∧ decode cX10_isBarred 34 = .ok (.istore 4, 2) ∧ decode cX10_isBarred 36 = .ok (.aload_n 0, 1) ∧ decode cX10_isBarred 37 = .ok (.getfield 19, 3) ∧ decode cX10_isBarred 40 = .ok (.iload_n 2, 1) := by decide +kernel
theorem dX10_isBarred_20 : decode cX10_isBarred 20 = .ok (.aload_n 0, 1) := dX10_isBarred_all1.1
theorem dX10_isBarred_21 : decode cX10_isBarred 21 = .ok (.getfield 26, 3) := dX10_isBarred_all1.2.1
theorem dX10_isBarred_24 : decode cX10_isBarred 24 = .ok (.getfield 190, 3) := dX10_isBarred_all1.2.2.1
theorem dX10_isBarred_27 : decode cX10_isBarred 27 = .ok (.iload_n 1, 1) := dX10_isBarred_all1.2.2.2.1
theorem dX10_isBarred_28 : decode cX10_isBarred 28 = .ok (.iaload, 1) := dX10_isBarred_all1.2.2.2.2.1
theorem dX10_isBarred_29 : decode cX10_isBarred 29 = .ok (.iload_n 2, 1) := dX10_isBarred_all1.2.2.2.2.2.1
theorem dX10_isBarred_30 : decode cX10_isBarred 30 = .ok (.iload_n 2, 1) := dX10_isBarred_all1.2.2.2.2.2.2.1
theorem dX10_isBarred_31 : decode cX10_isBarred 31 = .ok (.invokevirtual 193, 3) := dX10_isBarred_all1.2.2.2.2.2.2.2.1
theorem dX10_isBarred_34 : decode cX10_isBarred 34 = .ok (.istore 4, 2) := dX10_isBarred_all1.2.2.2.2.2.2.2.2.1
theorem dX10_isBarred_36 : decode cX10_isBarred 36 = .ok (.aload_n 0, 1) := dX10_isBarred_all1.2.2.2.2.2.2.2.2.2.1
theorem dX10_isBarred_37 : decode cX10_isBarred 37 = .ok (.getfield 19, 3) := dX10_isBarred_all1.2.2.2.2.2.2.2.2.2.2.1
theorem dX10_isBarred_40 : decode cX10_isBarred 40 = .ok (.iload_n 2, 1) := dX10_isBarred_all1.2.2.2.2.2.2.2.2.2.2.2
theorem dX10_isBarred_all2 : decode cX10_isBarred 41 = .ok (.invokevirtual 153, 3) ∧ decode cX10_isBarred 44 = .ok (.lconst 0, 1) ∧ decode cX10_isBarred 45 = .ok (.lstore 5, 2) ∧ decode cX10_isBarred 47 = .ok (.iconst 0, 1) ∧ decode cX10_isBarred 48 = .ok (.istore 7, 2) ∧ decode cX10_isBarred 50 = .ok (.iload 7, 2) ∧ decode cX10_isBarred 52 = .ok (.bipush 10, 2) ∧ decode cX10_isBarred 54 = .ok (.if_icmp .ge 35, 3) ∧ decode cX10_isBarred 57 = .ok (.iload_n 3, 1) ∧ decode cX10_isBarred 58 = .ok (.iload 7, 2) ∧ decode cX10_isBarred 60 = .ok (.invokestatic 173, 3) ∧ decode cX10_isBarred 63 = .ok (.ifCond .eq 20, 3) := by decide +kernel
theorem dX10_isBarred_41 : decode cX10_isBarred 41 = .ok (.invokevirtual 153, 3) := dX10_isBarred_all2.1
theorem dX10_isBarred_44 : decode cX10_isBarred 44 = .ok (.lconst 0, 1) := dX10_isBarred_all2.2.1
theorem dX10_isBarred_45 : decode cX10_isBarred 45 = .ok (.lstore 5, 2) := dX10_isBarred_all2.2.2.1
theorem dX10_isBarred_47 : decode cX10_isBarred 47 = .ok (.iconst 0, 1) := dX10_isBarred_all2.2.2.2.1
theorem dX10_isBarred_48 : decode cX10_isBarred 48 = .ok (.istore 7, 2) := dX10_isBarred_all2.2.2.2.2.1
theorem dX10_isBarred_50 : decode cX10_isBarred 50 = .ok (.iload 7, 2) := dX10_isBarred_all2.2.2.2.2.2.1
theorem dX10_isBarred_52 : decode cX10_isBarred 52 = .ok (.bipush 10, 2) := dX10_isBarred_all2.2.2.2.2.2.2.1
theorem dX10_isBarred_54 : decode cX10_isBarred 54 = .ok (.if_icmp .ge 35, 3) := dX10_isBarred_all2.2.2.2.2.2.2.2.1
theorem dX10_isBarred_57 : decode cX10_isBarred 57 = .ok (.iload_n 3, 1) := dX10_isBarred_all2.2.2.2.2.2.2.2.2.1
theorem dX10_isBarred_58 : decode cX10_isBarred 58 = .ok (.iload 7, 2) := dX10_isBarred_all2.2.2.2.2.2.2.2.2.2.1
theorem dX10_isBarred_60 : decode cX10_isBarred 60 = .ok (.invokestatic 173, 3) := dX10_isBarred_all2.2.2.2.2.2.2.2.2.2.2.1
theorem dX10_isBarred_63 : decode cX10_isBarred 63 = .ok (.ifCond .eq 20, 3) := dX10_isBarred_all2.2.2.2.2.2.2.2.2.2.2.2
theorem dX10_isBarred_all3 : decode cX10_isBarred 66 = .ok (.lload 5, 2) ∧ decode cX10_isBarred 68 = .ok (.aload_n 0, 1) ∧ decode cX10_isBarred 69 = .ok (.getfield 19, 3) ∧ decode cX10_isBarred 72 = .ok (.iload 7, 2) ∧ decode cX10_isBarred 74 = .ok (.iload 4, 2) ∧ decode cX10_isBarred 76 = .ok (.invokevirtual 166, 3) ∧ decode cX10_isBarred 79 = .ok (.i2l, 1) ∧ decode cX10_isBarred 80 = .ok (.ladd, 1) ∧ decode cX10_isBarred 81 = .ok (.lstore 5, 2) ∧ decode cX10_isBarred 83 = .ok (.iinc 7 1, 3) ∧ decode cX10_isBarred 86 = .ok (.goto (-36), 3) ∧ decode cX10_isBarred 89 = .ok (.lload 5, 2) := by decide +kernel
theorem dX10_isBarred_66 : decode cX10_isBarred 66 = .ok (.lload 5, 2) := dX10_isBarred_all3.1
theorem dX10_isBarred_68 : decode cX10_isBarred 68 = .ok (.aload_n 0, 1) := dX10_isBarred_all3.2.1
theorem dX10_isBarred_69 : decode cX10_isBarred 69 = .ok (.getfield 19, 3) := dX10_isBarred_all3.2.2.1
theorem dX10_isBarred_72 : decode cX10_isBarred 72 = .ok (.iload 7, 2) := dX10_isBarred_all3.2.2.2.1
theorem dX10_isBarred_74 : decode cX10_isBarred 74 = .ok (.iload 4, 2) := dX10_isBarred_all3.2.2.2.2.1
theorem dX10_isBarred_76 : decode cX10_isBarred 76 = .ok (.invokevirtual 166, 3) := dX10_isBarred_all3.2.2.2.2.2.1
theorem dX10_isBarred_79 : decode cX10_isBarred 79 = .ok (.i2l, 1) := dX10_isBarred_all3.2.2.2.2.2.2.1
theorem dX10_isBarred_80 : decode cX10_isBarred 80 = .ok (.ladd, 1) := dX10_isBarred_all3.2.2.2.2.2.2.2.1
theorem dX10_isBarred_81 : decode cX10_isBarred 81 = .ok (.lstore 5, 2) := dX10_isBarred_all3.2.2.2.2.2.2.2.2.1
theorem dX10_isBarred_83 : decode cX10_isBarred 83 = .ok (.iinc 7 1, 3) := dX10_isBarred_all3.2.2.2.2.2.2.2.2.2.1
theorem dX10_isBarred_86 : decode cX10_isBarred 86 = .ok (.goto (-36), 3) := dX10_isBarred_all3.2.2.2.2.2.2.2.2.2.2.1
theorem dX10_isBarred_89 : decode cX10_isBarred 89 = .ok (.lload 5, 2) := dX10_isBarred_all3.2.2.2.2.2.2.2.2.2.2.2
theorem dX10_isBarred_all4 : decode cX10_isBarred 91 = .ok (.ldc2_w 329, 3) ∧ decode cX10_isBarred 94 = .ok (.lcmp, 1) ∧ decode cX10_isBarred 95 = .ok (.ifCond .lt 7, 3) ∧ decode cX10_isBarred 98 = .ok (.iconst 1, 1) ∧ decode cX10_isBarred 99 = .ok (.goto 4, 3) ∧ decode cX10_isBarred 102 = .ok (.iconst 0, 1) ∧ decode cX10_isBarred 103 = .ok (.ireturn, 1) := by decide +kernel
theorem dX10_isBarred_91 : decode cX10_isBarred 91 = .ok (.ldc2_w 329, 3) := dX10_isBarred_all4.1
theorem dX10_isBarred_94 : decode cX10_isBarred 94 = .ok (.lcmp, 1) := dX10_isBarred_all4.2.1
theorem dX10_isBarred_95 : decode cX10_isBarred 95 = .ok (.ifCond .lt 7, 3) := dX10_isBarred_all4.2.2.1
theorem dX10_isBarred_98 : decode cX10_isBarred 98 = .ok (.iconst 1, 1) := dX10_isBarred_all4.2.2.2.1
theorem dX10_isBarred_99 : decode cX10_isBarred 99 = .ok (.goto 4, 3) := dX10_isBarred_all4.2.2.2.2.1
theorem dX10_isBarred_102 : decode cX10_isBarred 102 = .ok (.iconst 0, 1) := dX10_isBarred_all4.2.2.2.2.2.1
theorem dX10_isBarred_103 : decode cX10_isBarred 103 = .ok (.ireturn, 1) := dX10_isBarred_all4.2.2.2.2.2.2
theorem ggX10_kindToday_X10_isBarred : GoodIn wsX10_kindToday wsX10_isBarred := goodIn_s (fun _ h => wm_t (wm_r (wm_r (wm_r (wm_l h))))) Gd_X10_isBarred
theorem gX10_kindToday_X10_isBarred : GoodIn wsX10_kindToday (wsV RX10 295 RX10 yX10_isBarred wsX10_isBarred) := goodIn_V (own := RX10) (idx := 295) (C := RX10) (y := yX10_isBarred) (wm_t (wm_l (wm_i 4 rfl))) (wm_t (wm_l (wm_i 5 rfl))) (wm_t (wm_l (wm_i 6 rfl))) (wm_t (wm_l (wm_i 7 rfl))) ggX10_kindToday_X10_isBarred
theorem ggX10_kindToday_X8_sumsOn : GoodIn wsX10_kindToday wsX8_sumsOn := goodIn_s (fun _ h => wm_t (wm_r (wm_r (wm_r (wm_r h))))) Gd_X8_sumsOn
theorem gX10_kindToday_X8_sumsOn : GoodIn wsX10_kindToday (wsV RX10 331 RX8 yX8_sumsOn wsX8_sumsOn) := goodIn_V (own := RX10) (idx := 331) (C := RX8) (y := yX8_sumsOn) (wm_t (wm_l (wm_i 8 rfl))) (wm_t (wm_l (wm_i 9 rfl))) (wm_t (wm_l (wm_i 10 rfl))) (wm_t (wm_l (wm_i 11 rfl))) ggX10_kindToday_X8_sumsOn
theorem dX10_kindToday_all0 : decode cX10_kindToday 0 = .ok (.aload_n 0, 1) ∧ decode cX10_kindToday 1 = .ok (.iload_n 1, 1) ∧ decode cX10_kindToday 2 = .ok (.aload_n 0, 1) ∧ decode cX10_kindToday 3 = .ok (.getfield 298, 3) ∧ decode cX10_kindToday 6 = .ok (.invokevirtual 295, 3) ∧ decode cX10_kindToday 9 = .ok (.ifCond .eq 5, 3) ∧ decode cX10_kindToday 12 = .ok (.iconst 3, 1) ∧ decode cX10_kindToday 13 = .ok (.ireturn, 1) ∧ decode cX10_kindToday 14 = .ok (.aload_n 0, 1) ∧ decode cX10_kindToday 15 = .ok (.getfield 40, 3) ∧ decode cX10_kindToday 18 = .ok (.iload_n 1, 1) ∧ decode cX10_kindToday 19 = .ok (.aload_n 0, 1) := by decide +kernel
theorem dX10_kindToday_0 : decode cX10_kindToday 0 = .ok (.aload_n 0, 1) := dX10_kindToday_all0.1
theorem dX10_kindToday_1 : decode cX10_kindToday 1 = .ok (.iload_n 1, 1) := dX10_kindToday_all0.2.1
theorem dX10_kindToday_2 : decode cX10_kindToday 2 = .ok (.aload_n 0, 1) := dX10_kindToday_all0.2.2.1
theorem dX10_kindToday_3 : decode cX10_kindToday 3 = .ok (.getfield 298, 3) := dX10_kindToday_all0.2.2.2.1
theorem dX10_kindToday_6 : decode cX10_kindToday 6 = .ok (.invokevirtual 295, 3) := dX10_kindToday_all0.2.2.2.2.1
theorem dX10_kindToday_9 : decode cX10_kindToday 9 = .ok (.ifCond .eq 5, 3) := dX10_kindToday_all0.2.2.2.2.2.1
theorem dX10_kindToday_12 : decode cX10_kindToday 12 = .ok (.iconst 3, 1) := dX10_kindToday_all0.2.2.2.2.2.2.1
theorem dX10_kindToday_13 : decode cX10_kindToday 13 = .ok (.ireturn, 1) := dX10_kindToday_all0.2.2.2.2.2.2.2.1
theorem dX10_kindToday_14 : decode cX10_kindToday 14 = .ok (.aload_n 0, 1) := dX10_kindToday_all0.2.2.2.2.2.2.2.2.1
theorem dX10_kindToday_15 : decode cX10_kindToday 15 = .ok (.getfield 40, 3) := dX10_kindToday_all0.2.2.2.2.2.2.2.2.2.1
theorem dX10_kindToday_18 : decode cX10_kindToday 18 = .ok (.iload_n 1, 1) := dX10_kindToday_all0.2.2.2.2.2.2.2.2.2.2.1
theorem dX10_kindToday_19 : decode cX10_kindToday 19 = .ok (.aload_n 0, 1) := dX10_kindToday_all0.2.2.2.2.2.2.2.2.2.2.2
theorem dX10_kindToday_all1 : decode cX10_kindToday 20 = .ok (.getfield 298, 3) ∧ decode cX10_kindToday 23 = .ok (.invokevirtual 331, 3) ∧ decode cX10_kindToday 26 = .ok (.istore_n 2, 1) ∧ decode cX10_kindToday 27 = .ok (.iload_n 2, 1) ∧ decode cX10_kindToday 28 = .ok (.aload_n 0, 1) ∧ decode cX10_kindToday 29 = .ok (.getfield 26, 3) ∧ decode cX10_kindToday 32 = .ok (.getfield 207, 3) ∧ decode cX10_kindToday 35 = .ok (.iload_n 1, 1) ∧ decode cX10_kindToday 36 = .ok (.iaload, 1) ∧ decode cX10_kindToday 37 = .ok (.if_icmp .le 5, 3) ∧ decode cX10_kindToday 40 = .ok (.iconst 2, 1) ∧ decode cX10_kindToday 41 = .ok (.ireturn, 1) := by decide +kernel
theorem dX10_kindToday_20 : decode cX10_kindToday 20 = .ok (.getfield 298, 3) := dX10_kindToday_all1.1
theorem dX10_kindToday_23 : decode cX10_kindToday 23 = .ok (.invokevirtual 331, 3) := dX10_kindToday_all1.2.1
theorem dX10_kindToday_26 : decode cX10_kindToday 26 = .ok (.istore_n 2, 1) := dX10_kindToday_all1.2.2.1
theorem dX10_kindToday_27 : decode cX10_kindToday 27 = .ok (.iload_n 2, 1) := dX10_kindToday_all1.2.2.2.1
theorem dX10_kindToday_28 : decode cX10_kindToday 28 = .ok (.aload_n 0, 1) := dX10_kindToday_all1.2.2.2.2.1
theorem dX10_kindToday_29 : decode cX10_kindToday 29 = .ok (.getfield 26, 3) := dX10_kindToday_all1.2.2.2.2.2.1
theorem dX10_kindToday_32 : decode cX10_kindToday 32 = .ok (.getfield 207, 3) := dX10_kindToday_all1.2.2.2.2.2.2.1
theorem dX10_kindToday_35 : decode cX10_kindToday 35 = .ok (.iload_n 1, 1) := dX10_kindToday_all1.2.2.2.2.2.2.2.1
theorem dX10_kindToday_36 : decode cX10_kindToday 36 = .ok (.iaload, 1) := dX10_kindToday_all1.2.2.2.2.2.2.2.2.1
theorem dX10_kindToday_37 : decode cX10_kindToday 37 = .ok (.if_icmp .le 5, 3) := dX10_kindToday_all1.2.2.2.2.2.2.2.2.2.1
theorem dX10_kindToday_40 : decode cX10_kindToday 40 = .ok (.iconst 2, 1) := dX10_kindToday_all1.2.2.2.2.2.2.2.2.2.2.1
theorem dX10_kindToday_41 : decode cX10_kindToday 41 = .ok (.ireturn, 1) := dX10_kindToday_all1.2.2.2.2.2.2.2.2.2.2.2
theorem dX10_kindToday_all2 : decode cX10_kindToday 42 = .ok (.iload_n 2, 1) ∧ decode cX10_kindToday 43 = .ok (.ifCond .le 7, 3) ∧ decode cX10_kindToday 46 = .ok (.iconst 1, 1) ∧ decode cX10_kindToday 47 = .ok (.goto 4, 3) ∧ decode cX10_kindToday 50 = .ok (.iconst 4, 1) ∧ decode cX10_kindToday 51 = .ok (.ireturn, 1) := by decide +kernel
theorem dX10_kindToday_42 : decode cX10_kindToday 42 = .ok (.iload_n 2, 1) := dX10_kindToday_all2.1
theorem dX10_kindToday_43 : decode cX10_kindToday 43 = .ok (.ifCond .le 7, 3) := dX10_kindToday_all2.2.1
theorem dX10_kindToday_46 : decode cX10_kindToday 46 = .ok (.iconst 1, 1) := dX10_kindToday_all2.2.2.1
theorem dX10_kindToday_47 : decode cX10_kindToday 47 = .ok (.goto 4, 3) := dX10_kindToday_all2.2.2.2.1
theorem dX10_kindToday_50 : decode cX10_kindToday 50 = .ok (.iconst 4, 1) := dX10_kindToday_all2.2.2.2.2.1
theorem dX10_kindToday_51 : decode cX10_kindToday 51 = .ok (.ireturn, 1) := dX10_kindToday_all2.2.2.2.2.2
theorem dX10_isOfKind_all0 : decode cX10_isOfKind 0 = .ok (.iload_n 1, 1) ∧ decode cX10_isOfKind 1 = .ok (.ifCond .eq 18, 3) ∧ decode cX10_isOfKind 4 = .ok (.iload_n 1, 1) ∧ decode cX10_isOfKind 5 = .ok (.iload_n 0, 1) ∧ decode cX10_isOfKind 6 = .ok (.if_icmp .eq 13, 3) ∧ decode cX10_isOfKind 9 = .ok (.iload_n 1, 1) ∧ decode cX10_isOfKind 10 = .ok (.iconst 1, 1) ∧ decode cX10_isOfKind 11 = .ok (.if_icmp .ne 12, 3) ∧ decode cX10_isOfKind 14 = .ok (.iload_n 0, 1) ∧ decode cX10_isOfKind 15 = .ok (.iconst 2, 1) ∧ decode cX10_isOfKind 16 = .ok (.if_icmp .ne 7, 3) ∧ decode cX10_isOfKind 19 = .ok (.iconst 1, 1) := by decide +kernel
theorem dX10_isOfKind_0 : decode cX10_isOfKind 0 = .ok (.iload_n 1, 1) := dX10_isOfKind_all0.1
theorem dX10_isOfKind_1 : decode cX10_isOfKind 1 = .ok (.ifCond .eq 18, 3) := dX10_isOfKind_all0.2.1
theorem dX10_isOfKind_4 : decode cX10_isOfKind 4 = .ok (.iload_n 1, 1) := dX10_isOfKind_all0.2.2.1
theorem dX10_isOfKind_5 : decode cX10_isOfKind 5 = .ok (.iload_n 0, 1) := dX10_isOfKind_all0.2.2.2.1
theorem dX10_isOfKind_6 : decode cX10_isOfKind 6 = .ok (.if_icmp .eq 13, 3) := dX10_isOfKind_all0.2.2.2.2.1
theorem dX10_isOfKind_9 : decode cX10_isOfKind 9 = .ok (.iload_n 1, 1) := dX10_isOfKind_all0.2.2.2.2.2.1
theorem dX10_isOfKind_10 : decode cX10_isOfKind 10 = .ok (.iconst 1, 1) := dX10_isOfKind_all0.2.2.2.2.2.2.1
theorem dX10_isOfKind_11 : decode cX10_isOfKind 11 = .ok (.if_icmp .ne 12, 3) := dX10_isOfKind_all0.2.2.2.2.2.2.2.1
theorem dX10_isOfKind_14 : decode cX10_isOfKind 14 = .ok (.iload_n 0, 1) := dX10_isOfKind_all0.2.2.2.2.2.2.2.2.1
theorem dX10_isOfKind_15 : decode cX10_isOfKind 15 = .ok (.iconst 2, 1) := dX10_isOfKind_all0.2.2.2.2.2.2.2.2.2.1
theorem dX10_isOfKind_16 : decode cX10_isOfKind 16 = .ok (.if_icmp .ne 7, 3) := dX10_isOfKind_all0.2.2.2.2.2.2.2.2.2.2.1
theorem dX10_isOfKind_19 : decode cX10_isOfKind 19 = .ok (.iconst 1, 1) := dX10_isOfKind_all0.2.2.2.2.2.2.2.2.2.2.2
theorem dX10_isOfKind_all1 : decode cX10_isOfKind 20 = .ok (.goto 4, 3) ∧ decode cX10_isOfKind 23 = .ok (.iconst 0, 1) ∧ decode cX10_isOfKind 24 = .ok (.ireturn, 1) := by decide +kernel
theorem dX10_isOfKind_20 : decode cX10_isOfKind 20 = .ok (.goto 4, 3) := dX10_isOfKind_all1.1
theorem dX10_isOfKind_23 : decode cX10_isOfKind 23 = .ok (.iconst 0, 1) := dX10_isOfKind_all1.2.1
theorem dX10_isOfKind_24 : decode cX10_isOfKind 24 = .ok (.ireturn, 1) := dX10_isOfKind_all1.2.2
theorem ggX10_askSize_X10_sizeOfOwed : GoodIn wsX10_askSize wsX10_sizeOfOwed := goodIn_s (fun _ h => wm_t (wm_r (wm_r (wm_l (wm_l h))))) Gd_X10_sizeOfOwed
theorem gX10_askSize_X10_sizeOfOwed : GoodIn wsX10_askSize (wsV RX10 334 RX10 yX10_sizeOfOwed wsX10_sizeOfOwed) := goodIn_V (own := RX10) (idx := 334) (C := RX10) (y := yX10_sizeOfOwed) (wm_t (wm_l (wm_i 0 rfl))) (wm_t (wm_l (wm_i 1 rfl))) (wm_t (wm_r (wm_r (wm_l (wm_r (wm_t (wm_l (wm_i 5 rfl)))))))) (wm_t (wm_l (wm_i 2 rfl))) ggX10_askSize_X10_sizeOfOwed
theorem ggX10_askSize_X10_sizeOfDeep : GoodIn wsX10_askSize wsX10_sizeOfDeep := goodIn_s (fun _ h => wm_t (wm_r (wm_r (wm_l (wm_r h))))) Gd_X10_sizeOfDeep
theorem gX10_askSize_X10_sizeOfDeep : GoodIn wsX10_askSize (wsV RX10 337 RX10 yX10_sizeOfDeep wsX10_sizeOfDeep) := goodIn_V (own := RX10) (idx := 337) (C := RX10) (y := yX10_sizeOfDeep) (wm_t (wm_l (wm_i 5 rfl))) (wm_t (wm_l (wm_i 6 rfl))) (wm_t (wm_l (wm_i 7 rfl))) (wm_t (wm_l (wm_i 2 rfl))) ggX10_askSize_X10_sizeOfDeep
theorem ggX10_askSize_X10_sizeOfStopped : GoodIn wsX10_askSize wsX10_sizeOfStopped := goodIn_s (fun _ h => wm_t (wm_r (wm_r (wm_r (wm_l h))))) Gd_X10_sizeOfStopped
theorem gX10_askSize_X10_sizeOfStopped : GoodIn wsX10_askSize (wsV RX10 340 RX10 yX10_sizeOfStopped wsX10_sizeOfStopped) := goodIn_V (own := RX10) (idx := 340) (C := RX10) (y := yX10_sizeOfStopped) (wm_t (wm_l (wm_i 8 rfl))) (wm_t (wm_l (wm_i 9 rfl))) (wm_t (wm_l (wm_i 10 rfl))) (wm_t (wm_l (wm_i 2 rfl))) ggX10_askSize_X10_sizeOfStopped
theorem ggX10_askSize_X10_sizeLent : GoodIn wsX10_askSize wsX10_sizeLent := goodIn_s (fun _ h => wm_t (wm_r (wm_r (wm_r (wm_r h))))) Gd_X10_sizeLent
theorem gX10_askSize_X10_sizeLent : GoodIn wsX10_askSize (wsV RX10 343 RX10 yX10_sizeLent wsX10_sizeLent) := goodIn_V (own := RX10) (idx := 343) (C := RX10) (y := yX10_sizeLent) (wm_t (wm_l (wm_i 3 rfl))) (wm_t (wm_l (wm_i 4 rfl))) (wm_t (wm_r (wm_r (wm_l (wm_l (wm_t (wm_l (wm_i 7 rfl)))))))) (wm_t (wm_l (wm_i 2 rfl))) ggX10_askSize_X10_sizeLent
theorem dX10_askSize_all0 : decode cX10_askSize 0 = .ok (.iload_n 2, 1) ∧ decode cX10_askSize 1 = .ok (.tableswitch 45 1 3 #[27, 33, 39], 27) ∧ decode cX10_askSize 28 = .ok (.aload_n 0, 1) ∧ decode cX10_askSize 29 = .ok (.iload_n 1, 1) ∧ decode cX10_askSize 30 = .ok (.invokevirtual 334, 3) ∧ decode cX10_askSize 33 = .ok (.ireturn, 1) ∧ decode cX10_askSize 34 = .ok (.aload_n 0, 1) ∧ decode cX10_askSize 35 = .ok (.iload_n 1, 1) ∧ decode cX10_askSize 36 = .ok (.invokevirtual 337, 3) ∧ decode cX10_askSize 39 = .ok (.ireturn, 1) ∧ decode cX10_askSize 40 = .ok (.aload_n 0, 1) ∧ decode cX10_askSize 41 = .ok (.iload_n 1, 1) := by decide +kernel
theorem dX10_askSize_0 : decode cX10_askSize 0 = .ok (.iload_n 2, 1) := dX10_askSize_all0.1
theorem dX10_askSize_1 : decode cX10_askSize 1 = .ok (.tableswitch 45 1 3 #[27, 33, 39], 27) := dX10_askSize_all0.2.1
theorem dX10_askSize_28 : decode cX10_askSize 28 = .ok (.aload_n 0, 1) := dX10_askSize_all0.2.2.1
theorem dX10_askSize_29 : decode cX10_askSize 29 = .ok (.iload_n 1, 1) := dX10_askSize_all0.2.2.2.1
theorem dX10_askSize_30 : decode cX10_askSize 30 = .ok (.invokevirtual 334, 3) := dX10_askSize_all0.2.2.2.2.1
theorem dX10_askSize_33 : decode cX10_askSize 33 = .ok (.ireturn, 1) := dX10_askSize_all0.2.2.2.2.2.1
theorem dX10_askSize_34 : decode cX10_askSize 34 = .ok (.aload_n 0, 1) := dX10_askSize_all0.2.2.2.2.2.2.1
theorem dX10_askSize_35 : decode cX10_askSize 35 = .ok (.iload_n 1, 1) := dX10_askSize_all0.2.2.2.2.2.2.2.1
theorem dX10_askSize_36 : decode cX10_askSize 36 = .ok (.invokevirtual 337, 3) := dX10_askSize_all0.2.2.2.2.2.2.2.2.1
theorem dX10_askSize_39 : decode cX10_askSize 39 = .ok (.ireturn, 1) := dX10_askSize_all0.2.2.2.2.2.2.2.2.2.1
theorem dX10_askSize_40 : decode cX10_askSize 40 = .ok (.aload_n 0, 1) := dX10_askSize_all0.2.2.2.2.2.2.2.2.2.2.1
theorem dX10_askSize_41 : decode cX10_askSize 41 = .ok (.iload_n 1, 1) := dX10_askSize_all0.2.2.2.2.2.2.2.2.2.2.2
theorem dX10_askSize_all1 : decode cX10_askSize 42 = .ok (.invokevirtual 340, 3) ∧ decode cX10_askSize 45 = .ok (.ireturn, 1) ∧ decode cX10_askSize 46 = .ok (.aload_n 0, 1) ∧ decode cX10_askSize 47 = .ok (.iload_n 1, 1) ∧ decode cX10_askSize 48 = .ok (.invokevirtual 343, 3) ∧ decode cX10_askSize 51 = .ok (.ireturn, 1) := by decide +kernel
theorem dX10_askSize_42 : decode cX10_askSize 42 = .ok (.invokevirtual 340, 3) := dX10_askSize_all1.1
theorem dX10_askSize_45 : decode cX10_askSize 45 = .ok (.ireturn, 1) := dX10_askSize_all1.2.1
theorem dX10_askSize_46 : decode cX10_askSize 46 = .ok (.aload_n 0, 1) := dX10_askSize_all1.2.2.1
theorem dX10_askSize_47 : decode cX10_askSize 47 = .ok (.iload_n 1, 1) := dX10_askSize_all1.2.2.2.1
theorem dX10_askSize_48 : decode cX10_askSize 48 = .ok (.invokevirtual 343, 3) := dX10_askSize_all1.2.2.2.2.1
theorem dX10_askSize_51 : decode cX10_askSize 51 = .ok (.ireturn, 1) := dX10_askSize_all1.2.2.2.2.2
theorem ggX10_askMark_X10_markOfOwed : GoodIn wsX10_askMark wsX10_markOfOwed := goodIn_s (fun _ h => wm_t (wm_r (wm_l (wm_r (wm_r h))))) Gd_X10_markOfOwed
theorem gX10_askMark_X10_markOfOwed : GoodIn wsX10_askMark (wsV RX10 346 RX10 yX10_markOfOwed wsX10_markOfOwed) := goodIn_V (own := RX10) (idx := 346) (C := RX10) (y := yX10_markOfOwed) (wm_t (wm_l (wm_i 0 rfl))) (wm_t (wm_l (wm_i 1 rfl))) (wm_t (wm_l (wm_i 2 rfl))) (wm_t (wm_l (wm_i 3 rfl))) ggX10_askMark_X10_markOfOwed
theorem ggX10_askMark_X10_markOfStopped : GoodIn wsX10_askMark wsX10_markOfStopped := goodIn_s (fun _ h => wm_t (wm_r (wm_r (wm_l (wm_l h))))) Gd_X10_markOfStopped
theorem gX10_askMark_X10_markOfStopped : GoodIn wsX10_askMark (wsV RX10 349 RX10 yX10_markOfStopped wsX10_markOfStopped) := goodIn_V (own := RX10) (idx := 349) (C := RX10) (y := yX10_markOfStopped) (wm_t (wm_l (wm_i 6 rfl))) (wm_t (wm_l (wm_i 7 rfl))) (wm_t (wm_l (wm_i 8 rfl))) (wm_t (wm_l (wm_i 3 rfl))) ggX10_askMark_X10_markOfStopped
theorem ggX10_askMark_X10_markOfClean : GoodIn wsX10_askMark wsX10_markOfClean := goodIn_s (fun _ h => wm_t (wm_r (wm_r (wm_l (wm_r h))))) Gd_X10_markOfClean
theorem gX10_askMark_X10_markOfClean : GoodIn wsX10_askMark (wsV RX10 352 RX10 yX10_markOfClean wsX10_markOfClean) := goodIn_V (own := RX10) (idx := 352) (C := RX10) (y := yX10_markOfClean) (wm_t (wm_l (wm_i 9 rfl))) (wm_t (wm_l (wm_i 10 rfl))) (wm_t (wm_l (wm_i 11 rfl))) (wm_t (wm_l (wm_i 3 rfl))) ggX10_askMark_X10_markOfClean
theorem ggX10_askMark_X10_markLent : GoodIn wsX10_askMark wsX10_markLent := goodIn_s (fun _ h => wm_t (wm_r (wm_r (wm_r h)))) Gd_X10_markLent
theorem gX10_askMark_X10_markLent : GoodIn wsX10_askMark (wsV RX10 355 RX10 yX10_markLent wsX10_markLent) := goodIn_V (own := RX10) (idx := 355) (C := RX10) (y := yX10_markLent) (wm_t (wm_l (wm_i 4 rfl))) (wm_t (wm_l (wm_i 5 rfl))) (wm_t (wm_r (wm_l (wm_r (wm_r (wm_t (wm_l (wm_i 5 rfl)))))))) (wm_t (wm_l (wm_i 3 rfl))) ggX10_askMark_X10_markLent
theorem dX10_askMark_all0 : decode cX10_askMark 0 = .ok (.iload_n 2, 1) ∧ decode cX10_askMark 1 = .ok (.tableswitch 49 1 4 #[31, 31, 37, 43], 31) ∧ decode cX10_askMark 32 = .ok (.aload_n 0, 1) ∧ decode cX10_askMark 33 = .ok (.iload_n 1, 1) ∧ decode cX10_askMark 34 = .ok (.invokevirtual 346, 3) ∧ decode cX10_askMark 37 = .ok (.ireturn, 1) ∧ decode cX10_askMark 38 = .ok (.aload_n 0, 1) ∧ decode cX10_askMark 39 = .ok (.iload_n 1, 1) ∧ decode cX10_askMark 40 = .ok (.invokevirtual 349, 3) ∧ decode cX10_askMark 43 = .ok (.ireturn, 1) ∧ decode cX10_askMark 44 = .ok (.aload_n 0, 1) ∧ decode cX10_askMark 45 = .ok (.iload_n 1, 1) := by decide +kernel
theorem dX10_askMark_0 : decode cX10_askMark 0 = .ok (.iload_n 2, 1) := dX10_askMark_all0.1
theorem dX10_askMark_1 : decode cX10_askMark 1 = .ok (.tableswitch 49 1 4 #[31, 31, 37, 43], 31) := dX10_askMark_all0.2.1
theorem dX10_askMark_32 : decode cX10_askMark 32 = .ok (.aload_n 0, 1) := dX10_askMark_all0.2.2.1
theorem dX10_askMark_33 : decode cX10_askMark 33 = .ok (.iload_n 1, 1) := dX10_askMark_all0.2.2.2.1
theorem dX10_askMark_34 : decode cX10_askMark 34 = .ok (.invokevirtual 346, 3) := dX10_askMark_all0.2.2.2.2.1
theorem dX10_askMark_37 : decode cX10_askMark 37 = .ok (.ireturn, 1) := dX10_askMark_all0.2.2.2.2.2.1
theorem dX10_askMark_38 : decode cX10_askMark 38 = .ok (.aload_n 0, 1) := dX10_askMark_all0.2.2.2.2.2.2.1
theorem dX10_askMark_39 : decode cX10_askMark 39 = .ok (.iload_n 1, 1) := dX10_askMark_all0.2.2.2.2.2.2.2.1
theorem dX10_askMark_40 : decode cX10_askMark 40 = .ok (.invokevirtual 349, 3) := dX10_askMark_all0.2.2.2.2.2.2.2.2.1
theorem dX10_askMark_43 : decode cX10_askMark 43 = .ok (.ireturn, 1) := dX10_askMark_all0.2.2.2.2.2.2.2.2.2.1
theorem dX10_askMark_44 : decode cX10_askMark 44 = .ok (.aload_n 0, 1) := dX10_askMark_all0.2.2.2.2.2.2.2.2.2.2.1
theorem dX10_askMark_45 : decode cX10_askMark 45 = .ok (.iload_n 1, 1) := dX10_askMark_all0.2.2.2.2.2.2.2.2.2.2.2
theorem dX10_askMark_all1 : decode cX10_askMark 46 = .ok (.invokevirtual 352, 3) ∧ decode cX10_askMark 49 = .ok (.ireturn, 1) ∧ decode cX10_askMark 50 = .ok (.aload_n 0, 1) ∧ decode cX10_askMark 51 = .ok (.iload_n 1, 1) ∧ decode cX10_askMark 52 = .ok (.invokevirtual 355, 3) ∧ decode cX10_askMark 55 = .ok (.ireturn, 1) := by decide +kernel
theorem dX10_askMark_46 : decode cX10_askMark 46 = .ok (.invokevirtual 352, 3) := dX10_askMark_all1.1
theorem dX10_askMark_49 : decode cX10_askMark 49 = .ok (.ireturn, 1) := dX10_askMark_all1.2.1
theorem dX10_askMark_50 : decode cX10_askMark 50 = .ok (.aload_n 0, 1) := dX10_askMark_all1.2.2.1
theorem dX10_askMark_51 : decode cX10_askMark 51 = .ok (.iload_n 1, 1) := dX10_askMark_all1.2.2.2.1
theorem dX10_askMark_52 : decode cX10_askMark 52 = .ok (.invokevirtual 355, 3) := dX10_askMark_all1.2.2.2.2.1
theorem dX10_askMark_55 : decode cX10_askMark 55 = .ok (.ireturn, 1) := dX10_askMark_all1.2.2.2.2.2
theorem dX10_leave_all0 : decode cX10_leave 0 = .ok (.aload_n 0, 1) ∧ decode cX10_leave 1 = .ok (.getfield 307, 3) ∧ decode cX10_leave 4 = .ok (.bipush 16, 2) ∧ decode cX10_leave 6 = .ok (.if_icmp .ge 23, 3) ∧ decode cX10_leave 9 = .ok (.aload_n 0, 1) ∧ decode cX10_leave 10 = .ok (.getfield 72, 3) ∧ decode cX10_leave 13 = .ok (.aload_n 0, 1) ∧ decode cX10_leave 14 = .ok (.getfield 307, 3) ∧ decode cX10_leave 17 = .ok (.iload_n 1, 1) ∧ decode cX10_leave 18 = .ok (.iastore, 1) ∧ decode cX10_leave 19 = .ok (.aload_n 0, 1) ∧ decode cX10_leave 20 = .ok (.dup, 1) := by decide +kernel
theorem dX10_leave_0 : decode cX10_leave 0 = .ok (.aload_n 0, 1) := dX10_leave_all0.1
theorem dX10_leave_1 : decode cX10_leave 1 = .ok (.getfield 307, 3) := dX10_leave_all0.2.1
theorem dX10_leave_4 : decode cX10_leave 4 = .ok (.bipush 16, 2) := dX10_leave_all0.2.2.1
theorem dX10_leave_6 : decode cX10_leave 6 = .ok (.if_icmp .ge 23, 3) := dX10_leave_all0.2.2.2.1
theorem dX10_leave_9 : decode cX10_leave 9 = .ok (.aload_n 0, 1) := dX10_leave_all0.2.2.2.2.1
theorem dX10_leave_10 : decode cX10_leave 10 = .ok (.getfield 72, 3) := dX10_leave_all0.2.2.2.2.2.1
theorem dX10_leave_13 : decode cX10_leave 13 = .ok (.aload_n 0, 1) := dX10_leave_all0.2.2.2.2.2.2.1
theorem dX10_leave_14 : decode cX10_leave 14 = .ok (.getfield 307, 3) := dX10_leave_all0.2.2.2.2.2.2.2.1
theorem dX10_leave_17 : decode cX10_leave 17 = .ok (.iload_n 1, 1) := dX10_leave_all0.2.2.2.2.2.2.2.2.1
theorem dX10_leave_18 : decode cX10_leave 18 = .ok (.iastore, 1) := dX10_leave_all0.2.2.2.2.2.2.2.2.2.1
theorem dX10_leave_19 : decode cX10_leave 19 = .ok (.aload_n 0, 1) := dX10_leave_all0.2.2.2.2.2.2.2.2.2.2.1
theorem dX10_leave_20 : decode cX10_leave 20 = .ok (.dup, 1) := dX10_leave_all0.2.2.2.2.2.2.2.2.2.2.2
theorem dX10_leave_all1 : decode cX10_leave 21 = .ok (.getfield 307, 3) ∧ decode cX10_leave 24 = .ok (.iconst 1, 1) ∧ decode cX10_leave 25 = .ok (.iadd, 1) ∧ decode cX10_leave 26 = .ok (.putfield 307, 3) ∧ decode cX10_leave 29 = .ok (.return_, 1) := by decide +kernel
theorem dX10_leave_21 : decode cX10_leave 21 = .ok (.getfield 307, 3) := dX10_leave_all1.1
theorem dX10_leave_24 : decode cX10_leave 24 = .ok (.iconst 1, 1) := dX10_leave_all1.2.1
theorem dX10_leave_25 : decode cX10_leave 25 = .ok (.iadd, 1) := dX10_leave_all1.2.2.1
theorem dX10_leave_26 : decode cX10_leave 26 = .ok (.putfield 307, 3) := dX10_leave_all1.2.2.2.1
theorem dX10_leave_29 : decode cX10_leave 29 = .ok (.return_, 1) := dX10_leave_all1.2.2.2.2
theorem ggX10_sizeLent_X10_leave : GoodIn wsX10_sizeLent wsX10_leave := goodIn_s (fun _ h => wm_t (wm_r (wm_r h))) Gd_X10_leave
theorem gX10_sizeLent_X10_leave : GoodIn wsX10_sizeLent (wsV RX10 358 RX10 yX10_leave wsX10_leave) := goodIn_V (own := RX10) (idx := 358) (C := RX10) (y := yX10_leave) (wm_t (wm_l (wm_i 2 rfl))) (wm_t (wm_l (wm_i 3 rfl))) (wm_t (wm_l (wm_i 4 rfl))) (wm_t (wm_l (wm_i 5 rfl))) ggX10_sizeLent_X10_leave
theorem dX10_sizeLent_all0 : decode cX10_sizeLent 0 = .ok (.aload_n 0, 1) ∧ decode cX10_sizeLent 1 = .ok (.bipush 10, 2) ∧ decode cX10_sizeLent 3 = .ok (.invokevirtual 358, 3) ∧ decode cX10_sizeLent 6 = .ok (.aload_n 0, 1) ∧ decode cX10_sizeLent 7 = .ok (.getfield 26, 3) ∧ decode cX10_sizeLent 10 = .ok (.getfield 207, 3) ∧ decode cX10_sizeLent 13 = .ok (.iload_n 1, 1) ∧ decode cX10_sizeLent 14 = .ok (.iaload, 1) ∧ decode cX10_sizeLent 15 = .ok (.ireturn, 1) := by decide +kernel
theorem dX10_sizeLent_0 : decode cX10_sizeLent 0 = .ok (.aload_n 0, 1) := dX10_sizeLent_all0.1
theorem dX10_sizeLent_1 : decode cX10_sizeLent 1 = .ok (.bipush 10, 2) := dX10_sizeLent_all0.2.1
theorem dX10_sizeLent_3 : decode cX10_sizeLent 3 = .ok (.invokevirtual 358, 3) := dX10_sizeLent_all0.2.2.1
theorem dX10_sizeLent_6 : decode cX10_sizeLent 6 = .ok (.aload_n 0, 1) := dX10_sizeLent_all0.2.2.2.1
theorem dX10_sizeLent_7 : decode cX10_sizeLent 7 = .ok (.getfield 26, 3) := dX10_sizeLent_all0.2.2.2.2.1
theorem dX10_sizeLent_10 : decode cX10_sizeLent 10 = .ok (.getfield 207, 3) := dX10_sizeLent_all0.2.2.2.2.2.1
theorem dX10_sizeLent_13 : decode cX10_sizeLent 13 = .ok (.iload_n 1, 1) := dX10_sizeLent_all0.2.2.2.2.2.2.1
theorem dX10_sizeLent_14 : decode cX10_sizeLent 14 = .ok (.iaload, 1) := dX10_sizeLent_all0.2.2.2.2.2.2.2.1
theorem dX10_sizeLent_15 : decode cX10_sizeLent 15 = .ok (.ireturn, 1) := dX10_sizeLent_all0.2.2.2.2.2.2.2.2
theorem ggX10_sizeOfOwed_X10_leave : GoodIn wsX10_sizeOfOwed wsX10_leave := goodIn_s (fun _ h => wm_t (wm_r (wm_r (wm_l (wm_l h))))) Gd_X10_leave
theorem gX10_sizeOfOwed_X10_leave : GoodIn wsX10_sizeOfOwed (wsV RX10 358 RX10 yX10_leave wsX10_leave) := goodIn_V (own := RX10) (idx := 358) (C := RX10) (y := yX10_leave) (wm_t (wm_l (wm_i 2 rfl))) (wm_t (wm_l (wm_i 3 rfl))) (wm_t (wm_r (wm_r (wm_l (wm_r (wm_t (wm_l (wm_i 4 rfl)))))))) (wm_t (wm_l (wm_i 4 rfl))) ggX10_sizeOfOwed_X10_leave
theorem ggX10_sizeOfOwed_X10_sizeLent : GoodIn wsX10_sizeOfOwed wsX10_sizeLent := goodIn_s (fun _ h => wm_t (wm_r (wm_r (wm_l (wm_r h))))) Gd_X10_sizeLent
theorem gX10_sizeOfOwed_X10_sizeLent : GoodIn wsX10_sizeOfOwed (wsV RX10 343 RX10 yX10_sizeLent wsX10_sizeLent) := goodIn_V (own := RX10) (idx := 343) (C := RX10) (y := yX10_sizeLent) (wm_t (wm_l (wm_i 5 rfl))) (wm_t (wm_l (wm_i 6 rfl))) (wm_t (wm_l (wm_i 7 rfl))) (wm_t (wm_l (wm_i 4 rfl))) ggX10_sizeOfOwed_X10_sizeLent
theorem ggX10_sizeOfOwed_X8_sumsOn : GoodIn wsX10_sizeOfOwed wsX8_sumsOn := goodIn_s (fun _ h => wm_t (wm_r (wm_r (wm_r h)))) Gd_X8_sumsOn
theorem gX10_sizeOfOwed_X8_sumsOn : GoodIn wsX10_sizeOfOwed (wsV RX10 331 RX8 yX8_sumsOn wsX8_sumsOn) := goodIn_V (own := RX10) (idx := 331) (C := RX8) (y := yX8_sumsOn) (wm_t (wm_l (wm_i 8 rfl))) (wm_t (wm_l (wm_i 9 rfl))) (wm_t (wm_l (wm_i 10 rfl))) (wm_t (wm_l (wm_i 11 rfl))) ggX10_sizeOfOwed_X8_sumsOn
theorem dX10_sizeOfOwed_all0 : decode cX10_sizeOfOwed 0 = .ok (.aload_n 0, 1) ∧ decode cX10_sizeOfOwed 1 = .ok (.bipush 11, 2) ∧ decode cX10_sizeOfOwed 3 = .ok (.invokevirtual 358, 3) ∧ decode cX10_sizeOfOwed 6 = .ok (.aload_n 0, 1) ∧ decode cX10_sizeOfOwed 7 = .ok (.iload_n 1, 1) ∧ decode cX10_sizeOfOwed 8 = .ok (.invokevirtual 343, 3) ∧ decode cX10_sizeOfOwed 11 = .ok (.aload_n 0, 1) ∧ decode cX10_sizeOfOwed 12 = .ok (.getfield 40, 3) ∧ decode cX10_sizeOfOwed 15 = .ok (.iload_n 1, 1) ∧ decode cX10_sizeOfOwed 16 = .ok (.aload_n 0, 1) ∧ decode cX10_sizeOfOwed 17 = .ok (.getfield 298, 3) ∧ decode cX10_sizeOfOwed 20 = .ok (.invokevirtual 331, 3) := by decide +kernel
theorem dX10_sizeOfOwed_0 : decode cX10_sizeOfOwed 0 = .ok (.aload_n 0, 1) := dX10_sizeOfOwed_all0.1
theorem dX10_sizeOfOwed_1 : decode cX10_sizeOfOwed 1 = .ok (.bipush 11, 2) := dX10_sizeOfOwed_all0.2.1
theorem dX10_sizeOfOwed_3 : decode cX10_sizeOfOwed 3 = .ok (.invokevirtual 358, 3) := dX10_sizeOfOwed_all0.2.2.1
theorem dX10_sizeOfOwed_6 : decode cX10_sizeOfOwed 6 = .ok (.aload_n 0, 1) := dX10_sizeOfOwed_all0.2.2.2.1
theorem dX10_sizeOfOwed_7 : decode cX10_sizeOfOwed 7 = .ok (.iload_n 1, 1) := dX10_sizeOfOwed_all0.2.2.2.2.1
theorem dX10_sizeOfOwed_8 : decode cX10_sizeOfOwed 8 = .ok (.invokevirtual 343, 3) := dX10_sizeOfOwed_all0.2.2.2.2.2.1
theorem dX10_sizeOfOwed_11 : decode cX10_sizeOfOwed 11 = .ok (.aload_n 0, 1) := dX10_sizeOfOwed_all0.2.2.2.2.2.2.1
theorem dX10_sizeOfOwed_12 : decode cX10_sizeOfOwed 12 = .ok (.getfield 40, 3) := dX10_sizeOfOwed_all0.2.2.2.2.2.2.2.1
theorem dX10_sizeOfOwed_15 : decode cX10_sizeOfOwed 15 = .ok (.iload_n 1, 1) := dX10_sizeOfOwed_all0.2.2.2.2.2.2.2.2.1
theorem dX10_sizeOfOwed_16 : decode cX10_sizeOfOwed 16 = .ok (.aload_n 0, 1) := dX10_sizeOfOwed_all0.2.2.2.2.2.2.2.2.2.1
theorem dX10_sizeOfOwed_17 : decode cX10_sizeOfOwed 17 = .ok (.getfield 298, 3) := dX10_sizeOfOwed_all0.2.2.2.2.2.2.2.2.2.2.1
theorem dX10_sizeOfOwed_20 : decode cX10_sizeOfOwed 20 = .ok (.invokevirtual 331, 3) := dX10_sizeOfOwed_all0.2.2.2.2.2.2.2.2.2.2.2
theorem dX10_sizeOfOwed_all1 : decode cX10_sizeOfOwed 23 = .ok (.isub, 1) ∧ decode cX10_sizeOfOwed 24 = .ok (.ireturn, 1) := by decide +kernel
theorem dX10_sizeOfOwed_23 : decode cX10_sizeOfOwed 23 = .ok (.isub, 1) := dX10_sizeOfOwed_all1.1
theorem dX10_sizeOfOwed_24 : decode cX10_sizeOfOwed 24 = .ok (.ireturn, 1) := dX10_sizeOfOwed_all1.2
theorem ggX10_sizeOfDeep_X10_leave : GoodIn wsX10_sizeOfDeep wsX10_leave := goodIn_s (fun _ h => wm_t (wm_r (wm_r (wm_l h)))) Gd_X10_leave
theorem gX10_sizeOfDeep_X10_leave : GoodIn wsX10_sizeOfDeep (wsV RX10 358 RX10 yX10_leave wsX10_leave) := goodIn_V (own := RX10) (idx := 358) (C := RX10) (y := yX10_leave) (wm_t (wm_l (wm_i 0 rfl))) (wm_t (wm_l (wm_i 1 rfl))) (wm_t (wm_r (wm_r (wm_r (wm_t (wm_r (wm_r (wm_l (wm_r (wm_t (wm_l (wm_i 4 rfl)))))))))))) (wm_t (wm_l (wm_i 2 rfl))) ggX10_sizeOfDeep_X10_leave
theorem ggX10_sizeOfDeep_X10_sizeOfOwed : GoodIn wsX10_sizeOfDeep wsX10_sizeOfOwed := goodIn_s (fun _ h => wm_t (wm_r (wm_r (wm_r h)))) Gd_X10_sizeOfOwed
theorem gX10_sizeOfDeep_X10_sizeOfOwed : GoodIn wsX10_sizeOfDeep (wsV RX10 334 RX10 yX10_sizeOfOwed wsX10_sizeOfOwed) := goodIn_V (own := RX10) (idx := 334) (C := RX10) (y := yX10_sizeOfOwed) (wm_t (wm_l (wm_i 3 rfl))) (wm_t (wm_l (wm_i 4 rfl))) (wm_t (wm_l (wm_i 5 rfl))) (wm_t (wm_l (wm_i 2 rfl))) ggX10_sizeOfDeep_X10_sizeOfOwed
theorem dX10_sizeOfDeep_all0 : decode cX10_sizeOfDeep 0 = .ok (.aload_n 0, 1) ∧ decode cX10_sizeOfDeep 1 = .ok (.bipush 12, 2) ∧ decode cX10_sizeOfDeep 3 = .ok (.invokevirtual 358, 3) ∧ decode cX10_sizeOfDeep 6 = .ok (.aload_n 0, 1) ∧ decode cX10_sizeOfDeep 7 = .ok (.iload_n 1, 1) ∧ decode cX10_sizeOfDeep 8 = .ok (.invokevirtual 334, 3) ∧ decode cX10_sizeOfDeep 11 = .ok (.iconst 2, 1) ∧ decode cX10_sizeOfDeep 12 = .ok (.idiv, 1) ∧ decode cX10_sizeOfDeep 13 = .ok (.ireturn, 1) := by decide +kernel
theorem dX10_sizeOfDeep_0 : decode cX10_sizeOfDeep 0 = .ok (.aload_n 0, 1) := dX10_sizeOfDeep_all0.1
theorem dX10_sizeOfDeep_1 : decode cX10_sizeOfDeep 1 = .ok (.bipush 12, 2) := dX10_sizeOfDeep_all0.2.1
theorem dX10_sizeOfDeep_3 : decode cX10_sizeOfDeep 3 = .ok (.invokevirtual 358, 3) := dX10_sizeOfDeep_all0.2.2.1
theorem dX10_sizeOfDeep_6 : decode cX10_sizeOfDeep 6 = .ok (.aload_n 0, 1) := dX10_sizeOfDeep_all0.2.2.2.1
theorem dX10_sizeOfDeep_7 : decode cX10_sizeOfDeep 7 = .ok (.iload_n 1, 1) := dX10_sizeOfDeep_all0.2.2.2.2.1
theorem dX10_sizeOfDeep_8 : decode cX10_sizeOfDeep 8 = .ok (.invokevirtual 334, 3) := dX10_sizeOfDeep_all0.2.2.2.2.2.1
theorem dX10_sizeOfDeep_11 : decode cX10_sizeOfDeep 11 = .ok (.iconst 2, 1) := dX10_sizeOfDeep_all0.2.2.2.2.2.2.1
theorem dX10_sizeOfDeep_12 : decode cX10_sizeOfDeep 12 = .ok (.idiv, 1) := dX10_sizeOfDeep_all0.2.2.2.2.2.2.2.1
theorem dX10_sizeOfDeep_13 : decode cX10_sizeOfDeep 13 = .ok (.ireturn, 1) := dX10_sizeOfDeep_all0.2.2.2.2.2.2.2.2
theorem ggX10_sizeOfStopped_X10_leave : GoodIn wsX10_sizeOfStopped wsX10_leave := goodIn_s (fun _ h => wm_t (wm_r (wm_r (wm_l h)))) Gd_X10_leave
theorem gX10_sizeOfStopped_X10_leave : GoodIn wsX10_sizeOfStopped (wsV RX10 358 RX10 yX10_leave wsX10_leave) := goodIn_V (own := RX10) (idx := 358) (C := RX10) (y := yX10_leave) (wm_t (wm_l (wm_i 0 rfl))) (wm_t (wm_l (wm_i 1 rfl))) (wm_t (wm_r (wm_r (wm_r (wm_t (wm_r (wm_r (wm_r (wm_t (wm_l (wm_i 6 rfl))))))))))) (wm_t (wm_l (wm_i 2 rfl))) ggX10_sizeOfStopped_X10_leave
theorem ggX10_sizeOfStopped_X10_markOfStopped : GoodIn wsX10_sizeOfStopped wsX10_markOfStopped := goodIn_s (fun _ h => wm_t (wm_r (wm_r (wm_r h)))) Gd_X10_markOfStopped
theorem gX10_sizeOfStopped_X10_markOfStopped : GoodIn wsX10_sizeOfStopped (wsV RX10 349 RX10 yX10_markOfStopped wsX10_markOfStopped) := goodIn_V (own := RX10) (idx := 349) (C := RX10) (y := yX10_markOfStopped) (wm_t (wm_l (wm_i 3 rfl))) (wm_t (wm_l (wm_i 4 rfl))) (wm_t (wm_l (wm_i 5 rfl))) (wm_t (wm_l (wm_i 2 rfl))) ggX10_sizeOfStopped_X10_markOfStopped
theorem dX10_sizeOfStopped_all0 : decode cX10_sizeOfStopped 0 = .ok (.aload_n 0, 1) ∧ decode cX10_sizeOfStopped 1 = .ok (.bipush 13, 2) ∧ decode cX10_sizeOfStopped 3 = .ok (.invokevirtual 358, 3) ∧ decode cX10_sizeOfStopped 6 = .ok (.aload_n 0, 1) ∧ decode cX10_sizeOfStopped 7 = .ok (.iload_n 1, 1) ∧ decode cX10_sizeOfStopped 8 = .ok (.invokevirtual 349, 3) ∧ decode cX10_sizeOfStopped 11 = .ok (.ineg, 1) ∧ decode cX10_sizeOfStopped 12 = .ok (.ireturn, 1) := by decide +kernel
theorem dX10_sizeOfStopped_0 : decode cX10_sizeOfStopped 0 = .ok (.aload_n 0, 1) := dX10_sizeOfStopped_all0.1
theorem dX10_sizeOfStopped_1 : decode cX10_sizeOfStopped 1 = .ok (.bipush 13, 2) := dX10_sizeOfStopped_all0.2.1
theorem dX10_sizeOfStopped_3 : decode cX10_sizeOfStopped 3 = .ok (.invokevirtual 358, 3) := dX10_sizeOfStopped_all0.2.2.1
theorem dX10_sizeOfStopped_6 : decode cX10_sizeOfStopped 6 = .ok (.aload_n 0, 1) := dX10_sizeOfStopped_all0.2.2.2.1
theorem dX10_sizeOfStopped_7 : decode cX10_sizeOfStopped 7 = .ok (.iload_n 1, 1) := dX10_sizeOfStopped_all0.2.2.2.2.1
theorem dX10_sizeOfStopped_8 : decode cX10_sizeOfStopped 8 = .ok (.invokevirtual 349, 3) := dX10_sizeOfStopped_all0.2.2.2.2.2.1
theorem dX10_sizeOfStopped_11 : decode cX10_sizeOfStopped 11 = .ok (.ineg, 1) := dX10_sizeOfStopped_all0.2.2.2.2.2.2.1
theorem dX10_sizeOfStopped_12 : decode cX10_sizeOfStopped 12 = .ok (.ireturn, 1) := dX10_sizeOfStopped_all0.2.2.2.2.2.2.2
theorem ggX10_markLent_X10_leave : GoodIn wsX10_markLent wsX10_leave := goodIn_s (fun _ h => wm_t (wm_r (wm_r (wm_l h)))) Gd_X10_leave
theorem gX10_markLent_X10_leave : GoodIn wsX10_markLent (wsV RX10 358 RX10 yX10_leave wsX10_leave) := goodIn_V (own := RX10) (idx := 358) (C := RX10) (y := yX10_leave) (wm_t (wm_l (wm_i 4 rfl))) (wm_t (wm_l (wm_i 5 rfl))) (wm_t (wm_l (wm_i 6 rfl))) (wm_t (wm_l (wm_i 7 rfl))) ggX10_markLent_X10_leave
theorem ggX10_markLent_X7_ownerOf : GoodIn wsX10_markLent wsX7_ownerOf := goodIn_s (fun _ h => wm_t (wm_r (wm_r (wm_r h)))) Gd_X7_ownerOf
theorem gX10_markLent_X7_ownerOf : GoodIn wsX10_markLent (wsV RX10 193 RX7 yX7_ownerOf wsX7_ownerOf) := goodIn_V (own := RX10) (idx := 193) (C := RX7) (y := yX7_ownerOf) (wm_t (wm_l (wm_i 8 rfl))) (wm_t (wm_l (wm_i 9 rfl))) (wm_t (wm_l (wm_i 10 rfl))) (wm_t (wm_l (wm_i 11 rfl))) ggX10_markLent_X7_ownerOf
theorem dX10_markLent_all0 : decode cX10_markLent 0 = .ok (.aload_n 0, 1) ∧ decode cX10_markLent 1 = .ok (.bipush 20, 2) ∧ decode cX10_markLent 3 = .ok (.invokevirtual 358, 3) ∧ decode cX10_markLent 6 = .ok (.aload_n 0, 1) ∧ decode cX10_markLent 7 = .ok (.getfield 33, 3) ∧ decode cX10_markLent 10 = .ok (.iload_n 1, 1) ∧ decode cX10_markLent 11 = .ok (.aload_n 0, 1) ∧ decode cX10_markLent 12 = .ok (.getfield 26, 3) ∧ decode cX10_markLent 15 = .ok (.getfield 190, 3) ∧ decode cX10_markLent 18 = .ok (.iload_n 1, 1) ∧ decode cX10_markLent 19 = .ok (.iaload, 1) ∧ decode cX10_markLent 20 = .ok (.aload_n 0, 1) := by decide +kernel
theorem dX10_markLent_0 : decode cX10_markLent 0 = .ok (.aload_n 0, 1) := dX10_markLent_all0.1
theorem dX10_markLent_1 : decode cX10_markLent 1 = .ok (.bipush 20, 2) := dX10_markLent_all0.2.1
theorem dX10_markLent_3 : decode cX10_markLent 3 = .ok (.invokevirtual 358, 3) := dX10_markLent_all0.2.2.1
theorem dX10_markLent_6 : decode cX10_markLent 6 = .ok (.aload_n 0, 1) := dX10_markLent_all0.2.2.2.1
theorem dX10_markLent_7 : decode cX10_markLent 7 = .ok (.getfield 33, 3) := dX10_markLent_all0.2.2.2.2.1
theorem dX10_markLent_10 : decode cX10_markLent 10 = .ok (.iload_n 1, 1) := dX10_markLent_all0.2.2.2.2.2.1
theorem dX10_markLent_11 : decode cX10_markLent 11 = .ok (.aload_n 0, 1) := dX10_markLent_all0.2.2.2.2.2.2.1
theorem dX10_markLent_12 : decode cX10_markLent 12 = .ok (.getfield 26, 3) := dX10_markLent_all0.2.2.2.2.2.2.2.1
theorem dX10_markLent_15 : decode cX10_markLent 15 = .ok (.getfield 190, 3) := dX10_markLent_all0.2.2.2.2.2.2.2.2.1
theorem dX10_markLent_18 : decode cX10_markLent 18 = .ok (.iload_n 1, 1) := dX10_markLent_all0.2.2.2.2.2.2.2.2.2.1
theorem dX10_markLent_19 : decode cX10_markLent 19 = .ok (.iaload, 1) := dX10_markLent_all0.2.2.2.2.2.2.2.2.2.2.1
theorem dX10_markLent_20 : decode cX10_markLent 20 = .ok (.aload_n 0, 1) := dX10_markLent_all0.2.2.2.2.2.2.2.2.2.2.2
theorem dX10_markLent_all1 : decode cX10_markLent 21 = .ok (.getfield 298, 3) ∧ decode cX10_markLent 24 = .ok (.aload_n 0, 1) ∧ decode cX10_markLent 25 = .ok (.getfield 298, 3) ∧ decode cX10_markLent 28 = .ok (.invokevirtual 193, 3) ∧ decode cX10_markLent 31 = .ok (.ireturn, 1) := by decide +kernel
theorem dX10_markLent_21 : decode cX10_markLent 21 = .ok (.getfield 298, 3) := dX10_markLent_all1.1
theorem dX10_markLent_24 : decode cX10_markLent 24 = .ok (.aload_n 0, 1) := dX10_markLent_all1.2.1
theorem dX10_markLent_25 : decode cX10_markLent 25 = .ok (.getfield 298, 3) := dX10_markLent_all1.2.2.1
theorem dX10_markLent_28 : decode cX10_markLent 28 = .ok (.invokevirtual 193, 3) := dX10_markLent_all1.2.2.2.1
theorem dX10_markLent_31 : decode cX10_markLent 31 = .ok (.ireturn, 1) := dX10_markLent_all1.2.2.2.2
theorem ggX10_markOfOwed_X10_leave : GoodIn wsX10_markOfOwed wsX10_leave := goodIn_s (fun _ h => wm_t (wm_r (wm_r (wm_l h)))) Gd_X10_leave
theorem gX10_markOfOwed_X10_leave : GoodIn wsX10_markOfOwed (wsV RX10 358 RX10 yX10_leave wsX10_leave) := goodIn_V (own := RX10) (idx := 358) (C := RX10) (y := yX10_leave) (wm_t (wm_l (wm_i 0 rfl))) (wm_t (wm_l (wm_i 1 rfl))) (wm_t (wm_r (wm_r (wm_r (wm_t (wm_l (wm_i 6 rfl))))))) (wm_t (wm_l (wm_i 2 rfl))) ggX10_markOfOwed_X10_leave
theorem ggX10_markOfOwed_X10_markLent : GoodIn wsX10_markOfOwed wsX10_markLent := goodIn_s (fun _ h => wm_t (wm_r (wm_r (wm_r h)))) Gd_X10_markLent
theorem gX10_markOfOwed_X10_markLent : GoodIn wsX10_markOfOwed (wsV RX10 355 RX10 yX10_markLent wsX10_markLent) := goodIn_V (own := RX10) (idx := 355) (C := RX10) (y := yX10_markLent) (wm_t (wm_l (wm_i 3 rfl))) (wm_t (wm_l (wm_i 4 rfl))) (wm_t (wm_l (wm_i 5 rfl))) (wm_t (wm_l (wm_i 2 rfl))) ggX10_markOfOwed_X10_markLent
theorem dX10_markOfOwed_all0 : decode cX10_markOfOwed 0 = .ok (.aload_n 0, 1) ∧ decode cX10_markOfOwed 1 = .ok (.bipush 21, 2) ∧ decode cX10_markOfOwed 3 = .ok (.invokevirtual 358, 3) ∧ decode cX10_markOfOwed 6 = .ok (.aload_n 0, 1) ∧ decode cX10_markOfOwed 7 = .ok (.iload_n 1, 1) ∧ decode cX10_markOfOwed 8 = .ok (.invokevirtual 355, 3) ∧ decode cX10_markOfOwed 11 = .ok (.bipush 100, 2) ∧ decode cX10_markOfOwed 13 = .ok (.iadd, 1) ∧ decode cX10_markOfOwed 14 = .ok (.ireturn, 1) := by decide +kernel
theorem dX10_markOfOwed_0 : decode cX10_markOfOwed 0 = .ok (.aload_n 0, 1) := dX10_markOfOwed_all0.1
theorem dX10_markOfOwed_1 : decode cX10_markOfOwed 1 = .ok (.bipush 21, 2) := dX10_markOfOwed_all0.2.1
theorem dX10_markOfOwed_3 : decode cX10_markOfOwed 3 = .ok (.invokevirtual 358, 3) := dX10_markOfOwed_all0.2.2.1
theorem dX10_markOfOwed_6 : decode cX10_markOfOwed 6 = .ok (.aload_n 0, 1) := dX10_markOfOwed_all0.2.2.2.1
theorem dX10_markOfOwed_7 : decode cX10_markOfOwed 7 = .ok (.iload_n 1, 1) := dX10_markOfOwed_all0.2.2.2.2.1
theorem dX10_markOfOwed_8 : decode cX10_markOfOwed 8 = .ok (.invokevirtual 355, 3) := dX10_markOfOwed_all0.2.2.2.2.2.1
theorem dX10_markOfOwed_11 : decode cX10_markOfOwed 11 = .ok (.bipush 100, 2) := dX10_markOfOwed_all0.2.2.2.2.2.2.1
theorem dX10_markOfOwed_13 : decode cX10_markOfOwed 13 = .ok (.iadd, 1) := dX10_markOfOwed_all0.2.2.2.2.2.2.2.1
theorem dX10_markOfOwed_14 : decode cX10_markOfOwed 14 = .ok (.ireturn, 1) := dX10_markOfOwed_all0.2.2.2.2.2.2.2.2
theorem ggX10_markOfStopped_X10_leave : GoodIn wsX10_markOfStopped wsX10_leave := goodIn_s (fun _ h => wm_t (wm_r (wm_r (wm_l h)))) Gd_X10_leave
theorem gX10_markOfStopped_X10_leave : GoodIn wsX10_markOfStopped (wsV RX10 358 RX10 yX10_leave wsX10_leave) := goodIn_V (own := RX10) (idx := 358) (C := RX10) (y := yX10_leave) (wm_t (wm_l (wm_i 0 rfl))) (wm_t (wm_l (wm_i 1 rfl))) (wm_t (wm_r (wm_r (wm_r (wm_t (wm_l (wm_i 6 rfl))))))) (wm_t (wm_l (wm_i 2 rfl))) ggX10_markOfStopped_X10_leave
theorem ggX10_markOfStopped_X10_markLent : GoodIn wsX10_markOfStopped wsX10_markLent := goodIn_s (fun _ h => wm_t (wm_r (wm_r (wm_r h)))) Gd_X10_markLent
theorem gX10_markOfStopped_X10_markLent : GoodIn wsX10_markOfStopped (wsV RX10 355 RX10 yX10_markLent wsX10_markLent) := goodIn_V (own := RX10) (idx := 355) (C := RX10) (y := yX10_markLent) (wm_t (wm_l (wm_i 3 rfl))) (wm_t (wm_l (wm_i 4 rfl))) (wm_t (wm_l (wm_i 5 rfl))) (wm_t (wm_l (wm_i 2 rfl))) ggX10_markOfStopped_X10_markLent
theorem dX10_markOfStopped_all0 : decode cX10_markOfStopped 0 = .ok (.aload_n 0, 1) ∧ decode cX10_markOfStopped 1 = .ok (.bipush 22, 2) ∧ decode cX10_markOfStopped 3 = .ok (.invokevirtual 358, 3) ∧ decode cX10_markOfStopped 6 = .ok (.aload_n 0, 1) ∧ decode cX10_markOfStopped 7 = .ok (.iload_n 1, 1) ∧ decode cX10_markOfStopped 8 = .ok (.invokevirtual 355, 3) ∧ decode cX10_markOfStopped 11 = .ok (.sipush 1000, 3) ∧ decode cX10_markOfStopped 14 = .ok (.iadd, 1) ∧ decode cX10_markOfStopped 15 = .ok (.ireturn, 1) := by decide +kernel
theorem dX10_markOfStopped_0 : decode cX10_markOfStopped 0 = .ok (.aload_n 0, 1) := dX10_markOfStopped_all0.1
theorem dX10_markOfStopped_1 : decode cX10_markOfStopped 1 = .ok (.bipush 22, 2) := dX10_markOfStopped_all0.2.1
theorem dX10_markOfStopped_3 : decode cX10_markOfStopped 3 = .ok (.invokevirtual 358, 3) := dX10_markOfStopped_all0.2.2.1
theorem dX10_markOfStopped_6 : decode cX10_markOfStopped 6 = .ok (.aload_n 0, 1) := dX10_markOfStopped_all0.2.2.2.1
theorem dX10_markOfStopped_7 : decode cX10_markOfStopped 7 = .ok (.iload_n 1, 1) := dX10_markOfStopped_all0.2.2.2.2.1
theorem dX10_markOfStopped_8 : decode cX10_markOfStopped 8 = .ok (.invokevirtual 355, 3) := dX10_markOfStopped_all0.2.2.2.2.2.1
theorem dX10_markOfStopped_11 : decode cX10_markOfStopped 11 = .ok (.sipush 1000, 3) := dX10_markOfStopped_all0.2.2.2.2.2.2.1
theorem dX10_markOfStopped_14 : decode cX10_markOfStopped 14 = .ok (.iadd, 1) := dX10_markOfStopped_all0.2.2.2.2.2.2.2.1
theorem dX10_markOfStopped_15 : decode cX10_markOfStopped 15 = .ok (.ireturn, 1) := dX10_markOfStopped_all0.2.2.2.2.2.2.2.2
theorem ggX10_markOfClean_X10_leave : GoodIn wsX10_markOfClean wsX10_leave := goodIn_s (fun _ h => wm_t (wm_r (wm_r (wm_l (wm_l h))))) Gd_X10_leave
theorem gX10_markOfClean_X10_leave : GoodIn wsX10_markOfClean (wsV RX10 358 RX10 yX10_leave wsX10_leave) := goodIn_V (own := RX10) (idx := 358) (C := RX10) (y := yX10_leave) (wm_t (wm_l (wm_i 0 rfl))) (wm_t (wm_l (wm_i 1 rfl))) (wm_t (wm_r (wm_r (wm_l (wm_r (wm_t (wm_l (wm_i 6 rfl)))))))) (wm_t (wm_l (wm_i 2 rfl))) ggX10_markOfClean_X10_leave
theorem ggX10_markOfClean_X10_markLent : GoodIn wsX10_markOfClean wsX10_markLent := goodIn_s (fun _ h => wm_t (wm_r (wm_r (wm_l (wm_r h))))) Gd_X10_markLent
theorem gX10_markOfClean_X10_markLent : GoodIn wsX10_markOfClean (wsV RX10 355 RX10 yX10_markLent wsX10_markLent) := goodIn_V (own := RX10) (idx := 355) (C := RX10) (y := yX10_markLent) (wm_t (wm_l (wm_i 3 rfl))) (wm_t (wm_l (wm_i 4 rfl))) (wm_t (wm_l (wm_i 5 rfl))) (wm_t (wm_l (wm_i 2 rfl))) ggX10_markOfClean_X10_markLent
theorem ggX10_markOfClean_X10_sizeLent : GoodIn wsX10_markOfClean wsX10_sizeLent := goodIn_s (fun _ h => wm_t (wm_r (wm_r (wm_r h)))) Gd_X10_sizeLent
theorem gX10_markOfClean_X10_sizeLent : GoodIn wsX10_markOfClean (wsV RX10 343 RX10 yX10_sizeLent wsX10_sizeLent) := goodIn_V (own := RX10) (idx := 343) (C := RX10) (y := yX10_sizeLent) (wm_t (wm_l (wm_i 6 rfl))) (wm_t (wm_l (wm_i 7 rfl))) (wm_t (wm_l (wm_i 8 rfl))) (wm_t (wm_l (wm_i 2 rfl))) ggX10_markOfClean_X10_sizeLent
theorem dX10_markOfClean_all0 : decode cX10_markOfClean 0 = .ok (.aload_n 0, 1) ∧ decode cX10_markOfClean 1 = .ok (.bipush 23, 2) ∧ decode cX10_markOfClean 3 = .ok (.invokevirtual 358, 3) ∧ decode cX10_markOfClean 6 = .ok (.aload_n 0, 1) ∧ decode cX10_markOfClean 7 = .ok (.iload_n 1, 1) ∧ decode cX10_markOfClean 8 = .ok (.invokevirtual 355, 3) ∧ decode cX10_markOfClean 11 = .ok (.aload_n 0, 1) ∧ decode cX10_markOfClean 12 = .ok (.iload_n 1, 1) ∧ decode cX10_markOfClean 13 = .ok (.invokevirtual 343, 3) ∧ decode cX10_markOfClean 16 = .ok (.iadd, 1) ∧ decode cX10_markOfClean 17 = .ok (.ireturn, 1) := by decide +kernel
theorem dX10_markOfClean_0 : decode cX10_markOfClean 0 = .ok (.aload_n 0, 1) := dX10_markOfClean_all0.1
theorem dX10_markOfClean_1 : decode cX10_markOfClean 1 = .ok (.bipush 23, 2) := dX10_markOfClean_all0.2.1
theorem dX10_markOfClean_3 : decode cX10_markOfClean 3 = .ok (.invokevirtual 358, 3) := dX10_markOfClean_all0.2.2.1
theorem dX10_markOfClean_6 : decode cX10_markOfClean 6 = .ok (.aload_n 0, 1) := dX10_markOfClean_all0.2.2.2.1
theorem dX10_markOfClean_7 : decode cX10_markOfClean 7 = .ok (.iload_n 1, 1) := dX10_markOfClean_all0.2.2.2.2.1
theorem dX10_markOfClean_8 : decode cX10_markOfClean 8 = .ok (.invokevirtual 355, 3) := dX10_markOfClean_all0.2.2.2.2.2.1
theorem dX10_markOfClean_11 : decode cX10_markOfClean 11 = .ok (.aload_n 0, 1) := dX10_markOfClean_all0.2.2.2.2.2.2.1
theorem dX10_markOfClean_12 : decode cX10_markOfClean 12 = .ok (.iload_n 1, 1) := dX10_markOfClean_all0.2.2.2.2.2.2.2.1
theorem dX10_markOfClean_13 : decode cX10_markOfClean 13 = .ok (.invokevirtual 343, 3) := dX10_markOfClean_all0.2.2.2.2.2.2.2.2.1
theorem dX10_markOfClean_16 : decode cX10_markOfClean 16 = .ok (.iadd, 1) := dX10_markOfClean_all0.2.2.2.2.2.2.2.2.2.1
theorem dX10_markOfClean_17 : decode cX10_markOfClean 17 = .ok (.ireturn, 1) := dX10_markOfClean_all0.2.2.2.2.2.2.2.2.2.2

/-- the shares of the people of a set, added -/
def brV (p : Nat → Nat → Int) (set : Int32) (o : Nat) : Nat → Int
  | 0 => 0
  | n + 1 => if bt set n = true then brV p set o n + shF p n o else brV p set o n
theorem brV_s (p : Nat → Nat → Int) (set : Int32) (o n : Nat) : brV p set o (n + 1) = if bt set n = true then brV p set o n + shF p n o else brV p set o n := rfl
theorem brV_0 (p : Nat → Nat → Int) (o n : Nat) : brV p 0 o n = 0 := by
  induction n with
  | zero => rfl
  | succ n ih => rw [brV_s, b_0, if_neg (by decide)]; exact ih
/-- first owners are owners; papers go to owners -/
def okF (cn : Int32) (fo : Nat → Int32) : Prop := ∀ j : Nat, (j : Int) < cn.toInt → 0 ≤ (fo j).toInt ∧ (fo j).toInt < 20
def okG (pn : Int32) (po : Nat → Int32) : Prop := ∀ j : Nat, (j : Int) < pn.toInt → 0 ≤ (po j).toInt ∧ (po j).toInt < 20
theorem owV_rng {pk pf po pd pe pr : Nat → Int32} {pn k d n x : Int32} (ho : okO pn pr) (hg : okG pn po) (h0 : 0 ≤ x.toInt) (h1 : x.toInt < 20) (m : Nat) (hm : (m : Int) ≤ pn.toInt) : 0 ≤ (owV pk pf po pd pe pr k d n x m).toInt ∧ (owV pk pf po pd pe pr k d n x m).toInt < 20 := by
  induction m with
  | zero => exact ⟨h0, h1⟩
  | succ m ih =>
    rw [owV_s]
    split
    · have a := ho m (by omega)
      have c := i_cl a.1
      exact hg _ (by omega)
    · exact ih (by omega)
/-- the kind: barred, or by what is owed -/
def kdF (br : Int) (owed worth : Int32) : Int32 := if 500000 ≤ br then 3 else if worth.toInt < owed.toInt then 2 else if 0 < owed.toInt then 1 else 4
/-- a body leaves its number -/
def lvT (s : Int32 × (Nat → Int32)) (a : Int32) : Int32 × (Nat → Int32) := if s.1.toInt < 16 then (s.1 + 1, upd s.2 s.1.toNatClampNeg a) else s
theorem lvT_y {tn v a : Int32} {tr : Nat → Int32} (h : tn.toInt < 16) (e : v = tn + 1) : (v, upd tr tn.toNatClampNeg a) = lvT (tn, tr) a := by
  unfold lvT
  rw [if_pos (show (tn, tr).1.toInt < 16 from h), e]
theorem lvT_n {tn a : Int32} {tr : Nat → Int32} (h : ¬ tn.toInt < 16) : (tn, tr) = lvT (tn, tr) a := by
  unfold lvT
  rw [if_neg (show ¬ (tn, tr).1.toInt < 16 from h)]


theorem okA_q {pt ps ho hc hp hs ha re : Nat → Int32} {d : Int32} {n : Nat} (h : pcOk pt ps ho hc hp hs d n) (hL : okL pt ha re) : okp (ppF ho hc hp hs d n) := fun o c h1 h2 => by rw [← pcOk_at h h1 h2]; exact hL.1.2 _ (by omega)

set_option maxHeartbeats 4000000 in
set_option maxRecDepth 100000 in
theorem ct_X10_isBarred (l : Launch) (D : va_G) (cI cY cJ cQ : ClassId) (sz : Nat) (ad : Nat → Nat) (tn td lf cn pn hn lc : Int32) (fo pk pf po pd pe pr ho hc hp hs pt ps ha re lp la lb : Nat → Int32) (k : Int32) (d : Int32)  (h1 : cn.toInt ≤ 12) (h2 : 0 ≤ k.toInt) (h3 : k.toInt < cn.toInt) (h4 : 0 ≤ pn.toInt) (h5 : pn.toInt ≤ 40) (h6 : okO pn pr) (h7 : 0 ≤ hn.toInt) (h8 : hn.toInt ≤ 40) (h9 : okH hn ho hc) (h10 : okV hn hp) (h11 : 0 ≤ lc.toInt) (h12 : lc.toInt ≤ 20) (h13 : okF cn fo) (h14 : okG pn po)  : Met l yX10_isBarred wsX10_isBarred ({ frames := 15, cells := 0, slots := 0, locals := 445 }) (cPre D (ty4 cI cY cJ cQ) [(oC10 ad tn td lf), (oC1 ad cn), (aI cI (ad 31) 12 fo), (oC7 ad pn), (aI cI (ad 36) 40 pk), (aI cI (ad 37) 40 pf), (aI cI (ad 38) 40 po), (aI cI (ad 39) 40 pd), (aI cI (ad 40) 40 pe), (aI cI (ad 41) 40 pr), (oC3 ad hn), (aI cI (ad 23) 40 ho), (aI cI (ad 24) 40 hc), (aI cI (ad 25) 40 hp), (aI cI (ad 26) 40 hs), (aI cI (ad 27) 200 pt), (aI cI (ad 28) 200 ps), (aI cI (ad 29) 20 ha), (aI cI (ad 30) 10 re), (oC4 ad lc), (aI cI (ad 63) 20 lp), (aI cI (ad 64) 20 la), (aI cI (ad 65) 20 lb)] sz [.ref (ad 0), .int k, .int d]) (va_Qi (fun (r : Int32) (u : (Nat → Int32) × (Nat → Int32) × (Nat → Int32) × (Nat → Int32)) => r = if 500000 ≤ brV (ppF ho hc hp hs d hn.toNatClampNeg) (poV lp la lb d lc.toNatClampNeg) (owV pk pf po pd pe pr k d d (fo k.toNatClampNeg) pn.toNatClampNeg).toNatClampNeg 10 then 1 else 0) (cB D (ty4 cI cY cJ cQ) (fun (u : (Nat → Int32) × (Nat → Int32) × (Nat → Int32) × (Nat → Int32)) => [(oC10 ad tn td lf), (oC1 ad cn), (aI cI (ad 31) 12 fo), (oC7 ad pn), (aI cI (ad 36) 40 pk), (aI cI (ad 37) 40 pf), (aI cI (ad 38) 40 po), (aI cI (ad 39) 40 pd), (aI cI (ad 40) 40 pe), (aI cI (ad 41) 40 pr), (oC3 ad hn), (aI cI (ad 23) 40 ho), (aI cI (ad 24) 40 hc), (aI cI (ad 25) 40 hp), (aI cI (ad 26) 40 hs), (aI cI (ad 27) 200 u.1), (aI cI (ad 28) 200 u.2.1), (aI cI (ad 29) 20 u.2.2.1), (aI cI (ad 30) 10 u.2.2.2), (oC4 ad lc), (aI cI (ad 63) 20 lp), (aI cI (ad 64) 20 la), (aI cI (ad 65) 20 lb)]) (va_A [(oC10 ad tn td lf), (oC1 ad cn), (aI cI (ad 31) 12 fo), (oC7 ad pn), (aI cI (ad 36) 40 pk), (aI cI (ad 37) 40 pf), (aI cI (ad 38) 40 po), (aI cI (ad 39) 40 pd), (aI cI (ad 40) 40 pe), (aI cI (ad 41) 40 pr), (oC3 ad hn), (aI cI (ad 23) 40 ho), (aI cI (ad 24) 40 hc), (aI cI (ad 25) 40 hp), (aI cI (ad 26) 40 hs), (aI cI (ad 27) 200 pt), (aI cI (ad 28) 200 ps), (aI cI (ad 29) 20 ha), (aI cI (ad 30) 10 re), (oC4 ad lc), (aI cI (ad 63) 20 lp), (aI cI (ad 64) 20 la), (aI cI (ad 65) 20 lb)] sz)) (va_A [(oC10 ad tn td lf), (oC1 ad cn), (aI cI (ad 31) 12 fo), (oC7 ad pn), (aI cI (ad 36) 40 pk), (aI cI (ad 37) 40 pf), (aI cI (ad 38) 40 po), (aI cI (ad 39) 40 pd), (aI cI (ad 40) 40 pe), (aI cI (ad 41) 40 pr), (oC3 ad hn), (aI cI (ad 23) 40 ho), (aI cI (ad 24) 40 hc), (aI cI (ad 25) 40 hp), (aI cI (ad 26) 40 hs), (aI cI (ad 27) 200 pt), (aI cI (ad 28) 200 ps), (aI cI (ad 29) 20 ha), (aI cI (ad 30) 10 re), (oC4 ad lc), (aI cI (ad 63) 20 lp), (aI cI (ad 64) 20 la), (aI cI (ad 65) 20 lb)] sz)) 0 0 (va_A [(oC10 ad tn td lf), (oC1 ad cn), (aI cI (ad 31) 12 fo), (oC7 ad pn), (aI cI (ad 36) 40 pk), (aI cI (ad 37) 40 pf), (aI cI (ad 38) 40 po), (aI cI (ad 39) 40 pd), (aI cI (ad 40) 40 pe), (aI cI (ad 41) 40 pr), (oC3 ad hn), (aI cI (ad 23) 40 ho), (aI cI (ad 24) 40 hc), (aI cI (ad 25) 40 hp), (aI cI (ad 26) 40 hs), (aI cI (ad 27) 200 pt), (aI cI (ad 28) 200 ps), (aI cI (ad 29) 20 ha), (aI cI (ad 30) 10 re), (oC4 ad lc), (aI cI (ad 63) 20 lp), (aI cI (ad 64) 20 la), (aI cI (ad 65) 20 lb)] sz) := by
  refine Met.ofW (cc := cX10_isBarred) (maxL := 8) (ret := (some .boolean)) (by decide) rfl ?_
  intro p e s m args below meth c s₁ B hml hv
  obtain ⟨rfl, hsz, hP, hK, hD0, hN⟩ := hv
  have hx := B.exec
  have hb := B.bytes
  have hr := B.returns
  have hts := atoms_spec (ws := wsX10_isBarred) B.pre
  have hown : s.vm.findClass RX10 = some m.cls := findClass_of_methodNamed B.named
  have hlocks := B.notSynchronized
  subst hsz
  have hD := hD0.self (sz := s.heap.size)
  generalize hAe : va_A [(oC10 ad tn td lf), (oC1 ad cn), (aI cI (ad 31) 12 fo), (oC7 ad pn), (aI cI (ad 36) 40 pk), (aI cI (ad 37) 40 pf), (aI cI (ad 38) 40 po), (aI cI (ad 39) 40 pd), (aI cI (ad 40) 40 pe), (aI cI (ad 41) 40 pr), (oC3 ad hn), (aI cI (ad 23) 40 ho), (aI cI (ad 24) 40 hc), (aI cI (ad 25) 40 hp), (aI cI (ad 26) 40 hs), (aI cI (ad 27) 200 pt), (aI cI (ad 28) 200 ps), (aI cI (ad 29) 20 ha), (aI cI (ad 30) 10 re), (oC4 ad lc), (aI cI (ad 63) 20 lp), (aI cI (ad 64) 20 la), (aI cI (ad 65) 20 lb)] s.heap.size = A at hD ⊢
  have hA : ∀ q : Nat, s.heap.size ≤ q → A q := fun q h => by rw [← hAe]; exact Or.inr h
  have hS : va_S A s.heap s.heap [] := va_S.rf
  have hP : va_P D vwCl [(oC10 ad tn td lf), (oC1 ad cn), (aI cI (ad 31) 12 fo), (oC7 ad pn), (aI cI (ad 36) 40 pk), (aI cI (ad 37) 40 pf), (aI cI (ad 38) 40 po), (aI cI (ad 39) 40 pd), (aI cI (ad 40) 40 pe), (aI cI (ad 41) 40 pr), (oC3 ad hn), (aI cI (ad 23) 40 ho), (aI cI (ad 24) 40 hc), (aI cI (ad 25) 40 hp), (aI cI (ad 26) 40 hs), (aI cI (ad 27) 200 pt), (aI cI (ad 28) 200 ps), (aI cI (ad 29) 20 ha), (aI cI (ad 30) 10 re), (oC4 ad lc), (aI cI (ad 63) 20 lp), (aI cI (ad 64) 20 la), (aI cI (ad 65) 20 lb)] s.heap := hP
  have hl := lv_entry ([.ref (ad 0), .int k, .int d]) (n := 8) (Nat.le_of_ble_eq_true rfl)
  rw [lg_entry_eq]
  generalize (lg_sl ([.ref (ad 0), .int k, .int d]) ++ List.replicate (8 - (lg_sl ([.ref (ad 0), .int k, .int d])).length) Slot.unset).toArray = ls at hl ⊢
  have hl : lv_has ls 8 [(0, .ref (ad 0)), (1, .int k), (2, .int d)] := hl
  have k0 : (0 : Int32).toInt = 0 := by decide
  have k1 : (1 : Int32).toInt = 1 := by decide
  have k10 : (10 : Int32).toInt = 10 := by decide
  have kl0 : (0 : Int64).toInt = 0 := by decide
  have kl500000 : (500000 : Int64).toInt = 500000 := by decide
  have hfo9 := h13 k.toNatClampNeg (by have := i_cl (x := k) (by omega); omega)
  refine lv_aload_n hx hb dX10_isBarred_0 rfl (lv_at hl 0 rfl) ?_
  refine va_get (D := D) (ci := 10) (v := .ref (ad 10)) (C := RX10) (T := TX10) (N := 14) hx hb hts inX10_isBarred_X10 hown hK hP 0 rfl rfl 9 (by decide) (hts (Cond.fieldLink RX10 68 "PortRooms" "lists" "LPortRooms$Lists;") (wm_t (wm_l (wm_i 0 rfl)))) (fun _ h9 => h9) rfl dX10_isBarred_1 ?_
  refine lv_iload_n hx hb dX10_isBarred_4 rfl (lv_at hl 2 rfl) ?_
  refine st_i1 (va_runV (C := RX4) (As := [.int d]) (rest := []) ⟨hx, hb, hml, hown, hts⟩ (ct_X4_peopleOn l D cI cY cJ cQ _ ad lc lp la lb d h11 h12) (cwV 1 hts gX10_isBarred_X4_peopleOn rfl rfl rfl ⟨rfl, cdX4_peopleOn⟩ ⟨Nat.le_of_ble_eq_true rfl, Nat.le_of_ble_eq_true rfl⟩) (cPreV (hP.sub [19, 20, 21, 22] rfl) hK (hD.sub [19, 20, 21, 22] (by decide +kernel) rfl) hN (ci := 4) (q0 := 0) rfl rfl) rfl rfl hl.1 rfl (lv_room (Nat.le_of_ble_eq_true rfl)) dX10_isBarred_5 ⟨Nat.le_of_ble_eq_true rfl, Nat.le_of_ble_eq_true rfl⟩) hP hD hS hA [19, 20, 21, 22] rfl (fun _ => rfl) (fun r3 u1 H locs hw2 => ?_)
  clear hP hS
  intro hP hS
  replace hw2 : r3 = poV lp la lb d lc.toNatClampNeg := hw2
  subst hw2
  refine lv_istore_n (lv' := [(3, .int (poV lp la lb d lc.toNatClampNeg)), (0, .ref (ad 0)), (1, .int k), (2, .int d)]) hx hb dX10_isBarred_8 rfl hl (by decide) rfl (fun ls hl => ?_)
  refine lv_iload_n hx hb dX10_isBarred_9 rfl (lv_at hl 0 rfl) ?_
  refine lv_if_ne (tgt := 15) hx hb dX10_isBarred_10 (by decide) (fun c4 => ?_) (fun c4 => ?_)
  · skip
    have f5 := i_ne c4
    refine lv_aload_n hx hb dX10_isBarred_15 rfl (lv_at hl 1 rfl) ?_
    refine va_get (D := D) (ci := 10) (v := .ref (ad 4)) (C := RX10) (T := TX10) (N := 14) hx hb hts inX10_isBarred_X10 hown hK hP 0 rfl rfl 3 (by decide) (hts (Cond.fieldLink RX10 33 "PortRooms" "papers" "LPortRooms$Papers;") (wm_t (wm_l (wm_i 1 rfl)))) (fun _ h9 => h9) rfl dX10_isBarred_16 ?_
    refine lv_iload_n hx hb dX10_isBarred_19 rfl (lv_at hl 2 rfl) ?_
    refine lv_aload_n hx hb dX10_isBarred_20 rfl (lv_at hl 1 rfl) ?_
    refine va_get (D := D) (ci := 10) (v := .ref (ad 3)) (C := RX10) (T := TX10) (N := 14) hx hb hts inX10_isBarred_X10 hown hK hP 0 rfl rfl 2 (by decide) (hts (Cond.fieldLink RX10 26 "PortRooms" "crates" "LPortRooms$Crates;") (wm_t (wm_l (wm_i 2 rfl)))) (fun _ h9 => h9) rfl dX10_isBarred_21 ?_
    refine va_get (D := D) (ci := 1) (v := .ref (ad 31)) (C := RX1) (T := TX1) (N := 6) hx hb hts inX10_isBarred_X1 hown hK hP 1 rfl rfl 0 (by decide) (hts (Cond.fieldLink RX10 190 "PortRooms$Crates" "firstOwner" "[I") (wm_t (wm_l (wm_i 3 rfl)))) (fun _ h9 => h9) rfl dX10_isBarred_24 ?_
    refine lv_iload_n hx hb dX10_isBarred_27 rfl (lv_at hl 2 rfl) ?_
    refine va_iald hx hb hK hP 2 0 rfl rfl (i_in (by omega) (by omega)) dX10_isBarred_28 ?_
    refine lv_topi (fun v6 ev6 => ?_)
    have tlv6 : v6.toInt = (fo k.toNatClampNeg).toInt := by rw [ev6]
    subst ev6
    refine lv_iload_n hx hb dX10_isBarred_29 rfl (lv_at hl 3 rfl) ?_
    refine lv_iload_n hx hb dX10_isBarred_30 rfl (lv_at hl 3 rfl) ?_
    refine st_i1 (va_runV (C := RX7) (As := [.int k, .int (fo k.toNatClampNeg), .int d, .int d]) (rest := []) ⟨hx, hb, hml, hown, hts⟩ (ct_X7_ownerOf l D cI cY cJ cQ _ ad pn pk pf po pd pe pr k (fo k.toNatClampNeg) d d h4 h5 h6) (cwV 4 hts gX10_isBarred_X7_ownerOf rfl rfl rfl ⟨rfl, cdX7_ownerOf⟩ ⟨Nat.le_of_ble_eq_true rfl, Nat.le_of_ble_eq_true rfl⟩) (cPreV (hP.sub [3, 4, 5, 6, 7, 8, 9] rfl) hK (hD.sub [3, 4, 5, 6, 7, 8, 9] (by decide +kernel) rfl) hN (ci := 7) (q0 := 0) rfl rfl) rfl rfl hl.1 rfl (lv_room (Nat.le_of_ble_eq_true rfl)) dX10_isBarred_31 ⟨Nat.le_of_ble_eq_true rfl, Nat.le_of_ble_eq_true rfl⟩) hP hD hS hA [3, 4, 5, 6, 7, 8, 9] rfl (fun _ => rfl) (fun r9 u7 H locs hw8 => ?_)
    clear hP hS
    intro hP hS
    replace hw8 : r9 = owV pk pf po pd pe pr k d d (fo k.toNatClampNeg) pn.toNatClampNeg := hw8
    subst hw8
    refine lv_istore (lv' := [(4, .int (owV pk pf po pd pe pr k d d (fo k.toNatClampNeg) pn.toNatClampNeg)), (3, .int (poV lp la lb d lc.toNatClampNeg)), (0, .ref (ad 0)), (1, .int k), (2, .int d)]) hx hb dX10_isBarred_34 hl (by decide) rfl (fun ls hl => ?_)
    refine lv_aload_n hx hb dX10_isBarred_36 rfl (lv_at hl 2 rfl) ?_
    refine va_get (D := D) (ci := 10) (v := .ref (ad 2)) (C := RX10) (T := TX10) (N := 14) hx hb hts inX10_isBarred_X10 hown hK hP 0 rfl rfl 1 (by decide) (hts (Cond.fieldLink RX10 19 "PortRooms" "holdings" "LPortRooms$Holdings;") (wm_t (wm_l (wm_i 4 rfl)))) (fun _ h9 => h9) rfl dX10_isBarred_37 ?_
    refine lv_iload_n hx hb dX10_isBarred_40 rfl (lv_at hl 4 rfl) ?_
    refine st_v (wr := [(oC10 ad tn td lf), (oC1 ad cn), (aI cI (ad 31) 12 fo), (oC7 ad pn), (aI cI (ad 36) 40 pk), (aI cI (ad 37) 40 pf), (aI cI (ad 38) 40 po), (aI cI (ad 39) 40 pd), (aI cI (ad 40) 40 pe), (aI cI (ad 41) 40 pr), (oC4 ad lc), (aI cI (ad 63) 20 lp), (aI cI (ad 64) 20 la), (aI cI (ad 65) 20 lb)]) (va_runV (C := RX3) (As := [.int d]) (rest := []) ⟨hx, hb, hml, hown, hts⟩ (ct_X3_lookAt l D cI cY cJ cQ _ ad hn ho hc hp hs pt ps ha re d h7 h8 h9 h10) (cwV 1 hts gX10_isBarred_X3_lookAt rfl rfl rfl ⟨rfl, cdX3_lookAt⟩ ⟨Nat.le_of_ble_eq_true rfl, Nat.le_of_ble_eq_true rfl⟩) (cPreV (hP.sub [10, 11, 12, 13, 14, 15, 16, 17, 18] rfl) hK (hD.sub [10, 11, 12, 13, 14, 15, 16, 17, 18] (by decide +kernel) rfl) hN (ci := 3) (q0 := 0) rfl rfl) rfl rfl hl.1 rfl (lv_room (Nat.le_of_ble_eq_true rfl)) dX10_isBarred_41 ⟨Nat.le_of_ble_eq_true rfl, Nat.le_of_ble_eq_true rfl⟩) hP hD hS hA [10, 11, 12, 13, 14, 15, 16, 17, 18] [0, 1, 2, 3, 4, 5, 6, 7, 8, 9, 19, 20, 21, 22] rfl rfl (by decide +kernel) (by decide +kernel) (fun u10 H locs hw11 => ?_)
    clear hP hD hS
    intro hP hD hS
    obtain ⟨pt_13, ps_14, ha_15, re_16⟩ := u10
    replace hw11 : pcOk pt_13 ps_14 ho hc hp hs d hn.toNatClampNeg ∧ okL pt_13 ha_15 re_16 := hw11
    replace hP : va_P D vwCl [(oC10 ad tn td lf), (oC1 ad cn), (aI cI (ad 31) 12 fo), (oC7 ad pn), (aI cI (ad 36) 40 pk), (aI cI (ad 37) 40 pf), (aI cI (ad 38) 40 po), (aI cI (ad 39) 40 pd), (aI cI (ad 40) 40 pe), (aI cI (ad 41) 40 pr), (oC4 ad lc), (aI cI (ad 63) 20 lp), (aI cI (ad 64) 20 la), (aI cI (ad 65) 20 lb), (oC3 ad hn), (aI cI (ad 23) 40 ho), (aI cI (ad 24) 40 hc), (aI cI (ad 25) 40 hp), (aI cI (ad 26) 40 hs), (aI cI (ad 27) 200 pt_13), (aI cI (ad 28) 200 ps_14), (aI cI (ad 29) 20 ha_15), (aI cI (ad 30) 10 re_16)] H := hP
    replace hD : va_D A [(oC10 ad tn td lf), (oC1 ad cn), (aI cI (ad 31) 12 fo), (oC7 ad pn), (aI cI (ad 36) 40 pk), (aI cI (ad 37) 40 pf), (aI cI (ad 38) 40 po), (aI cI (ad 39) 40 pd), (aI cI (ad 40) 40 pe), (aI cI (ad 41) 40 pr), (oC4 ad lc), (aI cI (ad 63) 20 lp), (aI cI (ad 64) 20 la), (aI cI (ad 65) 20 lb), (oC3 ad hn), (aI cI (ad 23) 40 ho), (aI cI (ad 24) 40 hc), (aI cI (ad 25) 40 hp), (aI cI (ad 26) 40 hs), (aI cI (ad 27) 200 pt_13), (aI cI (ad 28) 200 ps_14), (aI cI (ad 29) 20 ha_15), (aI cI (ad 30) 10 re_16)] := hD
    obtain ⟨hw11, hw11L⟩ := hw11
    refine lv_lconst (v := 0) hx hb dX10_isBarred_44 (by decide) ?_
    refine lv_lstore (lv' := [(5, .long 0), (4, .int (owV pk pf po pd pe pr k d d (fo k.toNatClampNeg) pn.toNatClampNeg)), (3, .int (poV lp la lb d lc.toNatClampNeg)), (0, .ref (ad 0)), (1, .int k), (2, .int d)]) hx hb dX10_isBarred_45 hl (by decide) rfl (fun ls hl => ?_)
    refine lv_iconst (v := 0) hx hb dX10_isBarred_47 (by decide) ?_
    refine lv_istore (lv' := [(7, .int 0), (5, .long 0), (4, .int (owV pk pf po pd pe pr k d d (fo k.toNatClampNeg) pn.toNatClampNeg)), (3, .int (poV lp la lb d lc.toNatClampNeg)), (0, .ref (ad 0)), (1, .int k), (2, .int d)]) hx hb dX10_isBarred_48 hl (by decide) rfl (fun ls hl => ?_)
    refine st_loop 50 (fun _ => []) (fun (z : Int64 × Int32) (ls : Array Slot) (H : Heap) (locs : List Loc) => match z with | (q50_5, q50_7) => (0 ≤ q50_7.toInt) ∧ (q50_7.toInt ≤ 10) ∧ (q50_5.toInt = brV (ppF ho hc hp hs d hn.toNatClampNeg) (poV lp la lb d lc.toNatClampNeg) (owV pk pf po pd pe pr k d d (fo k.toNatClampNeg) pn.toNatClampNeg).toNatClampNeg q50_7.toNatClampNeg) ∧ (0 ≤ q50_5.toInt) ∧ (q50_5.toInt ≤ 2000000000 * q50_7.toInt) ∧ lv_has ls 8 [(0, .ref (ad 0)), (1, .int k), (2, .int d), (3, .int (poV lp la lb d lc.toNatClampNeg)), (4, .int (owV pk pf po pd pe pr k d d (fo k.toNatClampNeg) pn.toNatClampNeg)), (5, .long q50_5), (7, .int q50_7)] ∧ va_P D vwCl [(oC10 ad tn td lf), (oC1 ad cn), (aI cI (ad 31) 12 fo), (oC7 ad pn), (aI cI (ad 36) 40 pk), (aI cI (ad 37) 40 pf), (aI cI (ad 38) 40 po), (aI cI (ad 39) 40 pd), (aI cI (ad 40) 40 pe), (aI cI (ad 41) 40 pr), (oC4 ad lc), (aI cI (ad 63) 20 lp), (aI cI (ad 64) 20 la), (aI cI (ad 65) 20 lb), (oC3 ad hn), (aI cI (ad 23) 40 ho), (aI cI (ad 24) 40 hc), (aI cI (ad 25) 40 hp), (aI cI (ad 26) 40 hs), (aI cI (ad 27) 200 pt_13), (aI cI (ad 28) 200 ps_14), (aI cI (ad 29) 20 ha_15), (aI cI (ad 30) 10 re_16)] H ∧ va_D A [(oC10 ad tn td lf), (oC1 ad cn), (aI cI (ad 31) 12 fo), (oC7 ad pn), (aI cI (ad 36) 40 pk), (aI cI (ad 37) 40 pf), (aI cI (ad 38) 40 po), (aI cI (ad 39) 40 pd), (aI cI (ad 40) 40 pe), (aI cI (ad 41) 40 pr), (oC4 ad lc), (aI cI (ad 63) 20 lp), (aI cI (ad 64) 20 la), (aI cI (ad 65) 20 lb), (oC3 ad hn), (aI cI (ad 23) 40 ho), (aI cI (ad 24) 40 hc), (aI cI (ad 25) 40 hp), (aI cI (ad 26) 40 hs), (aI cI (ad 27) 200 pt_13), (aI cI (ad 28) 200 ps_14), (aI cI (ad 29) 20 ha_15), (aI cI (ad 30) 10 re_16)] ∧ va_S A s.heap H locs) (fun (z : Int64 × Int32) => match z with | (q50_5, q50_7) => 10 - q50_7.toInt) ?_ ?_ ((0 : Int64), (0 : Int32)) ⟨(by omega), (by omega), (by rfl), (by omega), (by omega), lv_sub hl [4, 5, 6, 3, 2, 1, 0] rfl, hP, hD, hS⟩
    · rintro ⟨q50_5, q50_7⟩ ls H locs ⟨g17, g18, g19, g20, g21, hl, hP, hD, hS⟩
      show (0 : Int) ≤ 10 - q50_7.toInt
      omega
    · rintro n24 ih22 ⟨q50_5, q50_7⟩ ls H locs ⟨g17, g18, g19, g20, g21, hl, hP, hD, hS⟩ hm23
      have hm23 : 10 - q50_7.toInt < (n24 : Int) + 1 := hm23
      replace hl : lv_has ls 8 [(0, .ref (ad 0)), (1, .int k), (2, .int d), (3, .int (poV lp la lb d lc.toNatClampNeg)), (4, .int (owV pk pf po pd pe pr k d d (fo k.toNatClampNeg) pn.toNatClampNeg)), (5, .long q50_5), (7, .int q50_7)] := hl
      replace hP : va_P D vwCl [(oC10 ad tn td lf), (oC1 ad cn), (aI cI (ad 31) 12 fo), (oC7 ad pn), (aI cI (ad 36) 40 pk), (aI cI (ad 37) 40 pf), (aI cI (ad 38) 40 po), (aI cI (ad 39) 40 pd), (aI cI (ad 40) 40 pe), (aI cI (ad 41) 40 pr), (oC4 ad lc), (aI cI (ad 63) 20 lp), (aI cI (ad 64) 20 la), (aI cI (ad 65) 20 lb), (oC3 ad hn), (aI cI (ad 23) 40 ho), (aI cI (ad 24) 40 hc), (aI cI (ad 25) 40 hp), (aI cI (ad 26) 40 hs), (aI cI (ad 27) 200 pt_13), (aI cI (ad 28) 200 ps_14), (aI cI (ad 29) 20 ha_15), (aI cI (ad 30) 10 re_16)] H := hP
      replace hD : va_D A [(oC10 ad tn td lf), (oC1 ad cn), (aI cI (ad 31) 12 fo), (oC7 ad pn), (aI cI (ad 36) 40 pk), (aI cI (ad 37) 40 pf), (aI cI (ad 38) 40 po), (aI cI (ad 39) 40 pd), (aI cI (ad 40) 40 pe), (aI cI (ad 41) 40 pr), (oC4 ad lc), (aI cI (ad 63) 20 lp), (aI cI (ad 64) 20 la), (aI cI (ad 65) 20 lb), (oC3 ad hn), (aI cI (ad 23) 40 ho), (aI cI (ad 24) 40 hc), (aI cI (ad 25) 40 hp), (aI cI (ad 26) 40 hs), (aI cI (ad 27) 200 pt_13), (aI cI (ad 28) 200 ps_14), (aI cI (ad 29) 20 ha_15), (aI cI (ad 30) 10 re_16)] := hD
      show W _ _ _ _ _ _ _ _ _ _ _ _ _ _ _ (F0 m 50 ls [])
      refine lv_iload hx hb dX10_isBarred_50 (lv_at hl 6 rfl) ?_
      refine lv_bipush (v := 10) hx hb dX10_isBarred_52 (by decide) ?_
      refine lv_icmp_ge (tgt := 89) hx hb dX10_isBarred_54 (by decide) (fun c25 => ?_) (fun c25 => ?_)
      · skip
        have f26 := i_le c25
        refine lv_lload hx hb dX10_isBarred_89 (lv_at hl 5 rfl) ?_
        refine lv_ldc2 hx hb hown (hts (Cond.constantLong RX10 329 (500000)) (wm_t (wm_l (wm_i 5 rfl)))) dX10_isBarred_91 ?_
        refine W.lcmp hx hb dX10_isBarred_94 ?_
        refine lv_topi (fun v27 ev27 => ?_)
        refine lv_if_lt (tgt := 102) hx hb dX10_isBarred_95 (by decide) (fun c28 => ?_) (fun c28 => ?_)
        · skip
          have f29 := lc_lt ev27 c28
          refine lv_iconst (v := 0) hx hb dX10_isBarred_102 (by decide) ?_
          have ce9 := i_cl (x := q50_7) (by omega)
          have hz9 := g19
          rw [show q50_7.toNatClampNeg = 10 by omega] at hz9
          have hP9 := hP.sub (ws' := [(oC10 ad tn td lf), (oC1 ad cn), (aI cI (ad 31) 12 fo), (oC7 ad pn), (aI cI (ad 36) 40 pk), (aI cI (ad 37) 40 pf), (aI cI (ad 38) 40 po), (aI cI (ad 39) 40 pd), (aI cI (ad 40) 40 pe), (aI cI (ad 41) 40 pr), (oC3 ad hn), (aI cI (ad 23) 40 ho), (aI cI (ad 24) 40 hc), (aI cI (ad 25) 40 hp), (aI cI (ad 26) 40 hs), (aI cI (ad 27) 200 pt_13), (aI cI (ad 28) 200 ps_14), (aI cI (ad 29) 20 ha_15), (aI cI (ad 30) 10 re_16), (oC4 ad lc), (aI cI (ad 63) 20 lp), (aI cI (ad 64) 20 la), (aI cI (ad 65) 20 lb)]) [0, 1, 2, 3, 4, 5, 6, 7, 8, 9, 14, 15, 16, 17, 18, 19, 20, 21, 22, 10, 11, 12, 13] rfl
          have hD9 := hD.sub (ws' := [(oC10 ad tn td lf), (oC1 ad cn), (aI cI (ad 31) 12 fo), (oC7 ad pn), (aI cI (ad 36) 40 pk), (aI cI (ad 37) 40 pf), (aI cI (ad 38) 40 po), (aI cI (ad 39) 40 pd), (aI cI (ad 40) 40 pe), (aI cI (ad 41) 40 pr), (oC3 ad hn), (aI cI (ad 23) 40 ho), (aI cI (ad 24) 40 hc), (aI cI (ad 25) 40 hp), (aI cI (ad 26) 40 hs), (aI cI (ad 27) 200 pt_13), (aI cI (ad 28) 200 ps_14), (aI cI (ad 29) 20 ha_15), (aI cI (ad 30) 10 re_16), (oC4 ad lc), (aI cI (ad 63) 20 lp), (aI cI (ad 64) 20 la), (aI cI (ad 65) 20 lb)]) [0, 1, 2, 3, 4, 5, 6, 7, 8, 9, 14, 15, 16, 17, 18, 19, 20, 21, 22, 10, 11, 12, 13] (by decide +kernel) rfl
          exact W.zret (v := 0) hx hb hr rfl (fun t ht hW => ⟨⟨0, (pt_13, ps_14, ha_15, re_16), rfl, (by show (0 : Int32) = if 500000 ≤ brV (ppF ho hc hp hs d hn.toNatClampNeg) (poV lp la lb d lc.toNatClampNeg) (owV pk pf po pd pe pr k d d (fo k.toNatClampNeg) pn.toNatClampNeg).toNatClampNeg 10 then 1 else 0; rw [if_neg (by omega)]), by rw [ht]; exact hP9, va_K.moved hW.alike hK, hD9⟩, hS.F ht⟩) hS.2.2 dX10_isBarred_103
        · skip
          have f30 := lc_ltN ev27 c28
          refine lv_iconst (v := 1) hx hb dX10_isBarred_98 (by decide) ?_
          refine lv_goto (tgt := 103) hx hb dX10_isBarred_99 (by decide) ?_
          have ce9 := i_cl (x := q50_7) (by omega)
          have hz9 := g19
          rw [show q50_7.toNatClampNeg = 10 by omega] at hz9
          have hP9 := hP.sub (ws' := [(oC10 ad tn td lf), (oC1 ad cn), (aI cI (ad 31) 12 fo), (oC7 ad pn), (aI cI (ad 36) 40 pk), (aI cI (ad 37) 40 pf), (aI cI (ad 38) 40 po), (aI cI (ad 39) 40 pd), (aI cI (ad 40) 40 pe), (aI cI (ad 41) 40 pr), (oC3 ad hn), (aI cI (ad 23) 40 ho), (aI cI (ad 24) 40 hc), (aI cI (ad 25) 40 hp), (aI cI (ad 26) 40 hs), (aI cI (ad 27) 200 pt_13), (aI cI (ad 28) 200 ps_14), (aI cI (ad 29) 20 ha_15), (aI cI (ad 30) 10 re_16), (oC4 ad lc), (aI cI (ad 63) 20 lp), (aI cI (ad 64) 20 la), (aI cI (ad 65) 20 lb)]) [0, 1, 2, 3, 4, 5, 6, 7, 8, 9, 14, 15, 16, 17, 18, 19, 20, 21, 22, 10, 11, 12, 13] rfl
          have hD9 := hD.sub (ws' := [(oC10 ad tn td lf), (oC1 ad cn), (aI cI (ad 31) 12 fo), (oC7 ad pn), (aI cI (ad 36) 40 pk), (aI cI (ad 37) 40 pf), (aI cI (ad 38) 40 po), (aI cI (ad 39) 40 pd), (aI cI (ad 40) 40 pe), (aI cI (ad 41) 40 pr), (oC3 ad hn), (aI cI (ad 23) 40 ho), (aI cI (ad 24) 40 hc), (aI cI (ad 25) 40 hp), (aI cI (ad 26) 40 hs), (aI cI (ad 27) 200 pt_13), (aI cI (ad 28) 200 ps_14), (aI cI (ad 29) 20 ha_15), (aI cI (ad 30) 10 re_16), (oC4 ad lc), (aI cI (ad 63) 20 lp), (aI cI (ad 64) 20 la), (aI cI (ad 65) 20 lb)]) [0, 1, 2, 3, 4, 5, 6, 7, 8, 9, 14, 15, 16, 17, 18, 19, 20, 21, 22, 10, 11, 12, 13] (by decide +kernel) rfl
          exact W.zret (v := 1) hx hb hr rfl (fun t ht hW => ⟨⟨1, (pt_13, ps_14, ha_15, re_16), rfl, (by show (1 : Int32) = if 500000 ≤ brV (ppF ho hc hp hs d hn.toNatClampNeg) (poV lp la lb d lc.toNatClampNeg) (owV pk pf po pd pe pr k d d (fo k.toNatClampNeg) pn.toNatClampNeg).toNatClampNeg 10 then 1 else 0; rw [if_pos (by omega)]), by rw [ht]; exact hP9, va_K.moved hW.alike hK, hD9⟩, hS.F ht⟩) hS.2.2 dX10_isBarred_103
      · skip
        have f31 := i_nle c25
        refine lv_iload_n hx hb dX10_isBarred_57 rfl (lv_at hl 3 rfl) ?_
        refine lv_iload hx hb dX10_isBarred_58 (lv_at hl 6 rfl) ?_
        refine st_i1 (va_runS (As := [.int (poV lp la lb d lc.toNatClampNeg), .int q50_7]) (rest := []) ⟨hx, hb, hml, hown, hts⟩ (ct_X10_hasBit l D cI cY cJ cQ _ (poV lp la lb d lc.toNatClampNeg) q50_7) (va_cwS 2 hts gX10_isBarred_X10_hasBit rfl rfl rfl cdX10_hasBit ⟨Nat.le_of_ble_eq_true rfl, Nat.le_of_ble_eq_true rfl⟩) (cPreS (hP.sub [] rfl) hK (hD.sub [] (by decide +kernel) rfl) hN) rfl rfl hl.1 rfl (lv_room (Nat.le_of_ble_eq_true rfl)) dX10_isBarred_60 ⟨Nat.le_of_ble_eq_true rfl, Nat.le_of_ble_eq_true rfl⟩) hP hD hS hA [] rfl (fun _ => rfl) (fun r34 u32 H locs hw33 => ?_)
        clear hP hS
        intro hP hS
        replace hw33 : r34 = if hbP (poV lp la lb d lc.toNatClampNeg) q50_7 then 1 else 0 := hw33
        refine lv_if_eq (tgt := 83) hx hb dX10_isBarred_63 (by decide) (fun c35 => ?_) (fun c35 => ?_)
        · skip
          have f36 := bo_f hw33 c35
          obtain ⟨v37, ev37⟩ : ∃ y : Int32, y = q50_7 + 1 := ⟨_, rfl⟩
          try have tv37 : v37.toInt = q50_7.toInt + 1 := by rw [ev37]; exact (i_add (x := q50_7) (y := (1 : Int32)) (by rw [k1]; omega) (by rw [k1]; omega)).trans (by rw [k1])
          refine lv_iinc (v := v37) (lv' := [(7, .int v37), (0, .ref (ad 0)), (1, .int k), (2, .int d), (3, .int (poV lp la lb d lc.toNatClampNeg)), (4, .int (owV pk pf po pd pe pr k d d (fo k.toNatClampNeg) pn.toNatClampNeg)), (5, .long q50_5)]) hx hb dX10_isBarred_83 hl (k := 6) rfl (by rw [ev37]; rfl) (by decide) rfl (fun ls hl => ?_)
          refine lv_goto (tgt := 50) hx hb dX10_isBarred_86 (by decide) ?_
          have clk8 := i_cl (x := q50_7) (by omega)
          have clk9 := i_cl (x := v37) (by omega)
          have ek9 : v37.toNatClampNeg = q50_7.toNatClampNeg + 1 := by omega
          exact ih22 (q50_5, v37) ls H locs ⟨(by omega), (by omega), (by rw [ek9, brV_s, ← g19, if_neg (by rw [hbn (by omega) (by omega) f36]; decide)]), (by omega), (by omega), lv_sub hl [1, 2, 3, 4, 5, 6, 0] rfl, hP.sub [0, 1, 2, 3, 4, 5, 6, 7, 8, 9, 10, 11, 12, 13, 14, 15, 16, 17, 18, 19, 20, 21, 22] rfl, hD.sub [0, 1, 2, 3, 4, 5, 6, 7, 8, 9, 10, 11, 12, 13, 14, 15, 16, 17, 18, 19, 20, 21, 22] (by decide +kernel) rfl, hS⟩ (by show 10 - v37.toInt < _; omega)
        · skip
          have f38 := bo_t hw33 c35
          refine lv_lload hx hb dX10_isBarred_66 (lv_at hl 5 rfl) ?_
          refine lv_aload_n hx hb dX10_isBarred_68 rfl (lv_at hl 0 rfl) ?_
          refine va_get (D := D) (ci := 10) (v := .ref (ad 2)) (C := RX10) (T := TX10) (N := 14) hx hb hts inX10_isBarred_X10 hown hK hP 0 rfl rfl 1 (by decide) (hts (Cond.fieldLink RX10 19 "PortRooms" "holdings" "LPortRooms$Holdings;") (wm_t (wm_l (wm_i 4 rfl)))) (fun _ h9 => h9) rfl dX10_isBarred_69 ?_
          refine lv_iload hx hb dX10_isBarred_72 (lv_at hl 6 rfl) ?_
          refine lv_iload hx hb dX10_isBarred_74 (lv_at hl 4 rfl) ?_
          have hor9 := owV_rng (pk := pk) (pf := pf) (pd := pd) (pe := pe) (k := k) (d := d) (n := d) (x := fo k.toNatClampNeg) h6 h14 hfo9.1 hfo9.2 pn.toNatClampNeg (by have := i_cl (x := pn) (by omega); omega)
          refine st_i1 (va_runV (C := RX3) (As := [.int q50_7, .int (owV pk pf po pd pe pr k d d (fo k.toNatClampNeg) pn.toNatClampNeg)]) (rest := [.long q50_5]) ⟨hx, hb, hml, hown, hts⟩ (ct_X3_shareOf l D cI cY cJ cQ _ ad hn pt_13 ha_15 re_16 q50_7 (owV pk pf po pd pe pr k d d (fo k.toNatClampNeg) pn.toNatClampNeg) (by omega) (by omega) (by omega) (by omega) (by assumption)) (cwV 2 hts gX10_isBarred_X3_shareOf rfl rfl rfl ⟨rfl, cdX3_shareOf⟩ ⟨Nat.le_of_ble_eq_true rfl, Nat.le_of_ble_eq_true rfl⟩) (cPreV (hP.sub [14, 19, 21, 22] rfl) hK (hD.sub [14, 19, 21, 22] (by decide +kernel) rfl) hN (ci := 3) (q0 := 0) rfl rfl) rfl rfl hl.1 rfl (lv_room (Nat.le_of_ble_eq_true rfl)) dX10_isBarred_76 ⟨Nat.le_of_ble_eq_true rfl, Nat.le_of_ble_eq_true rfl⟩) hP hD hS hA [14, 19, 21, 22] rfl (fun _ => rfl) (fun r41 u39 H locs hw40 => ?_)
          clear hP hS
          intro hP hS
          replace hw40 : r41.toInt = shF (ptF pt_13) q50_7.toNatClampNeg (owV pk pf po pd pe pr k d d (fo k.toNatClampNeg) pn.toNatClampNeg).toNatClampNeg := hw40
          have clc42 := i_cl (x := q50_7) (by omega)
          rw [shF_c (ptF_pp hw11) (by omega) _] at hw40
          have hsb9 := shF_bd (p := ppF ho hc hp hs d hn.toNatClampNeg) (okA_q hw11 hw11L) (q := q50_7.toNatClampNeg) (by omega) (owV pk pf po pd pe pr k d d (fo k.toNatClampNeg) pn.toNatClampNeg).toNatClampNeg
          rw [← hw40] at hsb9
          refine lv_i2l hx hb dX10_isBarred_79 rfl ?_
          have w43 := i_w r41
          have w44 := i_rng r41
          refine lv_ladd hx hb dX10_isBarred_80 ?_
          refine lv_topl (fun z45 ez45 => ?_)
          have tz45 : z45.toInt = q50_5.toInt + r41.toInt64.toInt := by rw [ez45]; exact l_add (by omega) (by omega)
          refine lv_lstore (lv' := [(5, .long z45), (0, .ref (ad 0)), (1, .int k), (2, .int d), (3, .int (poV lp la lb d lc.toNatClampNeg)), (4, .int (owV pk pf po pd pe pr k d d (fo k.toNatClampNeg) pn.toNatClampNeg)), (7, .int q50_7)]) hx hb dX10_isBarred_81 hl (by decide) rfl (fun ls hl => ?_)
          obtain ⟨v46, ev46⟩ : ∃ y : Int32, y = q50_7 + 1 := ⟨_, rfl⟩
          try have tv46 : v46.toInt = q50_7.toInt + 1 := by rw [ev46]; exact (i_add (x := q50_7) (y := (1 : Int32)) (by rw [k1]; omega) (by rw [k1]; omega)).trans (by rw [k1])
          refine lv_iinc (v := v46) (lv' := [(7, .int v46), (5, .long z45), (0, .ref (ad 0)), (1, .int k), (2, .int d), (3, .int (poV lp la lb d lc.toNatClampNeg)), (4, .int (owV pk pf po pd pe pr k d d (fo k.toNatClampNeg) pn.toNatClampNeg))]) hx hb dX10_isBarred_83 hl (k := 6) rfl (by rw [ev46]; rfl) (by decide) rfl (fun ls hl => ?_)
          refine lv_goto (tgt := 50) hx hb dX10_isBarred_86 (by decide) ?_
          have clk8 := i_cl (x := q50_7) (by omega)
          have clk9 := i_cl (x := v46) (by omega)
          have ek9 : v46.toNatClampNeg = q50_7.toNatClampNeg + 1 := by omega
          exact ih22 (z45, v46) ls H locs ⟨(by omega), (by omega), (by rw [ek9, brV_s, ← g19, if_pos ((hbb (by omega) (by omega)).mp f38), ← hw40]; omega), (by omega), (by omega), lv_sub hl [2, 3, 4, 5, 6, 1, 0] rfl, hP.sub [0, 1, 2, 3, 4, 5, 6, 7, 8, 9, 10, 11, 12, 13, 14, 15, 16, 17, 18, 19, 20, 21, 22] rfl, hD.sub [0, 1, 2, 3, 4, 5, 6, 7, 8, 9, 10, 11, 12, 13, 14, 15, 16, 17, 18, 19, 20, 21, 22] (by decide +kernel) rfl, hS⟩ (by show 10 - v46.toInt < _; omega)
  · skip
    have f47 := i_eq c4
    refine lv_iconst (v := 0) hx hb dX10_isBarred_13 (by decide) ?_
    have hP9 := hP
    have hD9 := hD
    exact W.zret (v := 0) hx hb hr rfl (fun t ht hW => ⟨⟨0, (pt, ps, ha, re), rfl, (by show (0 : Int32) = if 500000 ≤ brV (ppF ho hc hp hs d hn.toNatClampNeg) (poV lp la lb d lc.toNatClampNeg) (owV pk pf po pd pe pr k d d (fo k.toNatClampNeg) pn.toNatClampNeg).toNatClampNeg 10 then 1 else 0; rw [show poV lp la lb d lc.toNatClampNeg = 0 from i_of (by omega), brV_0]; rfl), by rw [ht]; exact hP9, va_K.moved hW.alike hK, hD9⟩, hS.F ht⟩) hS.2.2 dX10_isBarred_14

def sp_barred (cn pn hn lc : Int32) (fo pk pf po pd pe pr ho hc hp hs lp la lb : Nat → Int32) (k d : Int32) : Int32 := if 0 ≤ k.toInt ∧ k.toInt < cn.toInt ∧ 0 ≤ d.toInt ∧ d.toInt < 10000 then (if 500000 ≤ brV (ppF ho hc hp hs d hn.toNatClampNeg) (poV lp la lb d lc.toNatClampNeg) (owV pk pf po pd pe pr k d d (fo k.toNatClampNeg) pn.toNatClampNeg).toNatClampNeg 10 then 1 else 0) else -1000001

set_option maxHeartbeats 4000000 in
set_option maxRecDepth 100000 in
theorem ct_X10_barred (l : Launch) (D : va_G) (cI cY cJ cQ : ClassId) (sz : Nat) (ad : Nat → Nat) (tn td lf cn pn hn lc : Int32) (fo pk pf po pd pe pr ho hc hp hs pt ps ha re lp la lb : Nat → Int32) (k : Int32) (d : Int32)  (h1 : 0 ≤ cn.toInt) (h2 : cn.toInt ≤ 12) (h3 : 0 ≤ pn.toInt) (h4 : pn.toInt ≤ 40) (h5 : okO pn pr) (h6 : 0 ≤ hn.toInt) (h7 : hn.toInt ≤ 40) (h8 : okH hn ho hc) (h9 : okV hn hp) (h10 : 0 ≤ lc.toInt) (h11 : lc.toInt ≤ 20) (h12 : okF cn fo) (h13 : okG pn po)  : Met l yX10_barred wsX10_barred ({ frames := 16, cells := 0, slots := 0, locals := 472 }) (cPre D (ty4 cI cY cJ cQ) [(oC10 ad tn td lf), (oC1 ad cn), (aI cI (ad 31) 12 fo), (oC7 ad pn), (aI cI (ad 36) 40 pk), (aI cI (ad 37) 40 pf), (aI cI (ad 38) 40 po), (aI cI (ad 39) 40 pd), (aI cI (ad 40) 40 pe), (aI cI (ad 41) 40 pr), (oC3 ad hn), (aI cI (ad 23) 40 ho), (aI cI (ad 24) 40 hc), (aI cI (ad 25) 40 hp), (aI cI (ad 26) 40 hs), (aI cI (ad 27) 200 pt), (aI cI (ad 28) 200 ps), (aI cI (ad 29) 20 ha), (aI cI (ad 30) 10 re), (oC4 ad lc), (aI cI (ad 63) 20 lp), (aI cI (ad 64) 20 la), (aI cI (ad 65) 20 lb)] sz [.ref (ad 0), .int k, .int d]) (va_Qi (fun (r : Int32) (u : (Nat → Int32) × (Nat → Int32) × (Nat → Int32) × (Nat → Int32)) => r = sp_barred cn pn hn lc fo pk pf po pd pe pr ho hc hp hs lp la lb k d) (cB D (ty4 cI cY cJ cQ) (fun (u : (Nat → Int32) × (Nat → Int32) × (Nat → Int32) × (Nat → Int32)) => [(oC10 ad tn td lf), (oC1 ad cn), (aI cI (ad 31) 12 fo), (oC7 ad pn), (aI cI (ad 36) 40 pk), (aI cI (ad 37) 40 pf), (aI cI (ad 38) 40 po), (aI cI (ad 39) 40 pd), (aI cI (ad 40) 40 pe), (aI cI (ad 41) 40 pr), (oC3 ad hn), (aI cI (ad 23) 40 ho), (aI cI (ad 24) 40 hc), (aI cI (ad 25) 40 hp), (aI cI (ad 26) 40 hs), (aI cI (ad 27) 200 u.1), (aI cI (ad 28) 200 u.2.1), (aI cI (ad 29) 20 u.2.2.1), (aI cI (ad 30) 10 u.2.2.2), (oC4 ad lc), (aI cI (ad 63) 20 lp), (aI cI (ad 64) 20 la), (aI cI (ad 65) 20 lb)]) (va_A [(oC10 ad tn td lf), (oC1 ad cn), (aI cI (ad 31) 12 fo), (oC7 ad pn), (aI cI (ad 36) 40 pk), (aI cI (ad 37) 40 pf), (aI cI (ad 38) 40 po), (aI cI (ad 39) 40 pd), (aI cI (ad 40) 40 pe), (aI cI (ad 41) 40 pr), (oC3 ad hn), (aI cI (ad 23) 40 ho), (aI cI (ad 24) 40 hc), (aI cI (ad 25) 40 hp), (aI cI (ad 26) 40 hs), (aI cI (ad 27) 200 pt), (aI cI (ad 28) 200 ps), (aI cI (ad 29) 20 ha), (aI cI (ad 30) 10 re), (oC4 ad lc), (aI cI (ad 63) 20 lp), (aI cI (ad 64) 20 la), (aI cI (ad 65) 20 lb)] sz)) (va_A [(oC10 ad tn td lf), (oC1 ad cn), (aI cI (ad 31) 12 fo), (oC7 ad pn), (aI cI (ad 36) 40 pk), (aI cI (ad 37) 40 pf), (aI cI (ad 38) 40 po), (aI cI (ad 39) 40 pd), (aI cI (ad 40) 40 pe), (aI cI (ad 41) 40 pr), (oC3 ad hn), (aI cI (ad 23) 40 ho), (aI cI (ad 24) 40 hc), (aI cI (ad 25) 40 hp), (aI cI (ad 26) 40 hs), (aI cI (ad 27) 200 pt), (aI cI (ad 28) 200 ps), (aI cI (ad 29) 20 ha), (aI cI (ad 30) 10 re), (oC4 ad lc), (aI cI (ad 63) 20 lp), (aI cI (ad 64) 20 la), (aI cI (ad 65) 20 lb)] sz)) 0 0 (va_A [(oC10 ad tn td lf), (oC1 ad cn), (aI cI (ad 31) 12 fo), (oC7 ad pn), (aI cI (ad 36) 40 pk), (aI cI (ad 37) 40 pf), (aI cI (ad 38) 40 po), (aI cI (ad 39) 40 pd), (aI cI (ad 40) 40 pe), (aI cI (ad 41) 40 pr), (oC3 ad hn), (aI cI (ad 23) 40 ho), (aI cI (ad 24) 40 hc), (aI cI (ad 25) 40 hp), (aI cI (ad 26) 40 hs), (aI cI (ad 27) 200 pt), (aI cI (ad 28) 200 ps), (aI cI (ad 29) 20 ha), (aI cI (ad 30) 10 re), (oC4 ad lc), (aI cI (ad 63) 20 lp), (aI cI (ad 64) 20 la), (aI cI (ad 65) 20 lb)] sz) := by
  refine Met.ofW (cc := cX10_barred) (maxL := 3) (ret := (some .int)) (by decide) rfl ?_
  intro p e s m args below meth c s₁ B hml hv
  obtain ⟨rfl, hsz, hP, hK, hD0, hN⟩ := hv
  have hx := B.exec
  have hb := B.bytes
  have hr := B.returns
  have hts := atoms_spec (ws := wsX10_barred) B.pre
  have hown : s.vm.findClass RX10 = some m.cls := findClass_of_methodNamed B.named
  have hlocks := B.notSynchronized
  subst hsz
  have hD := hD0.self (sz := s.heap.size)
  generalize hAe : va_A [(oC10 ad tn td lf), (oC1 ad cn), (aI cI (ad 31) 12 fo), (oC7 ad pn), (aI cI (ad 36) 40 pk), (aI cI (ad 37) 40 pf), (aI cI (ad 38) 40 po), (aI cI (ad 39) 40 pd), (aI cI (ad 40) 40 pe), (aI cI (ad 41) 40 pr), (oC3 ad hn), (aI cI (ad 23) 40 ho), (aI cI (ad 24) 40 hc), (aI cI (ad 25) 40 hp), (aI cI (ad 26) 40 hs), (aI cI (ad 27) 200 pt), (aI cI (ad 28) 200 ps), (aI cI (ad 29) 20 ha), (aI cI (ad 30) 10 re), (oC4 ad lc), (aI cI (ad 63) 20 lp), (aI cI (ad 64) 20 la), (aI cI (ad 65) 20 lb)] s.heap.size = A at hD ⊢
  have hA : ∀ q : Nat, s.heap.size ≤ q → A q := fun q h => by rw [← hAe]; exact Or.inr h
  have hS : va_S A s.heap s.heap [] := va_S.rf
  have hP : va_P D vwCl [(oC10 ad tn td lf), (oC1 ad cn), (aI cI (ad 31) 12 fo), (oC7 ad pn), (aI cI (ad 36) 40 pk), (aI cI (ad 37) 40 pf), (aI cI (ad 38) 40 po), (aI cI (ad 39) 40 pd), (aI cI (ad 40) 40 pe), (aI cI (ad 41) 40 pr), (oC3 ad hn), (aI cI (ad 23) 40 ho), (aI cI (ad 24) 40 hc), (aI cI (ad 25) 40 hp), (aI cI (ad 26) 40 hs), (aI cI (ad 27) 200 pt), (aI cI (ad 28) 200 ps), (aI cI (ad 29) 20 ha), (aI cI (ad 30) 10 re), (oC4 ad lc), (aI cI (ad 63) 20 lp), (aI cI (ad 64) 20 la), (aI cI (ad 65) 20 lb)] s.heap := hP
  have hl := lv_entry ([.ref (ad 0), .int k, .int d]) (n := 3) (Nat.le_of_ble_eq_true rfl)
  rw [lg_entry_eq]
  generalize (lg_sl ([.ref (ad 0), .int k, .int d]) ++ List.replicate (3 - (lg_sl ([.ref (ad 0), .int k, .int d])).length) Slot.unset).toArray = ls at hl ⊢
  have hl : lv_has ls 3 [(0, .ref (ad 0)), (1, .int k), (2, .int d)] := hl
  have km1000001 : (-1000001 : Int32).toInt = -1000001 := by decide
  have k0 : (0 : Int32).toInt = 0 := by decide
  have k1 : (1 : Int32).toInt = 1 := by decide
  refine lv_aload_n hx hb dX10_barred_0 rfl (lv_at hl 0 rfl) ?_
  refine lv_iload_n hx hb dX10_barred_1 rfl (lv_at hl 1 rfl) ?_
  refine st_i1 (va_runV (C := RX10) (As := [.int k]) (rest := []) ⟨hx, hb, hml, hown, hts⟩ (ct_X10_isCrate l D cI cY cJ cQ _ ad tn td lf cn k) (cwV 1 hts gX10_barred_X10_isCrate rfl rfl rfl ⟨rfl, cdX10_isCrate⟩ ⟨Nat.le_of_ble_eq_true rfl, Nat.le_of_ble_eq_true rfl⟩) (cPreV (hP.sub [0, 1] rfl) hK (hD.sub [0, 1] (by decide +kernel) rfl) hN (ci := 10) (q0 := 0) rfl rfl) rfl rfl hl.1 rfl (lv_room (Nat.le_of_ble_eq_true rfl)) dX10_barred_2 ⟨Nat.le_of_ble_eq_true rfl, Nat.le_of_ble_eq_true rfl⟩) hP hD hS hA [0, 1] rfl (fun _ => rfl) (fun r3 u1 H locs hw2 => ?_)
  clear hP hS
  intro hP hS
  replace hw2 : r3 = if 0 ≤ k.toInt ∧ k.toInt < cn.toInt then 1 else 0 := hw2
  refine lv_if_eq (tgt := 15) hx hb dX10_barred_5 (by decide) (fun c4 => ?_) (fun c4 => ?_)
  · skip
    have f5 := bo_f hw2 c4
    refine lv_ldc hx hb hown (hts (Cond.constant RX10 89 (-1000001)) (wm_t (wm_l (wm_i 0 rfl)))) dX10_barred_15 ?_
    have hP9 := hP
    have hD9 := hD
    exact W.iret (v := (-1000001)) hx hb hr (fun t ht hW => ⟨⟨(-1000001), (pt, ps, ha, re), rfl, (by show ((-1000001) : Int32) = sp_barred cn pn hn lc fo pk pf po pd pe pr ho hc hp hs lp la lb k d; unfold sp_barred; (repeat' split) <;> first | rfl | (exfalso; omega)), by rw [ht]; exact hP9, va_K.moved hW.alike hK, hD9⟩, hS.F ht⟩) hS.2.2 dX10_barred_17
  · skip
    have f6 := bo_t hw2 c4
    refine lv_iload_n hx hb dX10_barred_8 rfl (lv_at hl 2 rfl) ?_
    refine st_i1 (va_runS (As := [.int d]) (rest := []) ⟨hx, hb, hml, hown, hts⟩ (ct_X10_isDay l D cI cY cJ cQ _ d) (va_cwS 1 hts gX10_barred_X10_isDay rfl rfl rfl cdX10_isDay ⟨Nat.le_of_ble_eq_true rfl, Nat.le_of_ble_eq_true rfl⟩) (cPreS (hP.sub [] rfl) hK (hD.sub [] (by decide +kernel) rfl) hN) rfl rfl hl.1 rfl (lv_room (Nat.le_of_ble_eq_true rfl)) dX10_barred_9 ⟨Nat.le_of_ble_eq_true rfl, Nat.le_of_ble_eq_true rfl⟩) hP hD hS hA [] rfl (fun _ => rfl) (fun r9 u7 H locs hw8 => ?_)
    clear hP hS
    intro hP hS
    replace hw8 : r9 = if 0 ≤ d.toInt ∧ d.toInt < 10000 then 1 else 0 := hw8
    refine lv_if_ne (tgt := 18) hx hb dX10_barred_12 (by decide) (fun c10 => ?_) (fun c10 => ?_)
    · skip
      have f11 := bo_t hw8 c10
      refine lv_aload_n hx hb dX10_barred_18 rfl (lv_at hl 0 rfl) ?_
      refine lv_iload_n hx hb dX10_barred_19 rfl (lv_at hl 1 rfl) ?_
      refine lv_iload_n hx hb dX10_barred_20 rfl (lv_at hl 2 rfl) ?_
      refine st_i (wr := []) (va_runV (C := RX10) (As := [.int k, .int d]) (rest := []) ⟨hx, hb, hml, hown, hts⟩ (ct_X10_isBarred l D cI cY cJ cQ _ ad tn td lf cn pn hn lc fo pk pf po pd pe pr ho hc hp hs pt ps ha re lp la lb k d h2 (by omega) (by omega) h3 h4 h5 h6 h7 h8 h9 h10 h11 h12 h13) (cwV 2 hts gX10_barred_X10_isBarred rfl rfl rfl ⟨rfl, cdX10_isBarred⟩ ⟨Nat.le_of_ble_eq_true rfl, Nat.le_of_ble_eq_true rfl⟩) (cPreV (hP.sub [0, 1, 2, 3, 4, 5, 6, 7, 8, 9, 10, 11, 12, 13, 14, 15, 16, 17, 18, 19, 20, 21, 22] rfl) hK (hD.sub [0, 1, 2, 3, 4, 5, 6, 7, 8, 9, 10, 11, 12, 13, 14, 15, 16, 17, 18, 19, 20, 21, 22] (by decide +kernel) rfl) hN (ci := 10) (q0 := 0) rfl rfl) rfl rfl hl.1 rfl (lv_room (Nat.le_of_ble_eq_true rfl)) dX10_barred_21 ⟨Nat.le_of_ble_eq_true rfl, Nat.le_of_ble_eq_true rfl⟩) hP hD hS hA [0, 1, 2, 3, 4, 5, 6, 7, 8, 9, 10, 11, 12, 13, 14, 15, 16, 17, 18, 19, 20, 21, 22] [] rfl rfl (by decide +kernel) (by decide +kernel) (fun r14 u12 H locs hw13 => ?_)
      clear hP hD hS
      intro hP hD hS
      obtain ⟨pt_15, ps_16, ha_17, re_18⟩ := u12
      replace hw13 : r14 = if 500000 ≤ brV (ppF ho hc hp hs d hn.toNatClampNeg) (poV lp la lb d lc.toNatClampNeg) (owV pk pf po pd pe pr k d d (fo k.toNatClampNeg) pn.toNatClampNeg).toNatClampNeg 10 then 1 else 0 := hw13
      replace hP : va_P D vwCl [(oC10 ad tn td lf), (oC1 ad cn), (aI cI (ad 31) 12 fo), (oC7 ad pn), (aI cI (ad 36) 40 pk), (aI cI (ad 37) 40 pf), (aI cI (ad 38) 40 po), (aI cI (ad 39) 40 pd), (aI cI (ad 40) 40 pe), (aI cI (ad 41) 40 pr), (oC3 ad hn), (aI cI (ad 23) 40 ho), (aI cI (ad 24) 40 hc), (aI cI (ad 25) 40 hp), (aI cI (ad 26) 40 hs), (aI cI (ad 27) 200 pt_15), (aI cI (ad 28) 200 ps_16), (aI cI (ad 29) 20 ha_17), (aI cI (ad 30) 10 re_18), (oC4 ad lc), (aI cI (ad 63) 20 lp), (aI cI (ad 64) 20 la), (aI cI (ad 65) 20 lb)] H := hP
      replace hD : va_D A [(oC10 ad tn td lf), (oC1 ad cn), (aI cI (ad 31) 12 fo), (oC7 ad pn), (aI cI (ad 36) 40 pk), (aI cI (ad 37) 40 pf), (aI cI (ad 38) 40 po), (aI cI (ad 39) 40 pd), (aI cI (ad 40) 40 pe), (aI cI (ad 41) 40 pr), (oC3 ad hn), (aI cI (ad 23) 40 ho), (aI cI (ad 24) 40 hc), (aI cI (ad 25) 40 hp), (aI cI (ad 26) 40 hs), (aI cI (ad 27) 200 pt_15), (aI cI (ad 28) 200 ps_16), (aI cI (ad 29) 20 ha_17), (aI cI (ad 30) 10 re_18), (oC4 ad lc), (aI cI (ad 63) 20 lp), (aI cI (ad 64) 20 la), (aI cI (ad 65) 20 lb)] := hD
      refine lv_if_eq (tgt := 31) hx hb dX10_barred_24 (by decide) (fun c19 => ?_) (fun c19 => ?_)
      · skip
        have f20 := bo_f hw13 c19
        refine lv_iconst (v := 0) hx hb dX10_barred_31 (by decide) ?_
        have hP9 := hP
        have hD9 := hD
        exact W.iret (v := 0) hx hb hr (fun t ht hW => ⟨⟨0, (pt_15, ps_16, ha_17, re_18), rfl, (by show (0 : Int32) = sp_barred cn pn hn lc fo pk pf po pd pe pr ho hc hp hs lp la lb k d; unfold sp_barred; (repeat' split) <;> first | rfl | (exfalso; omega)), by rw [ht]; exact hP9, va_K.moved hW.alike hK, hD9⟩, hS.F ht⟩) hS.2.2 dX10_barred_32
      · skip
        have f21 := bo_t hw13 c19
        refine lv_iconst (v := 1) hx hb dX10_barred_27 (by decide) ?_
        refine lv_goto (tgt := 32) hx hb dX10_barred_28 (by decide) ?_
        have hP9 := hP
        have hD9 := hD
        exact W.iret (v := 1) hx hb hr (fun t ht hW => ⟨⟨1, (pt_15, ps_16, ha_17, re_18), rfl, (by show (1 : Int32) = sp_barred cn pn hn lc fo pk pf po pd pe pr ho hc hp hs lp la lb k d; unfold sp_barred; (repeat' split) <;> first | rfl | (exfalso; omega)), by rw [ht]; exact hP9, va_K.moved hW.alike hK, hD9⟩, hS.F ht⟩) hS.2.2 dX10_barred_32
    · skip
      have f22 := bo_f hw8 c10
      refine lv_ldc hx hb hown (hts (Cond.constant RX10 89 (-1000001)) (wm_t (wm_l (wm_i 0 rfl)))) dX10_barred_15 ?_
      have hP9 := hP
      have hD9 := hD
      exact W.iret (v := (-1000001)) hx hb hr (fun t ht hW => ⟨⟨(-1000001), (pt, ps, ha, re), rfl, (by show ((-1000001) : Int32) = sp_barred cn pn hn lc fo pk pf po pd pe pr ho hc hp hs lp la lb k d; unfold sp_barred; (repeat' split) <;> first | rfl | (exfalso; omega)), by rw [ht]; exact hP9, va_K.moved hW.alike hK, hD9⟩, hS.F ht⟩) hS.2.2 dX10_barred_17

set_option maxHeartbeats 4000000 in
set_option maxRecDepth 100000 in
theorem ct_X10_kindToday (l : Launch) (D : va_G) (cI cY cJ cQ : ClassId) (sz : Nat) (ad : Nat → Nat) (tn td lf cn pn hn lc gn : Int32) (fo pk pf po pd pe pr ho hc hp hs pt ps ha re lp la lb wo gk gs gd ge : Nat → Int32) (k : Int32)  (h1 : cn.toInt ≤ 12) (h2 : 0 ≤ k.toInt) (h3 : k.toInt < cn.toInt) (h4 : 0 ≤ pn.toInt) (h5 : pn.toInt ≤ 40) (h6 : okO pn pr) (h7 : 0 ≤ hn.toInt) (h8 : hn.toInt ≤ 40) (h9 : okH hn ho hc) (h10 : okV hn hp) (h11 : 0 ≤ lc.toInt) (h12 : lc.toInt ≤ 20) (h13 : 0 ≤ gn.toInt) (h14 : gn.toInt ≤ 40) (h15 : okF cn fo) (h16 : okG pn po)  : Met l yX10_kindToday wsX10_kindToday ({ frames := 16, cells := 0, slots := 0, locals := 472 }) (cPre D (ty4 cI cY cJ cQ) [(oC10 ad tn td lf), (oC1 ad cn), (aI cI (ad 31) 12 fo), (oC7 ad pn), (aI cI (ad 36) 40 pk), (aI cI (ad 37) 40 pf), (aI cI (ad 38) 40 po), (aI cI (ad 39) 40 pd), (aI cI (ad 40) 40 pe), (aI cI (ad 41) 40 pr), (oC3 ad hn), (aI cI (ad 23) 40 ho), (aI cI (ad 24) 40 hc), (aI cI (ad 25) 40 hp), (aI cI (ad 26) 40 hs), (aI cI (ad 27) 200 pt), (aI cI (ad 28) 200 ps), (aI cI (ad 29) 20 ha), (aI cI (ad 30) 10 re), (oC4 ad lc), (aI cI (ad 63) 20 lp), (aI cI (ad 64) 20 la), (aI cI (ad 65) 20 lb), (aI cI (ad 32) 12 wo), (oC8 ad gn), (aI cI (ad 42) 40 gk), (aI cI (ad 43) 40 gs), (aI cI (ad 44) 40 gd), (aI cI (ad 45) 40 ge)] sz [.ref (ad 0), .int k]) (va_Qi (fun (r : Int32) (u : (Nat → Int32) × (Nat → Int32) × (Nat → Int32) × (Nat → Int32)) => r = kdF (brV (ppF ho hc hp hs td hn.toNatClampNeg) (poV lp la lb td lc.toNatClampNeg) (owV pk pf po pd pe pr k td td (fo k.toNatClampNeg) pn.toNatClampNeg).toNatClampNeg 10) (suV gk gs ge k td gn.toNatClampNeg) (wo k.toNatClampNeg)) (cB D (ty4 cI cY cJ cQ) (fun (u : (Nat → Int32) × (Nat → Int32) × (Nat → Int32) × (Nat → Int32)) => [(oC10 ad tn td lf), (oC1 ad cn), (aI cI (ad 31) 12 fo), (oC7 ad pn), (aI cI (ad 36) 40 pk), (aI cI (ad 37) 40 pf), (aI cI (ad 38) 40 po), (aI cI (ad 39) 40 pd), (aI cI (ad 40) 40 pe), (aI cI (ad 41) 40 pr), (oC3 ad hn), (aI cI (ad 23) 40 ho), (aI cI (ad 24) 40 hc), (aI cI (ad 25) 40 hp), (aI cI (ad 26) 40 hs), (aI cI (ad 27) 200 u.1), (aI cI (ad 28) 200 u.2.1), (aI cI (ad 29) 20 u.2.2.1), (aI cI (ad 30) 10 u.2.2.2), (oC4 ad lc), (aI cI (ad 63) 20 lp), (aI cI (ad 64) 20 la), (aI cI (ad 65) 20 lb), (aI cI (ad 32) 12 wo), (oC8 ad gn), (aI cI (ad 42) 40 gk), (aI cI (ad 43) 40 gs), (aI cI (ad 44) 40 gd), (aI cI (ad 45) 40 ge)]) (va_A [(oC10 ad tn td lf), (oC1 ad cn), (aI cI (ad 31) 12 fo), (oC7 ad pn), (aI cI (ad 36) 40 pk), (aI cI (ad 37) 40 pf), (aI cI (ad 38) 40 po), (aI cI (ad 39) 40 pd), (aI cI (ad 40) 40 pe), (aI cI (ad 41) 40 pr), (oC3 ad hn), (aI cI (ad 23) 40 ho), (aI cI (ad 24) 40 hc), (aI cI (ad 25) 40 hp), (aI cI (ad 26) 40 hs), (aI cI (ad 27) 200 pt), (aI cI (ad 28) 200 ps), (aI cI (ad 29) 20 ha), (aI cI (ad 30) 10 re), (oC4 ad lc), (aI cI (ad 63) 20 lp), (aI cI (ad 64) 20 la), (aI cI (ad 65) 20 lb), (aI cI (ad 32) 12 wo), (oC8 ad gn), (aI cI (ad 42) 40 gk), (aI cI (ad 43) 40 gs), (aI cI (ad 44) 40 gd), (aI cI (ad 45) 40 ge)] sz)) (va_A [(oC10 ad tn td lf), (oC1 ad cn), (aI cI (ad 31) 12 fo), (oC7 ad pn), (aI cI (ad 36) 40 pk), (aI cI (ad 37) 40 pf), (aI cI (ad 38) 40 po), (aI cI (ad 39) 40 pd), (aI cI (ad 40) 40 pe), (aI cI (ad 41) 40 pr), (oC3 ad hn), (aI cI (ad 23) 40 ho), (aI cI (ad 24) 40 hc), (aI cI (ad 25) 40 hp), (aI cI (ad 26) 40 hs), (aI cI (ad 27) 200 pt), (aI cI (ad 28) 200 ps), (aI cI (ad 29) 20 ha), (aI cI (ad 30) 10 re), (oC4 ad lc), (aI cI (ad 63) 20 lp), (aI cI (ad 64) 20 la), (aI cI (ad 65) 20 lb), (aI cI (ad 32) 12 wo), (oC8 ad gn), (aI cI (ad 42) 40 gk), (aI cI (ad 43) 40 gs), (aI cI (ad 44) 40 gd), (aI cI (ad 45) 40 ge)] sz)) 0 0 (va_A [(oC10 ad tn td lf), (oC1 ad cn), (aI cI (ad 31) 12 fo), (oC7 ad pn), (aI cI (ad 36) 40 pk), (aI cI (ad 37) 40 pf), (aI cI (ad 38) 40 po), (aI cI (ad 39) 40 pd), (aI cI (ad 40) 40 pe), (aI cI (ad 41) 40 pr), (oC3 ad hn), (aI cI (ad 23) 40 ho), (aI cI (ad 24) 40 hc), (aI cI (ad 25) 40 hp), (aI cI (ad 26) 40 hs), (aI cI (ad 27) 200 pt), (aI cI (ad 28) 200 ps), (aI cI (ad 29) 20 ha), (aI cI (ad 30) 10 re), (oC4 ad lc), (aI cI (ad 63) 20 lp), (aI cI (ad 64) 20 la), (aI cI (ad 65) 20 lb), (aI cI (ad 32) 12 wo), (oC8 ad gn), (aI cI (ad 42) 40 gk), (aI cI (ad 43) 40 gs), (aI cI (ad 44) 40 gd), (aI cI (ad 45) 40 ge)] sz) := by
  refine Met.ofW (cc := cX10_kindToday) (maxL := 3) (ret := (some .int)) (by decide) rfl ?_
  intro p e s m args below meth c s₁ B hml hv
  obtain ⟨rfl, hsz, hP, hK, hD0, hN⟩ := hv
  have hx := B.exec
  have hb := B.bytes
  have hr := B.returns
  have hts := atoms_spec (ws := wsX10_kindToday) B.pre
  have hown : s.vm.findClass RX10 = some m.cls := findClass_of_methodNamed B.named
  have hlocks := B.notSynchronized
  subst hsz
  have hD := hD0.self (sz := s.heap.size)
  generalize hAe : va_A [(oC10 ad tn td lf), (oC1 ad cn), (aI cI (ad 31) 12 fo), (oC7 ad pn), (aI cI (ad 36) 40 pk), (aI cI (ad 37) 40 pf), (aI cI (ad 38) 40 po), (aI cI (ad 39) 40 pd), (aI cI (ad 40) 40 pe), (aI cI (ad 41) 40 pr), (oC3 ad hn), (aI cI (ad 23) 40 ho), (aI cI (ad 24) 40 hc), (aI cI (ad 25) 40 hp), (aI cI (ad 26) 40 hs), (aI cI (ad 27) 200 pt), (aI cI (ad 28) 200 ps), (aI cI (ad 29) 20 ha), (aI cI (ad 30) 10 re), (oC4 ad lc), (aI cI (ad 63) 20 lp), (aI cI (ad 64) 20 la), (aI cI (ad 65) 20 lb), (aI cI (ad 32) 12 wo), (oC8 ad gn), (aI cI (ad 42) 40 gk), (aI cI (ad 43) 40 gs), (aI cI (ad 44) 40 gd), (aI cI (ad 45) 40 ge)] s.heap.size = A at hD ⊢
  have hA : ∀ q : Nat, s.heap.size ≤ q → A q := fun q h => by rw [← hAe]; exact Or.inr h
  have hS : va_S A s.heap s.heap [] := va_S.rf
  have hP : va_P D vwCl [(oC10 ad tn td lf), (oC1 ad cn), (aI cI (ad 31) 12 fo), (oC7 ad pn), (aI cI (ad 36) 40 pk), (aI cI (ad 37) 40 pf), (aI cI (ad 38) 40 po), (aI cI (ad 39) 40 pd), (aI cI (ad 40) 40 pe), (aI cI (ad 41) 40 pr), (oC3 ad hn), (aI cI (ad 23) 40 ho), (aI cI (ad 24) 40 hc), (aI cI (ad 25) 40 hp), (aI cI (ad 26) 40 hs), (aI cI (ad 27) 200 pt), (aI cI (ad 28) 200 ps), (aI cI (ad 29) 20 ha), (aI cI (ad 30) 10 re), (oC4 ad lc), (aI cI (ad 63) 20 lp), (aI cI (ad 64) 20 la), (aI cI (ad 65) 20 lb), (aI cI (ad 32) 12 wo), (oC8 ad gn), (aI cI (ad 42) 40 gk), (aI cI (ad 43) 40 gs), (aI cI (ad 44) 40 gd), (aI cI (ad 45) 40 ge)] s.heap := hP
  have hl := lv_entry ([.ref (ad 0), .int k]) (n := 3) (Nat.le_of_ble_eq_true rfl)
  rw [lg_entry_eq]
  generalize (lg_sl ([.ref (ad 0), .int k]) ++ List.replicate (3 - (lg_sl ([.ref (ad 0), .int k])).length) Slot.unset).toArray = ls at hl ⊢
  have hl : lv_has ls 3 [(0, .ref (ad 0)), (1, .int k)] := hl
  have k0 : (0 : Int32).toInt = 0 := by decide
  have k1 : (1 : Int32).toInt = 1 := by decide
  have k2 : (2 : Int32).toInt = 2 := by decide
  have k3 : (3 : Int32).toInt = 3 := by decide
  have k4 : (4 : Int32).toInt = 4 := by decide
  refine lv_aload_n hx hb dX10_kindToday_0 rfl (lv_at hl 0 rfl) ?_
  refine lv_iload_n hx hb dX10_kindToday_1 rfl (lv_at hl 1 rfl) ?_
  refine lv_aload_n hx hb dX10_kindToday_2 rfl (lv_at hl 0 rfl) ?_
  refine va_get (D := D) (ci := 10) (v := .int td) (C := RX10) (T := TX10) (N := 14) hx hb hts inX10_kindToday_X10 hown hK hP 0 rfl rfl 12 (by decide) (hts (Cond.fieldLink RX10 298 "PortRooms" "today" "I") (wm_t (wm_l (wm_i 0 rfl)))) (fun _ h9 => h9) rfl dX10_kindToday_3 ?_
  refine st_i (wr := [(aI cI (ad 32) 12 wo), (oC8 ad gn), (aI cI (ad 42) 40 gk), (aI cI (ad 43) 40 gs), (aI cI (ad 44) 40 gd), (aI cI (ad 45) 40 ge)]) (va_runV (C := RX10) (As := [.int k, .int td]) (rest := []) ⟨hx, hb, hml, hown, hts⟩ (ct_X10_isBarred l D cI cY cJ cQ _ ad tn td lf cn pn hn lc fo pk pf po pd pe pr ho hc hp hs pt ps ha re lp la lb k td h1 h2 h3 h4 h5 h6 h7 h8 h9 h10 h11 h12 h15 h16) (cwV 2 hts gX10_kindToday_X10_isBarred rfl rfl rfl ⟨rfl, cdX10_isBarred⟩ ⟨Nat.le_of_ble_eq_true rfl, Nat.le_of_ble_eq_true rfl⟩) (cPreV (hP.sub [0, 1, 2, 3, 4, 5, 6, 7, 8, 9, 10, 11, 12, 13, 14, 15, 16, 17, 18, 19, 20, 21, 22] rfl) hK (hD.sub [0, 1, 2, 3, 4, 5, 6, 7, 8, 9, 10, 11, 12, 13, 14, 15, 16, 17, 18, 19, 20, 21, 22] (by decide +kernel) rfl) hN (ci := 10) (q0 := 0) rfl rfl) rfl rfl hl.1 rfl (lv_room (Nat.le_of_ble_eq_true rfl)) dX10_kindToday_6 ⟨Nat.le_of_ble_eq_true rfl, Nat.le_of_ble_eq_true rfl⟩) hP hD hS hA [0, 1, 2, 3, 4, 5, 6, 7, 8, 9, 10, 11, 12, 13, 14, 15, 16, 17, 18, 19, 20, 21, 22] [23, 24, 25, 26, 27, 28] rfl rfl (by decide +kernel) (by decide +kernel) (fun r3 u1 H locs hw2 => ?_)
  clear hP hD hS
  intro hP hD hS
  obtain ⟨pt_4, ps_5, ha_6, re_7⟩ := u1
  replace hw2 : r3 = if 500000 ≤ brV (ppF ho hc hp hs td hn.toNatClampNeg) (poV lp la lb td lc.toNatClampNeg) (owV pk pf po pd pe pr k td td (fo k.toNatClampNeg) pn.toNatClampNeg).toNatClampNeg 10 then 1 else 0 := hw2
  replace hP : va_P D vwCl [(aI cI (ad 32) 12 wo), (oC8 ad gn), (aI cI (ad 42) 40 gk), (aI cI (ad 43) 40 gs), (aI cI (ad 44) 40 gd), (aI cI (ad 45) 40 ge), (oC10 ad tn td lf), (oC1 ad cn), (aI cI (ad 31) 12 fo), (oC7 ad pn), (aI cI (ad 36) 40 pk), (aI cI (ad 37) 40 pf), (aI cI (ad 38) 40 po), (aI cI (ad 39) 40 pd), (aI cI (ad 40) 40 pe), (aI cI (ad 41) 40 pr), (oC3 ad hn), (aI cI (ad 23) 40 ho), (aI cI (ad 24) 40 hc), (aI cI (ad 25) 40 hp), (aI cI (ad 26) 40 hs), (aI cI (ad 27) 200 pt_4), (aI cI (ad 28) 200 ps_5), (aI cI (ad 29) 20 ha_6), (aI cI (ad 30) 10 re_7), (oC4 ad lc), (aI cI (ad 63) 20 lp), (aI cI (ad 64) 20 la), (aI cI (ad 65) 20 lb)] H := hP
  replace hD : va_D A [(aI cI (ad 32) 12 wo), (oC8 ad gn), (aI cI (ad 42) 40 gk), (aI cI (ad 43) 40 gs), (aI cI (ad 44) 40 gd), (aI cI (ad 45) 40 ge), (oC10 ad tn td lf), (oC1 ad cn), (aI cI (ad 31) 12 fo), (oC7 ad pn), (aI cI (ad 36) 40 pk), (aI cI (ad 37) 40 pf), (aI cI (ad 38) 40 po), (aI cI (ad 39) 40 pd), (aI cI (ad 40) 40 pe), (aI cI (ad 41) 40 pr), (oC3 ad hn), (aI cI (ad 23) 40 ho), (aI cI (ad 24) 40 hc), (aI cI (ad 25) 40 hp), (aI cI (ad 26) 40 hs), (aI cI (ad 27) 200 pt_4), (aI cI (ad 28) 200 ps_5), (aI cI (ad 29) 20 ha_6), (aI cI (ad 30) 10 re_7), (oC4 ad lc), (aI cI (ad 63) 20 lp), (aI cI (ad 64) 20 la), (aI cI (ad 65) 20 lb)] := hD
  refine lv_if_eq (tgt := 14) hx hb dX10_kindToday_9 (by decide) (fun c8 => ?_) (fun c8 => ?_)
  · skip
    have f9 := bo_f hw2 c8
    refine lv_aload_n hx hb dX10_kindToday_14 rfl (lv_at hl 0 rfl) ?_
    refine va_get (D := D) (ci := 10) (v := .ref (ad 5)) (C := RX10) (T := TX10) (N := 14) hx hb hts inX10_kindToday_X10 hown hK hP 6 rfl rfl 4 (by decide) (hts (Cond.fieldLink RX10 40 "PortRooms" "pledges" "LPortRooms$Pledges;") (wm_t (wm_l (wm_i 1 rfl)))) (fun _ h9 => h9) rfl dX10_kindToday_15 ?_
    refine lv_iload_n hx hb dX10_kindToday_18 rfl (lv_at hl 1 rfl) ?_
    refine lv_aload_n hx hb dX10_kindToday_19 rfl (lv_at hl 0 rfl) ?_
    refine va_get (D := D) (ci := 10) (v := .int td) (C := RX10) (T := TX10) (N := 14) hx hb hts inX10_kindToday_X10 hown hK hP 6 rfl rfl 12 (by decide) (hts (Cond.fieldLink RX10 298 "PortRooms" "today" "I") (wm_t (wm_l (wm_i 0 rfl)))) (fun _ h9 => h9) rfl dX10_kindToday_20 ?_
    refine st_i1 (va_runV (C := RX8) (As := [.int k, .int td]) (rest := []) ⟨hx, hb, hml, hown, hts⟩ (ct_X8_sumsOn l D cI cY cJ cQ _ ad gn gk gs gd ge k td h13 h14) (cwV 2 hts gX10_kindToday_X8_sumsOn rfl rfl rfl ⟨rfl, cdX8_sumsOn⟩ ⟨Nat.le_of_ble_eq_true rfl, Nat.le_of_ble_eq_true rfl⟩) (cPreV (hP.sub [1, 2, 3, 4, 5] rfl) hK (hD.sub [1, 2, 3, 4, 5] (by decide +kernel) rfl) hN (ci := 8) (q0 := 0) rfl rfl) rfl rfl hl.1 rfl (lv_room (Nat.le_of_ble_eq_true rfl)) dX10_kindToday_23 ⟨Nat.le_of_ble_eq_true rfl, Nat.le_of_ble_eq_true rfl⟩) hP hD hS hA [1, 2, 3, 4, 5] rfl (fun _ => rfl) (fun r12 u10 H locs hw11 => ?_)
    clear hP hS
    intro hP hS
    replace hw11 : r12 = suV gk gs ge k td gn.toNatClampNeg := hw11
    subst hw11
    refine lv_istore_n (lv' := [(2, .int (suV gk gs ge k td gn.toNatClampNeg)), (0, .ref (ad 0)), (1, .int k)]) hx hb dX10_kindToday_26 rfl hl (by decide) rfl (fun ls hl => ?_)
    refine lv_iload_n hx hb dX10_kindToday_27 rfl (lv_at hl 0 rfl) ?_
    refine lv_aload_n hx hb dX10_kindToday_28 rfl (lv_at hl 1 rfl) ?_
    refine va_get (D := D) (ci := 10) (v := .ref (ad 3)) (C := RX10) (T := TX10) (N := 14) hx hb hts inX10_kindToday_X10 hown hK hP 6 rfl rfl 2 (by decide) (hts (Cond.fieldLink RX10 26 "PortRooms" "crates" "LPortRooms$Crates;") (wm_t (wm_l (wm_i 2 rfl)))) (fun _ h9 => h9) rfl dX10_kindToday_29 ?_
    refine va_get (D := D) (ci := 1) (v := .ref (ad 32)) (C := RX1) (T := TX1) (N := 6) hx hb hts inX10_kindToday_X1 hown hK hP 7 rfl rfl 1 (by decide) (hts (Cond.fieldLink RX10 207 "PortRooms$Crates" "worth" "[I") (wm_t (wm_l (wm_i 3 rfl)))) (fun _ h9 => h9) rfl dX10_kindToday_32 ?_
    refine lv_iload_n hx hb dX10_kindToday_35 rfl (lv_at hl 2 rfl) ?_
    refine va_iald hx hb hK hP 0 0 rfl rfl (i_in (by omega) (by omega)) dX10_kindToday_36 ?_
    refine lv_topi (fun v13 ev13 => ?_)
    have tlv13 : v13.toInt = (wo k.toNatClampNeg).toInt := by rw [ev13]
    refine lv_icmp_le (tgt := 42) hx hb dX10_kindToday_37 (by decide) (fun c14 => ?_) (fun c14 => ?_)
    · skip
      have f15 := i_le c14
      refine lv_iload_n hx hb dX10_kindToday_42 rfl (lv_at hl 0 rfl) ?_
      refine lv_if_le (tgt := 50) hx hb dX10_kindToday_43 (by decide) (fun c16 => ?_) (fun c16 => ?_)
      · skip
        have f17 := i_le c16
        refine lv_iconst (v := 4) hx hb dX10_kindToday_50 (by decide) ?_
        have hP9 := hP.sub (ws' := [(oC10 ad tn td lf), (oC1 ad cn), (aI cI (ad 31) 12 fo), (oC7 ad pn), (aI cI (ad 36) 40 pk), (aI cI (ad 37) 40 pf), (aI cI (ad 38) 40 po), (aI cI (ad 39) 40 pd), (aI cI (ad 40) 40 pe), (aI cI (ad 41) 40 pr), (oC3 ad hn), (aI cI (ad 23) 40 ho), (aI cI (ad 24) 40 hc), (aI cI (ad 25) 40 hp), (aI cI (ad 26) 40 hs), (aI cI (ad 27) 200 pt_4), (aI cI (ad 28) 200 ps_5), (aI cI (ad 29) 20 ha_6), (aI cI (ad 30) 10 re_7), (oC4 ad lc), (aI cI (ad 63) 20 lp), (aI cI (ad 64) 20 la), (aI cI (ad 65) 20 lb), (aI cI (ad 32) 12 wo), (oC8 ad gn), (aI cI (ad 42) 40 gk), (aI cI (ad 43) 40 gs), (aI cI (ad 44) 40 gd), (aI cI (ad 45) 40 ge)]) [6, 7, 8, 9, 10, 11, 12, 13, 14, 15, 16, 17, 18, 19, 20, 21, 22, 23, 24, 25, 26, 27, 28, 0, 1, 2, 3, 4, 5] rfl
        have hD9 := hD.sub (ws' := [(oC10 ad tn td lf), (oC1 ad cn), (aI cI (ad 31) 12 fo), (oC7 ad pn), (aI cI (ad 36) 40 pk), (aI cI (ad 37) 40 pf), (aI cI (ad 38) 40 po), (aI cI (ad 39) 40 pd), (aI cI (ad 40) 40 pe), (aI cI (ad 41) 40 pr), (oC3 ad hn), (aI cI (ad 23) 40 ho), (aI cI (ad 24) 40 hc), (aI cI (ad 25) 40 hp), (aI cI (ad 26) 40 hs), (aI cI (ad 27) 200 pt_4), (aI cI (ad 28) 200 ps_5), (aI cI (ad 29) 20 ha_6), (aI cI (ad 30) 10 re_7), (oC4 ad lc), (aI cI (ad 63) 20 lp), (aI cI (ad 64) 20 la), (aI cI (ad 65) 20 lb), (aI cI (ad 32) 12 wo), (oC8 ad gn), (aI cI (ad 42) 40 gk), (aI cI (ad 43) 40 gs), (aI cI (ad 44) 40 gd), (aI cI (ad 45) 40 ge)]) [6, 7, 8, 9, 10, 11, 12, 13, 14, 15, 16, 17, 18, 19, 20, 21, 22, 23, 24, 25, 26, 27, 28, 0, 1, 2, 3, 4, 5] (by decide +kernel) rfl
        exact W.iret (v := 4) hx hb hr (fun t ht hW => ⟨⟨4, (pt_4, ps_5, ha_6, re_7), rfl, (by show (4 : Int32) = kdF (brV (ppF ho hc hp hs td hn.toNatClampNeg) (poV lp la lb td lc.toNatClampNeg) (owV pk pf po pd pe pr k td td (fo k.toNatClampNeg) pn.toNatClampNeg).toNatClampNeg 10) (suV gk gs ge k td gn.toNatClampNeg) (wo k.toNatClampNeg); unfold kdF; (repeat' split) <;> first | rfl | (exfalso; omega)), by rw [ht]; exact hP9, va_K.moved hW.alike hK, hD9⟩, hS.F ht⟩) hS.2.2 dX10_kindToday_51
      · skip
        have f18 := i_nle c16
        refine lv_iconst (v := 1) hx hb dX10_kindToday_46 (by decide) ?_
        refine lv_goto (tgt := 51) hx hb dX10_kindToday_47 (by decide) ?_
        have hP9 := hP.sub (ws' := [(oC10 ad tn td lf), (oC1 ad cn), (aI cI (ad 31) 12 fo), (oC7 ad pn), (aI cI (ad 36) 40 pk), (aI cI (ad 37) 40 pf), (aI cI (ad 38) 40 po), (aI cI (ad 39) 40 pd), (aI cI (ad 40) 40 pe), (aI cI (ad 41) 40 pr), (oC3 ad hn), (aI cI (ad 23) 40 ho), (aI cI (ad 24) 40 hc), (aI cI (ad 25) 40 hp), (aI cI (ad 26) 40 hs), (aI cI (ad 27) 200 pt_4), (aI cI (ad 28) 200 ps_5), (aI cI (ad 29) 20 ha_6), (aI cI (ad 30) 10 re_7), (oC4 ad lc), (aI cI (ad 63) 20 lp), (aI cI (ad 64) 20 la), (aI cI (ad 65) 20 lb), (aI cI (ad 32) 12 wo), (oC8 ad gn), (aI cI (ad 42) 40 gk), (aI cI (ad 43) 40 gs), (aI cI (ad 44) 40 gd), (aI cI (ad 45) 40 ge)]) [6, 7, 8, 9, 10, 11, 12, 13, 14, 15, 16, 17, 18, 19, 20, 21, 22, 23, 24, 25, 26, 27, 28, 0, 1, 2, 3, 4, 5] rfl
        have hD9 := hD.sub (ws' := [(oC10 ad tn td lf), (oC1 ad cn), (aI cI (ad 31) 12 fo), (oC7 ad pn), (aI cI (ad 36) 40 pk), (aI cI (ad 37) 40 pf), (aI cI (ad 38) 40 po), (aI cI (ad 39) 40 pd), (aI cI (ad 40) 40 pe), (aI cI (ad 41) 40 pr), (oC3 ad hn), (aI cI (ad 23) 40 ho), (aI cI (ad 24) 40 hc), (aI cI (ad 25) 40 hp), (aI cI (ad 26) 40 hs), (aI cI (ad 27) 200 pt_4), (aI cI (ad 28) 200 ps_5), (aI cI (ad 29) 20 ha_6), (aI cI (ad 30) 10 re_7), (oC4 ad lc), (aI cI (ad 63) 20 lp), (aI cI (ad 64) 20 la), (aI cI (ad 65) 20 lb), (aI cI (ad 32) 12 wo), (oC8 ad gn), (aI cI (ad 42) 40 gk), (aI cI (ad 43) 40 gs), (aI cI (ad 44) 40 gd), (aI cI (ad 45) 40 ge)]) [6, 7, 8, 9, 10, 11, 12, 13, 14, 15, 16, 17, 18, 19, 20, 21, 22, 23, 24, 25, 26, 27, 28, 0, 1, 2, 3, 4, 5] (by decide +kernel) rfl
        exact W.iret (v := 1) hx hb hr (fun t ht hW => ⟨⟨1, (pt_4, ps_5, ha_6, re_7), rfl, (by show (1 : Int32) = kdF (brV (ppF ho hc hp hs td hn.toNatClampNeg) (poV lp la lb td lc.toNatClampNeg) (owV pk pf po pd pe pr k td td (fo k.toNatClampNeg) pn.toNatClampNeg).toNatClampNeg 10) (suV gk gs ge k td gn.toNatClampNeg) (wo k.toNatClampNeg); unfold kdF; (repeat' split) <;> first | rfl | (exfalso; omega)), by rw [ht]; exact hP9, va_K.moved hW.alike hK, hD9⟩, hS.F ht⟩) hS.2.2 dX10_kindToday_51
    · skip
      have f19 := i_nle c14
      refine lv_iconst (v := 2) hx hb dX10_kindToday_40 (by decide) ?_
      have hP9 := hP.sub (ws' := [(oC10 ad tn td lf), (oC1 ad cn), (aI cI (ad 31) 12 fo), (oC7 ad pn), (aI cI (ad 36) 40 pk), (aI cI (ad 37) 40 pf), (aI cI (ad 38) 40 po), (aI cI (ad 39) 40 pd), (aI cI (ad 40) 40 pe), (aI cI (ad 41) 40 pr), (oC3 ad hn), (aI cI (ad 23) 40 ho), (aI cI (ad 24) 40 hc), (aI cI (ad 25) 40 hp), (aI cI (ad 26) 40 hs), (aI cI (ad 27) 200 pt_4), (aI cI (ad 28) 200 ps_5), (aI cI (ad 29) 20 ha_6), (aI cI (ad 30) 10 re_7), (oC4 ad lc), (aI cI (ad 63) 20 lp), (aI cI (ad 64) 20 la), (aI cI (ad 65) 20 lb), (aI cI (ad 32) 12 wo), (oC8 ad gn), (aI cI (ad 42) 40 gk), (aI cI (ad 43) 40 gs), (aI cI (ad 44) 40 gd), (aI cI (ad 45) 40 ge)]) [6, 7, 8, 9, 10, 11, 12, 13, 14, 15, 16, 17, 18, 19, 20, 21, 22, 23, 24, 25, 26, 27, 28, 0, 1, 2, 3, 4, 5] rfl
      have hD9 := hD.sub (ws' := [(oC10 ad tn td lf), (oC1 ad cn), (aI cI (ad 31) 12 fo), (oC7 ad pn), (aI cI (ad 36) 40 pk), (aI cI (ad 37) 40 pf), (aI cI (ad 38) 40 po), (aI cI (ad 39) 40 pd), (aI cI (ad 40) 40 pe), (aI cI (ad 41) 40 pr), (oC3 ad hn), (aI cI (ad 23) 40 ho), (aI cI (ad 24) 40 hc), (aI cI (ad 25) 40 hp), (aI cI (ad 26) 40 hs), (aI cI (ad 27) 200 pt_4), (aI cI (ad 28) 200 ps_5), (aI cI (ad 29) 20 ha_6), (aI cI (ad 30) 10 re_7), (oC4 ad lc), (aI cI (ad 63) 20 lp), (aI cI (ad 64) 20 la), (aI cI (ad 65) 20 lb), (aI cI (ad 32) 12 wo), (oC8 ad gn), (aI cI (ad 42) 40 gk), (aI cI (ad 43) 40 gs), (aI cI (ad 44) 40 gd), (aI cI (ad 45) 40 ge)]) [6, 7, 8, 9, 10, 11, 12, 13, 14, 15, 16, 17, 18, 19, 20, 21, 22, 23, 24, 25, 26, 27, 28, 0, 1, 2, 3, 4, 5] (by decide +kernel) rfl
      exact W.iret (v := 2) hx hb hr (fun t ht hW => ⟨⟨2, (pt_4, ps_5, ha_6, re_7), rfl, (by show (2 : Int32) = kdF (brV (ppF ho hc hp hs td hn.toNatClampNeg) (poV lp la lb td lc.toNatClampNeg) (owV pk pf po pd pe pr k td td (fo k.toNatClampNeg) pn.toNatClampNeg).toNatClampNeg 10) (suV gk gs ge k td gn.toNatClampNeg) (wo k.toNatClampNeg); unfold kdF; (repeat' split) <;> first | rfl | (exfalso; omega)), by rw [ht]; exact hP9, va_K.moved hW.alike hK, hD9⟩, hS.F ht⟩) hS.2.2 dX10_kindToday_41
  · skip
    have f20 := bo_t hw2 c8
    refine lv_iconst (v := 3) hx hb dX10_kindToday_12 (by decide) ?_
    have hP9 := hP.sub (ws' := [(oC10 ad tn td lf), (oC1 ad cn), (aI cI (ad 31) 12 fo), (oC7 ad pn), (aI cI (ad 36) 40 pk), (aI cI (ad 37) 40 pf), (aI cI (ad 38) 40 po), (aI cI (ad 39) 40 pd), (aI cI (ad 40) 40 pe), (aI cI (ad 41) 40 pr), (oC3 ad hn), (aI cI (ad 23) 40 ho), (aI cI (ad 24) 40 hc), (aI cI (ad 25) 40 hp), (aI cI (ad 26) 40 hs), (aI cI (ad 27) 200 pt_4), (aI cI (ad 28) 200 ps_5), (aI cI (ad 29) 20 ha_6), (aI cI (ad 30) 10 re_7), (oC4 ad lc), (aI cI (ad 63) 20 lp), (aI cI (ad 64) 20 la), (aI cI (ad 65) 20 lb), (aI cI (ad 32) 12 wo), (oC8 ad gn), (aI cI (ad 42) 40 gk), (aI cI (ad 43) 40 gs), (aI cI (ad 44) 40 gd), (aI cI (ad 45) 40 ge)]) [6, 7, 8, 9, 10, 11, 12, 13, 14, 15, 16, 17, 18, 19, 20, 21, 22, 23, 24, 25, 26, 27, 28, 0, 1, 2, 3, 4, 5] rfl
    have hD9 := hD.sub (ws' := [(oC10 ad tn td lf), (oC1 ad cn), (aI cI (ad 31) 12 fo), (oC7 ad pn), (aI cI (ad 36) 40 pk), (aI cI (ad 37) 40 pf), (aI cI (ad 38) 40 po), (aI cI (ad 39) 40 pd), (aI cI (ad 40) 40 pe), (aI cI (ad 41) 40 pr), (oC3 ad hn), (aI cI (ad 23) 40 ho), (aI cI (ad 24) 40 hc), (aI cI (ad 25) 40 hp), (aI cI (ad 26) 40 hs), (aI cI (ad 27) 200 pt_4), (aI cI (ad 28) 200 ps_5), (aI cI (ad 29) 20 ha_6), (aI cI (ad 30) 10 re_7), (oC4 ad lc), (aI cI (ad 63) 20 lp), (aI cI (ad 64) 20 la), (aI cI (ad 65) 20 lb), (aI cI (ad 32) 12 wo), (oC8 ad gn), (aI cI (ad 42) 40 gk), (aI cI (ad 43) 40 gs), (aI cI (ad 44) 40 gd), (aI cI (ad 45) 40 ge)]) [6, 7, 8, 9, 10, 11, 12, 13, 14, 15, 16, 17, 18, 19, 20, 21, 22, 23, 24, 25, 26, 27, 28, 0, 1, 2, 3, 4, 5] (by decide +kernel) rfl
    exact W.iret (v := 3) hx hb hr (fun t ht hW => ⟨⟨3, (pt_4, ps_5, ha_6, re_7), rfl, (by show (3 : Int32) = kdF (brV (ppF ho hc hp hs td hn.toNatClampNeg) (poV lp la lb td lc.toNatClampNeg) (owV pk pf po pd pe pr k td td (fo k.toNatClampNeg) pn.toNatClampNeg).toNatClampNeg 10) (suV gk gs ge k td gn.toNatClampNeg) (wo k.toNatClampNeg); unfold kdF; (repeat' split) <;> first | rfl | (exfalso; omega)), by rw [ht]; exact hP9, va_K.moved hW.alike hK, hD9⟩, hS.F ht⟩) hS.2.2 dX10_kindToday_13

def kd_day (pn hn lc gn td : Int32) (fo wo pk pf po pd pe pr ho hc hp hs lp la lb gk gs ge : Nat → Int32) (k : Int32) : Int32 := kdF (brV (ppF ho hc hp hs td hn.toNatClampNeg) (poV lp la lb td lc.toNatClampNeg) (owV pk pf po pd pe pr k td td (fo k.toNatClampNeg) pn.toNatClampNeg).toNatClampNeg 10) (suV gk gs ge k td gn.toNatClampNeg) (wo k.toNatClampNeg)
def sp_kind (cn pn hn lc gn td : Int32) (fo wo pk pf po pd pe pr ho hc hp hs lp la lb gk gs ge : Nat → Int32) (k : Int32) : Int32 := if 0 ≤ k.toInt ∧ k.toInt < cn.toInt then kd_day pn hn lc gn td fo wo pk pf po pd pe pr ho hc hp hs lp la lb gk gs ge k else -1000001
/-- of a kind: the one told, or one that it is, too -/
def isK (a b : Int32) : Prop := b.toInt = 0 ∨ b.toInt = a.toInt ∨ (b.toInt = 1 ∧ a.toInt = 2)
def sp_as (lf cn pn hn lc gn td : Int32) (fo wo pk pf po pd pe pr ho hc hp hs lp la lb gk gs ge : Nat → Int32) (k w r lf' : Int32) : Prop := if 0 ≤ k.toInt ∧ k.toInt < cn.toInt ∧ 0 ≤ w.toInt ∧ w.toInt < 5 then ((isK (kd_day pn hn lc gn td fo wo pk pf po pd pe pr ho hc hp hs lp la lb gk gs ge k) w ∧ r = wo k.toNatClampNeg ∧ lf' = 0) ∨ (¬ isK (kd_day pn hn lc gn td fo wo pk pf po pd pe pr ho hc hp hs lp la lb gk gs ge k) w ∧ r = -1000013 ∧ lf' = 3)) else (r = -1000001 ∧ lf' = lf)

set_option maxHeartbeats 4000000 in
set_option maxRecDepth 100000 in
theorem ct_X10_kind (l : Launch) (D : va_G) (cI cY cJ cQ : ClassId) (sz : Nat) (ad : Nat → Nat) (tn td lf cn pn hn lc gn : Int32) (fo pk pf po pd pe pr ho hc hp hs pt ps ha re lp la lb wo gk gs gd ge : Nat → Int32) (k : Int32)  (h1 : 0 ≤ cn.toInt) (h2 : cn.toInt ≤ 12) (h3 : 0 ≤ pn.toInt) (h4 : pn.toInt ≤ 40) (h5 : okO pn pr) (h6 : 0 ≤ hn.toInt) (h7 : hn.toInt ≤ 40) (h8 : okH hn ho hc) (h9 : okV hn hp) (h10 : 0 ≤ lc.toInt) (h11 : lc.toInt ≤ 20) (h12 : 0 ≤ gn.toInt) (h13 : gn.toInt ≤ 40) (h14 : okF cn fo) (h15 : okG pn po)  : Met l yX10_kind wsX10_kind ({ frames := 17, cells := 0, slots := 0, locals := 494 }) (cPre D (ty4 cI cY cJ cQ) [(oC10 ad tn td lf), (oC1 ad cn), (aI cI (ad 31) 12 fo), (oC7 ad pn), (aI cI (ad 36) 40 pk), (aI cI (ad 37) 40 pf), (aI cI (ad 38) 40 po), (aI cI (ad 39) 40 pd), (aI cI (ad 40) 40 pe), (aI cI (ad 41) 40 pr), (oC3 ad hn), (aI cI (ad 23) 40 ho), (aI cI (ad 24) 40 hc), (aI cI (ad 25) 40 hp), (aI cI (ad 26) 40 hs), (aI cI (ad 27) 200 pt), (aI cI (ad 28) 200 ps), (aI cI (ad 29) 20 ha), (aI cI (ad 30) 10 re), (oC4 ad lc), (aI cI (ad 63) 20 lp), (aI cI (ad 64) 20 la), (aI cI (ad 65) 20 lb), (aI cI (ad 32) 12 wo), (oC8 ad gn), (aI cI (ad 42) 40 gk), (aI cI (ad 43) 40 gs), (aI cI (ad 44) 40 gd), (aI cI (ad 45) 40 ge)] sz [.ref (ad 0), .int k]) (va_Qi (fun (r : Int32) (u : (Nat → Int32) × (Nat → Int32) × (Nat → Int32) × (Nat → Int32)) => r = sp_kind cn pn hn lc gn td fo wo pk pf po pd pe pr ho hc hp hs lp la lb gk gs ge k) (cB D (ty4 cI cY cJ cQ) (fun (u : (Nat → Int32) × (Nat → Int32) × (Nat → Int32) × (Nat → Int32)) => [(oC10 ad tn td lf), (oC1 ad cn), (aI cI (ad 31) 12 fo), (oC7 ad pn), (aI cI (ad 36) 40 pk), (aI cI (ad 37) 40 pf), (aI cI (ad 38) 40 po), (aI cI (ad 39) 40 pd), (aI cI (ad 40) 40 pe), (aI cI (ad 41) 40 pr), (oC3 ad hn), (aI cI (ad 23) 40 ho), (aI cI (ad 24) 40 hc), (aI cI (ad 25) 40 hp), (aI cI (ad 26) 40 hs), (aI cI (ad 27) 200 u.1), (aI cI (ad 28) 200 u.2.1), (aI cI (ad 29) 20 u.2.2.1), (aI cI (ad 30) 10 u.2.2.2), (oC4 ad lc), (aI cI (ad 63) 20 lp), (aI cI (ad 64) 20 la), (aI cI (ad 65) 20 lb), (aI cI (ad 32) 12 wo), (oC8 ad gn), (aI cI (ad 42) 40 gk), (aI cI (ad 43) 40 gs), (aI cI (ad 44) 40 gd), (aI cI (ad 45) 40 ge)]) (va_A [(oC10 ad tn td lf), (oC1 ad cn), (aI cI (ad 31) 12 fo), (oC7 ad pn), (aI cI (ad 36) 40 pk), (aI cI (ad 37) 40 pf), (aI cI (ad 38) 40 po), (aI cI (ad 39) 40 pd), (aI cI (ad 40) 40 pe), (aI cI (ad 41) 40 pr), (oC3 ad hn), (aI cI (ad 23) 40 ho), (aI cI (ad 24) 40 hc), (aI cI (ad 25) 40 hp), (aI cI (ad 26) 40 hs), (aI cI (ad 27) 200 pt), (aI cI (ad 28) 200 ps), (aI cI (ad 29) 20 ha), (aI cI (ad 30) 10 re), (oC4 ad lc), (aI cI (ad 63) 20 lp), (aI cI (ad 64) 20 la), (aI cI (ad 65) 20 lb), (aI cI (ad 32) 12 wo), (oC8 ad gn), (aI cI (ad 42) 40 gk), (aI cI (ad 43) 40 gs), (aI cI (ad 44) 40 gd), (aI cI (ad 45) 40 ge)] sz)) (va_A [(oC10 ad tn td lf), (oC1 ad cn), (aI cI (ad 31) 12 fo), (oC7 ad pn), (aI cI (ad 36) 40 pk), (aI cI (ad 37) 40 pf), (aI cI (ad 38) 40 po), (aI cI (ad 39) 40 pd), (aI cI (ad 40) 40 pe), (aI cI (ad 41) 40 pr), (oC3 ad hn), (aI cI (ad 23) 40 ho), (aI cI (ad 24) 40 hc), (aI cI (ad 25) 40 hp), (aI cI (ad 26) 40 hs), (aI cI (ad 27) 200 pt), (aI cI (ad 28) 200 ps), (aI cI (ad 29) 20 ha), (aI cI (ad 30) 10 re), (oC4 ad lc), (aI cI (ad 63) 20 lp), (aI cI (ad 64) 20 la), (aI cI (ad 65) 20 lb), (aI cI (ad 32) 12 wo), (oC8 ad gn), (aI cI (ad 42) 40 gk), (aI cI (ad 43) 40 gs), (aI cI (ad 44) 40 gd), (aI cI (ad 45) 40 ge)] sz)) 0 0 (va_A [(oC10 ad tn td lf), (oC1 ad cn), (aI cI (ad 31) 12 fo), (oC7 ad pn), (aI cI (ad 36) 40 pk), (aI cI (ad 37) 40 pf), (aI cI (ad 38) 40 po), (aI cI (ad 39) 40 pd), (aI cI (ad 40) 40 pe), (aI cI (ad 41) 40 pr), (oC3 ad hn), (aI cI (ad 23) 40 ho), (aI cI (ad 24) 40 hc), (aI cI (ad 25) 40 hp), (aI cI (ad 26) 40 hs), (aI cI (ad 27) 200 pt), (aI cI (ad 28) 200 ps), (aI cI (ad 29) 20 ha), (aI cI (ad 30) 10 re), (oC4 ad lc), (aI cI (ad 63) 20 lp), (aI cI (ad 64) 20 la), (aI cI (ad 65) 20 lb), (aI cI (ad 32) 12 wo), (oC8 ad gn), (aI cI (ad 42) 40 gk), (aI cI (ad 43) 40 gs), (aI cI (ad 44) 40 gd), (aI cI (ad 45) 40 ge)] sz) := by
  refine Met.ofW (cc := cX10_kind) (maxL := 2) (ret := (some .int)) (by decide) rfl ?_
  intro p e s m args below meth c s₁ B hml hv
  obtain ⟨rfl, hsz, hP, hK, hD0, hN⟩ := hv
  have hx := B.exec
  have hb := B.bytes
  have hr := B.returns
  have hts := atoms_spec (ws := wsX10_kind) B.pre
  have hown : s.vm.findClass RX10 = some m.cls := findClass_of_methodNamed B.named
  have hlocks := B.notSynchronized
  subst hsz
  have hD := hD0.self (sz := s.heap.size)
  generalize hAe : va_A [(oC10 ad tn td lf), (oC1 ad cn), (aI cI (ad 31) 12 fo), (oC7 ad pn), (aI cI (ad 36) 40 pk), (aI cI (ad 37) 40 pf), (aI cI (ad 38) 40 po), (aI cI (ad 39) 40 pd), (aI cI (ad 40) 40 pe), (aI cI (ad 41) 40 pr), (oC3 ad hn), (aI cI (ad 23) 40 ho), (aI cI (ad 24) 40 hc), (aI cI (ad 25) 40 hp), (aI cI (ad 26) 40 hs), (aI cI (ad 27) 200 pt), (aI cI (ad 28) 200 ps), (aI cI (ad 29) 20 ha), (aI cI (ad 30) 10 re), (oC4 ad lc), (aI cI (ad 63) 20 lp), (aI cI (ad 64) 20 la), (aI cI (ad 65) 20 lb), (aI cI (ad 32) 12 wo), (oC8 ad gn), (aI cI (ad 42) 40 gk), (aI cI (ad 43) 40 gs), (aI cI (ad 44) 40 gd), (aI cI (ad 45) 40 ge)] s.heap.size = A at hD ⊢
  have hA : ∀ q : Nat, s.heap.size ≤ q → A q := fun q h => by rw [← hAe]; exact Or.inr h
  have hS : va_S A s.heap s.heap [] := va_S.rf
  have hP : va_P D vwCl [(oC10 ad tn td lf), (oC1 ad cn), (aI cI (ad 31) 12 fo), (oC7 ad pn), (aI cI (ad 36) 40 pk), (aI cI (ad 37) 40 pf), (aI cI (ad 38) 40 po), (aI cI (ad 39) 40 pd), (aI cI (ad 40) 40 pe), (aI cI (ad 41) 40 pr), (oC3 ad hn), (aI cI (ad 23) 40 ho), (aI cI (ad 24) 40 hc), (aI cI (ad 25) 40 hp), (aI cI (ad 26) 40 hs), (aI cI (ad 27) 200 pt), (aI cI (ad 28) 200 ps), (aI cI (ad 29) 20 ha), (aI cI (ad 30) 10 re), (oC4 ad lc), (aI cI (ad 63) 20 lp), (aI cI (ad 64) 20 la), (aI cI (ad 65) 20 lb), (aI cI (ad 32) 12 wo), (oC8 ad gn), (aI cI (ad 42) 40 gk), (aI cI (ad 43) 40 gs), (aI cI (ad 44) 40 gd), (aI cI (ad 45) 40 ge)] s.heap := hP
  have hl := lv_entry ([.ref (ad 0), .int k]) (n := 2) (Nat.le_of_ble_eq_true rfl)
  rw [lg_entry_eq]
  generalize (lg_sl ([.ref (ad 0), .int k]) ++ List.replicate (2 - (lg_sl ([.ref (ad 0), .int k])).length) Slot.unset).toArray = ls at hl ⊢
  have hl : lv_has ls 2 [(0, .ref (ad 0)), (1, .int k)] := hl
  have km1000001 : (-1000001 : Int32).toInt = -1000001 := by decide
  have k0 : (0 : Int32).toInt = 0 := by decide
  refine lv_aload_n hx hb dX10_kind_0 rfl (lv_at hl 0 rfl) ?_
  refine lv_iload_n hx hb dX10_kind_1 rfl (lv_at hl 1 rfl) ?_
  refine st_i1 (va_runV (C := RX10) (As := [.int k]) (rest := []) ⟨hx, hb, hml, hown, hts⟩ (ct_X10_isCrate l D cI cY cJ cQ _ ad tn td lf cn k) (cwV 1 hts gX10_kind_X10_isCrate rfl rfl rfl ⟨rfl, cdX10_isCrate⟩ ⟨Nat.le_of_ble_eq_true rfl, Nat.le_of_ble_eq_true rfl⟩) (cPreV (hP.sub [0, 1] rfl) hK (hD.sub [0, 1] (by decide +kernel) rfl) hN (ci := 10) (q0 := 0) rfl rfl) rfl rfl hl.1 rfl (lv_room (Nat.le_of_ble_eq_true rfl)) dX10_kind_2 ⟨Nat.le_of_ble_eq_true rfl, Nat.le_of_ble_eq_true rfl⟩) hP hD hS hA [0, 1] rfl (fun _ => rfl) (fun r3 u1 H locs hw2 => ?_)
  clear hP hS
  intro hP hS
  replace hw2 : r3 = if 0 ≤ k.toInt ∧ k.toInt < cn.toInt then 1 else 0 := hw2
  refine lv_if_eq (tgt := 16) hx hb dX10_kind_5 (by decide) (fun c4 => ?_) (fun c4 => ?_)
  · skip
    have f5 := bo_f hw2 c4
    refine lv_ldc hx hb hown (hts (Cond.constant RX10 89 (-1000001)) (wm_t (wm_l (wm_i 0 rfl)))) dX10_kind_16 ?_
    have hP9 := hP
    have hD9 := hD
    exact W.iret (v := (-1000001)) hx hb hr (fun t ht hW => ⟨⟨(-1000001), (pt, ps, ha, re), rfl, (by show ((-1000001) : Int32) = sp_kind cn pn hn lc gn td fo wo pk pf po pd pe pr ho hc hp hs lp la lb gk gs ge k; unfold sp_kind; first | (rw [if_pos (by omega)]; rfl) | (rw [if_neg (by omega)])), by rw [ht]; exact hP9, va_K.moved hW.alike hK, hD9⟩, hS.F ht⟩) hS.2.2 dX10_kind_18
  · skip
    have f6 := bo_t hw2 c4
    refine lv_aload_n hx hb dX10_kind_8 rfl (lv_at hl 0 rfl) ?_
    refine lv_iload_n hx hb dX10_kind_9 rfl (lv_at hl 1 rfl) ?_
    refine st_i (wr := []) (va_runV (C := RX10) (As := [.int k]) (rest := []) ⟨hx, hb, hml, hown, hts⟩ (ct_X10_kindToday l D cI cY cJ cQ _ ad tn td lf cn pn hn lc gn fo pk pf po pd pe pr ho hc hp hs pt ps ha re lp la lb wo gk gs gd ge k h2 (by omega) (by omega) h3 h4 h5 h6 h7 h8 h9 h10 h11 h12 h13 h14 h15) (cwV 1 hts gX10_kind_X10_kindToday rfl rfl rfl ⟨rfl, cdX10_kindToday⟩ ⟨Nat.le_of_ble_eq_true rfl, Nat.le_of_ble_eq_true rfl⟩) (cPreV (hP.sub [0, 1, 2, 3, 4, 5, 6, 7, 8, 9, 10, 11, 12, 13, 14, 15, 16, 17, 18, 19, 20, 21, 22, 23, 24, 25, 26, 27, 28] rfl) hK (hD.sub [0, 1, 2, 3, 4, 5, 6, 7, 8, 9, 10, 11, 12, 13, 14, 15, 16, 17, 18, 19, 20, 21, 22, 23, 24, 25, 26, 27, 28] (by decide +kernel) rfl) hN (ci := 10) (q0 := 0) rfl rfl) rfl rfl hl.1 rfl (lv_room (Nat.le_of_ble_eq_true rfl)) dX10_kind_10 ⟨Nat.le_of_ble_eq_true rfl, Nat.le_of_ble_eq_true rfl⟩) hP hD hS hA [0, 1, 2, 3, 4, 5, 6, 7, 8, 9, 10, 11, 12, 13, 14, 15, 16, 17, 18, 19, 20, 21, 22, 23, 24, 25, 26, 27, 28] [] rfl rfl (by decide +kernel) (by decide +kernel) (fun r9 u7 H locs hw8 => ?_)
    clear hP hD hS
    intro hP hD hS
    obtain ⟨pt_10, ps_11, ha_12, re_13⟩ := u7
    replace hw8 : r9 = kdF (brV (ppF ho hc hp hs td hn.toNatClampNeg) (poV lp la lb td lc.toNatClampNeg) (owV pk pf po pd pe pr k td td (fo k.toNatClampNeg) pn.toNatClampNeg).toNatClampNeg 10) (suV gk gs ge k td gn.toNatClampNeg) (wo k.toNatClampNeg) := hw8
    replace hP : va_P D vwCl [(oC10 ad tn td lf), (oC1 ad cn), (aI cI (ad 31) 12 fo), (oC7 ad pn), (aI cI (ad 36) 40 pk), (aI cI (ad 37) 40 pf), (aI cI (ad 38) 40 po), (aI cI (ad 39) 40 pd), (aI cI (ad 40) 40 pe), (aI cI (ad 41) 40 pr), (oC3 ad hn), (aI cI (ad 23) 40 ho), (aI cI (ad 24) 40 hc), (aI cI (ad 25) 40 hp), (aI cI (ad 26) 40 hs), (aI cI (ad 27) 200 pt_10), (aI cI (ad 28) 200 ps_11), (aI cI (ad 29) 20 ha_12), (aI cI (ad 30) 10 re_13), (oC4 ad lc), (aI cI (ad 63) 20 lp), (aI cI (ad 64) 20 la), (aI cI (ad 65) 20 lb), (aI cI (ad 32) 12 wo), (oC8 ad gn), (aI cI (ad 42) 40 gk), (aI cI (ad 43) 40 gs), (aI cI (ad 44) 40 gd), (aI cI (ad 45) 40 ge)] H := hP
    replace hD : va_D A [(oC10 ad tn td lf), (oC1 ad cn), (aI cI (ad 31) 12 fo), (oC7 ad pn), (aI cI (ad 36) 40 pk), (aI cI (ad 37) 40 pf), (aI cI (ad 38) 40 po), (aI cI (ad 39) 40 pd), (aI cI (ad 40) 40 pe), (aI cI (ad 41) 40 pr), (oC3 ad hn), (aI cI (ad 23) 40 ho), (aI cI (ad 24) 40 hc), (aI cI (ad 25) 40 hp), (aI cI (ad 26) 40 hs), (aI cI (ad 27) 200 pt_10), (aI cI (ad 28) 200 ps_11), (aI cI (ad 29) 20 ha_12), (aI cI (ad 30) 10 re_13), (oC4 ad lc), (aI cI (ad 63) 20 lp), (aI cI (ad 64) 20 la), (aI cI (ad 65) 20 lb), (aI cI (ad 32) 12 wo), (oC8 ad gn), (aI cI (ad 42) 40 gk), (aI cI (ad 43) 40 gs), (aI cI (ad 44) 40 gd), (aI cI (ad 45) 40 ge)] := hD
    subst hw8
    refine lv_goto (tgt := 18) hx hb dX10_kind_13 (by decide) ?_
    have hP9 := hP
    have hD9 := hD
    exact W.iret (v := kdF (brV (ppF ho hc hp hs td hn.toNatClampNeg) (poV lp la lb td lc.toNatClampNeg) (owV pk pf po pd pe pr k td td (fo k.toNatClampNeg) pn.toNatClampNeg).toNatClampNeg 10) (suV gk gs ge k td gn.toNatClampNeg) (wo k.toNatClampNeg)) hx hb hr (fun t ht hW => ⟨⟨kdF (brV (ppF ho hc hp hs td hn.toNatClampNeg) (poV lp la lb td lc.toNatClampNeg) (owV pk pf po pd pe pr k td td (fo k.toNatClampNeg) pn.toNatClampNeg).toNatClampNeg 10) (suV gk gs ge k td gn.toNatClampNeg) (wo k.toNatClampNeg), (pt_10, ps_11, ha_12, re_13), rfl, (by show (kdF (brV (ppF ho hc hp hs td hn.toNatClampNeg) (poV lp la lb td lc.toNatClampNeg) (owV pk pf po pd pe pr k td td (fo k.toNatClampNeg) pn.toNatClampNeg).toNatClampNeg 10) (suV gk gs ge k td gn.toNatClampNeg) (wo k.toNatClampNeg)) = sp_kind cn pn hn lc gn td fo wo pk pf po pd pe pr ho hc hp hs lp la lb gk gs ge k; unfold sp_kind; first | (rw [if_pos (by omega)]; rfl) | (rw [if_neg (by omega)])), by rw [ht]; exact hP9, va_K.moved hW.alike hK, hD9⟩, hS.F ht⟩) hS.2.2 dX10_kind_18

set_option maxHeartbeats 4000000 in
set_option maxRecDepth 100000 in
theorem ct_X10_isOfKind (l : Launch) (D : va_G) (cI cY cJ cQ : ClassId) (sz : Nat) (a : Int32) (b : Int32)   : Met l yX10_isOfKind wsX10_isOfKind ({ frames := 0, cells := 0, slots := 0, locals := 0 }) (cPre D (ty4 cI cY cJ cQ) [] sz [.int a, .int b]) (va_Qi (fun (r : Int32) (u : Unit) => r = if b.toInt = 0 ∨ b.toInt = a.toInt ∨ (b.toInt = 1 ∧ a.toInt = 2) then 1 else 0) (cB D (ty4 cI cY cJ cQ) (fun (u : Unit) => []) (va_A [] sz)) (va_A [] sz)) 0 0 (va_A [] sz) := by
  refine Met.ofW (cc := cX10_isOfKind) (maxL := 2) (ret := (some .boolean)) (by decide) rfl ?_
  intro p e s m args below meth c s₁ B hml hv
  obtain ⟨rfl, hsz, hP, hK, hD0, hN⟩ := hv
  have hx := B.exec
  have hb := B.bytes
  have hr := B.returns
  have hts := atoms_spec (ws := wsX10_isOfKind) B.pre
  have hown : s.vm.findClass RX10 = some m.cls := findClass_of_methodNamed B.named
  have hlocks := B.notSynchronized
  subst hsz
  have hD := hD0.self (sz := s.heap.size)
  generalize hAe : va_A [] s.heap.size = A at hD ⊢
  have hA : ∀ q : Nat, s.heap.size ≤ q → A q := fun q h => by rw [← hAe]; exact Or.inr h
  have hS : va_S A s.heap s.heap [] := va_S.rf
  have hP : va_P D vwCl [] s.heap := hP
  have hl := lv_entry ([.int a, .int b]) (n := 2) (Nat.le_of_ble_eq_true rfl)
  rw [lg_entry_eq]
  generalize (lg_sl ([.int a, .int b]) ++ List.replicate (2 - (lg_sl ([.int a, .int b])).length) Slot.unset).toArray = ls at hl ⊢
  have hl : lv_has ls 2 [(0, .int a), (1, .int b)] := hl
  have k0 : (0 : Int32).toInt = 0 := by decide
  have k1 : (1 : Int32).toInt = 1 := by decide
  have k2 : (2 : Int32).toInt = 2 := by decide
  refine lv_iload_n hx hb dX10_isOfKind_0 rfl (lv_at hl 1 rfl) ?_
  refine lv_if_eq (tgt := 19) hx hb dX10_isOfKind_1 (by decide) (fun c1 => ?_) (fun c1 => ?_)
  · skip
    have f2 := i_eq c1
    refine lv_iconst (v := 1) hx hb dX10_isOfKind_19 (by decide) ?_
    refine lv_goto (tgt := 24) hx hb dX10_isOfKind_20 (by decide) ?_
    have hP9 := hP
    have hD9 := hD
    exact W.zret (v := 1) hx hb hr rfl (fun t ht hW => ⟨⟨1, (), rfl, bo_yes (by omega), by rw [ht]; exact hP9, va_K.moved hW.alike hK, hD9⟩, hS.F ht⟩) hS.2.2 dX10_isOfKind_24
  · skip
    have f3 := i_ne c1
    refine lv_iload_n hx hb dX10_isOfKind_4 rfl (lv_at hl 1 rfl) ?_
    refine lv_iload_n hx hb dX10_isOfKind_5 rfl (lv_at hl 0 rfl) ?_
    refine lv_icmp_eq (tgt := 19) hx hb dX10_isOfKind_6 (by decide) (fun c4 => ?_) (fun c4 => ?_)
    · skip
      have f5 := i_eq c4
      refine lv_iconst (v := 1) hx hb dX10_isOfKind_19 (by decide) ?_
      refine lv_goto (tgt := 24) hx hb dX10_isOfKind_20 (by decide) ?_
      have hP9 := hP
      have hD9 := hD
      exact W.zret (v := 1) hx hb hr rfl (fun t ht hW => ⟨⟨1, (), rfl, bo_yes (by omega), by rw [ht]; exact hP9, va_K.moved hW.alike hK, hD9⟩, hS.F ht⟩) hS.2.2 dX10_isOfKind_24
    · skip
      have f6 := i_ne c4
      refine lv_iload_n hx hb dX10_isOfKind_9 rfl (lv_at hl 1 rfl) ?_
      refine lv_iconst (v := 1) hx hb dX10_isOfKind_10 (by decide) ?_
      refine lv_icmp_ne (tgt := 23) hx hb dX10_isOfKind_11 (by decide) (fun c7 => ?_) (fun c7 => ?_)
      · skip
        have f8 := i_ne c7
        refine lv_iconst (v := 0) hx hb dX10_isOfKind_23 (by decide) ?_
        have hP9 := hP
        have hD9 := hD
        exact W.zret (v := 0) hx hb hr rfl (fun t ht hW => ⟨⟨0, (), rfl, bo_no (by omega), by rw [ht]; exact hP9, va_K.moved hW.alike hK, hD9⟩, hS.F ht⟩) hS.2.2 dX10_isOfKind_24
      · skip
        have f9 := i_eq c7
        refine lv_iload_n hx hb dX10_isOfKind_14 rfl (lv_at hl 0 rfl) ?_
        refine lv_iconst (v := 2) hx hb dX10_isOfKind_15 (by decide) ?_
        refine lv_icmp_ne (tgt := 23) hx hb dX10_isOfKind_16 (by decide) (fun c10 => ?_) (fun c10 => ?_)
        · skip
          have f11 := i_ne c10
          refine lv_iconst (v := 0) hx hb dX10_isOfKind_23 (by decide) ?_
          have hP9 := hP
          have hD9 := hD
          exact W.zret (v := 0) hx hb hr rfl (fun t ht hW => ⟨⟨0, (), rfl, bo_no (by omega), by rw [ht]; exact hP9, va_K.moved hW.alike hK, hD9⟩, hS.F ht⟩) hS.2.2 dX10_isOfKind_24
        · skip
          have f12 := i_eq c10
          refine lv_iconst (v := 1) hx hb dX10_isOfKind_19 (by decide) ?_
          refine lv_goto (tgt := 24) hx hb dX10_isOfKind_20 (by decide) ?_
          have hP9 := hP
          have hD9 := hD
          exact W.zret (v := 1) hx hb hr rfl (fun t ht hW => ⟨⟨1, (), rfl, bo_yes (by omega), by rw [ht]; exact hP9, va_K.moved hW.alike hK, hD9⟩, hS.F ht⟩) hS.2.2 dX10_isOfKind_24

set_option maxHeartbeats 4000000 in
set_option maxRecDepth 100000 in
theorem ct_X10_as (l : Launch) (D : va_G) (cI cY cJ cQ : ClassId) (sz : Nat) (ad : Nat → Nat) (tn td lf cn pn hn lc gn : Int32) (fo pk pf po pd pe pr ho hc hp hs pt ps ha re lp la lb wo gk gs gd ge : Nat → Int32) (k : Int32) (w : Int32)  (h1 : 0 ≤ cn.toInt) (h2 : cn.toInt ≤ 12) (h3 : 0 ≤ pn.toInt) (h4 : pn.toInt ≤ 40) (h5 : okO pn pr) (h6 : 0 ≤ hn.toInt) (h7 : hn.toInt ≤ 40) (h8 : okH hn ho hc) (h9 : okV hn hp) (h10 : 0 ≤ lc.toInt) (h11 : lc.toInt ≤ 20) (h12 : 0 ≤ gn.toInt) (h13 : gn.toInt ≤ 40) (h14 : okF cn fo) (h15 : okG pn po)  : Met l yX10_as wsX10_as ({ frames := 17, cells := 0, slots := 0, locals := 494 }) (cPre D (ty4 cI cY cJ cQ) [(oC10 ad tn td lf), (oC1 ad cn), (aI cI (ad 31) 12 fo), (oC7 ad pn), (aI cI (ad 36) 40 pk), (aI cI (ad 37) 40 pf), (aI cI (ad 38) 40 po), (aI cI (ad 39) 40 pd), (aI cI (ad 40) 40 pe), (aI cI (ad 41) 40 pr), (oC3 ad hn), (aI cI (ad 23) 40 ho), (aI cI (ad 24) 40 hc), (aI cI (ad 25) 40 hp), (aI cI (ad 26) 40 hs), (aI cI (ad 27) 200 pt), (aI cI (ad 28) 200 ps), (aI cI (ad 29) 20 ha), (aI cI (ad 30) 10 re), (oC4 ad lc), (aI cI (ad 63) 20 lp), (aI cI (ad 64) 20 la), (aI cI (ad 65) 20 lb), (aI cI (ad 32) 12 wo), (oC8 ad gn), (aI cI (ad 42) 40 gk), (aI cI (ad 43) 40 gs), (aI cI (ad 44) 40 gd), (aI cI (ad 45) 40 ge)] sz [.ref (ad 0), .int k, .int w]) (va_Qi (fun (r : Int32) (u : Int32 × (Nat → Int32) × (Nat → Int32) × (Nat → Int32) × (Nat → Int32)) => sp_as lf cn pn hn lc gn td fo wo pk pf po pd pe pr ho hc hp hs lp la lb gk gs ge k w r u.1) (cB D (ty4 cI cY cJ cQ) (fun (u : Int32 × (Nat → Int32) × (Nat → Int32) × (Nat → Int32) × (Nat → Int32)) => [(oC10 ad tn td u.1), (oC1 ad cn), (aI cI (ad 31) 12 fo), (oC7 ad pn), (aI cI (ad 36) 40 pk), (aI cI (ad 37) 40 pf), (aI cI (ad 38) 40 po), (aI cI (ad 39) 40 pd), (aI cI (ad 40) 40 pe), (aI cI (ad 41) 40 pr), (oC3 ad hn), (aI cI (ad 23) 40 ho), (aI cI (ad 24) 40 hc), (aI cI (ad 25) 40 hp), (aI cI (ad 26) 40 hs), (aI cI (ad 27) 200 u.2.1), (aI cI (ad 28) 200 u.2.2.1), (aI cI (ad 29) 20 u.2.2.2.1), (aI cI (ad 30) 10 u.2.2.2.2), (oC4 ad lc), (aI cI (ad 63) 20 lp), (aI cI (ad 64) 20 la), (aI cI (ad 65) 20 lb), (aI cI (ad 32) 12 wo), (oC8 ad gn), (aI cI (ad 42) 40 gk), (aI cI (ad 43) 40 gs), (aI cI (ad 44) 40 gd), (aI cI (ad 45) 40 ge)]) (va_A [(oC10 ad tn td lf), (oC1 ad cn), (aI cI (ad 31) 12 fo), (oC7 ad pn), (aI cI (ad 36) 40 pk), (aI cI (ad 37) 40 pf), (aI cI (ad 38) 40 po), (aI cI (ad 39) 40 pd), (aI cI (ad 40) 40 pe), (aI cI (ad 41) 40 pr), (oC3 ad hn), (aI cI (ad 23) 40 ho), (aI cI (ad 24) 40 hc), (aI cI (ad 25) 40 hp), (aI cI (ad 26) 40 hs), (aI cI (ad 27) 200 pt), (aI cI (ad 28) 200 ps), (aI cI (ad 29) 20 ha), (aI cI (ad 30) 10 re), (oC4 ad lc), (aI cI (ad 63) 20 lp), (aI cI (ad 64) 20 la), (aI cI (ad 65) 20 lb), (aI cI (ad 32) 12 wo), (oC8 ad gn), (aI cI (ad 42) 40 gk), (aI cI (ad 43) 40 gs), (aI cI (ad 44) 40 gd), (aI cI (ad 45) 40 ge)] sz)) (va_A [(oC10 ad tn td lf), (oC1 ad cn), (aI cI (ad 31) 12 fo), (oC7 ad pn), (aI cI (ad 36) 40 pk), (aI cI (ad 37) 40 pf), (aI cI (ad 38) 40 po), (aI cI (ad 39) 40 pd), (aI cI (ad 40) 40 pe), (aI cI (ad 41) 40 pr), (oC3 ad hn), (aI cI (ad 23) 40 ho), (aI cI (ad 24) 40 hc), (aI cI (ad 25) 40 hp), (aI cI (ad 26) 40 hs), (aI cI (ad 27) 200 pt), (aI cI (ad 28) 200 ps), (aI cI (ad 29) 20 ha), (aI cI (ad 30) 10 re), (oC4 ad lc), (aI cI (ad 63) 20 lp), (aI cI (ad 64) 20 la), (aI cI (ad 65) 20 lb), (aI cI (ad 32) 12 wo), (oC8 ad gn), (aI cI (ad 42) 40 gk), (aI cI (ad 43) 40 gs), (aI cI (ad 44) 40 gd), (aI cI (ad 45) 40 ge)] sz)) 0 0 (va_A [(oC10 ad tn td lf), (oC1 ad cn), (aI cI (ad 31) 12 fo), (oC7 ad pn), (aI cI (ad 36) 40 pk), (aI cI (ad 37) 40 pf), (aI cI (ad 38) 40 po), (aI cI (ad 39) 40 pd), (aI cI (ad 40) 40 pe), (aI cI (ad 41) 40 pr), (oC3 ad hn), (aI cI (ad 23) 40 ho), (aI cI (ad 24) 40 hc), (aI cI (ad 25) 40 hp), (aI cI (ad 26) 40 hs), (aI cI (ad 27) 200 pt), (aI cI (ad 28) 200 ps), (aI cI (ad 29) 20 ha), (aI cI (ad 30) 10 re), (oC4 ad lc), (aI cI (ad 63) 20 lp), (aI cI (ad 64) 20 la), (aI cI (ad 65) 20 lb), (aI cI (ad 32) 12 wo), (oC8 ad gn), (aI cI (ad 42) 40 gk), (aI cI (ad 43) 40 gs), (aI cI (ad 44) 40 gd), (aI cI (ad 45) 40 ge)] sz) := by
  refine Met.ofW (cc := cX10_as) (maxL := 3) (ret := (some .int)) (by decide) rfl ?_
  intro p e s m args below meth c s₁ B hml hv
  obtain ⟨rfl, hsz, hP, hK, hD0, hN⟩ := hv
  have hx := B.exec
  have hb := B.bytes
  have hr := B.returns
  have hts := atoms_spec (ws := wsX10_as) B.pre
  have hown : s.vm.findClass RX10 = some m.cls := findClass_of_methodNamed B.named
  have hlocks := B.notSynchronized
  subst hsz
  have hD := hD0.self (sz := s.heap.size)
  generalize hAe : va_A [(oC10 ad tn td lf), (oC1 ad cn), (aI cI (ad 31) 12 fo), (oC7 ad pn), (aI cI (ad 36) 40 pk), (aI cI (ad 37) 40 pf), (aI cI (ad 38) 40 po), (aI cI (ad 39) 40 pd), (aI cI (ad 40) 40 pe), (aI cI (ad 41) 40 pr), (oC3 ad hn), (aI cI (ad 23) 40 ho), (aI cI (ad 24) 40 hc), (aI cI (ad 25) 40 hp), (aI cI (ad 26) 40 hs), (aI cI (ad 27) 200 pt), (aI cI (ad 28) 200 ps), (aI cI (ad 29) 20 ha), (aI cI (ad 30) 10 re), (oC4 ad lc), (aI cI (ad 63) 20 lp), (aI cI (ad 64) 20 la), (aI cI (ad 65) 20 lb), (aI cI (ad 32) 12 wo), (oC8 ad gn), (aI cI (ad 42) 40 gk), (aI cI (ad 43) 40 gs), (aI cI (ad 44) 40 gd), (aI cI (ad 45) 40 ge)] s.heap.size = A at hD ⊢
  have hA : ∀ q : Nat, s.heap.size ≤ q → A q := fun q h => by rw [← hAe]; exact Or.inr h
  have hS : va_S A s.heap s.heap [] := va_S.rf
  have hP : va_P D vwCl [(oC10 ad tn td lf), (oC1 ad cn), (aI cI (ad 31) 12 fo), (oC7 ad pn), (aI cI (ad 36) 40 pk), (aI cI (ad 37) 40 pf), (aI cI (ad 38) 40 po), (aI cI (ad 39) 40 pd), (aI cI (ad 40) 40 pe), (aI cI (ad 41) 40 pr), (oC3 ad hn), (aI cI (ad 23) 40 ho), (aI cI (ad 24) 40 hc), (aI cI (ad 25) 40 hp), (aI cI (ad 26) 40 hs), (aI cI (ad 27) 200 pt), (aI cI (ad 28) 200 ps), (aI cI (ad 29) 20 ha), (aI cI (ad 30) 10 re), (oC4 ad lc), (aI cI (ad 63) 20 lp), (aI cI (ad 64) 20 la), (aI cI (ad 65) 20 lb), (aI cI (ad 32) 12 wo), (oC8 ad gn), (aI cI (ad 42) 40 gk), (aI cI (ad 43) 40 gs), (aI cI (ad 44) 40 gd), (aI cI (ad 45) 40 ge)] s.heap := hP
  have hl := lv_entry ([.ref (ad 0), .int k, .int w]) (n := 3) (Nat.le_of_ble_eq_true rfl)
  rw [lg_entry_eq]
  generalize (lg_sl ([.ref (ad 0), .int k, .int w]) ++ List.replicate (3 - (lg_sl ([.ref (ad 0), .int k, .int w])).length) Slot.unset).toArray = ls at hl ⊢
  have hl : lv_has ls 3 [(0, .ref (ad 0)), (1, .int k), (2, .int w)] := hl
  have km1000001 : (-1000001 : Int32).toInt = -1000001 := by decide
  have k0 : (0 : Int32).toInt = 0 := by decide
  have k3 : (3 : Int32).toInt = 3 := by decide
  have k5 : (5 : Int32).toInt = 5 := by decide
  refine lv_aload_n hx hb dX10_as_0 rfl (lv_at hl 0 rfl) ?_
  refine lv_iload_n hx hb dX10_as_1 rfl (lv_at hl 1 rfl) ?_
  refine st_i1 (va_runV (C := RX10) (As := [.int k]) (rest := []) ⟨hx, hb, hml, hown, hts⟩ (ct_X10_isCrate l D cI cY cJ cQ _ ad tn td lf cn k) (cwV 1 hts gX10_as_X10_isCrate rfl rfl rfl ⟨rfl, cdX10_isCrate⟩ ⟨Nat.le_of_ble_eq_true rfl, Nat.le_of_ble_eq_true rfl⟩) (cPreV (hP.sub [0, 1] rfl) hK (hD.sub [0, 1] (by decide +kernel) rfl) hN (ci := 10) (q0 := 0) rfl rfl) rfl rfl hl.1 rfl (lv_room (Nat.le_of_ble_eq_true rfl)) dX10_as_2 ⟨Nat.le_of_ble_eq_true rfl, Nat.le_of_ble_eq_true rfl⟩) hP hD hS hA [0, 1] rfl (fun _ => rfl) (fun r3 u1 H locs hw2 => ?_)
  clear hP hS
  intro hP hS
  replace hw2 : r3 = if 0 ≤ k.toInt ∧ k.toInt < cn.toInt then 1 else 0 := hw2
  refine lv_if_eq (tgt := 16) hx hb dX10_as_5 (by decide) (fun c4 => ?_) (fun c4 => ?_)
  · skip
    have f5 := bo_f hw2 c4
    refine lv_ldc hx hb hown (hts (Cond.constant RX10 89 (-1000001)) (wm_t (wm_l (wm_i 0 rfl)))) dX10_as_16 ?_
    have hP9 := hP
    have hD9 := hD
    exact W.iret (v := (-1000001)) hx hb hr (fun t ht hW => ⟨⟨(-1000001), (lf, pt, ps, ha, re), rfl, (by show sp_as lf cn pn hn lc gn td fo wo pk pf po pd pe pr ho hc hp hs lp la lb gk gs ge k w ((-1000001) : Int32) lf; unfold sp_as; rw [if_neg (by omega)]; exact ⟨rfl, rfl⟩), by rw [ht]; exact hP9, va_K.moved hW.alike hK, hD9⟩, hS.F ht⟩) hS.2.2 dX10_as_18
  · skip
    have f6 := bo_t hw2 c4
    refine lv_iload_n hx hb dX10_as_8 rfl (lv_at hl 2 rfl) ?_
    refine lv_iconst (v := 5) hx hb dX10_as_9 (by decide) ?_
    refine st_i1 (va_runS (As := [.int w, .int 5]) (rest := []) ⟨hx, hb, hml, hown, hts⟩ (ct_X10_isBelow l D cI cY cJ cQ _ w (5 : Int32)) (va_cwS 2 hts gX10_as_X10_isBelow rfl rfl rfl cdX10_isBelow ⟨Nat.le_of_ble_eq_true rfl, Nat.le_of_ble_eq_true rfl⟩) (cPreS (hP.sub [] rfl) hK (hD.sub [] (by decide +kernel) rfl) hN) rfl rfl hl.1 rfl (lv_room (Nat.le_of_ble_eq_true rfl)) dX10_as_10 ⟨Nat.le_of_ble_eq_true rfl, Nat.le_of_ble_eq_true rfl⟩) hP hD hS hA [] rfl (fun _ => rfl) (fun r9 u7 H locs hw8 => ?_)
    clear hP hS
    intro hP hS
    replace hw8 : r9 = if 0 ≤ w.toInt ∧ w.toInt < (5 : Int32).toInt then 1 else 0 := hw8
    refine lv_if_ne (tgt := 19) hx hb dX10_as_13 (by decide) (fun c10 => ?_) (fun c10 => ?_)
    · skip
      have f11 := bo_t hw8 c10
      refine lv_aload_n hx hb dX10_as_19 rfl (lv_at hl 0 rfl) ?_
      refine lv_iload_n hx hb dX10_as_20 rfl (lv_at hl 1 rfl) ?_
      refine st_i (wr := []) (va_runV (C := RX10) (As := [.int k]) (rest := []) ⟨hx, hb, hml, hown, hts⟩ (ct_X10_kindToday l D cI cY cJ cQ _ ad tn td lf cn pn hn lc gn fo pk pf po pd pe pr ho hc hp hs pt ps ha re lp la lb wo gk gs gd ge k h2 (by omega) (by omega) h3 h4 h5 h6 h7 h8 h9 h10 h11 h12 h13 h14 h15) (cwV 1 hts gX10_as_X10_kindToday rfl rfl rfl ⟨rfl, cdX10_kindToday⟩ ⟨Nat.le_of_ble_eq_true rfl, Nat.le_of_ble_eq_true rfl⟩) (cPreV (hP.sub [0, 1, 2, 3, 4, 5, 6, 7, 8, 9, 10, 11, 12, 13, 14, 15, 16, 17, 18, 19, 20, 21, 22, 23, 24, 25, 26, 27, 28] rfl) hK (hD.sub [0, 1, 2, 3, 4, 5, 6, 7, 8, 9, 10, 11, 12, 13, 14, 15, 16, 17, 18, 19, 20, 21, 22, 23, 24, 25, 26, 27, 28] (by decide +kernel) rfl) hN (ci := 10) (q0 := 0) rfl rfl) rfl rfl hl.1 rfl (lv_room (Nat.le_of_ble_eq_true rfl)) dX10_as_21 ⟨Nat.le_of_ble_eq_true rfl, Nat.le_of_ble_eq_true rfl⟩) hP hD hS hA [0, 1, 2, 3, 4, 5, 6, 7, 8, 9, 10, 11, 12, 13, 14, 15, 16, 17, 18, 19, 20, 21, 22, 23, 24, 25, 26, 27, 28] [] rfl rfl (by decide +kernel) (by decide +kernel) (fun r14 u12 H locs hw13 => ?_)
      clear hP hD hS
      intro hP hD hS
      obtain ⟨pt_15, ps_16, ha_17, re_18⟩ := u12
      replace hw13 : r14 = kdF (brV (ppF ho hc hp hs td hn.toNatClampNeg) (poV lp la lb td lc.toNatClampNeg) (owV pk pf po pd pe pr k td td (fo k.toNatClampNeg) pn.toNatClampNeg).toNatClampNeg 10) (suV gk gs ge k td gn.toNatClampNeg) (wo k.toNatClampNeg) := hw13
      replace hP : va_P D vwCl [(oC10 ad tn td lf), (oC1 ad cn), (aI cI (ad 31) 12 fo), (oC7 ad pn), (aI cI (ad 36) 40 pk), (aI cI (ad 37) 40 pf), (aI cI (ad 38) 40 po), (aI cI (ad 39) 40 pd), (aI cI (ad 40) 40 pe), (aI cI (ad 41) 40 pr), (oC3 ad hn), (aI cI (ad 23) 40 ho), (aI cI (ad 24) 40 hc), (aI cI (ad 25) 40 hp), (aI cI (ad 26) 40 hs), (aI cI (ad 27) 200 pt_15), (aI cI (ad 28) 200 ps_16), (aI cI (ad 29) 20 ha_17), (aI cI (ad 30) 10 re_18), (oC4 ad lc), (aI cI (ad 63) 20 lp), (aI cI (ad 64) 20 la), (aI cI (ad 65) 20 lb), (aI cI (ad 32) 12 wo), (oC8 ad gn), (aI cI (ad 42) 40 gk), (aI cI (ad 43) 40 gs), (aI cI (ad 44) 40 gd), (aI cI (ad 45) 40 ge)] H := hP
      replace hD : va_D A [(oC10 ad tn td lf), (oC1 ad cn), (aI cI (ad 31) 12 fo), (oC7 ad pn), (aI cI (ad 36) 40 pk), (aI cI (ad 37) 40 pf), (aI cI (ad 38) 40 po), (aI cI (ad 39) 40 pd), (aI cI (ad 40) 40 pe), (aI cI (ad 41) 40 pr), (oC3 ad hn), (aI cI (ad 23) 40 ho), (aI cI (ad 24) 40 hc), (aI cI (ad 25) 40 hp), (aI cI (ad 26) 40 hs), (aI cI (ad 27) 200 pt_15), (aI cI (ad 28) 200 ps_16), (aI cI (ad 29) 20 ha_17), (aI cI (ad 30) 10 re_18), (oC4 ad lc), (aI cI (ad 63) 20 lp), (aI cI (ad 64) 20 la), (aI cI (ad 65) 20 lb), (aI cI (ad 32) 12 wo), (oC8 ad gn), (aI cI (ad 42) 40 gk), (aI cI (ad 43) 40 gs), (aI cI (ad 44) 40 gd), (aI cI (ad 45) 40 ge)] := hD
      subst hw13
      refine lv_iload_n hx hb dX10_as_24 rfl (lv_at hl 2 rfl) ?_
      refine st_i1 (va_runS (As := [.int (kdF (brV (ppF ho hc hp hs td hn.toNatClampNeg) (poV lp la lb td lc.toNatClampNeg) (owV pk pf po pd pe pr k td td (fo k.toNatClampNeg) pn.toNatClampNeg).toNatClampNeg 10) (suV gk gs ge k td gn.toNatClampNeg) (wo k.toNatClampNeg)), .int w]) (rest := []) ⟨hx, hb, hml, hown, hts⟩ (ct_X10_isOfKind l D cI cY cJ cQ _ (kdF (brV (ppF ho hc hp hs td hn.toNatClampNeg) (poV lp la lb td lc.toNatClampNeg) (owV pk pf po pd pe pr k td td (fo k.toNatClampNeg) pn.toNatClampNeg).toNatClampNeg 10) (suV gk gs ge k td gn.toNatClampNeg) (wo k.toNatClampNeg)) w) (va_cwS 2 hts gX10_as_X10_isOfKind rfl rfl rfl cdX10_isOfKind ⟨Nat.le_of_ble_eq_true rfl, Nat.le_of_ble_eq_true rfl⟩) (cPreS (hP.sub [] rfl) hK (hD.sub [] (by decide +kernel) rfl) hN) rfl rfl hl.1 rfl (lv_room (Nat.le_of_ble_eq_true rfl)) dX10_as_25 ⟨Nat.le_of_ble_eq_true rfl, Nat.le_of_ble_eq_true rfl⟩) hP hD hS hA [] rfl (fun _ => rfl) (fun r21 u19 H locs hw20 => ?_)
      clear hP hS
      intro hP hS
      replace hw20 : r21 = if w.toInt = 0 ∨ w.toInt = (kdF (brV (ppF ho hc hp hs td hn.toNatClampNeg) (poV lp la lb td lc.toNatClampNeg) (owV pk pf po pd pe pr k td td (fo k.toNatClampNeg) pn.toNatClampNeg).toNatClampNeg 10) (suV gk gs ge k td gn.toNatClampNeg) (wo k.toNatClampNeg)).toInt ∨ (w.toInt = 1 ∧ (kdF (brV (ppF ho hc hp hs td hn.toNatClampNeg) (poV lp la lb td lc.toNatClampNeg) (owV pk pf po pd pe pr k td td (fo k.toNatClampNeg) pn.toNatClampNeg).toNatClampNeg 10) (suV gk gs ge k td gn.toNatClampNeg) (wo k.toNatClampNeg)).toInt = 2) then 1 else 0 := hw20
      refine lv_if_ne (tgt := 37) hx hb dX10_as_28 (by decide) (fun c22 => ?_) (fun c22 => ?_)
      · skip
        have f23 := bo_t hw20 c22
        refine lv_aload_n hx hb dX10_as_37 rfl (lv_at hl 0 rfl) ?_
        refine lv_aload_n hx hb dX10_as_38 rfl (lv_at hl 0 rfl) ?_
        refine va_get (D := D) (ci := 10) (v := .ref (ad 3)) (C := RX10) (T := TX10) (N := 14) hx hb hts inX10_as_X10 hown hK hP 0 rfl rfl 2 (by decide) (hts (Cond.fieldLink RX10 26 "PortRooms" "crates" "LPortRooms$Crates;") (wm_t (wm_l (wm_i 1 rfl)))) (fun _ h9 => h9) rfl dX10_as_39 ?_
        refine va_get (D := D) (ci := 1) (v := .ref (ad 32)) (C := RX1) (T := TX1) (N := 6) hx hb hts inX10_as_X1 hown hK hP 1 rfl rfl 1 (by decide) (hts (Cond.fieldLink RX10 207 "PortRooms$Crates" "worth" "[I") (wm_t (wm_l (wm_i 2 rfl)))) (fun _ h9 => h9) rfl dX10_as_42 ?_
        refine lv_iload_n hx hb dX10_as_45 rfl (lv_at hl 1 rfl) ?_
        refine va_iald hx hb hK hP 23 0 rfl rfl (i_in (by omega) (by omega)) dX10_as_46 ?_
        refine lv_topi (fun v24 ev24 => ?_)
        refine st_i (wr := [(oC1 ad cn), (aI cI (ad 31) 12 fo), (oC7 ad pn), (aI cI (ad 36) 40 pk), (aI cI (ad 37) 40 pf), (aI cI (ad 38) 40 po), (aI cI (ad 39) 40 pd), (aI cI (ad 40) 40 pe), (aI cI (ad 41) 40 pr), (oC3 ad hn), (aI cI (ad 23) 40 ho), (aI cI (ad 24) 40 hc), (aI cI (ad 25) 40 hp), (aI cI (ad 26) 40 hs), (aI cI (ad 27) 200 pt_15), (aI cI (ad 28) 200 ps_16), (aI cI (ad 29) 20 ha_17), (aI cI (ad 30) 10 re_18), (oC4 ad lc), (aI cI (ad 63) 20 lp), (aI cI (ad 64) 20 la), (aI cI (ad 65) 20 lb), (aI cI (ad 32) 12 wo), (oC8 ad gn), (aI cI (ad 42) 40 gk), (aI cI (ad 43) 40 gs), (aI cI (ad 44) 40 gd), (aI cI (ad 45) 40 ge)]) (va_runV (C := RX10) (As := [.int v24]) (rest := []) ⟨hx, hb, hml, hown, hts⟩ (ct_X10_passed l D cI cY cJ cQ _ ad tn td lf v24) (cwV 1 hts gX10_as_X10_passed rfl rfl rfl ⟨rfl, cdX10_passed⟩ ⟨Nat.le_of_ble_eq_true rfl, Nat.le_of_ble_eq_true rfl⟩) (cPreV (hP.sub [0] rfl) hK (hD.sub [0] (by decide +kernel) rfl) hN (ci := 10) (q0 := 0) rfl rfl) rfl rfl hl.1 rfl (lv_room (Nat.le_of_ble_eq_true rfl)) dX10_as_47 ⟨Nat.le_of_ble_eq_true rfl, Nat.le_of_ble_eq_true rfl⟩) hP hD hS hA [0] [1, 2, 3, 4, 5, 6, 7, 8, 9, 10, 11, 12, 13, 14, 15, 16, 17, 18, 19, 20, 21, 22, 23, 24, 25, 26, 27, 28] rfl rfl (by decide +kernel) (by decide +kernel) (fun r27 u25 H locs hw26 => ?_)
        clear hP hD hS
        intro hP hD hS
        replace hw26 : r27 = v24 := hw26
        replace hP : va_P D vwCl [(oC1 ad cn), (aI cI (ad 31) 12 fo), (oC7 ad pn), (aI cI (ad 36) 40 pk), (aI cI (ad 37) 40 pf), (aI cI (ad 38) 40 po), (aI cI (ad 39) 40 pd), (aI cI (ad 40) 40 pe), (aI cI (ad 41) 40 pr), (oC3 ad hn), (aI cI (ad 23) 40 ho), (aI cI (ad 24) 40 hc), (aI cI (ad 25) 40 hp), (aI cI (ad 26) 40 hs), (aI cI (ad 27) 200 pt_15), (aI cI (ad 28) 200 ps_16), (aI cI (ad 29) 20 ha_17), (aI cI (ad 30) 10 re_18), (oC4 ad lc), (aI cI (ad 63) 20 lp), (aI cI (ad 64) 20 la), (aI cI (ad 65) 20 lb), (aI cI (ad 32) 12 wo), (oC8 ad gn), (aI cI (ad 42) 40 gk), (aI cI (ad 43) 40 gs), (aI cI (ad 44) 40 gd), (aI cI (ad 45) 40 ge), (oC10 ad tn td (0))] H := hP
        replace hD : va_D A [(oC1 ad cn), (aI cI (ad 31) 12 fo), (oC7 ad pn), (aI cI (ad 36) 40 pk), (aI cI (ad 37) 40 pf), (aI cI (ad 38) 40 po), (aI cI (ad 39) 40 pd), (aI cI (ad 40) 40 pe), (aI cI (ad 41) 40 pr), (oC3 ad hn), (aI cI (ad 23) 40 ho), (aI cI (ad 24) 40 hc), (aI cI (ad 25) 40 hp), (aI cI (ad 26) 40 hs), (aI cI (ad 27) 200 pt_15), (aI cI (ad 28) 200 ps_16), (aI cI (ad 29) 20 ha_17), (aI cI (ad 30) 10 re_18), (oC4 ad lc), (aI cI (ad 63) 20 lp), (aI cI (ad 64) 20 la), (aI cI (ad 65) 20 lb), (aI cI (ad 32) 12 wo), (oC8 ad gn), (aI cI (ad 42) 40 gk), (aI cI (ad 43) 40 gs), (aI cI (ad 44) 40 gd), (aI cI (ad 45) 40 ge), (oC10 ad tn td (0))] := hD
        replace hw26 := hw26.symm
        subst hw26
        have hP9 := hP.sub (ws' := [(oC10 ad tn td (0)), (oC1 ad cn), (aI cI (ad 31) 12 fo), (oC7 ad pn), (aI cI (ad 36) 40 pk), (aI cI (ad 37) 40 pf), (aI cI (ad 38) 40 po), (aI cI (ad 39) 40 pd), (aI cI (ad 40) 40 pe), (aI cI (ad 41) 40 pr), (oC3 ad hn), (aI cI (ad 23) 40 ho), (aI cI (ad 24) 40 hc), (aI cI (ad 25) 40 hp), (aI cI (ad 26) 40 hs), (aI cI (ad 27) 200 pt_15), (aI cI (ad 28) 200 ps_16), (aI cI (ad 29) 20 ha_17), (aI cI (ad 30) 10 re_18), (oC4 ad lc), (aI cI (ad 63) 20 lp), (aI cI (ad 64) 20 la), (aI cI (ad 65) 20 lb), (aI cI (ad 32) 12 wo), (oC8 ad gn), (aI cI (ad 42) 40 gk), (aI cI (ad 43) 40 gs), (aI cI (ad 44) 40 gd), (aI cI (ad 45) 40 ge)]) [28, 0, 1, 2, 3, 4, 5, 6, 7, 8, 9, 10, 11, 12, 13, 14, 15, 16, 17, 18, 19, 20, 21, 22, 23, 24, 25, 26, 27] rfl
        have hD9 := hD.sub (ws' := [(oC10 ad tn td (0)), (oC1 ad cn), (aI cI (ad 31) 12 fo), (oC7 ad pn), (aI cI (ad 36) 40 pk), (aI cI (ad 37) 40 pf), (aI cI (ad 38) 40 po), (aI cI (ad 39) 40 pd), (aI cI (ad 40) 40 pe), (aI cI (ad 41) 40 pr), (oC3 ad hn), (aI cI (ad 23) 40 ho), (aI cI (ad 24) 40 hc), (aI cI (ad 25) 40 hp), (aI cI (ad 26) 40 hs), (aI cI (ad 27) 200 pt_15), (aI cI (ad 28) 200 ps_16), (aI cI (ad 29) 20 ha_17), (aI cI (ad 30) 10 re_18), (oC4 ad lc), (aI cI (ad 63) 20 lp), (aI cI (ad 64) 20 la), (aI cI (ad 65) 20 lb), (aI cI (ad 32) 12 wo), (oC8 ad gn), (aI cI (ad 42) 40 gk), (aI cI (ad 43) 40 gs), (aI cI (ad 44) 40 gd), (aI cI (ad 45) 40 ge)]) [28, 0, 1, 2, 3, 4, 5, 6, 7, 8, 9, 10, 11, 12, 13, 14, 15, 16, 17, 18, 19, 20, 21, 22, 23, 24, 25, 26, 27] (by decide +kernel) rfl
        exact W.iret (v := v24) hx hb hr (fun t ht hW => ⟨⟨v24, (0, pt_15, ps_16, ha_17, re_18), rfl, (by show sp_as lf cn pn hn lc gn td fo wo pk pf po pd pe pr ho hc hp hs lp la lb gk gs ge k w v24 (0 : Int32); unfold sp_as; rw [if_pos (by omega)]; exact Or.inl ⟨f23, by first | rfl | assumption, rfl⟩), by rw [ht]; exact hP9, va_K.moved hW.alike hK, hD9⟩, hS.F ht⟩) hS.2.2 dX10_as_50
      · skip
        have f28 := bo_f hw20 c22
        refine lv_aload_n hx hb dX10_as_31 rfl (lv_at hl 0 rfl) ?_
        refine lv_iconst (v := 3) hx hb dX10_as_32 (by decide) ?_
        refine st_i (wr := [(oC1 ad cn), (aI cI (ad 31) 12 fo), (oC7 ad pn), (aI cI (ad 36) 40 pk), (aI cI (ad 37) 40 pf), (aI cI (ad 38) 40 po), (aI cI (ad 39) 40 pd), (aI cI (ad 40) 40 pe), (aI cI (ad 41) 40 pr), (oC3 ad hn), (aI cI (ad 23) 40 ho), (aI cI (ad 24) 40 hc), (aI cI (ad 25) 40 hp), (aI cI (ad 26) 40 hs), (aI cI (ad 27) 200 pt_15), (aI cI (ad 28) 200 ps_16), (aI cI (ad 29) 20 ha_17), (aI cI (ad 30) 10 re_18), (oC4 ad lc), (aI cI (ad 63) 20 lp), (aI cI (ad 64) 20 la), (aI cI (ad 65) 20 lb), (aI cI (ad 32) 12 wo), (oC8 ad gn), (aI cI (ad 42) 40 gk), (aI cI (ad 43) 40 gs), (aI cI (ad 44) 40 gd), (aI cI (ad 45) 40 ge)]) (va_runV (C := RX10) (As := [.int 3]) (rest := []) ⟨hx, hb, hml, hown, hts⟩ (ct_X10_finding l D cI cY cJ cQ _ ad tn td lf (3 : Int32)) (cwV 1 hts gX10_as_X10_finding rfl rfl rfl ⟨rfl, cdX10_finding⟩ ⟨Nat.le_of_ble_eq_true rfl, Nat.le_of_ble_eq_true rfl⟩) (cPreV (hP.sub [0] rfl) hK (hD.sub [0] (by decide +kernel) rfl) hN (ci := 10) (q0 := 0) rfl rfl) rfl rfl hl.1 rfl (lv_room (Nat.le_of_ble_eq_true rfl)) dX10_as_33 ⟨Nat.le_of_ble_eq_true rfl, Nat.le_of_ble_eq_true rfl⟩) hP hD hS hA [0] [1, 2, 3, 4, 5, 6, 7, 8, 9, 10, 11, 12, 13, 14, 15, 16, 17, 18, 19, 20, 21, 22, 23, 24, 25, 26, 27, 28] rfl rfl (by decide +kernel) (by decide +kernel) (fun r31 u29 H locs hw30 => ?_)
        clear hP hD hS
        intro hP hD hS
        replace hw30 : r31 = (-1000010) - (3 : Int32) := hw30
        replace hP : va_P D vwCl [(oC1 ad cn), (aI cI (ad 31) 12 fo), (oC7 ad pn), (aI cI (ad 36) 40 pk), (aI cI (ad 37) 40 pf), (aI cI (ad 38) 40 po), (aI cI (ad 39) 40 pd), (aI cI (ad 40) 40 pe), (aI cI (ad 41) 40 pr), (oC3 ad hn), (aI cI (ad 23) 40 ho), (aI cI (ad 24) 40 hc), (aI cI (ad 25) 40 hp), (aI cI (ad 26) 40 hs), (aI cI (ad 27) 200 pt_15), (aI cI (ad 28) 200 ps_16), (aI cI (ad 29) 20 ha_17), (aI cI (ad 30) 10 re_18), (oC4 ad lc), (aI cI (ad 63) 20 lp), (aI cI (ad 64) 20 la), (aI cI (ad 65) 20 lb), (aI cI (ad 32) 12 wo), (oC8 ad gn), (aI cI (ad 42) 40 gk), (aI cI (ad 43) 40 gs), (aI cI (ad 44) 40 gd), (aI cI (ad 45) 40 ge), (oC10 ad tn td (3 : Int32))] H := hP
        replace hD : va_D A [(oC1 ad cn), (aI cI (ad 31) 12 fo), (oC7 ad pn), (aI cI (ad 36) 40 pk), (aI cI (ad 37) 40 pf), (aI cI (ad 38) 40 po), (aI cI (ad 39) 40 pd), (aI cI (ad 40) 40 pe), (aI cI (ad 41) 40 pr), (oC3 ad hn), (aI cI (ad 23) 40 ho), (aI cI (ad 24) 40 hc), (aI cI (ad 25) 40 hp), (aI cI (ad 26) 40 hs), (aI cI (ad 27) 200 pt_15), (aI cI (ad 28) 200 ps_16), (aI cI (ad 29) 20 ha_17), (aI cI (ad 30) 10 re_18), (oC4 ad lc), (aI cI (ad 63) 20 lp), (aI cI (ad 64) 20 la), (aI cI (ad 65) 20 lb), (aI cI (ad 32) 12 wo), (oC8 ad gn), (aI cI (ad 42) 40 gk), (aI cI (ad 43) 40 gs), (aI cI (ad 44) 40 gd), (aI cI (ad 45) 40 ge), (oC10 ad tn td (3 : Int32))] := hD
        subst hw30
        have hP9 := hP.sub (ws' := [(oC10 ad tn td (3 : Int32)), (oC1 ad cn), (aI cI (ad 31) 12 fo), (oC7 ad pn), (aI cI (ad 36) 40 pk), (aI cI (ad 37) 40 pf), (aI cI (ad 38) 40 po), (aI cI (ad 39) 40 pd), (aI cI (ad 40) 40 pe), (aI cI (ad 41) 40 pr), (oC3 ad hn), (aI cI (ad 23) 40 ho), (aI cI (ad 24) 40 hc), (aI cI (ad 25) 40 hp), (aI cI (ad 26) 40 hs), (aI cI (ad 27) 200 pt_15), (aI cI (ad 28) 200 ps_16), (aI cI (ad 29) 20 ha_17), (aI cI (ad 30) 10 re_18), (oC4 ad lc), (aI cI (ad 63) 20 lp), (aI cI (ad 64) 20 la), (aI cI (ad 65) 20 lb), (aI cI (ad 32) 12 wo), (oC8 ad gn), (aI cI (ad 42) 40 gk), (aI cI (ad 43) 40 gs), (aI cI (ad 44) 40 gd), (aI cI (ad 45) 40 ge)]) [28, 0, 1, 2, 3, 4, 5, 6, 7, 8, 9, 10, 11, 12, 13, 14, 15, 16, 17, 18, 19, 20, 21, 22, 23, 24, 25, 26, 27] rfl
        have hD9 := hD.sub (ws' := [(oC10 ad tn td (3 : Int32)), (oC1 ad cn), (aI cI (ad 31) 12 fo), (oC7 ad pn), (aI cI (ad 36) 40 pk), (aI cI (ad 37) 40 pf), (aI cI (ad 38) 40 po), (aI cI (ad 39) 40 pd), (aI cI (ad 40) 40 pe), (aI cI (ad 41) 40 pr), (oC3 ad hn), (aI cI (ad 23) 40 ho), (aI cI (ad 24) 40 hc), (aI cI (ad 25) 40 hp), (aI cI (ad 26) 40 hs), (aI cI (ad 27) 200 pt_15), (aI cI (ad 28) 200 ps_16), (aI cI (ad 29) 20 ha_17), (aI cI (ad 30) 10 re_18), (oC4 ad lc), (aI cI (ad 63) 20 lp), (aI cI (ad 64) 20 la), (aI cI (ad 65) 20 lb), (aI cI (ad 32) 12 wo), (oC8 ad gn), (aI cI (ad 42) 40 gk), (aI cI (ad 43) 40 gs), (aI cI (ad 44) 40 gd), (aI cI (ad 45) 40 ge)]) [28, 0, 1, 2, 3, 4, 5, 6, 7, 8, 9, 10, 11, 12, 13, 14, 15, 16, 17, 18, 19, 20, 21, 22, 23, 24, 25, 26, 27] (by decide +kernel) rfl
        exact W.iret (v := (-1000010) - (3 : Int32)) hx hb hr (fun t ht hW => ⟨⟨(-1000010) - (3 : Int32), ((3 : Int32), pt_15, ps_16, ha_17, re_18), rfl, (by show sp_as lf cn pn hn lc gn td fo wo pk pf po pd pe pr ho hc hp hs lp la lb gk gs ge k w ((-1000010) - (3 : Int32) : Int32) (3 : Int32); unfold sp_as; rw [if_pos (by omega)]; exact Or.inr ⟨f28, by decide, rfl⟩), by rw [ht]; exact hP9, va_K.moved hW.alike hK, hD9⟩, hS.F ht⟩) hS.2.2 dX10_as_36
    · skip
      have f32 := bo_f hw8 c10
      refine lv_ldc hx hb hown (hts (Cond.constant RX10 89 (-1000001)) (wm_t (wm_l (wm_i 0 rfl)))) dX10_as_16 ?_
      have hP9 := hP
      have hD9 := hD
      exact W.iret (v := (-1000001)) hx hb hr (fun t ht hW => ⟨⟨(-1000001), (lf, pt, ps, ha, re), rfl, (by show sp_as lf cn pn hn lc gn td fo wo pk pf po pd pe pr ho hc hp hs lp la lb gk gs ge k w ((-1000001) : Int32) lf; unfold sp_as; rw [if_neg (by omega)]; exact ⟨rfl, rfl⟩), by rw [ht]; exact hP9, va_K.moved hW.alike hK, hD9⟩, hS.F ht⟩) hS.2.2 dX10_as_18

set_option maxHeartbeats 4000000 in
set_option maxRecDepth 100000 in
theorem ct_X10_leave (l : Launch) (D : va_G) (cI cY cJ cQ : ClassId) (sz : Nat) (ad : Nat → Nat) (tn td lf : Int32) (tr : Nat → Int32) (a : Int32)  (h1 : 0 ≤ tn.toInt) (h2 : tn.toInt ≤ 16)  : Met l yX10_leave wsX10_leave ({ frames := 0, cells := 0, slots := 0, locals := 0 }) (cPre D (ty4 cI cY cJ cQ) [(oC10 ad tn td lf), (aI cI (ad 11) 16 tr)] sz [.ref (ad 0), .int a]) (va_Qv (fun (u : Int32 × (Nat → Int32)) => u = lvT (tn, tr) a ∧ 0 ≤ u.1.toInt ∧ u.1.toInt ≤ 16) (cB D (ty4 cI cY cJ cQ) (fun (u : Int32 × (Nat → Int32)) => [(oC10 ad u.1 td lf), (aI cI (ad 11) 16 u.2)]) (va_A [(oC10 ad tn td lf), (aI cI (ad 11) 16 tr)] sz)) (va_A [(oC10 ad tn td lf), (aI cI (ad 11) 16 tr)] sz)) 0 0 (va_A [(oC10 ad tn td lf), (aI cI (ad 11) 16 tr)] sz) := by
  refine Met.ofW (cc := cX10_leave) (maxL := 2) (ret := none) (by decide) rfl ?_
  intro p e s m args below meth c s₁ B hml hv
  obtain ⟨rfl, hsz, hP, hK, hD0, hN⟩ := hv
  have hx := B.exec
  have hb := B.bytes
  have hr := B.returns
  have hts := atoms_spec (ws := wsX10_leave) B.pre
  have hown : s.vm.findClass RX10 = some m.cls := findClass_of_methodNamed B.named
  have hlocks := B.notSynchronized
  subst hsz
  have hD := hD0.self (sz := s.heap.size)
  generalize hAe : va_A [(oC10 ad tn td lf), (aI cI (ad 11) 16 tr)] s.heap.size = A at hD ⊢
  have hA : ∀ q : Nat, s.heap.size ≤ q → A q := fun q h => by rw [← hAe]; exact Or.inr h
  have hS : va_S A s.heap s.heap [] := va_S.rf
  have hP : va_P D vwCl [(oC10 ad tn td lf), (aI cI (ad 11) 16 tr)] s.heap := hP
  have hl := lv_entry ([.ref (ad 0), .int a]) (n := 2) (Nat.le_of_ble_eq_true rfl)
  rw [lg_entry_eq]
  generalize (lg_sl ([.ref (ad 0), .int a]) ++ List.replicate (2 - (lg_sl ([.ref (ad 0), .int a])).length) Slot.unset).toArray = ls at hl ⊢
  have hl : lv_has ls 2 [(0, .ref (ad 0)), (1, .int a)] := hl
  have k1 : (1 : Int32).toInt = 1 := by decide
  have k16 : (16 : Int32).toInt = 16 := by decide
  refine lv_aload_n hx hb dX10_leave_0 rfl (lv_at hl 0 rfl) ?_
  refine va_get (D := D) (ci := 10) (v := .int tn) (C := RX10) (T := TX10) (N := 14) hx hb hts inX10_leave_X10 hown hK hP 0 rfl rfl 11 (by decide) (hts (Cond.fieldLink RX10 307 "PortRooms" "traced" "I") (wm_t (wm_l (wm_i 0 rfl)))) (fun _ h9 => h9) rfl dX10_leave_1 ?_
  refine lv_bipush (v := 16) hx hb dX10_leave_4 (by decide) ?_
  refine lv_icmp_ge (tgt := 29) hx hb dX10_leave_6 (by decide) (fun c1 => ?_) (fun c1 => ?_)
  · skip
    have f2 := i_le c1
    have hP9 := hP
    have hD9 := hD
    exact W.vret hx hb hr (fun t ht hW => ⟨⟨(tn, tr), rfl, (by show (tn, tr) = lvT (tn, tr) a ∧ 0 ≤ tn.toInt ∧ tn.toInt ≤ 16; exact ⟨lvT_n (by omega), by omega, by omega⟩), by rw [ht]; exact hP9, va_K.moved hW.alike hK, hD9⟩, hS.F ht⟩) hS.2.2 dX10_leave_29
  · skip
    have f3 := i_nle c1
    refine lv_aload_n hx hb dX10_leave_9 rfl (lv_at hl 0 rfl) ?_
    refine va_get (D := D) (ci := 10) (v := .ref (ad 11)) (C := RX10) (T := TX10) (N := 14) hx hb hts inX10_leave_X10 hown hK hP 0 rfl rfl 10 (by decide) (hts (Cond.fieldLink RX10 72 "PortRooms" "trace" "[I") (wm_t (wm_l (wm_i 1 rfl)))) (fun _ h9 => h9) rfl dX10_leave_10 ?_
    refine lv_aload_n hx hb dX10_leave_13 rfl (lv_at hl 0 rfl) ?_
    refine va_get (D := D) (ci := 10) (v := .int tn) (C := RX10) (T := TX10) (N := 14) hx hb hts inX10_leave_X10 hown hK hP 0 rfl rfl 11 (by decide) (hts (Cond.fieldLink RX10 307 "PortRooms" "traced" "I") (wm_t (wm_l (wm_i 0 rfl)))) (fun _ h9 => h9) rfl dX10_leave_14 ?_
    refine lv_iload_n hx hb dX10_leave_17 rfl (lv_at hl 1 rfl) ?_
    refine va_iast hx hb hK hP hD hS 1 0 rfl rfl (i_in (by omega) (by omega)) dX10_leave_18 (fun H locs => ?_)
    clear hP hD hS
    intro hP hD hS
    replace hP : va_P D vwCl [(oC10 ad tn td lf), (aI cI (ad 11) 16 (upd tr tn.toNatClampNeg a))] H := hP
    replace hD : va_D A [(oC10 ad tn td lf), (aI cI (ad 11) 16 (upd tr tn.toNatClampNeg a))] := hD
    refine lv_aload_n hx hb dX10_leave_19 rfl (lv_at hl 0 rfl) ?_
    refine lv_dup hx hb dX10_leave_20 rfl ?_
    refine va_get (D := D) (ci := 10) (v := .int tn) (C := RX10) (T := TX10) (N := 14) hx hb hts inX10_leave_X10 hown hK hP 0 rfl rfl 11 (by decide) (hts (Cond.fieldLink RX10 307 "PortRooms" "traced" "I") (wm_t (wm_l (wm_i 0 rfl)))) (fun _ h9 => h9) rfl dX10_leave_21 ?_
    refine lv_iconst (v := 1) hx hb dX10_leave_24 (by decide) ?_
    refine lv_iadd hx hb dX10_leave_25 ?_
    refine lv_topi (fun v4 ev4 => ?_)
    try have tv4 : v4.toInt = tn.toInt + 1 := by rw [ev4]; exact (i_add (x := tn) (y := (1 : Int32)) (by rw [k1]; omega) (by rw [k1]; omega)).trans (by rw [k1])
    refine va_put (D := D) (ci := 10) (v := .int v4) (ty := .int) (C := RX10) (T := TX10) (N := 14) hx hb hts inX10_leave_X10 tyX10 tyX10_ok nmX10 hown hK hP hD hS 0 rfl rfl 11 (by decide) (hts (Cond.fieldLink RX10 307 "PortRooms" "traced" "I") (wm_t (wm_l (wm_i 0 rfl)))) (fun _ h9 => h9) rfl (tyX10_ok 11 (by decide)) rfl rfl (Nat.le_of_ble_eq_true rfl) dX10_leave_26 (fun H locs => ?_)
    clear hP hD hS
    intro hP hD hS
    replace hP : va_P D vwCl [(oC10 ad v4 td lf), (aI cI (ad 11) 16 (upd tr tn.toNatClampNeg a))] H := hP
    replace hD : va_D A [(oC10 ad v4 td lf), (aI cI (ad 11) 16 (upd tr tn.toNatClampNeg a))] := hD
    have hP9 := hP
    have hD9 := hD
    exact W.vret hx hb hr (fun t ht hW => ⟨⟨(v4, upd tr tn.toNatClampNeg a), rfl, (by show (v4, upd tr tn.toNatClampNeg a) = lvT (tn, tr) a ∧ 0 ≤ v4.toInt ∧ v4.toInt ≤ 16; exact ⟨lvT_y (by omega) (by assumption), by omega, by omega⟩), by rw [ht]; exact hP9, va_K.moved hW.alike hK, hD9⟩, hS.F ht⟩) hS.2.2 dX10_leave_29

set_option maxHeartbeats 4000000 in
set_option maxRecDepth 100000 in
theorem ct_X10_sizeLent (l : Launch) (D : va_G) (cI cY cJ cQ : ClassId) (sz : Nat) (ad : Nat → Nat) (tn td lf cn : Int32) (tr wo : Nat → Int32) (k : Int32)  (h1 : cn.toInt ≤ 12) (h2 : 0 ≤ k.toInt) (h3 : k.toInt < cn.toInt) (h4 : 0 ≤ tn.toInt) (h5 : tn.toInt ≤ 16)  : Met l yX10_sizeLent wsX10_sizeLent ({ frames := 1, cells := 0, slots := 0, locals := 21 }) (cPre D (ty4 cI cY cJ cQ) [(oC10 ad tn td lf), (aI cI (ad 11) 16 tr), (oC1 ad cn), (aI cI (ad 32) 12 wo)] sz [.ref (ad 0), .int k]) (va_Qi (fun (r : Int32) (u : Int32 × (Nat → Int32)) => r = wo k.toNatClampNeg ∧ u = (lvT (tn, tr) 10) ∧ 0 ≤ u.1.toInt ∧ u.1.toInt ≤ 16) (cB D (ty4 cI cY cJ cQ) (fun (u : Int32 × (Nat → Int32)) => [(oC10 ad u.1 td lf), (aI cI (ad 11) 16 u.2), (oC1 ad cn), (aI cI (ad 32) 12 wo)]) (va_A [(oC10 ad tn td lf), (aI cI (ad 11) 16 tr), (oC1 ad cn), (aI cI (ad 32) 12 wo)] sz)) (va_A [(oC10 ad tn td lf), (aI cI (ad 11) 16 tr), (oC1 ad cn), (aI cI (ad 32) 12 wo)] sz)) 0 0 (va_A [(oC10 ad tn td lf), (aI cI (ad 11) 16 tr), (oC1 ad cn), (aI cI (ad 32) 12 wo)] sz) := by
  refine Met.ofW (cc := cX10_sizeLent) (maxL := 2) (ret := (some .int)) (by decide) rfl ?_
  intro p e s m args below meth c s₁ B hml hv
  obtain ⟨rfl, hsz, hP, hK, hD0, hN⟩ := hv
  have hx := B.exec
  have hb := B.bytes
  have hr := B.returns
  have hts := atoms_spec (ws := wsX10_sizeLent) B.pre
  have hown : s.vm.findClass RX10 = some m.cls := findClass_of_methodNamed B.named
  have hlocks := B.notSynchronized
  subst hsz
  have hD := hD0.self (sz := s.heap.size)
  generalize hAe : va_A [(oC10 ad tn td lf), (aI cI (ad 11) 16 tr), (oC1 ad cn), (aI cI (ad 32) 12 wo)] s.heap.size = A at hD ⊢
  have hA : ∀ q : Nat, s.heap.size ≤ q → A q := fun q h => by rw [← hAe]; exact Or.inr h
  have hS : va_S A s.heap s.heap [] := va_S.rf
  have hP : va_P D vwCl [(oC10 ad tn td lf), (aI cI (ad 11) 16 tr), (oC1 ad cn), (aI cI (ad 32) 12 wo)] s.heap := hP
  have hl := lv_entry ([.ref (ad 0), .int k]) (n := 2) (Nat.le_of_ble_eq_true rfl)
  rw [lg_entry_eq]
  generalize (lg_sl ([.ref (ad 0), .int k]) ++ List.replicate (2 - (lg_sl ([.ref (ad 0), .int k])).length) Slot.unset).toArray = ls at hl ⊢
  have hl : lv_has ls 2 [(0, .ref (ad 0)), (1, .int k)] := hl
  have k10 : (10 : Int32).toInt = 10 := by decide
  refine lv_aload_n hx hb dX10_sizeLent_0 rfl (lv_at hl 0 rfl) ?_
  refine lv_bipush (v := 10) hx hb dX10_sizeLent_1 (by decide) ?_
  refine st_v (wr := [(oC1 ad cn), (aI cI (ad 32) 12 wo)]) (va_runV (C := RX10) (As := [.int 10]) (rest := []) ⟨hx, hb, hml, hown, hts⟩ (ct_X10_leave l D cI cY cJ cQ _ ad tn td lf tr (10 : Int32) h4 h5) (cwV 1 hts gX10_sizeLent_X10_leave rfl rfl rfl ⟨rfl, cdX10_leave⟩ ⟨Nat.le_of_ble_eq_true rfl, Nat.le_of_ble_eq_true rfl⟩) (cPreV (hP.sub [0, 1] rfl) hK (hD.sub [0, 1] (by decide +kernel) rfl) hN (ci := 10) (q0 := 0) rfl rfl) rfl rfl hl.1 rfl (lv_room (Nat.le_of_ble_eq_true rfl)) dX10_sizeLent_3 ⟨Nat.le_of_ble_eq_true rfl, Nat.le_of_ble_eq_true rfl⟩) hP hD hS hA [0, 1] [2, 3] rfl rfl (by decide +kernel) (by decide +kernel) (fun u1 H locs hw2 => ?_)
  clear hP hD hS
  intro hP hD hS
  obtain ⟨tn_4, tr_5⟩ := u1
  replace hw2 : (tn_4, tr_5) = lvT (tn, tr) (10 : Int32) ∧ 0 ≤ tn_4.toInt ∧ tn_4.toInt ≤ 16 := hw2
  replace hP : va_P D vwCl [(oC1 ad cn), (aI cI (ad 32) 12 wo), (oC10 ad tn_4 td lf), (aI cI (ad 11) 16 tr_5)] H := hP
  replace hD : va_D A [(oC1 ad cn), (aI cI (ad 32) 12 wo), (oC10 ad tn_4 td lf), (aI cI (ad 11) 16 tr_5)] := hD
  obtain ⟨hw2, hw2a, hw2b⟩ := hw2
  refine lv_aload_n hx hb dX10_sizeLent_6 rfl (lv_at hl 0 rfl) ?_
  refine va_get (D := D) (ci := 10) (v := .ref (ad 3)) (C := RX10) (T := TX10) (N := 14) hx hb hts inX10_sizeLent_X10 hown hK hP 2 rfl rfl 2 (by decide) (hts (Cond.fieldLink RX10 26 "PortRooms" "crates" "LPortRooms$Crates;") (wm_t (wm_l (wm_i 0 rfl)))) (fun _ h9 => h9) rfl dX10_sizeLent_7 ?_
  refine va_get (D := D) (ci := 1) (v := .ref (ad 32)) (C := RX1) (T := TX1) (N := 6) hx hb hts inX10_sizeLent_X1 hown hK hP 0 rfl rfl 1 (by decide) (hts (Cond.fieldLink RX10 207 "PortRooms$Crates" "worth" "[I") (wm_t (wm_l (wm_i 1 rfl)))) (fun _ h9 => h9) rfl dX10_sizeLent_10 ?_
  refine lv_iload_n hx hb dX10_sizeLent_13 rfl (lv_at hl 1 rfl) ?_
  refine va_iald hx hb hK hP 1 0 rfl rfl (i_in (by omega) (by omega)) dX10_sizeLent_14 ?_
  refine lv_topi (fun v6 ev6 => ?_)
  have hP9 := hP.sub (ws' := [(oC10 ad tn_4 td lf), (aI cI (ad 11) 16 tr_5), (oC1 ad cn), (aI cI (ad 32) 12 wo)]) [2, 3, 0, 1] rfl
  have hD9 := hD.sub (ws' := [(oC10 ad tn_4 td lf), (aI cI (ad 11) 16 tr_5), (oC1 ad cn), (aI cI (ad 32) 12 wo)]) [2, 3, 0, 1] (by decide +kernel) rfl
  exact W.iret (v := v6) hx hb hr (fun t ht hW => ⟨⟨v6, (tn_4, tr_5), rfl, (by show v6 = wo k.toNatClampNeg ∧ (tn_4, tr_5) = (lvT (tn, tr) 10) ∧ 0 ≤ tn_4.toInt ∧ tn_4.toInt ≤ 16; exact ⟨ev6, (by rw [hw2]), by omega, by omega⟩), by rw [ht]; exact hP9, va_K.moved hW.alike hK, hD9⟩, hS.F ht⟩) hS.2.2 dX10_sizeLent_15

set_option maxHeartbeats 4000000 in
set_option maxRecDepth 100000 in
theorem ct_X10_sizeOfOwed (l : Launch) (D : va_G) (cI cY cJ cQ : ClassId) (sz : Nat) (ad : Nat → Nat) (tn td lf cn gn : Int32) (tr wo gk gs gd ge : Nat → Int32) (k : Int32)  (h1 : cn.toInt ≤ 12) (h2 : 0 ≤ k.toInt) (h3 : k.toInt < cn.toInt) (h4 : 0 ≤ tn.toInt) (h5 : tn.toInt ≤ 16) (h6 : 0 ≤ gn.toInt) (h7 : gn.toInt ≤ 40)  : Met l yX10_sizeOfOwed wsX10_sizeOfOwed ({ frames := 2, cells := 0, slots := 0, locals := 47 }) (cPre D (ty4 cI cY cJ cQ) [(oC10 ad tn td lf), (aI cI (ad 11) 16 tr), (oC1 ad cn), (aI cI (ad 32) 12 wo), (oC8 ad gn), (aI cI (ad 42) 40 gk), (aI cI (ad 43) 40 gs), (aI cI (ad 44) 40 gd), (aI cI (ad 45) 40 ge)] sz [.ref (ad 0), .int k]) (va_Qi (fun (r : Int32) (u : Int32 × (Nat → Int32)) => r = (wo k.toNatClampNeg - suV gk gs ge k td gn.toNatClampNeg) ∧ u = (lvT (lvT (tn, tr) 11) 10) ∧ 0 ≤ u.1.toInt ∧ u.1.toInt ≤ 16) (cB D (ty4 cI cY cJ cQ) (fun (u : Int32 × (Nat → Int32)) => [(oC10 ad u.1 td lf), (aI cI (ad 11) 16 u.2), (oC1 ad cn), (aI cI (ad 32) 12 wo), (oC8 ad gn), (aI cI (ad 42) 40 gk), (aI cI (ad 43) 40 gs), (aI cI (ad 44) 40 gd), (aI cI (ad 45) 40 ge)]) (va_A [(oC10 ad tn td lf), (aI cI (ad 11) 16 tr), (oC1 ad cn), (aI cI (ad 32) 12 wo), (oC8 ad gn), (aI cI (ad 42) 40 gk), (aI cI (ad 43) 40 gs), (aI cI (ad 44) 40 gd), (aI cI (ad 45) 40 ge)] sz)) (va_A [(oC10 ad tn td lf), (aI cI (ad 11) 16 tr), (oC1 ad cn), (aI cI (ad 32) 12 wo), (oC8 ad gn), (aI cI (ad 42) 40 gk), (aI cI (ad 43) 40 gs), (aI cI (ad 44) 40 gd), (aI cI (ad 45) 40 ge)] sz)) 0 0 (va_A [(oC10 ad tn td lf), (aI cI (ad 11) 16 tr), (oC1 ad cn), (aI cI (ad 32) 12 wo), (oC8 ad gn), (aI cI (ad 42) 40 gk), (aI cI (ad 43) 40 gs), (aI cI (ad 44) 40 gd), (aI cI (ad 45) 40 ge)] sz) := by
  refine Met.ofW (cc := cX10_sizeOfOwed) (maxL := 2) (ret := (some .int)) (by decide) rfl ?_
  intro p e s m args below meth c s₁ B hml hv
  obtain ⟨rfl, hsz, hP, hK, hD0, hN⟩ := hv
  have hx := B.exec
  have hb := B.bytes
  have hr := B.returns
  have hts := atoms_spec (ws := wsX10_sizeOfOwed) B.pre
  have hown : s.vm.findClass RX10 = some m.cls := findClass_of_methodNamed B.named
  have hlocks := B.notSynchronized
  subst hsz
  have hD := hD0.self (sz := s.heap.size)
  generalize hAe : va_A [(oC10 ad tn td lf), (aI cI (ad 11) 16 tr), (oC1 ad cn), (aI cI (ad 32) 12 wo), (oC8 ad gn), (aI cI (ad 42) 40 gk), (aI cI (ad 43) 40 gs), (aI cI (ad 44) 40 gd), (aI cI (ad 45) 40 ge)] s.heap.size = A at hD ⊢
  have hA : ∀ q : Nat, s.heap.size ≤ q → A q := fun q h => by rw [← hAe]; exact Or.inr h
  have hS : va_S A s.heap s.heap [] := va_S.rf
  have hP : va_P D vwCl [(oC10 ad tn td lf), (aI cI (ad 11) 16 tr), (oC1 ad cn), (aI cI (ad 32) 12 wo), (oC8 ad gn), (aI cI (ad 42) 40 gk), (aI cI (ad 43) 40 gs), (aI cI (ad 44) 40 gd), (aI cI (ad 45) 40 ge)] s.heap := hP
  have hl := lv_entry ([.ref (ad 0), .int k]) (n := 2) (Nat.le_of_ble_eq_true rfl)
  rw [lg_entry_eq]
  generalize (lg_sl ([.ref (ad 0), .int k]) ++ List.replicate (2 - (lg_sl ([.ref (ad 0), .int k])).length) Slot.unset).toArray = ls at hl ⊢
  have hl : lv_has ls 2 [(0, .ref (ad 0)), (1, .int k)] := hl
  have k11 : (11 : Int32).toInt = 11 := by decide
  refine lv_aload_n hx hb dX10_sizeOfOwed_0 rfl (lv_at hl 0 rfl) ?_
  refine lv_bipush (v := 11) hx hb dX10_sizeOfOwed_1 (by decide) ?_
  refine st_v (wr := [(oC1 ad cn), (aI cI (ad 32) 12 wo), (oC8 ad gn), (aI cI (ad 42) 40 gk), (aI cI (ad 43) 40 gs), (aI cI (ad 44) 40 gd), (aI cI (ad 45) 40 ge)]) (va_runV (C := RX10) (As := [.int 11]) (rest := []) ⟨hx, hb, hml, hown, hts⟩ (ct_X10_leave l D cI cY cJ cQ _ ad tn td lf tr (11 : Int32) h4 h5) (cwV 1 hts gX10_sizeOfOwed_X10_leave rfl rfl rfl ⟨rfl, cdX10_leave⟩ ⟨Nat.le_of_ble_eq_true rfl, Nat.le_of_ble_eq_true rfl⟩) (cPreV (hP.sub [0, 1] rfl) hK (hD.sub [0, 1] (by decide +kernel) rfl) hN (ci := 10) (q0 := 0) rfl rfl) rfl rfl hl.1 rfl (lv_room (Nat.le_of_ble_eq_true rfl)) dX10_sizeOfOwed_3 ⟨Nat.le_of_ble_eq_true rfl, Nat.le_of_ble_eq_true rfl⟩) hP hD hS hA [0, 1] [2, 3, 4, 5, 6, 7, 8] rfl rfl (by decide +kernel) (by decide +kernel) (fun u1 H locs hw2 => ?_)
  clear hP hD hS
  intro hP hD hS
  obtain ⟨tn_4, tr_5⟩ := u1
  replace hw2 : (tn_4, tr_5) = lvT (tn, tr) (11 : Int32) ∧ 0 ≤ tn_4.toInt ∧ tn_4.toInt ≤ 16 := hw2
  replace hP : va_P D vwCl [(oC1 ad cn), (aI cI (ad 32) 12 wo), (oC8 ad gn), (aI cI (ad 42) 40 gk), (aI cI (ad 43) 40 gs), (aI cI (ad 44) 40 gd), (aI cI (ad 45) 40 ge), (oC10 ad tn_4 td lf), (aI cI (ad 11) 16 tr_5)] H := hP
  replace hD : va_D A [(oC1 ad cn), (aI cI (ad 32) 12 wo), (oC8 ad gn), (aI cI (ad 42) 40 gk), (aI cI (ad 43) 40 gs), (aI cI (ad 44) 40 gd), (aI cI (ad 45) 40 ge), (oC10 ad tn_4 td lf), (aI cI (ad 11) 16 tr_5)] := hD
  obtain ⟨hw2, hw2a, hw2b⟩ := hw2
  refine lv_aload_n hx hb dX10_sizeOfOwed_6 rfl (lv_at hl 0 rfl) ?_
  refine lv_iload_n hx hb dX10_sizeOfOwed_7 rfl (lv_at hl 1 rfl) ?_
  refine st_i (wr := [(oC8 ad gn), (aI cI (ad 42) 40 gk), (aI cI (ad 43) 40 gs), (aI cI (ad 44) 40 gd), (aI cI (ad 45) 40 ge)]) (va_runV (C := RX10) (As := [.int k]) (rest := []) ⟨hx, hb, hml, hown, hts⟩ (ct_X10_sizeLent l D cI cY cJ cQ _ ad tn_4 td lf cn tr_5 wo k h1 h2 h3 (by omega) (by omega)) (cwV 1 hts gX10_sizeOfOwed_X10_sizeLent rfl rfl rfl ⟨rfl, cdX10_sizeLent⟩ ⟨Nat.le_of_ble_eq_true rfl, Nat.le_of_ble_eq_true rfl⟩) (cPreV (hP.sub [7, 8, 0, 1] rfl) hK (hD.sub [7, 8, 0, 1] (by decide +kernel) rfl) hN (ci := 10) (q0 := 0) rfl rfl) rfl rfl hl.1 rfl (lv_room (Nat.le_of_ble_eq_true rfl)) dX10_sizeOfOwed_8 ⟨Nat.le_of_ble_eq_true rfl, Nat.le_of_ble_eq_true rfl⟩) hP hD hS hA [7, 8, 0, 1] [2, 3, 4, 5, 6] rfl rfl (by decide +kernel) (by decide +kernel) (fun r8 u6 H locs hw7 => ?_)
  clear hP hD hS
  intro hP hD hS
  obtain ⟨tn_9, tr_10⟩ := u6
  replace hw7 : r8 = wo k.toNatClampNeg ∧ (tn_9, tr_10) = (lvT (tn_4, tr_5) 10) ∧ 0 ≤ tn_9.toInt ∧ tn_9.toInt ≤ 16 := hw7
  replace hP : va_P D vwCl [(oC8 ad gn), (aI cI (ad 42) 40 gk), (aI cI (ad 43) 40 gs), (aI cI (ad 44) 40 gd), (aI cI (ad 45) 40 ge), (oC10 ad tn_9 td lf), (aI cI (ad 11) 16 tr_10), (oC1 ad cn), (aI cI (ad 32) 12 wo)] H := hP
  replace hD : va_D A [(oC8 ad gn), (aI cI (ad 42) 40 gk), (aI cI (ad 43) 40 gs), (aI cI (ad 44) 40 gd), (aI cI (ad 45) 40 ge), (oC10 ad tn_9 td lf), (aI cI (ad 11) 16 tr_10), (oC1 ad cn), (aI cI (ad 32) 12 wo)] := hD
  obtain ⟨hw7r, hw7, hw7a, hw7b⟩ := hw7
  subst hw7r
  refine lv_aload_n hx hb dX10_sizeOfOwed_11 rfl (lv_at hl 0 rfl) ?_
  refine va_get (D := D) (ci := 10) (v := .ref (ad 5)) (C := RX10) (T := TX10) (N := 14) hx hb hts inX10_sizeOfOwed_X10 hown hK hP 5 rfl rfl 4 (by decide) (hts (Cond.fieldLink RX10 40 "PortRooms" "pledges" "LPortRooms$Pledges;") (wm_t (wm_l (wm_i 0 rfl)))) (fun _ h9 => h9) rfl dX10_sizeOfOwed_12 ?_
  refine lv_iload_n hx hb dX10_sizeOfOwed_15 rfl (lv_at hl 1 rfl) ?_
  refine lv_aload_n hx hb dX10_sizeOfOwed_16 rfl (lv_at hl 0 rfl) ?_
  refine va_get (D := D) (ci := 10) (v := .int td) (C := RX10) (T := TX10) (N := 14) hx hb hts inX10_sizeOfOwed_X10 hown hK hP 5 rfl rfl 12 (by decide) (hts (Cond.fieldLink RX10 298 "PortRooms" "today" "I") (wm_t (wm_l (wm_i 1 rfl)))) (fun _ h9 => h9) rfl dX10_sizeOfOwed_17 ?_
  refine st_i1 (va_runV (C := RX8) (As := [.int k, .int td]) (rest := [.int (wo k.toNatClampNeg)]) ⟨hx, hb, hml, hown, hts⟩ (ct_X8_sumsOn l D cI cY cJ cQ _ ad gn gk gs gd ge k td h6 h7) (cwV 2 hts gX10_sizeOfOwed_X8_sumsOn rfl rfl rfl ⟨rfl, cdX8_sumsOn⟩ ⟨Nat.le_of_ble_eq_true rfl, Nat.le_of_ble_eq_true rfl⟩) (cPreV (hP.sub [0, 1, 2, 3, 4] rfl) hK (hD.sub [0, 1, 2, 3, 4] (by decide +kernel) rfl) hN (ci := 8) (q0 := 0) rfl rfl) rfl rfl hl.1 rfl (lv_room (Nat.le_of_ble_eq_true rfl)) dX10_sizeOfOwed_20 ⟨Nat.le_of_ble_eq_true rfl, Nat.le_of_ble_eq_true rfl⟩) hP hD hS hA [0, 1, 2, 3, 4] rfl (fun _ => rfl) (fun r13 u11 H locs hw12 => ?_)
  clear hP hS
  intro hP hS
  replace hw12 : r13 = suV gk gs ge k td gn.toNatClampNeg := hw12
  subst hw12
  refine lv_isub hx hb dX10_sizeOfOwed_23 ?_
  refine lv_topi (fun v14 ev14 => ?_)
  have hP9 := hP.sub (ws' := [(oC10 ad tn_9 td lf), (aI cI (ad 11) 16 tr_10), (oC1 ad cn), (aI cI (ad 32) 12 wo), (oC8 ad gn), (aI cI (ad 42) 40 gk), (aI cI (ad 43) 40 gs), (aI cI (ad 44) 40 gd), (aI cI (ad 45) 40 ge)]) [5, 6, 7, 8, 0, 1, 2, 3, 4] rfl
  have hD9 := hD.sub (ws' := [(oC10 ad tn_9 td lf), (aI cI (ad 11) 16 tr_10), (oC1 ad cn), (aI cI (ad 32) 12 wo), (oC8 ad gn), (aI cI (ad 42) 40 gk), (aI cI (ad 43) 40 gs), (aI cI (ad 44) 40 gd), (aI cI (ad 45) 40 ge)]) [5, 6, 7, 8, 0, 1, 2, 3, 4] (by decide +kernel) rfl
  exact W.iret (v := v14) hx hb hr (fun t ht hW => ⟨⟨v14, (tn_9, tr_10), rfl, (by show v14 = (wo k.toNatClampNeg - suV gk gs ge k td gn.toNatClampNeg) ∧ (tn_9, tr_10) = (lvT (lvT (tn, tr) 11) 10) ∧ 0 ≤ tn_9.toInt ∧ tn_9.toInt ≤ 16; exact ⟨ev14, (by rw [hw7, hw2]), by omega, by omega⟩), by rw [ht]; exact hP9, va_K.moved hW.alike hK, hD9⟩, hS.F ht⟩) hS.2.2 dX10_sizeOfOwed_24

set_option maxHeartbeats 4000000 in
set_option maxRecDepth 100000 in
theorem ct_X10_sizeOfDeep (l : Launch) (D : va_G) (cI cY cJ cQ : ClassId) (sz : Nat) (ad : Nat → Nat) (tn td lf cn gn : Int32) (tr wo gk gs gd ge : Nat → Int32) (k : Int32)  (h1 : cn.toInt ≤ 12) (h2 : 0 ≤ k.toInt) (h3 : k.toInt < cn.toInt) (h4 : 0 ≤ tn.toInt) (h5 : tn.toInt ≤ 16) (h6 : 0 ≤ gn.toInt) (h7 : gn.toInt ≤ 40)  : Met l yX10_sizeOfDeep wsX10_sizeOfDeep ({ frames := 3, cells := 0, slots := 0, locals := 68 }) (cPre D (ty4 cI cY cJ cQ) [(oC10 ad tn td lf), (aI cI (ad 11) 16 tr), (oC1 ad cn), (aI cI (ad 32) 12 wo), (oC8 ad gn), (aI cI (ad 42) 40 gk), (aI cI (ad 43) 40 gs), (aI cI (ad 44) 40 gd), (aI cI (ad 45) 40 ge)] sz [.ref (ad 0), .int k]) (va_Qi (fun (r : Int32) (u : Int32 × (Nat → Int32)) => r = ((wo k.toNatClampNeg - suV gk gs ge k td gn.toNatClampNeg) / 2) ∧ u = (lvT (lvT (lvT (tn, tr) 12) 11) 10) ∧ 0 ≤ u.1.toInt ∧ u.1.toInt ≤ 16) (cB D (ty4 cI cY cJ cQ) (fun (u : Int32 × (Nat → Int32)) => [(oC10 ad u.1 td lf), (aI cI (ad 11) 16 u.2), (oC1 ad cn), (aI cI (ad 32) 12 wo), (oC8 ad gn), (aI cI (ad 42) 40 gk), (aI cI (ad 43) 40 gs), (aI cI (ad 44) 40 gd), (aI cI (ad 45) 40 ge)]) (va_A [(oC10 ad tn td lf), (aI cI (ad 11) 16 tr), (oC1 ad cn), (aI cI (ad 32) 12 wo), (oC8 ad gn), (aI cI (ad 42) 40 gk), (aI cI (ad 43) 40 gs), (aI cI (ad 44) 40 gd), (aI cI (ad 45) 40 ge)] sz)) (va_A [(oC10 ad tn td lf), (aI cI (ad 11) 16 tr), (oC1 ad cn), (aI cI (ad 32) 12 wo), (oC8 ad gn), (aI cI (ad 42) 40 gk), (aI cI (ad 43) 40 gs), (aI cI (ad 44) 40 gd), (aI cI (ad 45) 40 ge)] sz)) 0 0 (va_A [(oC10 ad tn td lf), (aI cI (ad 11) 16 tr), (oC1 ad cn), (aI cI (ad 32) 12 wo), (oC8 ad gn), (aI cI (ad 42) 40 gk), (aI cI (ad 43) 40 gs), (aI cI (ad 44) 40 gd), (aI cI (ad 45) 40 ge)] sz) := by
  refine Met.ofW (cc := cX10_sizeOfDeep) (maxL := 2) (ret := (some .int)) (by decide) rfl ?_
  intro p e s m args below meth c s₁ B hml hv
  obtain ⟨rfl, hsz, hP, hK, hD0, hN⟩ := hv
  have hx := B.exec
  have hb := B.bytes
  have hr := B.returns
  have hts := atoms_spec (ws := wsX10_sizeOfDeep) B.pre
  have hown : s.vm.findClass RX10 = some m.cls := findClass_of_methodNamed B.named
  have hlocks := B.notSynchronized
  subst hsz
  have hD := hD0.self (sz := s.heap.size)
  generalize hAe : va_A [(oC10 ad tn td lf), (aI cI (ad 11) 16 tr), (oC1 ad cn), (aI cI (ad 32) 12 wo), (oC8 ad gn), (aI cI (ad 42) 40 gk), (aI cI (ad 43) 40 gs), (aI cI (ad 44) 40 gd), (aI cI (ad 45) 40 ge)] s.heap.size = A at hD ⊢
  have hA : ∀ q : Nat, s.heap.size ≤ q → A q := fun q h => by rw [← hAe]; exact Or.inr h
  have hS : va_S A s.heap s.heap [] := va_S.rf
  have hP : va_P D vwCl [(oC10 ad tn td lf), (aI cI (ad 11) 16 tr), (oC1 ad cn), (aI cI (ad 32) 12 wo), (oC8 ad gn), (aI cI (ad 42) 40 gk), (aI cI (ad 43) 40 gs), (aI cI (ad 44) 40 gd), (aI cI (ad 45) 40 ge)] s.heap := hP
  have hl := lv_entry ([.ref (ad 0), .int k]) (n := 2) (Nat.le_of_ble_eq_true rfl)
  rw [lg_entry_eq]
  generalize (lg_sl ([.ref (ad 0), .int k]) ++ List.replicate (2 - (lg_sl ([.ref (ad 0), .int k])).length) Slot.unset).toArray = ls at hl ⊢
  have hl : lv_has ls 2 [(0, .ref (ad 0)), (1, .int k)] := hl
  have k12 : (12 : Int32).toInt = 12 := by decide
  refine lv_aload_n hx hb dX10_sizeOfDeep_0 rfl (lv_at hl 0 rfl) ?_
  refine lv_bipush (v := 12) hx hb dX10_sizeOfDeep_1 (by decide) ?_
  refine st_v (wr := [(oC1 ad cn), (aI cI (ad 32) 12 wo), (oC8 ad gn), (aI cI (ad 42) 40 gk), (aI cI (ad 43) 40 gs), (aI cI (ad 44) 40 gd), (aI cI (ad 45) 40 ge)]) (va_runV (C := RX10) (As := [.int 12]) (rest := []) ⟨hx, hb, hml, hown, hts⟩ (ct_X10_leave l D cI cY cJ cQ _ ad tn td lf tr (12 : Int32) h4 h5) (cwV 1 hts gX10_sizeOfDeep_X10_leave rfl rfl rfl ⟨rfl, cdX10_leave⟩ ⟨Nat.le_of_ble_eq_true rfl, Nat.le_of_ble_eq_true rfl⟩) (cPreV (hP.sub [0, 1] rfl) hK (hD.sub [0, 1] (by decide +kernel) rfl) hN (ci := 10) (q0 := 0) rfl rfl) rfl rfl hl.1 rfl (lv_room (Nat.le_of_ble_eq_true rfl)) dX10_sizeOfDeep_3 ⟨Nat.le_of_ble_eq_true rfl, Nat.le_of_ble_eq_true rfl⟩) hP hD hS hA [0, 1] [2, 3, 4, 5, 6, 7, 8] rfl rfl (by decide +kernel) (by decide +kernel) (fun u1 H locs hw2 => ?_)
  clear hP hD hS
  intro hP hD hS
  obtain ⟨tn_4, tr_5⟩ := u1
  replace hw2 : (tn_4, tr_5) = lvT (tn, tr) (12 : Int32) ∧ 0 ≤ tn_4.toInt ∧ tn_4.toInt ≤ 16 := hw2
  replace hP : va_P D vwCl [(oC1 ad cn), (aI cI (ad 32) 12 wo), (oC8 ad gn), (aI cI (ad 42) 40 gk), (aI cI (ad 43) 40 gs), (aI cI (ad 44) 40 gd), (aI cI (ad 45) 40 ge), (oC10 ad tn_4 td lf), (aI cI (ad 11) 16 tr_5)] H := hP
  replace hD : va_D A [(oC1 ad cn), (aI cI (ad 32) 12 wo), (oC8 ad gn), (aI cI (ad 42) 40 gk), (aI cI (ad 43) 40 gs), (aI cI (ad 44) 40 gd), (aI cI (ad 45) 40 ge), (oC10 ad tn_4 td lf), (aI cI (ad 11) 16 tr_5)] := hD
  obtain ⟨hw2, hw2a, hw2b⟩ := hw2
  refine lv_aload_n hx hb dX10_sizeOfDeep_6 rfl (lv_at hl 0 rfl) ?_
  refine lv_iload_n hx hb dX10_sizeOfDeep_7 rfl (lv_at hl 1 rfl) ?_
  refine st_i (wr := []) (va_runV (C := RX10) (As := [.int k]) (rest := []) ⟨hx, hb, hml, hown, hts⟩ (ct_X10_sizeOfOwed l D cI cY cJ cQ _ ad tn_4 td lf cn gn tr_5 wo gk gs gd ge k h1 h2 h3 (by omega) (by omega) h6 h7) (cwV 1 hts gX10_sizeOfDeep_X10_sizeOfOwed rfl rfl rfl ⟨rfl, cdX10_sizeOfOwed⟩ ⟨Nat.le_of_ble_eq_true rfl, Nat.le_of_ble_eq_true rfl⟩) (cPreV (hP.sub [7, 8, 0, 1, 2, 3, 4, 5, 6] rfl) hK (hD.sub [7, 8, 0, 1, 2, 3, 4, 5, 6] (by decide +kernel) rfl) hN (ci := 10) (q0 := 0) rfl rfl) rfl rfl hl.1 rfl (lv_room (Nat.le_of_ble_eq_true rfl)) dX10_sizeOfDeep_8 ⟨Nat.le_of_ble_eq_true rfl, Nat.le_of_ble_eq_true rfl⟩) hP hD hS hA [7, 8, 0, 1, 2, 3, 4, 5, 6] [] rfl rfl (by decide +kernel) (by decide +kernel) (fun r8 u6 H locs hw7 => ?_)
  clear hP hD hS
  intro hP hD hS
  obtain ⟨tn_9, tr_10⟩ := u6
  replace hw7 : r8 = (wo k.toNatClampNeg - suV gk gs ge k td gn.toNatClampNeg) ∧ (tn_9, tr_10) = (lvT (lvT (tn_4, tr_5) 11) 10) ∧ 0 ≤ tn_9.toInt ∧ tn_9.toInt ≤ 16 := hw7
  replace hP : va_P D vwCl [(oC10 ad tn_9 td lf), (aI cI (ad 11) 16 tr_10), (oC1 ad cn), (aI cI (ad 32) 12 wo), (oC8 ad gn), (aI cI (ad 42) 40 gk), (aI cI (ad 43) 40 gs), (aI cI (ad 44) 40 gd), (aI cI (ad 45) 40 ge)] H := hP
  replace hD : va_D A [(oC10 ad tn_9 td lf), (aI cI (ad 11) 16 tr_10), (oC1 ad cn), (aI cI (ad 32) 12 wo), (oC8 ad gn), (aI cI (ad 42) 40 gk), (aI cI (ad 43) 40 gs), (aI cI (ad 44) 40 gd), (aI cI (ad 45) 40 ge)] := hD
  obtain ⟨hw7r, hw7, hw7a, hw7b⟩ := hw7
  subst hw7r
  refine lv_iconst (v := 2) hx hb dX10_sizeOfDeep_11 (by decide) ?_
  refine lv_idiv hx hb dX10_sizeOfDeep_12 (by decide) ?_
  refine lv_topi (fun v11 ev11 => ?_)
  have hP9 := hP
  have hD9 := hD
  exact W.iret (v := v11) hx hb hr (fun t ht hW => ⟨⟨v11, (tn_9, tr_10), rfl, (by show v11 = ((wo k.toNatClampNeg - suV gk gs ge k td gn.toNatClampNeg) / 2) ∧ (tn_9, tr_10) = (lvT (lvT (lvT (tn, tr) 12) 11) 10) ∧ 0 ≤ tn_9.toInt ∧ tn_9.toInt ≤ 16; exact ⟨ev11, (by rw [hw7, hw2]), by omega, by omega⟩), by rw [ht]; exact hP9, va_K.moved hW.alike hK, hD9⟩, hS.F ht⟩) hS.2.2 dX10_sizeOfDeep_13

set_option maxHeartbeats 4000000 in
set_option maxRecDepth 100000 in
theorem ct_X10_markLent (l : Launch) (D : va_G) (cI cY cJ cQ : ClassId) (sz : Nat) (ad : Nat → Nat) (tn td lf cn pn : Int32) (tr fo pk pf po pd pe pr : Nat → Int32) (k : Int32)  (h1 : cn.toInt ≤ 12) (h2 : 0 ≤ k.toInt) (h3 : k.toInt < cn.toInt) (h4 : 0 ≤ tn.toInt) (h5 : tn.toInt ≤ 16) (h6 : 0 ≤ pn.toInt) (h7 : pn.toInt ≤ 40) (h8 : okO pn pr)  : Met l yX10_markLent wsX10_markLent ({ frames := 2, cells := 0, slots := 0, locals := 50 }) (cPre D (ty4 cI cY cJ cQ) [(oC10 ad tn td lf), (aI cI (ad 11) 16 tr), (oC1 ad cn), (aI cI (ad 31) 12 fo), (oC7 ad pn), (aI cI (ad 36) 40 pk), (aI cI (ad 37) 40 pf), (aI cI (ad 38) 40 po), (aI cI (ad 39) 40 pd), (aI cI (ad 40) 40 pe), (aI cI (ad 41) 40 pr)] sz [.ref (ad 0), .int k]) (va_Qi (fun (r : Int32) (u : Int32 × (Nat → Int32)) => r = (owV pk pf po pd pe pr k td td (fo k.toNatClampNeg) pn.toNatClampNeg) ∧ u = (lvT (tn, tr) 20) ∧ 0 ≤ u.1.toInt ∧ u.1.toInt ≤ 16) (cB D (ty4 cI cY cJ cQ) (fun (u : Int32 × (Nat → Int32)) => [(oC10 ad u.1 td lf), (aI cI (ad 11) 16 u.2), (oC1 ad cn), (aI cI (ad 31) 12 fo), (oC7 ad pn), (aI cI (ad 36) 40 pk), (aI cI (ad 37) 40 pf), (aI cI (ad 38) 40 po), (aI cI (ad 39) 40 pd), (aI cI (ad 40) 40 pe), (aI cI (ad 41) 40 pr)]) (va_A [(oC10 ad tn td lf), (aI cI (ad 11) 16 tr), (oC1 ad cn), (aI cI (ad 31) 12 fo), (oC7 ad pn), (aI cI (ad 36) 40 pk), (aI cI (ad 37) 40 pf), (aI cI (ad 38) 40 po), (aI cI (ad 39) 40 pd), (aI cI (ad 40) 40 pe), (aI cI (ad 41) 40 pr)] sz)) (va_A [(oC10 ad tn td lf), (aI cI (ad 11) 16 tr), (oC1 ad cn), (aI cI (ad 31) 12 fo), (oC7 ad pn), (aI cI (ad 36) 40 pk), (aI cI (ad 37) 40 pf), (aI cI (ad 38) 40 po), (aI cI (ad 39) 40 pd), (aI cI (ad 40) 40 pe), (aI cI (ad 41) 40 pr)] sz)) 0 0 (va_A [(oC10 ad tn td lf), (aI cI (ad 11) 16 tr), (oC1 ad cn), (aI cI (ad 31) 12 fo), (oC7 ad pn), (aI cI (ad 36) 40 pk), (aI cI (ad 37) 40 pf), (aI cI (ad 38) 40 po), (aI cI (ad 39) 40 pd), (aI cI (ad 40) 40 pe), (aI cI (ad 41) 40 pr)] sz) := by
  refine Met.ofW (cc := cX10_markLent) (maxL := 2) (ret := (some .int)) (by decide) rfl ?_
  intro p e s m args below meth c s₁ B hml hv
  obtain ⟨rfl, hsz, hP, hK, hD0, hN⟩ := hv
  have hx := B.exec
  have hb := B.bytes
  have hr := B.returns
  have hts := atoms_spec (ws := wsX10_markLent) B.pre
  have hown : s.vm.findClass RX10 = some m.cls := findClass_of_methodNamed B.named
  have hlocks := B.notSynchronized
  subst hsz
  have hD := hD0.self (sz := s.heap.size)
  generalize hAe : va_A [(oC10 ad tn td lf), (aI cI (ad 11) 16 tr), (oC1 ad cn), (aI cI (ad 31) 12 fo), (oC7 ad pn), (aI cI (ad 36) 40 pk), (aI cI (ad 37) 40 pf), (aI cI (ad 38) 40 po), (aI cI (ad 39) 40 pd), (aI cI (ad 40) 40 pe), (aI cI (ad 41) 40 pr)] s.heap.size = A at hD ⊢
  have hA : ∀ q : Nat, s.heap.size ≤ q → A q := fun q h => by rw [← hAe]; exact Or.inr h
  have hS : va_S A s.heap s.heap [] := va_S.rf
  have hP : va_P D vwCl [(oC10 ad tn td lf), (aI cI (ad 11) 16 tr), (oC1 ad cn), (aI cI (ad 31) 12 fo), (oC7 ad pn), (aI cI (ad 36) 40 pk), (aI cI (ad 37) 40 pf), (aI cI (ad 38) 40 po), (aI cI (ad 39) 40 pd), (aI cI (ad 40) 40 pe), (aI cI (ad 41) 40 pr)] s.heap := hP
  have hl := lv_entry ([.ref (ad 0), .int k]) (n := 2) (Nat.le_of_ble_eq_true rfl)
  rw [lg_entry_eq]
  generalize (lg_sl ([.ref (ad 0), .int k]) ++ List.replicate (2 - (lg_sl ([.ref (ad 0), .int k])).length) Slot.unset).toArray = ls at hl ⊢
  have hl : lv_has ls 2 [(0, .ref (ad 0)), (1, .int k)] := hl
  have k20 : (20 : Int32).toInt = 20 := by decide
  refine lv_aload_n hx hb dX10_markLent_0 rfl (lv_at hl 0 rfl) ?_
  refine lv_bipush (v := 20) hx hb dX10_markLent_1 (by decide) ?_
  refine st_v (wr := [(oC1 ad cn), (aI cI (ad 31) 12 fo), (oC7 ad pn), (aI cI (ad 36) 40 pk), (aI cI (ad 37) 40 pf), (aI cI (ad 38) 40 po), (aI cI (ad 39) 40 pd), (aI cI (ad 40) 40 pe), (aI cI (ad 41) 40 pr)]) (va_runV (C := RX10) (As := [.int 20]) (rest := []) ⟨hx, hb, hml, hown, hts⟩ (ct_X10_leave l D cI cY cJ cQ _ ad tn td lf tr (20 : Int32) h4 h5) (cwV 1 hts gX10_markLent_X10_leave rfl rfl rfl ⟨rfl, cdX10_leave⟩ ⟨Nat.le_of_ble_eq_true rfl, Nat.le_of_ble_eq_true rfl⟩) (cPreV (hP.sub [0, 1] rfl) hK (hD.sub [0, 1] (by decide +kernel) rfl) hN (ci := 10) (q0 := 0) rfl rfl) rfl rfl hl.1 rfl (lv_room (Nat.le_of_ble_eq_true rfl)) dX10_markLent_3 ⟨Nat.le_of_ble_eq_true rfl, Nat.le_of_ble_eq_true rfl⟩) hP hD hS hA [0, 1] [2, 3, 4, 5, 6, 7, 8, 9, 10] rfl rfl (by decide +kernel) (by decide +kernel) (fun u1 H locs hw2 => ?_)
  clear hP hD hS
  intro hP hD hS
  obtain ⟨tn_4, tr_5⟩ := u1
  replace hw2 : (tn_4, tr_5) = lvT (tn, tr) (20 : Int32) ∧ 0 ≤ tn_4.toInt ∧ tn_4.toInt ≤ 16 := hw2
  replace hP : va_P D vwCl [(oC1 ad cn), (aI cI (ad 31) 12 fo), (oC7 ad pn), (aI cI (ad 36) 40 pk), (aI cI (ad 37) 40 pf), (aI cI (ad 38) 40 po), (aI cI (ad 39) 40 pd), (aI cI (ad 40) 40 pe), (aI cI (ad 41) 40 pr), (oC10 ad tn_4 td lf), (aI cI (ad 11) 16 tr_5)] H := hP
  replace hD : va_D A [(oC1 ad cn), (aI cI (ad 31) 12 fo), (oC7 ad pn), (aI cI (ad 36) 40 pk), (aI cI (ad 37) 40 pf), (aI cI (ad 38) 40 po), (aI cI (ad 39) 40 pd), (aI cI (ad 40) 40 pe), (aI cI (ad 41) 40 pr), (oC10 ad tn_4 td lf), (aI cI (ad 11) 16 tr_5)] := hD
  obtain ⟨hw2, hw2a, hw2b⟩ := hw2
  refine lv_aload_n hx hb dX10_markLent_6 rfl (lv_at hl 0 rfl) ?_
  refine va_get (D := D) (ci := 10) (v := .ref (ad 4)) (C := RX10) (T := TX10) (N := 14) hx hb hts inX10_markLent_X10 hown hK hP 9 rfl rfl 3 (by decide) (hts (Cond.fieldLink RX10 33 "PortRooms" "papers" "LPortRooms$Papers;") (wm_t (wm_l (wm_i 0 rfl)))) (fun _ h9 => h9) rfl dX10_markLent_7 ?_
  refine lv_iload_n hx hb dX10_markLent_10 rfl (lv_at hl 1 rfl) ?_
  refine lv_aload_n hx hb dX10_markLent_11 rfl (lv_at hl 0 rfl) ?_
  refine va_get (D := D) (ci := 10) (v := .ref (ad 3)) (C := RX10) (T := TX10) (N := 14) hx hb hts inX10_markLent_X10 hown hK hP 9 rfl rfl 2 (by decide) (hts (Cond.fieldLink RX10 26 "PortRooms" "crates" "LPortRooms$Crates;") (wm_t (wm_l (wm_i 1 rfl)))) (fun _ h9 => h9) rfl dX10_markLent_12 ?_
  refine va_get (D := D) (ci := 1) (v := .ref (ad 31)) (C := RX1) (T := TX1) (N := 6) hx hb hts inX10_markLent_X1 hown hK hP 0 rfl rfl 0 (by decide) (hts (Cond.fieldLink RX10 190 "PortRooms$Crates" "firstOwner" "[I") (wm_t (wm_l (wm_i 2 rfl)))) (fun _ h9 => h9) rfl dX10_markLent_15 ?_
  refine lv_iload_n hx hb dX10_markLent_18 rfl (lv_at hl 1 rfl) ?_
  refine va_iald hx hb hK hP 1 0 rfl rfl (i_in (by omega) (by omega)) dX10_markLent_19 ?_
  refine lv_topi (fun v6 ev6 => ?_)
  subst ev6
  refine lv_aload_n hx hb dX10_markLent_20 rfl (lv_at hl 0 rfl) ?_
  refine va_get (D := D) (ci := 10) (v := .int td) (C := RX10) (T := TX10) (N := 14) hx hb hts inX10_markLent_X10 hown hK hP 9 rfl rfl 12 (by decide) (hts (Cond.fieldLink RX10 298 "PortRooms" "today" "I") (wm_t (wm_l (wm_i 3 rfl)))) (fun _ h9 => h9) rfl dX10_markLent_21 ?_
  refine lv_aload_n hx hb dX10_markLent_24 rfl (lv_at hl 0 rfl) ?_
  refine va_get (D := D) (ci := 10) (v := .int td) (C := RX10) (T := TX10) (N := 14) hx hb hts inX10_markLent_X10 hown hK hP 9 rfl rfl 12 (by decide) (hts (Cond.fieldLink RX10 298 "PortRooms" "today" "I") (wm_t (wm_l (wm_i 3 rfl)))) (fun _ h9 => h9) rfl dX10_markLent_25 ?_
  refine st_i1 (va_runV (C := RX7) (As := [.int k, .int (fo k.toNatClampNeg), .int td, .int td]) (rest := []) ⟨hx, hb, hml, hown, hts⟩ (ct_X7_ownerOf l D cI cY cJ cQ _ ad pn pk pf po pd pe pr k (fo k.toNatClampNeg) td td h6 h7 h8) (cwV 4 hts gX10_markLent_X7_ownerOf rfl rfl rfl ⟨rfl, cdX7_ownerOf⟩ ⟨Nat.le_of_ble_eq_true rfl, Nat.le_of_ble_eq_true rfl⟩) (cPreV (hP.sub [2, 3, 4, 5, 6, 7, 8] rfl) hK (hD.sub [2, 3, 4, 5, 6, 7, 8] (by decide +kernel) rfl) hN (ci := 7) (q0 := 0) rfl rfl) rfl rfl hl.1 rfl (lv_room (Nat.le_of_ble_eq_true rfl)) dX10_markLent_28 ⟨Nat.le_of_ble_eq_true rfl, Nat.le_of_ble_eq_true rfl⟩) hP hD hS hA [2, 3, 4, 5, 6, 7, 8] rfl (fun _ => rfl) (fun r9 u7 H locs hw8 => ?_)
  clear hP hS
  intro hP hS
  replace hw8 : r9 = owV pk pf po pd pe pr k td td (fo k.toNatClampNeg) pn.toNatClampNeg := hw8
  subst hw8
  have hP9 := hP.sub (ws' := [(oC10 ad tn_4 td lf), (aI cI (ad 11) 16 tr_5), (oC1 ad cn), (aI cI (ad 31) 12 fo), (oC7 ad pn), (aI cI (ad 36) 40 pk), (aI cI (ad 37) 40 pf), (aI cI (ad 38) 40 po), (aI cI (ad 39) 40 pd), (aI cI (ad 40) 40 pe), (aI cI (ad 41) 40 pr)]) [9, 10, 0, 1, 2, 3, 4, 5, 6, 7, 8] rfl
  have hD9 := hD.sub (ws' := [(oC10 ad tn_4 td lf), (aI cI (ad 11) 16 tr_5), (oC1 ad cn), (aI cI (ad 31) 12 fo), (oC7 ad pn), (aI cI (ad 36) 40 pk), (aI cI (ad 37) 40 pf), (aI cI (ad 38) 40 po), (aI cI (ad 39) 40 pd), (aI cI (ad 40) 40 pe), (aI cI (ad 41) 40 pr)]) [9, 10, 0, 1, 2, 3, 4, 5, 6, 7, 8] (by decide +kernel) rfl
  exact W.iret (v := owV pk pf po pd pe pr k td td (fo k.toNatClampNeg) pn.toNatClampNeg) hx hb hr (fun t ht hW => ⟨⟨owV pk pf po pd pe pr k td td (fo k.toNatClampNeg) pn.toNatClampNeg, (tn_4, tr_5), rfl, (by show (owV pk pf po pd pe pr k td td (fo k.toNatClampNeg) pn.toNatClampNeg) = (owV pk pf po pd pe pr k td td (fo k.toNatClampNeg) pn.toNatClampNeg) ∧ (tn_4, tr_5) = (lvT (tn, tr) 20) ∧ 0 ≤ tn_4.toInt ∧ tn_4.toInt ≤ 16; exact ⟨rfl, (by rw [hw2]), by omega, by omega⟩), by rw [ht]; exact hP9, va_K.moved hW.alike hK, hD9⟩, hS.F ht⟩) hS.2.2 dX10_markLent_31

set_option maxHeartbeats 4000000 in
set_option maxRecDepth 100000 in
theorem ct_X10_markOfOwed (l : Launch) (D : va_G) (cI cY cJ cQ : ClassId) (sz : Nat) (ad : Nat → Nat) (tn td lf cn pn : Int32) (tr fo pk pf po pd pe pr : Nat → Int32) (k : Int32)  (h1 : cn.toInt ≤ 12) (h2 : 0 ≤ k.toInt) (h3 : k.toInt < cn.toInt) (h4 : 0 ≤ tn.toInt) (h5 : tn.toInt ≤ 16) (h6 : 0 ≤ pn.toInt) (h7 : pn.toInt ≤ 40) (h8 : okO pn pr)  : Met l yX10_markOfOwed wsX10_markOfOwed ({ frames := 3, cells := 0, slots := 0, locals := 71 }) (cPre D (ty4 cI cY cJ cQ) [(oC10 ad tn td lf), (aI cI (ad 11) 16 tr), (oC1 ad cn), (aI cI (ad 31) 12 fo), (oC7 ad pn), (aI cI (ad 36) 40 pk), (aI cI (ad 37) 40 pf), (aI cI (ad 38) 40 po), (aI cI (ad 39) 40 pd), (aI cI (ad 40) 40 pe), (aI cI (ad 41) 40 pr)] sz [.ref (ad 0), .int k]) (va_Qi (fun (r : Int32) (u : Int32 × (Nat → Int32)) => r = ((owV pk pf po pd pe pr k td td (fo k.toNatClampNeg) pn.toNatClampNeg) + 100) ∧ u = (lvT (lvT (tn, tr) 21) 20) ∧ 0 ≤ u.1.toInt ∧ u.1.toInt ≤ 16) (cB D (ty4 cI cY cJ cQ) (fun (u : Int32 × (Nat → Int32)) => [(oC10 ad u.1 td lf), (aI cI (ad 11) 16 u.2), (oC1 ad cn), (aI cI (ad 31) 12 fo), (oC7 ad pn), (aI cI (ad 36) 40 pk), (aI cI (ad 37) 40 pf), (aI cI (ad 38) 40 po), (aI cI (ad 39) 40 pd), (aI cI (ad 40) 40 pe), (aI cI (ad 41) 40 pr)]) (va_A [(oC10 ad tn td lf), (aI cI (ad 11) 16 tr), (oC1 ad cn), (aI cI (ad 31) 12 fo), (oC7 ad pn), (aI cI (ad 36) 40 pk), (aI cI (ad 37) 40 pf), (aI cI (ad 38) 40 po), (aI cI (ad 39) 40 pd), (aI cI (ad 40) 40 pe), (aI cI (ad 41) 40 pr)] sz)) (va_A [(oC10 ad tn td lf), (aI cI (ad 11) 16 tr), (oC1 ad cn), (aI cI (ad 31) 12 fo), (oC7 ad pn), (aI cI (ad 36) 40 pk), (aI cI (ad 37) 40 pf), (aI cI (ad 38) 40 po), (aI cI (ad 39) 40 pd), (aI cI (ad 40) 40 pe), (aI cI (ad 41) 40 pr)] sz)) 0 0 (va_A [(oC10 ad tn td lf), (aI cI (ad 11) 16 tr), (oC1 ad cn), (aI cI (ad 31) 12 fo), (oC7 ad pn), (aI cI (ad 36) 40 pk), (aI cI (ad 37) 40 pf), (aI cI (ad 38) 40 po), (aI cI (ad 39) 40 pd), (aI cI (ad 40) 40 pe), (aI cI (ad 41) 40 pr)] sz) := by
  refine Met.ofW (cc := cX10_markOfOwed) (maxL := 2) (ret := (some .int)) (by decide) rfl ?_
  intro p e s m args below meth c s₁ B hml hv
  obtain ⟨rfl, hsz, hP, hK, hD0, hN⟩ := hv
  have hx := B.exec
  have hb := B.bytes
  have hr := B.returns
  have hts := atoms_spec (ws := wsX10_markOfOwed) B.pre
  have hown : s.vm.findClass RX10 = some m.cls := findClass_of_methodNamed B.named
  have hlocks := B.notSynchronized
  subst hsz
  have hD := hD0.self (sz := s.heap.size)
  generalize hAe : va_A [(oC10 ad tn td lf), (aI cI (ad 11) 16 tr), (oC1 ad cn), (aI cI (ad 31) 12 fo), (oC7 ad pn), (aI cI (ad 36) 40 pk), (aI cI (ad 37) 40 pf), (aI cI (ad 38) 40 po), (aI cI (ad 39) 40 pd), (aI cI (ad 40) 40 pe), (aI cI (ad 41) 40 pr)] s.heap.size = A at hD ⊢
  have hA : ∀ q : Nat, s.heap.size ≤ q → A q := fun q h => by rw [← hAe]; exact Or.inr h
  have hS : va_S A s.heap s.heap [] := va_S.rf
  have hP : va_P D vwCl [(oC10 ad tn td lf), (aI cI (ad 11) 16 tr), (oC1 ad cn), (aI cI (ad 31) 12 fo), (oC7 ad pn), (aI cI (ad 36) 40 pk), (aI cI (ad 37) 40 pf), (aI cI (ad 38) 40 po), (aI cI (ad 39) 40 pd), (aI cI (ad 40) 40 pe), (aI cI (ad 41) 40 pr)] s.heap := hP
  have hl := lv_entry ([.ref (ad 0), .int k]) (n := 2) (Nat.le_of_ble_eq_true rfl)
  rw [lg_entry_eq]
  generalize (lg_sl ([.ref (ad 0), .int k]) ++ List.replicate (2 - (lg_sl ([.ref (ad 0), .int k])).length) Slot.unset).toArray = ls at hl ⊢
  have hl : lv_has ls 2 [(0, .ref (ad 0)), (1, .int k)] := hl
  have k21 : (21 : Int32).toInt = 21 := by decide
  have k100 : (100 : Int32).toInt = 100 := by decide
  refine lv_aload_n hx hb dX10_markOfOwed_0 rfl (lv_at hl 0 rfl) ?_
  refine lv_bipush (v := 21) hx hb dX10_markOfOwed_1 (by decide) ?_
  refine st_v (wr := [(oC1 ad cn), (aI cI (ad 31) 12 fo), (oC7 ad pn), (aI cI (ad 36) 40 pk), (aI cI (ad 37) 40 pf), (aI cI (ad 38) 40 po), (aI cI (ad 39) 40 pd), (aI cI (ad 40) 40 pe), (aI cI (ad 41) 40 pr)]) (va_runV (C := RX10) (As := [.int 21]) (rest := []) ⟨hx, hb, hml, hown, hts⟩ (ct_X10_leave l D cI cY cJ cQ _ ad tn td lf tr (21 : Int32) h4 h5) (cwV 1 hts gX10_markOfOwed_X10_leave rfl rfl rfl ⟨rfl, cdX10_leave⟩ ⟨Nat.le_of_ble_eq_true rfl, Nat.le_of_ble_eq_true rfl⟩) (cPreV (hP.sub [0, 1] rfl) hK (hD.sub [0, 1] (by decide +kernel) rfl) hN (ci := 10) (q0 := 0) rfl rfl) rfl rfl hl.1 rfl (lv_room (Nat.le_of_ble_eq_true rfl)) dX10_markOfOwed_3 ⟨Nat.le_of_ble_eq_true rfl, Nat.le_of_ble_eq_true rfl⟩) hP hD hS hA [0, 1] [2, 3, 4, 5, 6, 7, 8, 9, 10] rfl rfl (by decide +kernel) (by decide +kernel) (fun u1 H locs hw2 => ?_)
  clear hP hD hS
  intro hP hD hS
  obtain ⟨tn_4, tr_5⟩ := u1
  replace hw2 : (tn_4, tr_5) = lvT (tn, tr) (21 : Int32) ∧ 0 ≤ tn_4.toInt ∧ tn_4.toInt ≤ 16 := hw2
  replace hP : va_P D vwCl [(oC1 ad cn), (aI cI (ad 31) 12 fo), (oC7 ad pn), (aI cI (ad 36) 40 pk), (aI cI (ad 37) 40 pf), (aI cI (ad 38) 40 po), (aI cI (ad 39) 40 pd), (aI cI (ad 40) 40 pe), (aI cI (ad 41) 40 pr), (oC10 ad tn_4 td lf), (aI cI (ad 11) 16 tr_5)] H := hP
  replace hD : va_D A [(oC1 ad cn), (aI cI (ad 31) 12 fo), (oC7 ad pn), (aI cI (ad 36) 40 pk), (aI cI (ad 37) 40 pf), (aI cI (ad 38) 40 po), (aI cI (ad 39) 40 pd), (aI cI (ad 40) 40 pe), (aI cI (ad 41) 40 pr), (oC10 ad tn_4 td lf), (aI cI (ad 11) 16 tr_5)] := hD
  obtain ⟨hw2, hw2a, hw2b⟩ := hw2
  refine lv_aload_n hx hb dX10_markOfOwed_6 rfl (lv_at hl 0 rfl) ?_
  refine lv_iload_n hx hb dX10_markOfOwed_7 rfl (lv_at hl 1 rfl) ?_
  refine st_i (wr := []) (va_runV (C := RX10) (As := [.int k]) (rest := []) ⟨hx, hb, hml, hown, hts⟩ (ct_X10_markLent l D cI cY cJ cQ _ ad tn_4 td lf cn pn tr_5 fo pk pf po pd pe pr k h1 h2 h3 (by omega) (by omega) h6 h7 h8) (cwV 1 hts gX10_markOfOwed_X10_markLent rfl rfl rfl ⟨rfl, cdX10_markLent⟩ ⟨Nat.le_of_ble_eq_true rfl, Nat.le_of_ble_eq_true rfl⟩) (cPreV (hP.sub [9, 10, 0, 1, 2, 3, 4, 5, 6, 7, 8] rfl) hK (hD.sub [9, 10, 0, 1, 2, 3, 4, 5, 6, 7, 8] (by decide +kernel) rfl) hN (ci := 10) (q0 := 0) rfl rfl) rfl rfl hl.1 rfl (lv_room (Nat.le_of_ble_eq_true rfl)) dX10_markOfOwed_8 ⟨Nat.le_of_ble_eq_true rfl, Nat.le_of_ble_eq_true rfl⟩) hP hD hS hA [9, 10, 0, 1, 2, 3, 4, 5, 6, 7, 8] [] rfl rfl (by decide +kernel) (by decide +kernel) (fun r8 u6 H locs hw7 => ?_)
  clear hP hD hS
  intro hP hD hS
  obtain ⟨tn_9, tr_10⟩ := u6
  replace hw7 : r8 = (owV pk pf po pd pe pr k td td (fo k.toNatClampNeg) pn.toNatClampNeg) ∧ (tn_9, tr_10) = (lvT (tn_4, tr_5) 20) ∧ 0 ≤ tn_9.toInt ∧ tn_9.toInt ≤ 16 := hw7
  replace hP : va_P D vwCl [(oC10 ad tn_9 td lf), (aI cI (ad 11) 16 tr_10), (oC1 ad cn), (aI cI (ad 31) 12 fo), (oC7 ad pn), (aI cI (ad 36) 40 pk), (aI cI (ad 37) 40 pf), (aI cI (ad 38) 40 po), (aI cI (ad 39) 40 pd), (aI cI (ad 40) 40 pe), (aI cI (ad 41) 40 pr)] H := hP
  replace hD : va_D A [(oC10 ad tn_9 td lf), (aI cI (ad 11) 16 tr_10), (oC1 ad cn), (aI cI (ad 31) 12 fo), (oC7 ad pn), (aI cI (ad 36) 40 pk), (aI cI (ad 37) 40 pf), (aI cI (ad 38) 40 po), (aI cI (ad 39) 40 pd), (aI cI (ad 40) 40 pe), (aI cI (ad 41) 40 pr)] := hD
  obtain ⟨hw7r, hw7, hw7a, hw7b⟩ := hw7
  subst hw7r
  refine lv_bipush (v := 100) hx hb dX10_markOfOwed_11 (by decide) ?_
  refine lv_iadd hx hb dX10_markOfOwed_13 ?_
  refine lv_topi (fun v11 ev11 => ?_)
  have hP9 := hP
  have hD9 := hD
  exact W.iret (v := v11) hx hb hr (fun t ht hW => ⟨⟨v11, (tn_9, tr_10), rfl, (by show v11 = ((owV pk pf po pd pe pr k td td (fo k.toNatClampNeg) pn.toNatClampNeg) + 100) ∧ (tn_9, tr_10) = (lvT (lvT (tn, tr) 21) 20) ∧ 0 ≤ tn_9.toInt ∧ tn_9.toInt ≤ 16; exact ⟨ev11, (by rw [hw7, hw2]), by omega, by omega⟩), by rw [ht]; exact hP9, va_K.moved hW.alike hK, hD9⟩, hS.F ht⟩) hS.2.2 dX10_markOfOwed_14

set_option maxHeartbeats 4000000 in
set_option maxRecDepth 100000 in
theorem ct_X10_markOfStopped (l : Launch) (D : va_G) (cI cY cJ cQ : ClassId) (sz : Nat) (ad : Nat → Nat) (tn td lf cn pn : Int32) (tr fo pk pf po pd pe pr : Nat → Int32) (k : Int32)  (h1 : cn.toInt ≤ 12) (h2 : 0 ≤ k.toInt) (h3 : k.toInt < cn.toInt) (h4 : 0 ≤ tn.toInt) (h5 : tn.toInt ≤ 16) (h6 : 0 ≤ pn.toInt) (h7 : pn.toInt ≤ 40) (h8 : okO pn pr)  : Met l yX10_markOfStopped wsX10_markOfStopped ({ frames := 3, cells := 0, slots := 0, locals := 71 }) (cPre D (ty4 cI cY cJ cQ) [(oC10 ad tn td lf), (aI cI (ad 11) 16 tr), (oC1 ad cn), (aI cI (ad 31) 12 fo), (oC7 ad pn), (aI cI (ad 36) 40 pk), (aI cI (ad 37) 40 pf), (aI cI (ad 38) 40 po), (aI cI (ad 39) 40 pd), (aI cI (ad 40) 40 pe), (aI cI (ad 41) 40 pr)] sz [.ref (ad 0), .int k]) (va_Qi (fun (r : Int32) (u : Int32 × (Nat → Int32)) => r = ((owV pk pf po pd pe pr k td td (fo k.toNatClampNeg) pn.toNatClampNeg) + 1000) ∧ u = (lvT (lvT (tn, tr) 22) 20) ∧ 0 ≤ u.1.toInt ∧ u.1.toInt ≤ 16) (cB D (ty4 cI cY cJ cQ) (fun (u : Int32 × (Nat → Int32)) => [(oC10 ad u.1 td lf), (aI cI (ad 11) 16 u.2), (oC1 ad cn), (aI cI (ad 31) 12 fo), (oC7 ad pn), (aI cI (ad 36) 40 pk), (aI cI (ad 37) 40 pf), (aI cI (ad 38) 40 po), (aI cI (ad 39) 40 pd), (aI cI (ad 40) 40 pe), (aI cI (ad 41) 40 pr)]) (va_A [(oC10 ad tn td lf), (aI cI (ad 11) 16 tr), (oC1 ad cn), (aI cI (ad 31) 12 fo), (oC7 ad pn), (aI cI (ad 36) 40 pk), (aI cI (ad 37) 40 pf), (aI cI (ad 38) 40 po), (aI cI (ad 39) 40 pd), (aI cI (ad 40) 40 pe), (aI cI (ad 41) 40 pr)] sz)) (va_A [(oC10 ad tn td lf), (aI cI (ad 11) 16 tr), (oC1 ad cn), (aI cI (ad 31) 12 fo), (oC7 ad pn), (aI cI (ad 36) 40 pk), (aI cI (ad 37) 40 pf), (aI cI (ad 38) 40 po), (aI cI (ad 39) 40 pd), (aI cI (ad 40) 40 pe), (aI cI (ad 41) 40 pr)] sz)) 0 0 (va_A [(oC10 ad tn td lf), (aI cI (ad 11) 16 tr), (oC1 ad cn), (aI cI (ad 31) 12 fo), (oC7 ad pn), (aI cI (ad 36) 40 pk), (aI cI (ad 37) 40 pf), (aI cI (ad 38) 40 po), (aI cI (ad 39) 40 pd), (aI cI (ad 40) 40 pe), (aI cI (ad 41) 40 pr)] sz) := by
  refine Met.ofW (cc := cX10_markOfStopped) (maxL := 2) (ret := (some .int)) (by decide) rfl ?_
  intro p e s m args below meth c s₁ B hml hv
  obtain ⟨rfl, hsz, hP, hK, hD0, hN⟩ := hv
  have hx := B.exec
  have hb := B.bytes
  have hr := B.returns
  have hts := atoms_spec (ws := wsX10_markOfStopped) B.pre
  have hown : s.vm.findClass RX10 = some m.cls := findClass_of_methodNamed B.named
  have hlocks := B.notSynchronized
  subst hsz
  have hD := hD0.self (sz := s.heap.size)
  generalize hAe : va_A [(oC10 ad tn td lf), (aI cI (ad 11) 16 tr), (oC1 ad cn), (aI cI (ad 31) 12 fo), (oC7 ad pn), (aI cI (ad 36) 40 pk), (aI cI (ad 37) 40 pf), (aI cI (ad 38) 40 po), (aI cI (ad 39) 40 pd), (aI cI (ad 40) 40 pe), (aI cI (ad 41) 40 pr)] s.heap.size = A at hD ⊢
  have hA : ∀ q : Nat, s.heap.size ≤ q → A q := fun q h => by rw [← hAe]; exact Or.inr h
  have hS : va_S A s.heap s.heap [] := va_S.rf
  have hP : va_P D vwCl [(oC10 ad tn td lf), (aI cI (ad 11) 16 tr), (oC1 ad cn), (aI cI (ad 31) 12 fo), (oC7 ad pn), (aI cI (ad 36) 40 pk), (aI cI (ad 37) 40 pf), (aI cI (ad 38) 40 po), (aI cI (ad 39) 40 pd), (aI cI (ad 40) 40 pe), (aI cI (ad 41) 40 pr)] s.heap := hP
  have hl := lv_entry ([.ref (ad 0), .int k]) (n := 2) (Nat.le_of_ble_eq_true rfl)
  rw [lg_entry_eq]
  generalize (lg_sl ([.ref (ad 0), .int k]) ++ List.replicate (2 - (lg_sl ([.ref (ad 0), .int k])).length) Slot.unset).toArray = ls at hl ⊢
  have hl : lv_has ls 2 [(0, .ref (ad 0)), (1, .int k)] := hl
  have k22 : (22 : Int32).toInt = 22 := by decide
  have k1000 : (1000 : Int32).toInt = 1000 := by decide
  refine lv_aload_n hx hb dX10_markOfStopped_0 rfl (lv_at hl 0 rfl) ?_
  refine lv_bipush (v := 22) hx hb dX10_markOfStopped_1 (by decide) ?_
  refine st_v (wr := [(oC1 ad cn), (aI cI (ad 31) 12 fo), (oC7 ad pn), (aI cI (ad 36) 40 pk), (aI cI (ad 37) 40 pf), (aI cI (ad 38) 40 po), (aI cI (ad 39) 40 pd), (aI cI (ad 40) 40 pe), (aI cI (ad 41) 40 pr)]) (va_runV (C := RX10) (As := [.int 22]) (rest := []) ⟨hx, hb, hml, hown, hts⟩ (ct_X10_leave l D cI cY cJ cQ _ ad tn td lf tr (22 : Int32) h4 h5) (cwV 1 hts gX10_markOfStopped_X10_leave rfl rfl rfl ⟨rfl, cdX10_leave⟩ ⟨Nat.le_of_ble_eq_true rfl, Nat.le_of_ble_eq_true rfl⟩) (cPreV (hP.sub [0, 1] rfl) hK (hD.sub [0, 1] (by decide +kernel) rfl) hN (ci := 10) (q0 := 0) rfl rfl) rfl rfl hl.1 rfl (lv_room (Nat.le_of_ble_eq_true rfl)) dX10_markOfStopped_3 ⟨Nat.le_of_ble_eq_true rfl, Nat.le_of_ble_eq_true rfl⟩) hP hD hS hA [0, 1] [2, 3, 4, 5, 6, 7, 8, 9, 10] rfl rfl (by decide +kernel) (by decide +kernel) (fun u1 H locs hw2 => ?_)
  clear hP hD hS
  intro hP hD hS
  obtain ⟨tn_4, tr_5⟩ := u1
  replace hw2 : (tn_4, tr_5) = lvT (tn, tr) (22 : Int32) ∧ 0 ≤ tn_4.toInt ∧ tn_4.toInt ≤ 16 := hw2
  replace hP : va_P D vwCl [(oC1 ad cn), (aI cI (ad 31) 12 fo), (oC7 ad pn), (aI cI (ad 36) 40 pk), (aI cI (ad 37) 40 pf), (aI cI (ad 38) 40 po), (aI cI (ad 39) 40 pd), (aI cI (ad 40) 40 pe), (aI cI (ad 41) 40 pr), (oC10 ad tn_4 td lf), (aI cI (ad 11) 16 tr_5)] H := hP
  replace hD : va_D A [(oC1 ad cn), (aI cI (ad 31) 12 fo), (oC7 ad pn), (aI cI (ad 36) 40 pk), (aI cI (ad 37) 40 pf), (aI cI (ad 38) 40 po), (aI cI (ad 39) 40 pd), (aI cI (ad 40) 40 pe), (aI cI (ad 41) 40 pr), (oC10 ad tn_4 td lf), (aI cI (ad 11) 16 tr_5)] := hD
  obtain ⟨hw2, hw2a, hw2b⟩ := hw2
  refine lv_aload_n hx hb dX10_markOfStopped_6 rfl (lv_at hl 0 rfl) ?_
  refine lv_iload_n hx hb dX10_markOfStopped_7 rfl (lv_at hl 1 rfl) ?_
  refine st_i (wr := []) (va_runV (C := RX10) (As := [.int k]) (rest := []) ⟨hx, hb, hml, hown, hts⟩ (ct_X10_markLent l D cI cY cJ cQ _ ad tn_4 td lf cn pn tr_5 fo pk pf po pd pe pr k h1 h2 h3 (by omega) (by omega) h6 h7 h8) (cwV 1 hts gX10_markOfStopped_X10_markLent rfl rfl rfl ⟨rfl, cdX10_markLent⟩ ⟨Nat.le_of_ble_eq_true rfl, Nat.le_of_ble_eq_true rfl⟩) (cPreV (hP.sub [9, 10, 0, 1, 2, 3, 4, 5, 6, 7, 8] rfl) hK (hD.sub [9, 10, 0, 1, 2, 3, 4, 5, 6, 7, 8] (by decide +kernel) rfl) hN (ci := 10) (q0 := 0) rfl rfl) rfl rfl hl.1 rfl (lv_room (Nat.le_of_ble_eq_true rfl)) dX10_markOfStopped_8 ⟨Nat.le_of_ble_eq_true rfl, Nat.le_of_ble_eq_true rfl⟩) hP hD hS hA [9, 10, 0, 1, 2, 3, 4, 5, 6, 7, 8] [] rfl rfl (by decide +kernel) (by decide +kernel) (fun r8 u6 H locs hw7 => ?_)
  clear hP hD hS
  intro hP hD hS
  obtain ⟨tn_9, tr_10⟩ := u6
  replace hw7 : r8 = (owV pk pf po pd pe pr k td td (fo k.toNatClampNeg) pn.toNatClampNeg) ∧ (tn_9, tr_10) = (lvT (tn_4, tr_5) 20) ∧ 0 ≤ tn_9.toInt ∧ tn_9.toInt ≤ 16 := hw7
  replace hP : va_P D vwCl [(oC10 ad tn_9 td lf), (aI cI (ad 11) 16 tr_10), (oC1 ad cn), (aI cI (ad 31) 12 fo), (oC7 ad pn), (aI cI (ad 36) 40 pk), (aI cI (ad 37) 40 pf), (aI cI (ad 38) 40 po), (aI cI (ad 39) 40 pd), (aI cI (ad 40) 40 pe), (aI cI (ad 41) 40 pr)] H := hP
  replace hD : va_D A [(oC10 ad tn_9 td lf), (aI cI (ad 11) 16 tr_10), (oC1 ad cn), (aI cI (ad 31) 12 fo), (oC7 ad pn), (aI cI (ad 36) 40 pk), (aI cI (ad 37) 40 pf), (aI cI (ad 38) 40 po), (aI cI (ad 39) 40 pd), (aI cI (ad 40) 40 pe), (aI cI (ad 41) 40 pr)] := hD
  obtain ⟨hw7r, hw7, hw7a, hw7b⟩ := hw7
  subst hw7r
  refine lv_sipush (v := 1000) hx hb dX10_markOfStopped_11 (by decide) ?_
  refine lv_iadd hx hb dX10_markOfStopped_14 ?_
  refine lv_topi (fun v11 ev11 => ?_)
  have hP9 := hP
  have hD9 := hD
  exact W.iret (v := v11) hx hb hr (fun t ht hW => ⟨⟨v11, (tn_9, tr_10), rfl, (by show v11 = ((owV pk pf po pd pe pr k td td (fo k.toNatClampNeg) pn.toNatClampNeg) + 1000) ∧ (tn_9, tr_10) = (lvT (lvT (tn, tr) 22) 20) ∧ 0 ≤ tn_9.toInt ∧ tn_9.toInt ≤ 16; exact ⟨ev11, (by rw [hw7, hw2]), by omega, by omega⟩), by rw [ht]; exact hP9, va_K.moved hW.alike hK, hD9⟩, hS.F ht⟩) hS.2.2 dX10_markOfStopped_15

set_option maxHeartbeats 4000000 in
set_option maxRecDepth 100000 in
theorem ct_X10_markOfClean (l : Launch) (D : va_G) (cI cY cJ cQ : ClassId) (sz : Nat) (ad : Nat → Nat) (tn td lf cn pn : Int32) (tr fo pk pf po pd pe pr wo : Nat → Int32) (k : Int32)  (h1 : cn.toInt ≤ 12) (h2 : 0 ≤ k.toInt) (h3 : k.toInt < cn.toInt) (h4 : 0 ≤ tn.toInt) (h5 : tn.toInt ≤ 16) (h6 : 0 ≤ pn.toInt) (h7 : pn.toInt ≤ 40) (h8 : okO pn pr)  : Met l yX10_markOfClean wsX10_markOfClean ({ frames := 3, cells := 0, slots := 0, locals := 71 }) (cPre D (ty4 cI cY cJ cQ) [(oC10 ad tn td lf), (aI cI (ad 11) 16 tr), (oC1 ad cn), (aI cI (ad 31) 12 fo), (oC7 ad pn), (aI cI (ad 36) 40 pk), (aI cI (ad 37) 40 pf), (aI cI (ad 38) 40 po), (aI cI (ad 39) 40 pd), (aI cI (ad 40) 40 pe), (aI cI (ad 41) 40 pr), (aI cI (ad 32) 12 wo)] sz [.ref (ad 0), .int k]) (va_Qi (fun (r : Int32) (u : Int32 × (Nat → Int32)) => r = ((owV pk pf po pd pe pr k td td (fo k.toNatClampNeg) pn.toNatClampNeg) + wo k.toNatClampNeg) ∧ u = (lvT (lvT (lvT (tn, tr) 23) 20) 10) ∧ 0 ≤ u.1.toInt ∧ u.1.toInt ≤ 16) (cB D (ty4 cI cY cJ cQ) (fun (u : Int32 × (Nat → Int32)) => [(oC10 ad u.1 td lf), (aI cI (ad 11) 16 u.2), (oC1 ad cn), (aI cI (ad 31) 12 fo), (oC7 ad pn), (aI cI (ad 36) 40 pk), (aI cI (ad 37) 40 pf), (aI cI (ad 38) 40 po), (aI cI (ad 39) 40 pd), (aI cI (ad 40) 40 pe), (aI cI (ad 41) 40 pr), (aI cI (ad 32) 12 wo)]) (va_A [(oC10 ad tn td lf), (aI cI (ad 11) 16 tr), (oC1 ad cn), (aI cI (ad 31) 12 fo), (oC7 ad pn), (aI cI (ad 36) 40 pk), (aI cI (ad 37) 40 pf), (aI cI (ad 38) 40 po), (aI cI (ad 39) 40 pd), (aI cI (ad 40) 40 pe), (aI cI (ad 41) 40 pr), (aI cI (ad 32) 12 wo)] sz)) (va_A [(oC10 ad tn td lf), (aI cI (ad 11) 16 tr), (oC1 ad cn), (aI cI (ad 31) 12 fo), (oC7 ad pn), (aI cI (ad 36) 40 pk), (aI cI (ad 37) 40 pf), (aI cI (ad 38) 40 po), (aI cI (ad 39) 40 pd), (aI cI (ad 40) 40 pe), (aI cI (ad 41) 40 pr), (aI cI (ad 32) 12 wo)] sz)) 0 0 (va_A [(oC10 ad tn td lf), (aI cI (ad 11) 16 tr), (oC1 ad cn), (aI cI (ad 31) 12 fo), (oC7 ad pn), (aI cI (ad 36) 40 pk), (aI cI (ad 37) 40 pf), (aI cI (ad 38) 40 po), (aI cI (ad 39) 40 pd), (aI cI (ad 40) 40 pe), (aI cI (ad 41) 40 pr), (aI cI (ad 32) 12 wo)] sz) := by
  refine Met.ofW (cc := cX10_markOfClean) (maxL := 2) (ret := (some .int)) (by decide) rfl ?_
  intro p e s m args below meth c s₁ B hml hv
  obtain ⟨rfl, hsz, hP, hK, hD0, hN⟩ := hv
  have hx := B.exec
  have hb := B.bytes
  have hr := B.returns
  have hts := atoms_spec (ws := wsX10_markOfClean) B.pre
  have hown : s.vm.findClass RX10 = some m.cls := findClass_of_methodNamed B.named
  have hlocks := B.notSynchronized
  subst hsz
  have hD := hD0.self (sz := s.heap.size)
  generalize hAe : va_A [(oC10 ad tn td lf), (aI cI (ad 11) 16 tr), (oC1 ad cn), (aI cI (ad 31) 12 fo), (oC7 ad pn), (aI cI (ad 36) 40 pk), (aI cI (ad 37) 40 pf), (aI cI (ad 38) 40 po), (aI cI (ad 39) 40 pd), (aI cI (ad 40) 40 pe), (aI cI (ad 41) 40 pr), (aI cI (ad 32) 12 wo)] s.heap.size = A at hD ⊢
  have hA : ∀ q : Nat, s.heap.size ≤ q → A q := fun q h => by rw [← hAe]; exact Or.inr h
  have hS : va_S A s.heap s.heap [] := va_S.rf
  have hP : va_P D vwCl [(oC10 ad tn td lf), (aI cI (ad 11) 16 tr), (oC1 ad cn), (aI cI (ad 31) 12 fo), (oC7 ad pn), (aI cI (ad 36) 40 pk), (aI cI (ad 37) 40 pf), (aI cI (ad 38) 40 po), (aI cI (ad 39) 40 pd), (aI cI (ad 40) 40 pe), (aI cI (ad 41) 40 pr), (aI cI (ad 32) 12 wo)] s.heap := hP
  have hl := lv_entry ([.ref (ad 0), .int k]) (n := 2) (Nat.le_of_ble_eq_true rfl)
  rw [lg_entry_eq]
  generalize (lg_sl ([.ref (ad 0), .int k]) ++ List.replicate (2 - (lg_sl ([.ref (ad 0), .int k])).length) Slot.unset).toArray = ls at hl ⊢
  have hl : lv_has ls 2 [(0, .ref (ad 0)), (1, .int k)] := hl
  have k23 : (23 : Int32).toInt = 23 := by decide
  refine lv_aload_n hx hb dX10_markOfClean_0 rfl (lv_at hl 0 rfl) ?_
  refine lv_bipush (v := 23) hx hb dX10_markOfClean_1 (by decide) ?_
  refine st_v (wr := [(oC1 ad cn), (aI cI (ad 31) 12 fo), (oC7 ad pn), (aI cI (ad 36) 40 pk), (aI cI (ad 37) 40 pf), (aI cI (ad 38) 40 po), (aI cI (ad 39) 40 pd), (aI cI (ad 40) 40 pe), (aI cI (ad 41) 40 pr), (aI cI (ad 32) 12 wo)]) (va_runV (C := RX10) (As := [.int 23]) (rest := []) ⟨hx, hb, hml, hown, hts⟩ (ct_X10_leave l D cI cY cJ cQ _ ad tn td lf tr (23 : Int32) h4 h5) (cwV 1 hts gX10_markOfClean_X10_leave rfl rfl rfl ⟨rfl, cdX10_leave⟩ ⟨Nat.le_of_ble_eq_true rfl, Nat.le_of_ble_eq_true rfl⟩) (cPreV (hP.sub [0, 1] rfl) hK (hD.sub [0, 1] (by decide +kernel) rfl) hN (ci := 10) (q0 := 0) rfl rfl) rfl rfl hl.1 rfl (lv_room (Nat.le_of_ble_eq_true rfl)) dX10_markOfClean_3 ⟨Nat.le_of_ble_eq_true rfl, Nat.le_of_ble_eq_true rfl⟩) hP hD hS hA [0, 1] [2, 3, 4, 5, 6, 7, 8, 9, 10, 11] rfl rfl (by decide +kernel) (by decide +kernel) (fun u1 H locs hw2 => ?_)
  clear hP hD hS
  intro hP hD hS
  obtain ⟨tn_4, tr_5⟩ := u1
  replace hw2 : (tn_4, tr_5) = lvT (tn, tr) (23 : Int32) ∧ 0 ≤ tn_4.toInt ∧ tn_4.toInt ≤ 16 := hw2
  replace hP : va_P D vwCl [(oC1 ad cn), (aI cI (ad 31) 12 fo), (oC7 ad pn), (aI cI (ad 36) 40 pk), (aI cI (ad 37) 40 pf), (aI cI (ad 38) 40 po), (aI cI (ad 39) 40 pd), (aI cI (ad 40) 40 pe), (aI cI (ad 41) 40 pr), (aI cI (ad 32) 12 wo), (oC10 ad tn_4 td lf), (aI cI (ad 11) 16 tr_5)] H := hP
  replace hD : va_D A [(oC1 ad cn), (aI cI (ad 31) 12 fo), (oC7 ad pn), (aI cI (ad 36) 40 pk), (aI cI (ad 37) 40 pf), (aI cI (ad 38) 40 po), (aI cI (ad 39) 40 pd), (aI cI (ad 40) 40 pe), (aI cI (ad 41) 40 pr), (aI cI (ad 32) 12 wo), (oC10 ad tn_4 td lf), (aI cI (ad 11) 16 tr_5)] := hD
  obtain ⟨hw2, hw2a, hw2b⟩ := hw2
  refine lv_aload_n hx hb dX10_markOfClean_6 rfl (lv_at hl 0 rfl) ?_
  refine lv_iload_n hx hb dX10_markOfClean_7 rfl (lv_at hl 1 rfl) ?_
  refine st_i (wr := [(aI cI (ad 32) 12 wo)]) (va_runV (C := RX10) (As := [.int k]) (rest := []) ⟨hx, hb, hml, hown, hts⟩ (ct_X10_markLent l D cI cY cJ cQ _ ad tn_4 td lf cn pn tr_5 fo pk pf po pd pe pr k h1 h2 h3 (by omega) (by omega) h6 h7 h8) (cwV 1 hts gX10_markOfClean_X10_markLent rfl rfl rfl ⟨rfl, cdX10_markLent⟩ ⟨Nat.le_of_ble_eq_true rfl, Nat.le_of_ble_eq_true rfl⟩) (cPreV (hP.sub [10, 11, 0, 1, 2, 3, 4, 5, 6, 7, 8] rfl) hK (hD.sub [10, 11, 0, 1, 2, 3, 4, 5, 6, 7, 8] (by decide +kernel) rfl) hN (ci := 10) (q0 := 0) rfl rfl) rfl rfl hl.1 rfl (lv_room (Nat.le_of_ble_eq_true rfl)) dX10_markOfClean_8 ⟨Nat.le_of_ble_eq_true rfl, Nat.le_of_ble_eq_true rfl⟩) hP hD hS hA [10, 11, 0, 1, 2, 3, 4, 5, 6, 7, 8] [9] rfl rfl (by decide +kernel) (by decide +kernel) (fun r8 u6 H locs hw7 => ?_)
  clear hP hD hS
  intro hP hD hS
  obtain ⟨tn_9, tr_10⟩ := u6
  replace hw7 : r8 = (owV pk pf po pd pe pr k td td (fo k.toNatClampNeg) pn.toNatClampNeg) ∧ (tn_9, tr_10) = (lvT (tn_4, tr_5) 20) ∧ 0 ≤ tn_9.toInt ∧ tn_9.toInt ≤ 16 := hw7
  replace hP : va_P D vwCl [(aI cI (ad 32) 12 wo), (oC10 ad tn_9 td lf), (aI cI (ad 11) 16 tr_10), (oC1 ad cn), (aI cI (ad 31) 12 fo), (oC7 ad pn), (aI cI (ad 36) 40 pk), (aI cI (ad 37) 40 pf), (aI cI (ad 38) 40 po), (aI cI (ad 39) 40 pd), (aI cI (ad 40) 40 pe), (aI cI (ad 41) 40 pr)] H := hP
  replace hD : va_D A [(aI cI (ad 32) 12 wo), (oC10 ad tn_9 td lf), (aI cI (ad 11) 16 tr_10), (oC1 ad cn), (aI cI (ad 31) 12 fo), (oC7 ad pn), (aI cI (ad 36) 40 pk), (aI cI (ad 37) 40 pf), (aI cI (ad 38) 40 po), (aI cI (ad 39) 40 pd), (aI cI (ad 40) 40 pe), (aI cI (ad 41) 40 pr)] := hD
  obtain ⟨hw7r, hw7, hw7a, hw7b⟩ := hw7
  subst hw7r
  refine lv_aload_n hx hb dX10_markOfClean_11 rfl (lv_at hl 0 rfl) ?_
  refine lv_iload_n hx hb dX10_markOfClean_12 rfl (lv_at hl 1 rfl) ?_
  refine st_i (wr := [(aI cI (ad 31) 12 fo), (oC7 ad pn), (aI cI (ad 36) 40 pk), (aI cI (ad 37) 40 pf), (aI cI (ad 38) 40 po), (aI cI (ad 39) 40 pd), (aI cI (ad 40) 40 pe), (aI cI (ad 41) 40 pr)]) (va_runV (C := RX10) (As := [.int k]) (rest := [.int (owV pk pf po pd pe pr k td td (fo k.toNatClampNeg) pn.toNatClampNeg)]) ⟨hx, hb, hml, hown, hts⟩ (ct_X10_sizeLent l D cI cY cJ cQ _ ad tn_9 td lf cn tr_10 wo k h1 h2 h3 (by omega) (by omega)) (cwV 1 hts gX10_markOfClean_X10_sizeLent rfl rfl rfl ⟨rfl, cdX10_sizeLent⟩ ⟨Nat.le_of_ble_eq_true rfl, Nat.le_of_ble_eq_true rfl⟩) (cPreV (hP.sub [1, 2, 3, 0] rfl) hK (hD.sub [1, 2, 3, 0] (by decide +kernel) rfl) hN (ci := 10) (q0 := 0) rfl rfl) rfl rfl hl.1 rfl (lv_room (Nat.le_of_ble_eq_true rfl)) dX10_markOfClean_13 ⟨Nat.le_of_ble_eq_true rfl, Nat.le_of_ble_eq_true rfl⟩) hP hD hS hA [1, 2, 3, 0] [4, 5, 6, 7, 8, 9, 10, 11] rfl rfl (by decide +kernel) (by decide +kernel) (fun r13 u11 H locs hw12 => ?_)
  clear hP hD hS
  intro hP hD hS
  obtain ⟨tn_14, tr_15⟩ := u11
  replace hw12 : r13 = wo k.toNatClampNeg ∧ (tn_14, tr_15) = (lvT (tn_9, tr_10) 10) ∧ 0 ≤ tn_14.toInt ∧ tn_14.toInt ≤ 16 := hw12
  replace hP : va_P D vwCl [(aI cI (ad 31) 12 fo), (oC7 ad pn), (aI cI (ad 36) 40 pk), (aI cI (ad 37) 40 pf), (aI cI (ad 38) 40 po), (aI cI (ad 39) 40 pd), (aI cI (ad 40) 40 pe), (aI cI (ad 41) 40 pr), (oC10 ad tn_14 td lf), (aI cI (ad 11) 16 tr_15), (oC1 ad cn), (aI cI (ad 32) 12 wo)] H := hP
  replace hD : va_D A [(aI cI (ad 31) 12 fo), (oC7 ad pn), (aI cI (ad 36) 40 pk), (aI cI (ad 37) 40 pf), (aI cI (ad 38) 40 po), (aI cI (ad 39) 40 pd), (aI cI (ad 40) 40 pe), (aI cI (ad 41) 40 pr), (oC10 ad tn_14 td lf), (aI cI (ad 11) 16 tr_15), (oC1 ad cn), (aI cI (ad 32) 12 wo)] := hD
  obtain ⟨hw12r, hw12, hw12a, hw12b⟩ := hw12
  subst hw12r
  refine lv_iadd hx hb dX10_markOfClean_16 ?_
  refine lv_topi (fun v16 ev16 => ?_)
  have hP9 := hP.sub (ws' := [(oC10 ad tn_14 td lf), (aI cI (ad 11) 16 tr_15), (oC1 ad cn), (aI cI (ad 31) 12 fo), (oC7 ad pn), (aI cI (ad 36) 40 pk), (aI cI (ad 37) 40 pf), (aI cI (ad 38) 40 po), (aI cI (ad 39) 40 pd), (aI cI (ad 40) 40 pe), (aI cI (ad 41) 40 pr), (aI cI (ad 32) 12 wo)]) [8, 9, 10, 0, 1, 2, 3, 4, 5, 6, 7, 11] rfl
  have hD9 := hD.sub (ws' := [(oC10 ad tn_14 td lf), (aI cI (ad 11) 16 tr_15), (oC1 ad cn), (aI cI (ad 31) 12 fo), (oC7 ad pn), (aI cI (ad 36) 40 pk), (aI cI (ad 37) 40 pf), (aI cI (ad 38) 40 po), (aI cI (ad 39) 40 pd), (aI cI (ad 40) 40 pe), (aI cI (ad 41) 40 pr), (aI cI (ad 32) 12 wo)]) [8, 9, 10, 0, 1, 2, 3, 4, 5, 6, 7, 11] (by decide +kernel) rfl
  exact W.iret (v := v16) hx hb hr (fun t ht hW => ⟨⟨v16, (tn_14, tr_15), rfl, (by show v16 = ((owV pk pf po pd pe pr k td td (fo k.toNatClampNeg) pn.toNatClampNeg) + wo k.toNatClampNeg) ∧ (tn_14, tr_15) = (lvT (lvT (lvT (tn, tr) 23) 20) 10) ∧ 0 ≤ tn_14.toInt ∧ tn_14.toInt ≤ 16; exact ⟨ev16, (by rw [hw12, hw7, hw2]), by omega, by omega⟩), by rw [ht]; exact hP9, va_K.moved hW.alike hK, hD9⟩, hS.F ht⟩) hS.2.2 dX10_markOfClean_17

set_option maxHeartbeats 4000000 in
set_option maxRecDepth 100000 in
theorem ct_X10_sizeOfStopped (l : Launch) (D : va_G) (cI cY cJ cQ : ClassId) (sz : Nat) (ad : Nat → Nat) (tn td lf cn pn : Int32) (tr fo pk pf po pd pe pr : Nat → Int32) (k : Int32)  (h1 : cn.toInt ≤ 12) (h2 : 0 ≤ k.toInt) (h3 : k.toInt < cn.toInt) (h4 : 0 ≤ tn.toInt) (h5 : tn.toInt ≤ 16) (h6 : 0 ≤ pn.toInt) (h7 : pn.toInt ≤ 40) (h8 : okO pn pr)  : Met l yX10_sizeOfStopped wsX10_sizeOfStopped ({ frames := 4, cells := 0, slots := 0, locals := 92 }) (cPre D (ty4 cI cY cJ cQ) [(oC10 ad tn td lf), (aI cI (ad 11) 16 tr), (oC1 ad cn), (aI cI (ad 31) 12 fo), (oC7 ad pn), (aI cI (ad 36) 40 pk), (aI cI (ad 37) 40 pf), (aI cI (ad 38) 40 po), (aI cI (ad 39) 40 pd), (aI cI (ad 40) 40 pe), (aI cI (ad 41) 40 pr)] sz [.ref (ad 0), .int k]) (va_Qi (fun (r : Int32) (u : Int32 × (Nat → Int32)) => r = (-((owV pk pf po pd pe pr k td td (fo k.toNatClampNeg) pn.toNatClampNeg) + 1000)) ∧ u = (lvT (lvT (lvT (tn, tr) 13) 22) 20) ∧ 0 ≤ u.1.toInt ∧ u.1.toInt ≤ 16) (cB D (ty4 cI cY cJ cQ) (fun (u : Int32 × (Nat → Int32)) => [(oC10 ad u.1 td lf), (aI cI (ad 11) 16 u.2), (oC1 ad cn), (aI cI (ad 31) 12 fo), (oC7 ad pn), (aI cI (ad 36) 40 pk), (aI cI (ad 37) 40 pf), (aI cI (ad 38) 40 po), (aI cI (ad 39) 40 pd), (aI cI (ad 40) 40 pe), (aI cI (ad 41) 40 pr)]) (va_A [(oC10 ad tn td lf), (aI cI (ad 11) 16 tr), (oC1 ad cn), (aI cI (ad 31) 12 fo), (oC7 ad pn), (aI cI (ad 36) 40 pk), (aI cI (ad 37) 40 pf), (aI cI (ad 38) 40 po), (aI cI (ad 39) 40 pd), (aI cI (ad 40) 40 pe), (aI cI (ad 41) 40 pr)] sz)) (va_A [(oC10 ad tn td lf), (aI cI (ad 11) 16 tr), (oC1 ad cn), (aI cI (ad 31) 12 fo), (oC7 ad pn), (aI cI (ad 36) 40 pk), (aI cI (ad 37) 40 pf), (aI cI (ad 38) 40 po), (aI cI (ad 39) 40 pd), (aI cI (ad 40) 40 pe), (aI cI (ad 41) 40 pr)] sz)) 0 0 (va_A [(oC10 ad tn td lf), (aI cI (ad 11) 16 tr), (oC1 ad cn), (aI cI (ad 31) 12 fo), (oC7 ad pn), (aI cI (ad 36) 40 pk), (aI cI (ad 37) 40 pf), (aI cI (ad 38) 40 po), (aI cI (ad 39) 40 pd), (aI cI (ad 40) 40 pe), (aI cI (ad 41) 40 pr)] sz) := by
  refine Met.ofW (cc := cX10_sizeOfStopped) (maxL := 2) (ret := (some .int)) (by decide) rfl ?_
  intro p e s m args below meth c s₁ B hml hv
  obtain ⟨rfl, hsz, hP, hK, hD0, hN⟩ := hv
  have hx := B.exec
  have hb := B.bytes
  have hr := B.returns
  have hts := atoms_spec (ws := wsX10_sizeOfStopped) B.pre
  have hown : s.vm.findClass RX10 = some m.cls := findClass_of_methodNamed B.named
  have hlocks := B.notSynchronized
  subst hsz
  have hD := hD0.self (sz := s.heap.size)
  generalize hAe : va_A [(oC10 ad tn td lf), (aI cI (ad 11) 16 tr), (oC1 ad cn), (aI cI (ad 31) 12 fo), (oC7 ad pn), (aI cI (ad 36) 40 pk), (aI cI (ad 37) 40 pf), (aI cI (ad 38) 40 po), (aI cI (ad 39) 40 pd), (aI cI (ad 40) 40 pe), (aI cI (ad 41) 40 pr)] s.heap.size = A at hD ⊢
  have hA : ∀ q : Nat, s.heap.size ≤ q → A q := fun q h => by rw [← hAe]; exact Or.inr h
  have hS : va_S A s.heap s.heap [] := va_S.rf
  have hP : va_P D vwCl [(oC10 ad tn td lf), (aI cI (ad 11) 16 tr), (oC1 ad cn), (aI cI (ad 31) 12 fo), (oC7 ad pn), (aI cI (ad 36) 40 pk), (aI cI (ad 37) 40 pf), (aI cI (ad 38) 40 po), (aI cI (ad 39) 40 pd), (aI cI (ad 40) 40 pe), (aI cI (ad 41) 40 pr)] s.heap := hP
  have hl := lv_entry ([.ref (ad 0), .int k]) (n := 2) (Nat.le_of_ble_eq_true rfl)
  rw [lg_entry_eq]
  generalize (lg_sl ([.ref (ad 0), .int k]) ++ List.replicate (2 - (lg_sl ([.ref (ad 0), .int k])).length) Slot.unset).toArray = ls at hl ⊢
  have hl : lv_has ls 2 [(0, .ref (ad 0)), (1, .int k)] := hl
  have k13 : (13 : Int32).toInt = 13 := by decide
  refine lv_aload_n hx hb dX10_sizeOfStopped_0 rfl (lv_at hl 0 rfl) ?_
  refine lv_bipush (v := 13) hx hb dX10_sizeOfStopped_1 (by decide) ?_
  refine st_v (wr := [(oC1 ad cn), (aI cI (ad 31) 12 fo), (oC7 ad pn), (aI cI (ad 36) 40 pk), (aI cI (ad 37) 40 pf), (aI cI (ad 38) 40 po), (aI cI (ad 39) 40 pd), (aI cI (ad 40) 40 pe), (aI cI (ad 41) 40 pr)]) (va_runV (C := RX10) (As := [.int 13]) (rest := []) ⟨hx, hb, hml, hown, hts⟩ (ct_X10_leave l D cI cY cJ cQ _ ad tn td lf tr (13 : Int32) h4 h5) (cwV 1 hts gX10_sizeOfStopped_X10_leave rfl rfl rfl ⟨rfl, cdX10_leave⟩ ⟨Nat.le_of_ble_eq_true rfl, Nat.le_of_ble_eq_true rfl⟩) (cPreV (hP.sub [0, 1] rfl) hK (hD.sub [0, 1] (by decide +kernel) rfl) hN (ci := 10) (q0 := 0) rfl rfl) rfl rfl hl.1 rfl (lv_room (Nat.le_of_ble_eq_true rfl)) dX10_sizeOfStopped_3 ⟨Nat.le_of_ble_eq_true rfl, Nat.le_of_ble_eq_true rfl⟩) hP hD hS hA [0, 1] [2, 3, 4, 5, 6, 7, 8, 9, 10] rfl rfl (by decide +kernel) (by decide +kernel) (fun u1 H locs hw2 => ?_)
  clear hP hD hS
  intro hP hD hS
  obtain ⟨tn_4, tr_5⟩ := u1
  replace hw2 : (tn_4, tr_5) = lvT (tn, tr) (13 : Int32) ∧ 0 ≤ tn_4.toInt ∧ tn_4.toInt ≤ 16 := hw2
  replace hP : va_P D vwCl [(oC1 ad cn), (aI cI (ad 31) 12 fo), (oC7 ad pn), (aI cI (ad 36) 40 pk), (aI cI (ad 37) 40 pf), (aI cI (ad 38) 40 po), (aI cI (ad 39) 40 pd), (aI cI (ad 40) 40 pe), (aI cI (ad 41) 40 pr), (oC10 ad tn_4 td lf), (aI cI (ad 11) 16 tr_5)] H := hP
  replace hD : va_D A [(oC1 ad cn), (aI cI (ad 31) 12 fo), (oC7 ad pn), (aI cI (ad 36) 40 pk), (aI cI (ad 37) 40 pf), (aI cI (ad 38) 40 po), (aI cI (ad 39) 40 pd), (aI cI (ad 40) 40 pe), (aI cI (ad 41) 40 pr), (oC10 ad tn_4 td lf), (aI cI (ad 11) 16 tr_5)] := hD
  obtain ⟨hw2, hw2a, hw2b⟩ := hw2
  refine lv_aload_n hx hb dX10_sizeOfStopped_6 rfl (lv_at hl 0 rfl) ?_
  refine lv_iload_n hx hb dX10_sizeOfStopped_7 rfl (lv_at hl 1 rfl) ?_
  refine st_i (wr := []) (va_runV (C := RX10) (As := [.int k]) (rest := []) ⟨hx, hb, hml, hown, hts⟩ (ct_X10_markOfStopped l D cI cY cJ cQ _ ad tn_4 td lf cn pn tr_5 fo pk pf po pd pe pr k h1 h2 h3 (by omega) (by omega) h6 h7 h8) (cwV 1 hts gX10_sizeOfStopped_X10_markOfStopped rfl rfl rfl ⟨rfl, cdX10_markOfStopped⟩ ⟨Nat.le_of_ble_eq_true rfl, Nat.le_of_ble_eq_true rfl⟩) (cPreV (hP.sub [9, 10, 0, 1, 2, 3, 4, 5, 6, 7, 8] rfl) hK (hD.sub [9, 10, 0, 1, 2, 3, 4, 5, 6, 7, 8] (by decide +kernel) rfl) hN (ci := 10) (q0 := 0) rfl rfl) rfl rfl hl.1 rfl (lv_room (Nat.le_of_ble_eq_true rfl)) dX10_sizeOfStopped_8 ⟨Nat.le_of_ble_eq_true rfl, Nat.le_of_ble_eq_true rfl⟩) hP hD hS hA [9, 10, 0, 1, 2, 3, 4, 5, 6, 7, 8] [] rfl rfl (by decide +kernel) (by decide +kernel) (fun r8 u6 H locs hw7 => ?_)
  clear hP hD hS
  intro hP hD hS
  obtain ⟨tn_9, tr_10⟩ := u6
  replace hw7 : r8 = ((owV pk pf po pd pe pr k td td (fo k.toNatClampNeg) pn.toNatClampNeg) + 1000) ∧ (tn_9, tr_10) = (lvT (lvT (tn_4, tr_5) 22) 20) ∧ 0 ≤ tn_9.toInt ∧ tn_9.toInt ≤ 16 := hw7
  replace hP : va_P D vwCl [(oC10 ad tn_9 td lf), (aI cI (ad 11) 16 tr_10), (oC1 ad cn), (aI cI (ad 31) 12 fo), (oC7 ad pn), (aI cI (ad 36) 40 pk), (aI cI (ad 37) 40 pf), (aI cI (ad 38) 40 po), (aI cI (ad 39) 40 pd), (aI cI (ad 40) 40 pe), (aI cI (ad 41) 40 pr)] H := hP
  replace hD : va_D A [(oC10 ad tn_9 td lf), (aI cI (ad 11) 16 tr_10), (oC1 ad cn), (aI cI (ad 31) 12 fo), (oC7 ad pn), (aI cI (ad 36) 40 pk), (aI cI (ad 37) 40 pf), (aI cI (ad 38) 40 po), (aI cI (ad 39) 40 pd), (aI cI (ad 40) 40 pe), (aI cI (ad 41) 40 pr)] := hD
  obtain ⟨hw7r, hw7, hw7a, hw7b⟩ := hw7
  subst hw7r
  refine lv_ineg hx hb dX10_sizeOfStopped_11 ?_
  refine lv_topi (fun v11 ev11 => ?_)
  have hP9 := hP
  have hD9 := hD
  exact W.iret (v := v11) hx hb hr (fun t ht hW => ⟨⟨v11, (tn_9, tr_10), rfl, (by show v11 = (-((owV pk pf po pd pe pr k td td (fo k.toNatClampNeg) pn.toNatClampNeg) + 1000)) ∧ (tn_9, tr_10) = (lvT (lvT (lvT (tn, tr) 13) 22) 20) ∧ 0 ≤ tn_9.toInt ∧ tn_9.toInt ≤ 16; exact ⟨ev11, (by rw [hw7, hw2]), by omega, by omega⟩), by rw [ht]; exact hP9, va_K.moved hW.alike hK, hD9⟩, hS.F ht⟩) hS.2.2 dX10_sizeOfStopped_12


/-- SIZE and MARK of a kind: the answer, and the trace -/
def szF (kd wo su ow : Int32) (s : Int32 × (Nat → Int32)) : Int32 × Int32 × (Nat → Int32) := if kd.toInt = 1 then (wo - su, lvT (lvT s 11) 10) else if kd.toInt = 2 then ((wo - su) / 2, lvT (lvT (lvT s 12) 11) 10) else if kd.toInt = 3 then (-(ow + 1000), lvT (lvT (lvT s 13) 22) 20) else (wo, lvT s 10)
def mkF (kd wo ow : Int32) (s : Int32 × (Nat → Int32)) : Int32 × Int32 × (Nat → Int32) := if kd.toInt = 1 ∨ kd.toInt = 2 then (ow + 100, lvT (lvT s 21) 20) else if kd.toInt = 3 then (ow + 1000, lvT (lvT s 22) 20) else if kd.toInt = 4 then (ow + wo, lvT (lvT (lvT s 23) 20) 10) else (ow, lvT s 20)

set_option maxHeartbeats 4000000 in
set_option maxRecDepth 100000 in
theorem ct_X10_askSize (l : Launch) (D : va_G) (cI cY cJ cQ : ClassId) (sz : Nat) (ad : Nat → Nat) (tn td lf cn pn gn : Int32) (tr fo pk pf po pd pe pr wo gk gs gd ge : Nat → Int32) (k : Int32) (w : Int32)  (h1 : cn.toInt ≤ 12) (h2 : 0 ≤ k.toInt) (h3 : k.toInt < cn.toInt) (h4 : 0 ≤ tn.toInt) (h5 : tn.toInt ≤ 16) (h6 : 0 ≤ pn.toInt) (h7 : pn.toInt ≤ 40) (h8 : okO pn pr) (h9 : 0 ≤ gn.toInt) (h10 : gn.toInt ≤ 40)  : Met l yX10_askSize wsX10_askSize ({ frames := 5, cells := 0, slots := 0, locals := 113 }) (cPre D (ty4 cI cY cJ cQ) [(oC10 ad tn td lf), (aI cI (ad 11) 16 tr), (oC1 ad cn), (aI cI (ad 31) 12 fo), (oC7 ad pn), (aI cI (ad 36) 40 pk), (aI cI (ad 37) 40 pf), (aI cI (ad 38) 40 po), (aI cI (ad 39) 40 pd), (aI cI (ad 40) 40 pe), (aI cI (ad 41) 40 pr), (aI cI (ad 32) 12 wo), (oC8 ad gn), (aI cI (ad 42) 40 gk), (aI cI (ad 43) 40 gs), (aI cI (ad 44) 40 gd), (aI cI (ad 45) 40 ge)] sz [.ref (ad 0), .int k, .int w]) (va_Qi (fun (r : Int32) (u : Int32 × (Nat → Int32)) => (r, u) = szF w (wo k.toNatClampNeg) (suV gk gs ge k td gn.toNatClampNeg) (owV pk pf po pd pe pr k td td (fo k.toNatClampNeg) pn.toNatClampNeg) (tn, tr) ∧ 0 ≤ u.1.toInt ∧ u.1.toInt ≤ 16) (cB D (ty4 cI cY cJ cQ) (fun (u : Int32 × (Nat → Int32)) => [(oC10 ad u.1 td lf), (aI cI (ad 11) 16 u.2), (oC1 ad cn), (aI cI (ad 31) 12 fo), (oC7 ad pn), (aI cI (ad 36) 40 pk), (aI cI (ad 37) 40 pf), (aI cI (ad 38) 40 po), (aI cI (ad 39) 40 pd), (aI cI (ad 40) 40 pe), (aI cI (ad 41) 40 pr), (aI cI (ad 32) 12 wo), (oC8 ad gn), (aI cI (ad 42) 40 gk), (aI cI (ad 43) 40 gs), (aI cI (ad 44) 40 gd), (aI cI (ad 45) 40 ge)]) (va_A [(oC10 ad tn td lf), (aI cI (ad 11) 16 tr), (oC1 ad cn), (aI cI (ad 31) 12 fo), (oC7 ad pn), (aI cI (ad 36) 40 pk), (aI cI (ad 37) 40 pf), (aI cI (ad 38) 40 po), (aI cI (ad 39) 40 pd), (aI cI (ad 40) 40 pe), (aI cI (ad 41) 40 pr), (aI cI (ad 32) 12 wo), (oC8 ad gn), (aI cI (ad 42) 40 gk), (aI cI (ad 43) 40 gs), (aI cI (ad 44) 40 gd), (aI cI (ad 45) 40 ge)] sz)) (va_A [(oC10 ad tn td lf), (aI cI (ad 11) 16 tr), (oC1 ad cn), (aI cI (ad 31) 12 fo), (oC7 ad pn), (aI cI (ad 36) 40 pk), (aI cI (ad 37) 40 pf), (aI cI (ad 38) 40 po), (aI cI (ad 39) 40 pd), (aI cI (ad 40) 40 pe), (aI cI (ad 41) 40 pr), (aI cI (ad 32) 12 wo), (oC8 ad gn), (aI cI (ad 42) 40 gk), (aI cI (ad 43) 40 gs), (aI cI (ad 44) 40 gd), (aI cI (ad 45) 40 ge)] sz)) 0 0 (va_A [(oC10 ad tn td lf), (aI cI (ad 11) 16 tr), (oC1 ad cn), (aI cI (ad 31) 12 fo), (oC7 ad pn), (aI cI (ad 36) 40 pk), (aI cI (ad 37) 40 pf), (aI cI (ad 38) 40 po), (aI cI (ad 39) 40 pd), (aI cI (ad 40) 40 pe), (aI cI (ad 41) 40 pr), (aI cI (ad 32) 12 wo), (oC8 ad gn), (aI cI (ad 42) 40 gk), (aI cI (ad 43) 40 gs), (aI cI (ad 44) 40 gd), (aI cI (ad 45) 40 ge)] sz) := by
  refine Met.ofW (cc := cX10_askSize) (maxL := 3) (ret := (some .int)) (by decide) rfl ?_
  intro p e s m args below meth c s₁ B hml hv
  obtain ⟨rfl, hsz, hP, hK, hD0, hN⟩ := hv
  have hx := B.exec
  have hb := B.bytes
  have hr := B.returns
  have hts := atoms_spec (ws := wsX10_askSize) B.pre
  have hown : s.vm.findClass RX10 = some m.cls := findClass_of_methodNamed B.named
  have hlocks := B.notSynchronized
  subst hsz
  have hD := hD0.self (sz := s.heap.size)
  generalize hAe : va_A [(oC10 ad tn td lf), (aI cI (ad 11) 16 tr), (oC1 ad cn), (aI cI (ad 31) 12 fo), (oC7 ad pn), (aI cI (ad 36) 40 pk), (aI cI (ad 37) 40 pf), (aI cI (ad 38) 40 po), (aI cI (ad 39) 40 pd), (aI cI (ad 40) 40 pe), (aI cI (ad 41) 40 pr), (aI cI (ad 32) 12 wo), (oC8 ad gn), (aI cI (ad 42) 40 gk), (aI cI (ad 43) 40 gs), (aI cI (ad 44) 40 gd), (aI cI (ad 45) 40 ge)] s.heap.size = A at hD ⊢
  have hA : ∀ q : Nat, s.heap.size ≤ q → A q := fun q h => by rw [← hAe]; exact Or.inr h
  have hS : va_S A s.heap s.heap [] := va_S.rf
  have hP : va_P D vwCl [(oC10 ad tn td lf), (aI cI (ad 11) 16 tr), (oC1 ad cn), (aI cI (ad 31) 12 fo), (oC7 ad pn), (aI cI (ad 36) 40 pk), (aI cI (ad 37) 40 pf), (aI cI (ad 38) 40 po), (aI cI (ad 39) 40 pd), (aI cI (ad 40) 40 pe), (aI cI (ad 41) 40 pr), (aI cI (ad 32) 12 wo), (oC8 ad gn), (aI cI (ad 42) 40 gk), (aI cI (ad 43) 40 gs), (aI cI (ad 44) 40 gd), (aI cI (ad 45) 40 ge)] s.heap := hP
  have hl := lv_entry ([.ref (ad 0), .int k, .int w]) (n := 3) (Nat.le_of_ble_eq_true rfl)
  rw [lg_entry_eq]
  generalize (lg_sl ([.ref (ad 0), .int k, .int w]) ++ List.replicate (3 - (lg_sl ([.ref (ad 0), .int k, .int w])).length) Slot.unset).toArray = ls at hl ⊢
  have hl : lv_has ls 3 [(0, .ref (ad 0)), (1, .int k), (2, .int w)] := hl
  refine lv_iload_n hx hb dX10_askSize_0 rfl (lv_at hl 2 rfl) ?_
  rcases (show (w.toInt < 1 ∨ 3 < w.toInt) ∨ w.toInt = 1 ∨ w.toInt = 2 ∨ w.toInt = 3 by omega) with hsw1 | hsw1 | hsw1 | hsw1
  · skip
    refine lv_tableOut (tgt := 46) hx hb dX10_askSize_1 hsw1 (by decide) ?_
    refine lv_aload_n hx hb dX10_askSize_46 rfl (lv_at hl 0 rfl) ?_
    refine lv_iload_n hx hb dX10_askSize_47 rfl (lv_at hl 1 rfl) ?_
    refine st_i (wr := [(aI cI (ad 31) 12 fo), (oC7 ad pn), (aI cI (ad 36) 40 pk), (aI cI (ad 37) 40 pf), (aI cI (ad 38) 40 po), (aI cI (ad 39) 40 pd), (aI cI (ad 40) 40 pe), (aI cI (ad 41) 40 pr), (oC8 ad gn), (aI cI (ad 42) 40 gk), (aI cI (ad 43) 40 gs), (aI cI (ad 44) 40 gd), (aI cI (ad 45) 40 ge)]) (va_runV (C := RX10) (As := [.int k]) (rest := []) ⟨hx, hb, hml, hown, hts⟩ (ct_X10_sizeLent l D cI cY cJ cQ _ ad tn td lf cn tr wo k h1 h2 h3 h4 h5) (cwV 1 hts gX10_askSize_X10_sizeLent rfl rfl rfl ⟨rfl, cdX10_sizeLent⟩ ⟨Nat.le_of_ble_eq_true rfl, Nat.le_of_ble_eq_true rfl⟩) (cPreV (hP.sub [0, 1, 2, 11] rfl) hK (hD.sub [0, 1, 2, 11] (by decide +kernel) rfl) hN (ci := 10) (q0 := 0) rfl rfl) rfl rfl hl.1 rfl (lv_room (Nat.le_of_ble_eq_true rfl)) dX10_askSize_48 ⟨Nat.le_of_ble_eq_true rfl, Nat.le_of_ble_eq_true rfl⟩) hP hD hS hA [0, 1, 2, 11] [3, 4, 5, 6, 7, 8, 9, 10, 12, 13, 14, 15, 16] rfl rfl (by decide +kernel) (by decide +kernel) (fun r4 u2 H locs hw3 => ?_)
    clear hP hD hS
    intro hP hD hS
    obtain ⟨tn_5, tr_6⟩ := u2
    replace hw3 : r4 = wo k.toNatClampNeg ∧ (tn_5, tr_6) = (lvT (tn, tr) 10) ∧ 0 ≤ tn_5.toInt ∧ tn_5.toInt ≤ 16 := hw3
    replace hP : va_P D vwCl [(aI cI (ad 31) 12 fo), (oC7 ad pn), (aI cI (ad 36) 40 pk), (aI cI (ad 37) 40 pf), (aI cI (ad 38) 40 po), (aI cI (ad 39) 40 pd), (aI cI (ad 40) 40 pe), (aI cI (ad 41) 40 pr), (oC8 ad gn), (aI cI (ad 42) 40 gk), (aI cI (ad 43) 40 gs), (aI cI (ad 44) 40 gd), (aI cI (ad 45) 40 ge), (oC10 ad tn_5 td lf), (aI cI (ad 11) 16 tr_6), (oC1 ad cn), (aI cI (ad 32) 12 wo)] H := hP
    replace hD : va_D A [(aI cI (ad 31) 12 fo), (oC7 ad pn), (aI cI (ad 36) 40 pk), (aI cI (ad 37) 40 pf), (aI cI (ad 38) 40 po), (aI cI (ad 39) 40 pd), (aI cI (ad 40) 40 pe), (aI cI (ad 41) 40 pr), (oC8 ad gn), (aI cI (ad 42) 40 gk), (aI cI (ad 43) 40 gs), (aI cI (ad 44) 40 gd), (aI cI (ad 45) 40 ge), (oC10 ad tn_5 td lf), (aI cI (ad 11) 16 tr_6), (oC1 ad cn), (aI cI (ad 32) 12 wo)] := hD
    obtain ⟨hw3r, hw3, hw3a, hw3b⟩ := hw3
    subst hw3r
    have hP9 := hP.sub (ws' := [(oC10 ad tn_5 td lf), (aI cI (ad 11) 16 tr_6), (oC1 ad cn), (aI cI (ad 31) 12 fo), (oC7 ad pn), (aI cI (ad 36) 40 pk), (aI cI (ad 37) 40 pf), (aI cI (ad 38) 40 po), (aI cI (ad 39) 40 pd), (aI cI (ad 40) 40 pe), (aI cI (ad 41) 40 pr), (aI cI (ad 32) 12 wo), (oC8 ad gn), (aI cI (ad 42) 40 gk), (aI cI (ad 43) 40 gs), (aI cI (ad 44) 40 gd), (aI cI (ad 45) 40 ge)]) [13, 14, 15, 0, 1, 2, 3, 4, 5, 6, 7, 16, 8, 9, 10, 11, 12] rfl
    have hD9 := hD.sub (ws' := [(oC10 ad tn_5 td lf), (aI cI (ad 11) 16 tr_6), (oC1 ad cn), (aI cI (ad 31) 12 fo), (oC7 ad pn), (aI cI (ad 36) 40 pk), (aI cI (ad 37) 40 pf), (aI cI (ad 38) 40 po), (aI cI (ad 39) 40 pd), (aI cI (ad 40) 40 pe), (aI cI (ad 41) 40 pr), (aI cI (ad 32) 12 wo), (oC8 ad gn), (aI cI (ad 42) 40 gk), (aI cI (ad 43) 40 gs), (aI cI (ad 44) 40 gd), (aI cI (ad 45) 40 ge)]) [13, 14, 15, 0, 1, 2, 3, 4, 5, 6, 7, 16, 8, 9, 10, 11, 12] (by decide +kernel) rfl
    exact W.iret (v := wo k.toNatClampNeg) hx hb hr (fun t ht hW => ⟨⟨wo k.toNatClampNeg, (tn_5, tr_6), rfl, (by show ((wo k.toNatClampNeg), tn_5, tr_6) = szF w (wo k.toNatClampNeg) (suV gk gs ge k td gn.toNatClampNeg) (owV pk pf po pd pe pr k td td (fo k.toNatClampNeg) pn.toNatClampNeg) (tn, tr) ∧ 0 ≤ tn_5.toInt ∧ tn_5.toInt ≤ 16; exact ⟨(by rw [hw3]; unfold szF; (repeat' split) <;> first | rfl | (exfalso; omega)), by omega, by omega⟩), by rw [ht]; exact hP9, va_K.moved hW.alike hK, hD9⟩, hS.F ht⟩) hS.2.2 dX10_askSize_51
  · skip
    refine lv_tableIn (tgt := 28) (off := 27) hx hb dX10_askSize_1 (by omega) (by omega) (by rw [hsw1]; rfl) (by decide) ?_
    refine lv_aload_n hx hb dX10_askSize_28 rfl (lv_at hl 0 rfl) ?_
    refine lv_iload_n hx hb dX10_askSize_29 rfl (lv_at hl 1 rfl) ?_
    refine st_i (wr := [(aI cI (ad 31) 12 fo), (oC7 ad pn), (aI cI (ad 36) 40 pk), (aI cI (ad 37) 40 pf), (aI cI (ad 38) 40 po), (aI cI (ad 39) 40 pd), (aI cI (ad 40) 40 pe), (aI cI (ad 41) 40 pr)]) (va_runV (C := RX10) (As := [.int k]) (rest := []) ⟨hx, hb, hml, hown, hts⟩ (ct_X10_sizeOfOwed l D cI cY cJ cQ _ ad tn td lf cn gn tr wo gk gs gd ge k h1 h2 h3 h4 h5 h9 h10) (cwV 1 hts gX10_askSize_X10_sizeOfOwed rfl rfl rfl ⟨rfl, cdX10_sizeOfOwed⟩ ⟨Nat.le_of_ble_eq_true rfl, Nat.le_of_ble_eq_true rfl⟩) (cPreV (hP.sub [0, 1, 2, 11, 12, 13, 14, 15, 16] rfl) hK (hD.sub [0, 1, 2, 11, 12, 13, 14, 15, 16] (by decide +kernel) rfl) hN (ci := 10) (q0 := 0) rfl rfl) rfl rfl hl.1 rfl (lv_room (Nat.le_of_ble_eq_true rfl)) dX10_askSize_30 ⟨Nat.le_of_ble_eq_true rfl, Nat.le_of_ble_eq_true rfl⟩) hP hD hS hA [0, 1, 2, 11, 12, 13, 14, 15, 16] [3, 4, 5, 6, 7, 8, 9, 10] rfl rfl (by decide +kernel) (by decide +kernel) (fun r9 u7 H locs hw8 => ?_)
    clear hP hD hS
    intro hP hD hS
    obtain ⟨tn_10, tr_11⟩ := u7
    replace hw8 : r9 = (wo k.toNatClampNeg - suV gk gs ge k td gn.toNatClampNeg) ∧ (tn_10, tr_11) = (lvT (lvT (tn, tr) 11) 10) ∧ 0 ≤ tn_10.toInt ∧ tn_10.toInt ≤ 16 := hw8
    replace hP : va_P D vwCl [(aI cI (ad 31) 12 fo), (oC7 ad pn), (aI cI (ad 36) 40 pk), (aI cI (ad 37) 40 pf), (aI cI (ad 38) 40 po), (aI cI (ad 39) 40 pd), (aI cI (ad 40) 40 pe), (aI cI (ad 41) 40 pr), (oC10 ad tn_10 td lf), (aI cI (ad 11) 16 tr_11), (oC1 ad cn), (aI cI (ad 32) 12 wo), (oC8 ad gn), (aI cI (ad 42) 40 gk), (aI cI (ad 43) 40 gs), (aI cI (ad 44) 40 gd), (aI cI (ad 45) 40 ge)] H := hP
    replace hD : va_D A [(aI cI (ad 31) 12 fo), (oC7 ad pn), (aI cI (ad 36) 40 pk), (aI cI (ad 37) 40 pf), (aI cI (ad 38) 40 po), (aI cI (ad 39) 40 pd), (aI cI (ad 40) 40 pe), (aI cI (ad 41) 40 pr), (oC10 ad tn_10 td lf), (aI cI (ad 11) 16 tr_11), (oC1 ad cn), (aI cI (ad 32) 12 wo), (oC8 ad gn), (aI cI (ad 42) 40 gk), (aI cI (ad 43) 40 gs), (aI cI (ad 44) 40 gd), (aI cI (ad 45) 40 ge)] := hD
    obtain ⟨hw8r, hw8, hw8a, hw8b⟩ := hw8
    subst hw8r
    have hP9 := hP.sub (ws' := [(oC10 ad tn_10 td lf), (aI cI (ad 11) 16 tr_11), (oC1 ad cn), (aI cI (ad 31) 12 fo), (oC7 ad pn), (aI cI (ad 36) 40 pk), (aI cI (ad 37) 40 pf), (aI cI (ad 38) 40 po), (aI cI (ad 39) 40 pd), (aI cI (ad 40) 40 pe), (aI cI (ad 41) 40 pr), (aI cI (ad 32) 12 wo), (oC8 ad gn), (aI cI (ad 42) 40 gk), (aI cI (ad 43) 40 gs), (aI cI (ad 44) 40 gd), (aI cI (ad 45) 40 ge)]) [8, 9, 10, 0, 1, 2, 3, 4, 5, 6, 7, 11, 12, 13, 14, 15, 16] rfl
    have hD9 := hD.sub (ws' := [(oC10 ad tn_10 td lf), (aI cI (ad 11) 16 tr_11), (oC1 ad cn), (aI cI (ad 31) 12 fo), (oC7 ad pn), (aI cI (ad 36) 40 pk), (aI cI (ad 37) 40 pf), (aI cI (ad 38) 40 po), (aI cI (ad 39) 40 pd), (aI cI (ad 40) 40 pe), (aI cI (ad 41) 40 pr), (aI cI (ad 32) 12 wo), (oC8 ad gn), (aI cI (ad 42) 40 gk), (aI cI (ad 43) 40 gs), (aI cI (ad 44) 40 gd), (aI cI (ad 45) 40 ge)]) [8, 9, 10, 0, 1, 2, 3, 4, 5, 6, 7, 11, 12, 13, 14, 15, 16] (by decide +kernel) rfl
    exact W.iret (v := (wo k.toNatClampNeg - suV gk gs ge k td gn.toNatClampNeg)) hx hb hr (fun t ht hW => ⟨⟨(wo k.toNatClampNeg - suV gk gs ge k td gn.toNatClampNeg), (tn_10, tr_11), rfl, (by show ((wo k.toNatClampNeg - suV gk gs ge k td gn.toNatClampNeg), tn_10, tr_11) = szF w (wo k.toNatClampNeg) (suV gk gs ge k td gn.toNatClampNeg) (owV pk pf po pd pe pr k td td (fo k.toNatClampNeg) pn.toNatClampNeg) (tn, tr) ∧ 0 ≤ tn_10.toInt ∧ tn_10.toInt ≤ 16; exact ⟨(by rw [hw8]; unfold szF; (repeat' split) <;> first | rfl | (exfalso; omega)), by omega, by omega⟩), by rw [ht]; exact hP9, va_K.moved hW.alike hK, hD9⟩, hS.F ht⟩) hS.2.2 dX10_askSize_33
  · skip
    refine lv_tableIn (tgt := 34) (off := 33) hx hb dX10_askSize_1 (by omega) (by omega) (by rw [hsw1]; rfl) (by decide) ?_
    refine lv_aload_n hx hb dX10_askSize_34 rfl (lv_at hl 0 rfl) ?_
    refine lv_iload_n hx hb dX10_askSize_35 rfl (lv_at hl 1 rfl) ?_
    refine st_i (wr := [(aI cI (ad 31) 12 fo), (oC7 ad pn), (aI cI (ad 36) 40 pk), (aI cI (ad 37) 40 pf), (aI cI (ad 38) 40 po), (aI cI (ad 39) 40 pd), (aI cI (ad 40) 40 pe), (aI cI (ad 41) 40 pr)]) (va_runV (C := RX10) (As := [.int k]) (rest := []) ⟨hx, hb, hml, hown, hts⟩ (ct_X10_sizeOfDeep l D cI cY cJ cQ _ ad tn td lf cn gn tr wo gk gs gd ge k h1 h2 h3 h4 h5 h9 h10) (cwV 1 hts gX10_askSize_X10_sizeOfDeep rfl rfl rfl ⟨rfl, cdX10_sizeOfDeep⟩ ⟨Nat.le_of_ble_eq_true rfl, Nat.le_of_ble_eq_true rfl⟩) (cPreV (hP.sub [0, 1, 2, 11, 12, 13, 14, 15, 16] rfl) hK (hD.sub [0, 1, 2, 11, 12, 13, 14, 15, 16] (by decide +kernel) rfl) hN (ci := 10) (q0 := 0) rfl rfl) rfl rfl hl.1 rfl (lv_room (Nat.le_of_ble_eq_true rfl)) dX10_askSize_36 ⟨Nat.le_of_ble_eq_true rfl, Nat.le_of_ble_eq_true rfl⟩) hP hD hS hA [0, 1, 2, 11, 12, 13, 14, 15, 16] [3, 4, 5, 6, 7, 8, 9, 10] rfl rfl (by decide +kernel) (by decide +kernel) (fun r14 u12 H locs hw13 => ?_)
    clear hP hD hS
    intro hP hD hS
    obtain ⟨tn_15, tr_16⟩ := u12
    replace hw13 : r14 = ((wo k.toNatClampNeg - suV gk gs ge k td gn.toNatClampNeg) / 2) ∧ (tn_15, tr_16) = (lvT (lvT (lvT (tn, tr) 12) 11) 10) ∧ 0 ≤ tn_15.toInt ∧ tn_15.toInt ≤ 16 := hw13
    replace hP : va_P D vwCl [(aI cI (ad 31) 12 fo), (oC7 ad pn), (aI cI (ad 36) 40 pk), (aI cI (ad 37) 40 pf), (aI cI (ad 38) 40 po), (aI cI (ad 39) 40 pd), (aI cI (ad 40) 40 pe), (aI cI (ad 41) 40 pr), (oC10 ad tn_15 td lf), (aI cI (ad 11) 16 tr_16), (oC1 ad cn), (aI cI (ad 32) 12 wo), (oC8 ad gn), (aI cI (ad 42) 40 gk), (aI cI (ad 43) 40 gs), (aI cI (ad 44) 40 gd), (aI cI (ad 45) 40 ge)] H := hP
    replace hD : va_D A [(aI cI (ad 31) 12 fo), (oC7 ad pn), (aI cI (ad 36) 40 pk), (aI cI (ad 37) 40 pf), (aI cI (ad 38) 40 po), (aI cI (ad 39) 40 pd), (aI cI (ad 40) 40 pe), (aI cI (ad 41) 40 pr), (oC10 ad tn_15 td lf), (aI cI (ad 11) 16 tr_16), (oC1 ad cn), (aI cI (ad 32) 12 wo), (oC8 ad gn), (aI cI (ad 42) 40 gk), (aI cI (ad 43) 40 gs), (aI cI (ad 44) 40 gd), (aI cI (ad 45) 40 ge)] := hD
    obtain ⟨hw13r, hw13, hw13a, hw13b⟩ := hw13
    subst hw13r
    have hP9 := hP.sub (ws' := [(oC10 ad tn_15 td lf), (aI cI (ad 11) 16 tr_16), (oC1 ad cn), (aI cI (ad 31) 12 fo), (oC7 ad pn), (aI cI (ad 36) 40 pk), (aI cI (ad 37) 40 pf), (aI cI (ad 38) 40 po), (aI cI (ad 39) 40 pd), (aI cI (ad 40) 40 pe), (aI cI (ad 41) 40 pr), (aI cI (ad 32) 12 wo), (oC8 ad gn), (aI cI (ad 42) 40 gk), (aI cI (ad 43) 40 gs), (aI cI (ad 44) 40 gd), (aI cI (ad 45) 40 ge)]) [8, 9, 10, 0, 1, 2, 3, 4, 5, 6, 7, 11, 12, 13, 14, 15, 16] rfl
    have hD9 := hD.sub (ws' := [(oC10 ad tn_15 td lf), (aI cI (ad 11) 16 tr_16), (oC1 ad cn), (aI cI (ad 31) 12 fo), (oC7 ad pn), (aI cI (ad 36) 40 pk), (aI cI (ad 37) 40 pf), (aI cI (ad 38) 40 po), (aI cI (ad 39) 40 pd), (aI cI (ad 40) 40 pe), (aI cI (ad 41) 40 pr), (aI cI (ad 32) 12 wo), (oC8 ad gn), (aI cI (ad 42) 40 gk), (aI cI (ad 43) 40 gs), (aI cI (ad 44) 40 gd), (aI cI (ad 45) 40 ge)]) [8, 9, 10, 0, 1, 2, 3, 4, 5, 6, 7, 11, 12, 13, 14, 15, 16] (by decide +kernel) rfl
    exact W.iret (v := ((wo k.toNatClampNeg - suV gk gs ge k td gn.toNatClampNeg) / 2)) hx hb hr (fun t ht hW => ⟨⟨((wo k.toNatClampNeg - suV gk gs ge k td gn.toNatClampNeg) / 2), (tn_15, tr_16), rfl, (by show (((wo k.toNatClampNeg - suV gk gs ge k td gn.toNatClampNeg) / 2), tn_15, tr_16) = szF w (wo k.toNatClampNeg) (suV gk gs ge k td gn.toNatClampNeg) (owV pk pf po pd pe pr k td td (fo k.toNatClampNeg) pn.toNatClampNeg) (tn, tr) ∧ 0 ≤ tn_15.toInt ∧ tn_15.toInt ≤ 16; exact ⟨(by rw [hw13]; unfold szF; (repeat' split) <;> first | rfl | (exfalso; omega)), by omega, by omega⟩), by rw [ht]; exact hP9, va_K.moved hW.alike hK, hD9⟩, hS.F ht⟩) hS.2.2 dX10_askSize_39
  · skip
    refine lv_tableIn (tgt := 40) (off := 39) hx hb dX10_askSize_1 (by omega) (by omega) (by rw [hsw1]; rfl) (by decide) ?_
    refine lv_aload_n hx hb dX10_askSize_40 rfl (lv_at hl 0 rfl) ?_
    refine lv_iload_n hx hb dX10_askSize_41 rfl (lv_at hl 1 rfl) ?_
    refine st_i (wr := [(aI cI (ad 32) 12 wo), (oC8 ad gn), (aI cI (ad 42) 40 gk), (aI cI (ad 43) 40 gs), (aI cI (ad 44) 40 gd), (aI cI (ad 45) 40 ge)]) (va_runV (C := RX10) (As := [.int k]) (rest := []) ⟨hx, hb, hml, hown, hts⟩ (ct_X10_sizeOfStopped l D cI cY cJ cQ _ ad tn td lf cn pn tr fo pk pf po pd pe pr k h1 h2 h3 h4 h5 h6 h7 h8) (cwV 1 hts gX10_askSize_X10_sizeOfStopped rfl rfl rfl ⟨rfl, cdX10_sizeOfStopped⟩ ⟨Nat.le_of_ble_eq_true rfl, Nat.le_of_ble_eq_true rfl⟩) (cPreV (hP.sub [0, 1, 2, 3, 4, 5, 6, 7, 8, 9, 10] rfl) hK (hD.sub [0, 1, 2, 3, 4, 5, 6, 7, 8, 9, 10] (by decide +kernel) rfl) hN (ci := 10) (q0 := 0) rfl rfl) rfl rfl hl.1 rfl (lv_room (Nat.le_of_ble_eq_true rfl)) dX10_askSize_42 ⟨Nat.le_of_ble_eq_true rfl, Nat.le_of_ble_eq_true rfl⟩) hP hD hS hA [0, 1, 2, 3, 4, 5, 6, 7, 8, 9, 10] [11, 12, 13, 14, 15, 16] rfl rfl (by decide +kernel) (by decide +kernel) (fun r19 u17 H locs hw18 => ?_)
    clear hP hD hS
    intro hP hD hS
    obtain ⟨tn_20, tr_21⟩ := u17
    replace hw18 : r19 = (-((owV pk pf po pd pe pr k td td (fo k.toNatClampNeg) pn.toNatClampNeg) + 1000)) ∧ (tn_20, tr_21) = (lvT (lvT (lvT (tn, tr) 13) 22) 20) ∧ 0 ≤ tn_20.toInt ∧ tn_20.toInt ≤ 16 := hw18
    replace hP : va_P D vwCl [(aI cI (ad 32) 12 wo), (oC8 ad gn), (aI cI (ad 42) 40 gk), (aI cI (ad 43) 40 gs), (aI cI (ad 44) 40 gd), (aI cI (ad 45) 40 ge), (oC10 ad tn_20 td lf), (aI cI (ad 11) 16 tr_21), (oC1 ad cn), (aI cI (ad 31) 12 fo), (oC7 ad pn), (aI cI (ad 36) 40 pk), (aI cI (ad 37) 40 pf), (aI cI (ad 38) 40 po), (aI cI (ad 39) 40 pd), (aI cI (ad 40) 40 pe), (aI cI (ad 41) 40 pr)] H := hP
    replace hD : va_D A [(aI cI (ad 32) 12 wo), (oC8 ad gn), (aI cI (ad 42) 40 gk), (aI cI (ad 43) 40 gs), (aI cI (ad 44) 40 gd), (aI cI (ad 45) 40 ge), (oC10 ad tn_20 td lf), (aI cI (ad 11) 16 tr_21), (oC1 ad cn), (aI cI (ad 31) 12 fo), (oC7 ad pn), (aI cI (ad 36) 40 pk), (aI cI (ad 37) 40 pf), (aI cI (ad 38) 40 po), (aI cI (ad 39) 40 pd), (aI cI (ad 40) 40 pe), (aI cI (ad 41) 40 pr)] := hD
    obtain ⟨hw18r, hw18, hw18a, hw18b⟩ := hw18
    subst hw18r
    have hP9 := hP.sub (ws' := [(oC10 ad tn_20 td lf), (aI cI (ad 11) 16 tr_21), (oC1 ad cn), (aI cI (ad 31) 12 fo), (oC7 ad pn), (aI cI (ad 36) 40 pk), (aI cI (ad 37) 40 pf), (aI cI (ad 38) 40 po), (aI cI (ad 39) 40 pd), (aI cI (ad 40) 40 pe), (aI cI (ad 41) 40 pr), (aI cI (ad 32) 12 wo), (oC8 ad gn), (aI cI (ad 42) 40 gk), (aI cI (ad 43) 40 gs), (aI cI (ad 44) 40 gd), (aI cI (ad 45) 40 ge)]) [6, 7, 8, 9, 10, 11, 12, 13, 14, 15, 16, 0, 1, 2, 3, 4, 5] rfl
    have hD9 := hD.sub (ws' := [(oC10 ad tn_20 td lf), (aI cI (ad 11) 16 tr_21), (oC1 ad cn), (aI cI (ad 31) 12 fo), (oC7 ad pn), (aI cI (ad 36) 40 pk), (aI cI (ad 37) 40 pf), (aI cI (ad 38) 40 po), (aI cI (ad 39) 40 pd), (aI cI (ad 40) 40 pe), (aI cI (ad 41) 40 pr), (aI cI (ad 32) 12 wo), (oC8 ad gn), (aI cI (ad 42) 40 gk), (aI cI (ad 43) 40 gs), (aI cI (ad 44) 40 gd), (aI cI (ad 45) 40 ge)]) [6, 7, 8, 9, 10, 11, 12, 13, 14, 15, 16, 0, 1, 2, 3, 4, 5] (by decide +kernel) rfl
    exact W.iret (v := (-((owV pk pf po pd pe pr k td td (fo k.toNatClampNeg) pn.toNatClampNeg) + 1000))) hx hb hr (fun t ht hW => ⟨⟨(-((owV pk pf po pd pe pr k td td (fo k.toNatClampNeg) pn.toNatClampNeg) + 1000)), (tn_20, tr_21), rfl, (by show ((-((owV pk pf po pd pe pr k td td (fo k.toNatClampNeg) pn.toNatClampNeg) + 1000)), tn_20, tr_21) = szF w (wo k.toNatClampNeg) (suV gk gs ge k td gn.toNatClampNeg) (owV pk pf po pd pe pr k td td (fo k.toNatClampNeg) pn.toNatClampNeg) (tn, tr) ∧ 0 ≤ tn_20.toInt ∧ tn_20.toInt ≤ 16; exact ⟨(by rw [hw18]; unfold szF; (repeat' split) <;> first | rfl | (exfalso; omega)), by omega, by omega⟩), by rw [ht]; exact hP9, va_K.moved hW.alike hK, hD9⟩, hS.F ht⟩) hS.2.2 dX10_askSize_45

set_option maxHeartbeats 4000000 in
set_option maxRecDepth 100000 in
theorem ct_X10_askMark (l : Launch) (D : va_G) (cI cY cJ cQ : ClassId) (sz : Nat) (ad : Nat → Nat) (tn td lf cn pn : Int32) (tr fo pk pf po pd pe pr wo : Nat → Int32) (k : Int32) (w : Int32)  (h1 : cn.toInt ≤ 12) (h2 : 0 ≤ k.toInt) (h3 : k.toInt < cn.toInt) (h4 : 0 ≤ tn.toInt) (h5 : tn.toInt ≤ 16) (h6 : 0 ≤ pn.toInt) (h7 : pn.toInt ≤ 40) (h8 : okO pn pr)  : Met l yX10_askMark wsX10_askMark ({ frames := 4, cells := 0, slots := 0, locals := 92 }) (cPre D (ty4 cI cY cJ cQ) [(oC10 ad tn td lf), (aI cI (ad 11) 16 tr), (oC1 ad cn), (aI cI (ad 31) 12 fo), (oC7 ad pn), (aI cI (ad 36) 40 pk), (aI cI (ad 37) 40 pf), (aI cI (ad 38) 40 po), (aI cI (ad 39) 40 pd), (aI cI (ad 40) 40 pe), (aI cI (ad 41) 40 pr), (aI cI (ad 32) 12 wo)] sz [.ref (ad 0), .int k, .int w]) (va_Qi (fun (r : Int32) (u : Int32 × (Nat → Int32)) => (r, u) = mkF w (wo k.toNatClampNeg) (owV pk pf po pd pe pr k td td (fo k.toNatClampNeg) pn.toNatClampNeg) (tn, tr) ∧ 0 ≤ u.1.toInt ∧ u.1.toInt ≤ 16) (cB D (ty4 cI cY cJ cQ) (fun (u : Int32 × (Nat → Int32)) => [(oC10 ad u.1 td lf), (aI cI (ad 11) 16 u.2), (oC1 ad cn), (aI cI (ad 31) 12 fo), (oC7 ad pn), (aI cI (ad 36) 40 pk), (aI cI (ad 37) 40 pf), (aI cI (ad 38) 40 po), (aI cI (ad 39) 40 pd), (aI cI (ad 40) 40 pe), (aI cI (ad 41) 40 pr), (aI cI (ad 32) 12 wo)]) (va_A [(oC10 ad tn td lf), (aI cI (ad 11) 16 tr), (oC1 ad cn), (aI cI (ad 31) 12 fo), (oC7 ad pn), (aI cI (ad 36) 40 pk), (aI cI (ad 37) 40 pf), (aI cI (ad 38) 40 po), (aI cI (ad 39) 40 pd), (aI cI (ad 40) 40 pe), (aI cI (ad 41) 40 pr), (aI cI (ad 32) 12 wo)] sz)) (va_A [(oC10 ad tn td lf), (aI cI (ad 11) 16 tr), (oC1 ad cn), (aI cI (ad 31) 12 fo), (oC7 ad pn), (aI cI (ad 36) 40 pk), (aI cI (ad 37) 40 pf), (aI cI (ad 38) 40 po), (aI cI (ad 39) 40 pd), (aI cI (ad 40) 40 pe), (aI cI (ad 41) 40 pr), (aI cI (ad 32) 12 wo)] sz)) 0 0 (va_A [(oC10 ad tn td lf), (aI cI (ad 11) 16 tr), (oC1 ad cn), (aI cI (ad 31) 12 fo), (oC7 ad pn), (aI cI (ad 36) 40 pk), (aI cI (ad 37) 40 pf), (aI cI (ad 38) 40 po), (aI cI (ad 39) 40 pd), (aI cI (ad 40) 40 pe), (aI cI (ad 41) 40 pr), (aI cI (ad 32) 12 wo)] sz) := by
  refine Met.ofW (cc := cX10_askMark) (maxL := 3) (ret := (some .int)) (by decide) rfl ?_
  intro p e s m args below meth c s₁ B hml hv
  obtain ⟨rfl, hsz, hP, hK, hD0, hN⟩ := hv
  have hx := B.exec
  have hb := B.bytes
  have hr := B.returns
  have hts := atoms_spec (ws := wsX10_askMark) B.pre
  have hown : s.vm.findClass RX10 = some m.cls := findClass_of_methodNamed B.named
  have hlocks := B.notSynchronized
  subst hsz
  have hD := hD0.self (sz := s.heap.size)
  generalize hAe : va_A [(oC10 ad tn td lf), (aI cI (ad 11) 16 tr), (oC1 ad cn), (aI cI (ad 31) 12 fo), (oC7 ad pn), (aI cI (ad 36) 40 pk), (aI cI (ad 37) 40 pf), (aI cI (ad 38) 40 po), (aI cI (ad 39) 40 pd), (aI cI (ad 40) 40 pe), (aI cI (ad 41) 40 pr), (aI cI (ad 32) 12 wo)] s.heap.size = A at hD ⊢
  have hA : ∀ q : Nat, s.heap.size ≤ q → A q := fun q h => by rw [← hAe]; exact Or.inr h
  have hS : va_S A s.heap s.heap [] := va_S.rf
  have hP : va_P D vwCl [(oC10 ad tn td lf), (aI cI (ad 11) 16 tr), (oC1 ad cn), (aI cI (ad 31) 12 fo), (oC7 ad pn), (aI cI (ad 36) 40 pk), (aI cI (ad 37) 40 pf), (aI cI (ad 38) 40 po), (aI cI (ad 39) 40 pd), (aI cI (ad 40) 40 pe), (aI cI (ad 41) 40 pr), (aI cI (ad 32) 12 wo)] s.heap := hP
  have hl := lv_entry ([.ref (ad 0), .int k, .int w]) (n := 3) (Nat.le_of_ble_eq_true rfl)
  rw [lg_entry_eq]
  generalize (lg_sl ([.ref (ad 0), .int k, .int w]) ++ List.replicate (3 - (lg_sl ([.ref (ad 0), .int k, .int w])).length) Slot.unset).toArray = ls at hl ⊢
  have hl : lv_has ls 3 [(0, .ref (ad 0)), (1, .int k), (2, .int w)] := hl
  refine lv_iload_n hx hb dX10_askMark_0 rfl (lv_at hl 2 rfl) ?_
  rcases (show (w.toInt < 1 ∨ 4 < w.toInt) ∨ w.toInt = 1 ∨ w.toInt = 2 ∨ w.toInt = 3 ∨ w.toInt = 4 by omega) with hsw1 | hsw1 | hsw1 | hsw1 | hsw1
  · skip
    refine lv_tableOut (tgt := 50) hx hb dX10_askMark_1 hsw1 (by decide) ?_
    refine lv_aload_n hx hb dX10_askMark_50 rfl (lv_at hl 0 rfl) ?_
    refine lv_iload_n hx hb dX10_askMark_51 rfl (lv_at hl 1 rfl) ?_
    refine st_i (wr := [(aI cI (ad 32) 12 wo)]) (va_runV (C := RX10) (As := [.int k]) (rest := []) ⟨hx, hb, hml, hown, hts⟩ (ct_X10_markLent l D cI cY cJ cQ _ ad tn td lf cn pn tr fo pk pf po pd pe pr k h1 h2 h3 h4 h5 h6 h7 h8) (cwV 1 hts gX10_askMark_X10_markLent rfl rfl rfl ⟨rfl, cdX10_markLent⟩ ⟨Nat.le_of_ble_eq_true rfl, Nat.le_of_ble_eq_true rfl⟩) (cPreV (hP.sub [0, 1, 2, 3, 4, 5, 6, 7, 8, 9, 10] rfl) hK (hD.sub [0, 1, 2, 3, 4, 5, 6, 7, 8, 9, 10] (by decide +kernel) rfl) hN (ci := 10) (q0 := 0) rfl rfl) rfl rfl hl.1 rfl (lv_room (Nat.le_of_ble_eq_true rfl)) dX10_askMark_52 ⟨Nat.le_of_ble_eq_true rfl, Nat.le_of_ble_eq_true rfl⟩) hP hD hS hA [0, 1, 2, 3, 4, 5, 6, 7, 8, 9, 10] [11] rfl rfl (by decide +kernel) (by decide +kernel) (fun r4 u2 H locs hw3 => ?_)
    clear hP hD hS
    intro hP hD hS
    obtain ⟨tn_5, tr_6⟩ := u2
    replace hw3 : r4 = (owV pk pf po pd pe pr k td td (fo k.toNatClampNeg) pn.toNatClampNeg) ∧ (tn_5, tr_6) = (lvT (tn, tr) 20) ∧ 0 ≤ tn_5.toInt ∧ tn_5.toInt ≤ 16 := hw3
    replace hP : va_P D vwCl [(aI cI (ad 32) 12 wo), (oC10 ad tn_5 td lf), (aI cI (ad 11) 16 tr_6), (oC1 ad cn), (aI cI (ad 31) 12 fo), (oC7 ad pn), (aI cI (ad 36) 40 pk), (aI cI (ad 37) 40 pf), (aI cI (ad 38) 40 po), (aI cI (ad 39) 40 pd), (aI cI (ad 40) 40 pe), (aI cI (ad 41) 40 pr)] H := hP
    replace hD : va_D A [(aI cI (ad 32) 12 wo), (oC10 ad tn_5 td lf), (aI cI (ad 11) 16 tr_6), (oC1 ad cn), (aI cI (ad 31) 12 fo), (oC7 ad pn), (aI cI (ad 36) 40 pk), (aI cI (ad 37) 40 pf), (aI cI (ad 38) 40 po), (aI cI (ad 39) 40 pd), (aI cI (ad 40) 40 pe), (aI cI (ad 41) 40 pr)] := hD
    obtain ⟨hw3r, hw3, hw3a, hw3b⟩ := hw3
    subst hw3r
    have hP9 := hP.sub (ws' := [(oC10 ad tn_5 td lf), (aI cI (ad 11) 16 tr_6), (oC1 ad cn), (aI cI (ad 31) 12 fo), (oC7 ad pn), (aI cI (ad 36) 40 pk), (aI cI (ad 37) 40 pf), (aI cI (ad 38) 40 po), (aI cI (ad 39) 40 pd), (aI cI (ad 40) 40 pe), (aI cI (ad 41) 40 pr), (aI cI (ad 32) 12 wo)]) [1, 2, 3, 4, 5, 6, 7, 8, 9, 10, 11, 0] rfl
    have hD9 := hD.sub (ws' := [(oC10 ad tn_5 td lf), (aI cI (ad 11) 16 tr_6), (oC1 ad cn), (aI cI (ad 31) 12 fo), (oC7 ad pn), (aI cI (ad 36) 40 pk), (aI cI (ad 37) 40 pf), (aI cI (ad 38) 40 po), (aI cI (ad 39) 40 pd), (aI cI (ad 40) 40 pe), (aI cI (ad 41) 40 pr), (aI cI (ad 32) 12 wo)]) [1, 2, 3, 4, 5, 6, 7, 8, 9, 10, 11, 0] (by decide +kernel) rfl
    exact W.iret (v := (owV pk pf po pd pe pr k td td (fo k.toNatClampNeg) pn.toNatClampNeg)) hx hb hr (fun t ht hW => ⟨⟨(owV pk pf po pd pe pr k td td (fo k.toNatClampNeg) pn.toNatClampNeg), (tn_5, tr_6), rfl, (by show ((owV pk pf po pd pe pr k td td (fo k.toNatClampNeg) pn.toNatClampNeg), tn_5, tr_6) = mkF w (wo k.toNatClampNeg) (owV pk pf po pd pe pr k td td (fo k.toNatClampNeg) pn.toNatClampNeg) (tn, tr) ∧ 0 ≤ tn_5.toInt ∧ tn_5.toInt ≤ 16; exact ⟨(by rw [hw3]; unfold mkF; (repeat' split) <;> first | rfl | (exfalso; omega)), by omega, by omega⟩), by rw [ht]; exact hP9, va_K.moved hW.alike hK, hD9⟩, hS.F ht⟩) hS.2.2 dX10_askMark_55
  · skip
    refine lv_tableIn (tgt := 32) (off := 31) hx hb dX10_askMark_1 (by omega) (by omega) (by rw [hsw1]; rfl) (by decide) ?_
    refine lv_aload_n hx hb dX10_askMark_32 rfl (lv_at hl 0 rfl) ?_
    refine lv_iload_n hx hb dX10_askMark_33 rfl (lv_at hl 1 rfl) ?_
    refine st_i (wr := [(aI cI (ad 32) 12 wo)]) (va_runV (C := RX10) (As := [.int k]) (rest := []) ⟨hx, hb, hml, hown, hts⟩ (ct_X10_markOfOwed l D cI cY cJ cQ _ ad tn td lf cn pn tr fo pk pf po pd pe pr k h1 h2 h3 h4 h5 h6 h7 h8) (cwV 1 hts gX10_askMark_X10_markOfOwed rfl rfl rfl ⟨rfl, cdX10_markOfOwed⟩ ⟨Nat.le_of_ble_eq_true rfl, Nat.le_of_ble_eq_true rfl⟩) (cPreV (hP.sub [0, 1, 2, 3, 4, 5, 6, 7, 8, 9, 10] rfl) hK (hD.sub [0, 1, 2, 3, 4, 5, 6, 7, 8, 9, 10] (by decide +kernel) rfl) hN (ci := 10) (q0 := 0) rfl rfl) rfl rfl hl.1 rfl (lv_room (Nat.le_of_ble_eq_true rfl)) dX10_askMark_34 ⟨Nat.le_of_ble_eq_true rfl, Nat.le_of_ble_eq_true rfl⟩) hP hD hS hA [0, 1, 2, 3, 4, 5, 6, 7, 8, 9, 10] [11] rfl rfl (by decide +kernel) (by decide +kernel) (fun r9 u7 H locs hw8 => ?_)
    clear hP hD hS
    intro hP hD hS
    obtain ⟨tn_10, tr_11⟩ := u7
    replace hw8 : r9 = ((owV pk pf po pd pe pr k td td (fo k.toNatClampNeg) pn.toNatClampNeg) + 100) ∧ (tn_10, tr_11) = (lvT (lvT (tn, tr) 21) 20) ∧ 0 ≤ tn_10.toInt ∧ tn_10.toInt ≤ 16 := hw8
    replace hP : va_P D vwCl [(aI cI (ad 32) 12 wo), (oC10 ad tn_10 td lf), (aI cI (ad 11) 16 tr_11), (oC1 ad cn), (aI cI (ad 31) 12 fo), (oC7 ad pn), (aI cI (ad 36) 40 pk), (aI cI (ad 37) 40 pf), (aI cI (ad 38) 40 po), (aI cI (ad 39) 40 pd), (aI cI (ad 40) 40 pe), (aI cI (ad 41) 40 pr)] H := hP
    replace hD : va_D A [(aI cI (ad 32) 12 wo), (oC10 ad tn_10 td lf), (aI cI (ad 11) 16 tr_11), (oC1 ad cn), (aI cI (ad 31) 12 fo), (oC7 ad pn), (aI cI (ad 36) 40 pk), (aI cI (ad 37) 40 pf), (aI cI (ad 38) 40 po), (aI cI (ad 39) 40 pd), (aI cI (ad 40) 40 pe), (aI cI (ad 41) 40 pr)] := hD
    obtain ⟨hw8r, hw8, hw8a, hw8b⟩ := hw8
    subst hw8r
    have hP9 := hP.sub (ws' := [(oC10 ad tn_10 td lf), (aI cI (ad 11) 16 tr_11), (oC1 ad cn), (aI cI (ad 31) 12 fo), (oC7 ad pn), (aI cI (ad 36) 40 pk), (aI cI (ad 37) 40 pf), (aI cI (ad 38) 40 po), (aI cI (ad 39) 40 pd), (aI cI (ad 40) 40 pe), (aI cI (ad 41) 40 pr), (aI cI (ad 32) 12 wo)]) [1, 2, 3, 4, 5, 6, 7, 8, 9, 10, 11, 0] rfl
    have hD9 := hD.sub (ws' := [(oC10 ad tn_10 td lf), (aI cI (ad 11) 16 tr_11), (oC1 ad cn), (aI cI (ad 31) 12 fo), (oC7 ad pn), (aI cI (ad 36) 40 pk), (aI cI (ad 37) 40 pf), (aI cI (ad 38) 40 po), (aI cI (ad 39) 40 pd), (aI cI (ad 40) 40 pe), (aI cI (ad 41) 40 pr), (aI cI (ad 32) 12 wo)]) [1, 2, 3, 4, 5, 6, 7, 8, 9, 10, 11, 0] (by decide +kernel) rfl
    exact W.iret (v := ((owV pk pf po pd pe pr k td td (fo k.toNatClampNeg) pn.toNatClampNeg) + 100)) hx hb hr (fun t ht hW => ⟨⟨((owV pk pf po pd pe pr k td td (fo k.toNatClampNeg) pn.toNatClampNeg) + 100), (tn_10, tr_11), rfl, (by show (((owV pk pf po pd pe pr k td td (fo k.toNatClampNeg) pn.toNatClampNeg) + 100), tn_10, tr_11) = mkF w (wo k.toNatClampNeg) (owV pk pf po pd pe pr k td td (fo k.toNatClampNeg) pn.toNatClampNeg) (tn, tr) ∧ 0 ≤ tn_10.toInt ∧ tn_10.toInt ≤ 16; exact ⟨(by rw [hw8]; unfold mkF; (repeat' split) <;> first | rfl | (exfalso; omega)), by omega, by omega⟩), by rw [ht]; exact hP9, va_K.moved hW.alike hK, hD9⟩, hS.F ht⟩) hS.2.2 dX10_askMark_37
  · skip
    refine lv_tableIn (tgt := 32) (off := 31) hx hb dX10_askMark_1 (by omega) (by omega) (by rw [hsw1]; rfl) (by decide) ?_
    refine lv_aload_n hx hb dX10_askMark_32 rfl (lv_at hl 0 rfl) ?_
    refine lv_iload_n hx hb dX10_askMark_33 rfl (lv_at hl 1 rfl) ?_
    refine st_i (wr := [(aI cI (ad 32) 12 wo)]) (va_runV (C := RX10) (As := [.int k]) (rest := []) ⟨hx, hb, hml, hown, hts⟩ (ct_X10_markOfOwed l D cI cY cJ cQ _ ad tn td lf cn pn tr fo pk pf po pd pe pr k h1 h2 h3 h4 h5 h6 h7 h8) (cwV 1 hts gX10_askMark_X10_markOfOwed rfl rfl rfl ⟨rfl, cdX10_markOfOwed⟩ ⟨Nat.le_of_ble_eq_true rfl, Nat.le_of_ble_eq_true rfl⟩) (cPreV (hP.sub [0, 1, 2, 3, 4, 5, 6, 7, 8, 9, 10] rfl) hK (hD.sub [0, 1, 2, 3, 4, 5, 6, 7, 8, 9, 10] (by decide +kernel) rfl) hN (ci := 10) (q0 := 0) rfl rfl) rfl rfl hl.1 rfl (lv_room (Nat.le_of_ble_eq_true rfl)) dX10_askMark_34 ⟨Nat.le_of_ble_eq_true rfl, Nat.le_of_ble_eq_true rfl⟩) hP hD hS hA [0, 1, 2, 3, 4, 5, 6, 7, 8, 9, 10] [11] rfl rfl (by decide +kernel) (by decide +kernel) (fun r14 u12 H locs hw13 => ?_)
    clear hP hD hS
    intro hP hD hS
    obtain ⟨tn_15, tr_16⟩ := u12
    replace hw13 : r14 = ((owV pk pf po pd pe pr k td td (fo k.toNatClampNeg) pn.toNatClampNeg) + 100) ∧ (tn_15, tr_16) = (lvT (lvT (tn, tr) 21) 20) ∧ 0 ≤ tn_15.toInt ∧ tn_15.toInt ≤ 16 := hw13
    replace hP : va_P D vwCl [(aI cI (ad 32) 12 wo), (oC10 ad tn_15 td lf), (aI cI (ad 11) 16 tr_16), (oC1 ad cn), (aI cI (ad 31) 12 fo), (oC7 ad pn), (aI cI (ad 36) 40 pk), (aI cI (ad 37) 40 pf), (aI cI (ad 38) 40 po), (aI cI (ad 39) 40 pd), (aI cI (ad 40) 40 pe), (aI cI (ad 41) 40 pr)] H := hP
    replace hD : va_D A [(aI cI (ad 32) 12 wo), (oC10 ad tn_15 td lf), (aI cI (ad 11) 16 tr_16), (oC1 ad cn), (aI cI (ad 31) 12 fo), (oC7 ad pn), (aI cI (ad 36) 40 pk), (aI cI (ad 37) 40 pf), (aI cI (ad 38) 40 po), (aI cI (ad 39) 40 pd), (aI cI (ad 40) 40 pe), (aI cI (ad 41) 40 pr)] := hD
    obtain ⟨hw13r, hw13, hw13a, hw13b⟩ := hw13
    subst hw13r
    have hP9 := hP.sub (ws' := [(oC10 ad tn_15 td lf), (aI cI (ad 11) 16 tr_16), (oC1 ad cn), (aI cI (ad 31) 12 fo), (oC7 ad pn), (aI cI (ad 36) 40 pk), (aI cI (ad 37) 40 pf), (aI cI (ad 38) 40 po), (aI cI (ad 39) 40 pd), (aI cI (ad 40) 40 pe), (aI cI (ad 41) 40 pr), (aI cI (ad 32) 12 wo)]) [1, 2, 3, 4, 5, 6, 7, 8, 9, 10, 11, 0] rfl
    have hD9 := hD.sub (ws' := [(oC10 ad tn_15 td lf), (aI cI (ad 11) 16 tr_16), (oC1 ad cn), (aI cI (ad 31) 12 fo), (oC7 ad pn), (aI cI (ad 36) 40 pk), (aI cI (ad 37) 40 pf), (aI cI (ad 38) 40 po), (aI cI (ad 39) 40 pd), (aI cI (ad 40) 40 pe), (aI cI (ad 41) 40 pr), (aI cI (ad 32) 12 wo)]) [1, 2, 3, 4, 5, 6, 7, 8, 9, 10, 11, 0] (by decide +kernel) rfl
    exact W.iret (v := ((owV pk pf po pd pe pr k td td (fo k.toNatClampNeg) pn.toNatClampNeg) + 100)) hx hb hr (fun t ht hW => ⟨⟨((owV pk pf po pd pe pr k td td (fo k.toNatClampNeg) pn.toNatClampNeg) + 100), (tn_15, tr_16), rfl, (by show (((owV pk pf po pd pe pr k td td (fo k.toNatClampNeg) pn.toNatClampNeg) + 100), tn_15, tr_16) = mkF w (wo k.toNatClampNeg) (owV pk pf po pd pe pr k td td (fo k.toNatClampNeg) pn.toNatClampNeg) (tn, tr) ∧ 0 ≤ tn_15.toInt ∧ tn_15.toInt ≤ 16; exact ⟨(by rw [hw13]; unfold mkF; (repeat' split) <;> first | rfl | (exfalso; omega)), by omega, by omega⟩), by rw [ht]; exact hP9, va_K.moved hW.alike hK, hD9⟩, hS.F ht⟩) hS.2.2 dX10_askMark_37
  · skip
    refine lv_tableIn (tgt := 38) (off := 37) hx hb dX10_askMark_1 (by omega) (by omega) (by rw [hsw1]; rfl) (by decide) ?_
    refine lv_aload_n hx hb dX10_askMark_38 rfl (lv_at hl 0 rfl) ?_
    refine lv_iload_n hx hb dX10_askMark_39 rfl (lv_at hl 1 rfl) ?_
    refine st_i (wr := [(aI cI (ad 32) 12 wo)]) (va_runV (C := RX10) (As := [.int k]) (rest := []) ⟨hx, hb, hml, hown, hts⟩ (ct_X10_markOfStopped l D cI cY cJ cQ _ ad tn td lf cn pn tr fo pk pf po pd pe pr k h1 h2 h3 h4 h5 h6 h7 h8) (cwV 1 hts gX10_askMark_X10_markOfStopped rfl rfl rfl ⟨rfl, cdX10_markOfStopped⟩ ⟨Nat.le_of_ble_eq_true rfl, Nat.le_of_ble_eq_true rfl⟩) (cPreV (hP.sub [0, 1, 2, 3, 4, 5, 6, 7, 8, 9, 10] rfl) hK (hD.sub [0, 1, 2, 3, 4, 5, 6, 7, 8, 9, 10] (by decide +kernel) rfl) hN (ci := 10) (q0 := 0) rfl rfl) rfl rfl hl.1 rfl (lv_room (Nat.le_of_ble_eq_true rfl)) dX10_askMark_40 ⟨Nat.le_of_ble_eq_true rfl, Nat.le_of_ble_eq_true rfl⟩) hP hD hS hA [0, 1, 2, 3, 4, 5, 6, 7, 8, 9, 10] [11] rfl rfl (by decide +kernel) (by decide +kernel) (fun r19 u17 H locs hw18 => ?_)
    clear hP hD hS
    intro hP hD hS
    obtain ⟨tn_20, tr_21⟩ := u17
    replace hw18 : r19 = ((owV pk pf po pd pe pr k td td (fo k.toNatClampNeg) pn.toNatClampNeg) + 1000) ∧ (tn_20, tr_21) = (lvT (lvT (tn, tr) 22) 20) ∧ 0 ≤ tn_20.toInt ∧ tn_20.toInt ≤ 16 := hw18
    replace hP : va_P D vwCl [(aI cI (ad 32) 12 wo), (oC10 ad tn_20 td lf), (aI cI (ad 11) 16 tr_21), (oC1 ad cn), (aI cI (ad 31) 12 fo), (oC7 ad pn), (aI cI (ad 36) 40 pk), (aI cI (ad 37) 40 pf), (aI cI (ad 38) 40 po), (aI cI (ad 39) 40 pd), (aI cI (ad 40) 40 pe), (aI cI (ad 41) 40 pr)] H := hP
    replace hD : va_D A [(aI cI (ad 32) 12 wo), (oC10 ad tn_20 td lf), (aI cI (ad 11) 16 tr_21), (oC1 ad cn), (aI cI (ad 31) 12 fo), (oC7 ad pn), (aI cI (ad 36) 40 pk), (aI cI (ad 37) 40 pf), (aI cI (ad 38) 40 po), (aI cI (ad 39) 40 pd), (aI cI (ad 40) 40 pe), (aI cI (ad 41) 40 pr)] := hD
    obtain ⟨hw18r, hw18, hw18a, hw18b⟩ := hw18
    subst hw18r
    have hP9 := hP.sub (ws' := [(oC10 ad tn_20 td lf), (aI cI (ad 11) 16 tr_21), (oC1 ad cn), (aI cI (ad 31) 12 fo), (oC7 ad pn), (aI cI (ad 36) 40 pk), (aI cI (ad 37) 40 pf), (aI cI (ad 38) 40 po), (aI cI (ad 39) 40 pd), (aI cI (ad 40) 40 pe), (aI cI (ad 41) 40 pr), (aI cI (ad 32) 12 wo)]) [1, 2, 3, 4, 5, 6, 7, 8, 9, 10, 11, 0] rfl
    have hD9 := hD.sub (ws' := [(oC10 ad tn_20 td lf), (aI cI (ad 11) 16 tr_21), (oC1 ad cn), (aI cI (ad 31) 12 fo), (oC7 ad pn), (aI cI (ad 36) 40 pk), (aI cI (ad 37) 40 pf), (aI cI (ad 38) 40 po), (aI cI (ad 39) 40 pd), (aI cI (ad 40) 40 pe), (aI cI (ad 41) 40 pr), (aI cI (ad 32) 12 wo)]) [1, 2, 3, 4, 5, 6, 7, 8, 9, 10, 11, 0] (by decide +kernel) rfl
    exact W.iret (v := ((owV pk pf po pd pe pr k td td (fo k.toNatClampNeg) pn.toNatClampNeg) + 1000)) hx hb hr (fun t ht hW => ⟨⟨((owV pk pf po pd pe pr k td td (fo k.toNatClampNeg) pn.toNatClampNeg) + 1000), (tn_20, tr_21), rfl, (by show (((owV pk pf po pd pe pr k td td (fo k.toNatClampNeg) pn.toNatClampNeg) + 1000), tn_20, tr_21) = mkF w (wo k.toNatClampNeg) (owV pk pf po pd pe pr k td td (fo k.toNatClampNeg) pn.toNatClampNeg) (tn, tr) ∧ 0 ≤ tn_20.toInt ∧ tn_20.toInt ≤ 16; exact ⟨(by rw [hw18]; unfold mkF; (repeat' split) <;> first | rfl | (exfalso; omega)), by omega, by omega⟩), by rw [ht]; exact hP9, va_K.moved hW.alike hK, hD9⟩, hS.F ht⟩) hS.2.2 dX10_askMark_43
  · skip
    refine lv_tableIn (tgt := 44) (off := 43) hx hb dX10_askMark_1 (by omega) (by omega) (by rw [hsw1]; rfl) (by decide) ?_
    refine lv_aload_n hx hb dX10_askMark_44 rfl (lv_at hl 0 rfl) ?_
    refine lv_iload_n hx hb dX10_askMark_45 rfl (lv_at hl 1 rfl) ?_
    refine st_i (wr := []) (va_runV (C := RX10) (As := [.int k]) (rest := []) ⟨hx, hb, hml, hown, hts⟩ (ct_X10_markOfClean l D cI cY cJ cQ _ ad tn td lf cn pn tr fo pk pf po pd pe pr wo k h1 h2 h3 h4 h5 h6 h7 h8) (cwV 1 hts gX10_askMark_X10_markOfClean rfl rfl rfl ⟨rfl, cdX10_markOfClean⟩ ⟨Nat.le_of_ble_eq_true rfl, Nat.le_of_ble_eq_true rfl⟩) (cPreV (hP.sub [0, 1, 2, 3, 4, 5, 6, 7, 8, 9, 10, 11] rfl) hK (hD.sub [0, 1, 2, 3, 4, 5, 6, 7, 8, 9, 10, 11] (by decide +kernel) rfl) hN (ci := 10) (q0 := 0) rfl rfl) rfl rfl hl.1 rfl (lv_room (Nat.le_of_ble_eq_true rfl)) dX10_askMark_46 ⟨Nat.le_of_ble_eq_true rfl, Nat.le_of_ble_eq_true rfl⟩) hP hD hS hA [0, 1, 2, 3, 4, 5, 6, 7, 8, 9, 10, 11] [] rfl rfl (by decide +kernel) (by decide +kernel) (fun r24 u22 H locs hw23 => ?_)
    clear hP hD hS
    intro hP hD hS
    obtain ⟨tn_25, tr_26⟩ := u22
    replace hw23 : r24 = ((owV pk pf po pd pe pr k td td (fo k.toNatClampNeg) pn.toNatClampNeg) + wo k.toNatClampNeg) ∧ (tn_25, tr_26) = (lvT (lvT (lvT (tn, tr) 23) 20) 10) ∧ 0 ≤ tn_25.toInt ∧ tn_25.toInt ≤ 16 := hw23
    replace hP : va_P D vwCl [(oC10 ad tn_25 td lf), (aI cI (ad 11) 16 tr_26), (oC1 ad cn), (aI cI (ad 31) 12 fo), (oC7 ad pn), (aI cI (ad 36) 40 pk), (aI cI (ad 37) 40 pf), (aI cI (ad 38) 40 po), (aI cI (ad 39) 40 pd), (aI cI (ad 40) 40 pe), (aI cI (ad 41) 40 pr), (aI cI (ad 32) 12 wo)] H := hP
    replace hD : va_D A [(oC10 ad tn_25 td lf), (aI cI (ad 11) 16 tr_26), (oC1 ad cn), (aI cI (ad 31) 12 fo), (oC7 ad pn), (aI cI (ad 36) 40 pk), (aI cI (ad 37) 40 pf), (aI cI (ad 38) 40 po), (aI cI (ad 39) 40 pd), (aI cI (ad 40) 40 pe), (aI cI (ad 41) 40 pr), (aI cI (ad 32) 12 wo)] := hD
    obtain ⟨hw23r, hw23, hw23a, hw23b⟩ := hw23
    subst hw23r
    have hP9 := hP
    have hD9 := hD
    exact W.iret (v := ((owV pk pf po pd pe pr k td td (fo k.toNatClampNeg) pn.toNatClampNeg) + wo k.toNatClampNeg)) hx hb hr (fun t ht hW => ⟨⟨((owV pk pf po pd pe pr k td td (fo k.toNatClampNeg) pn.toNatClampNeg) + wo k.toNatClampNeg), (tn_25, tr_26), rfl, (by show (((owV pk pf po pd pe pr k td td (fo k.toNatClampNeg) pn.toNatClampNeg) + wo k.toNatClampNeg), tn_25, tr_26) = mkF w (wo k.toNatClampNeg) (owV pk pf po pd pe pr k td td (fo k.toNatClampNeg) pn.toNatClampNeg) (tn, tr) ∧ 0 ≤ tn_25.toInt ∧ tn_25.toInt ≤ 16; exact ⟨(by rw [hw23]; unfold mkF; (repeat' split) <;> first | rfl | (exfalso; omega)), by omega, by omega⟩), by rw [ht]; exact hP9, va_K.moved hW.alike hK, hD9⟩, hS.F ht⟩) hS.2.2 dX10_askMark_49

def sp_ask (tn : Int32) (tr : Nat → Int32) (cn pn hn lc gn td : Int32) (fo wo pk pf po pd pe pr ho hc hp hs lp la lb gk gs ge : Nat → Int32) (k w : Int32) : Int32 × Int32 × (Nat → Int32) := if 0 ≤ k.toInt ∧ k.toInt < cn.toInt ∧ 0 ≤ w.toInt ∧ w.toInt < 2 then (if w.toInt = 0 then szF (kd_day pn hn lc gn td fo wo pk pf po pd pe pr ho hc hp hs lp la lb gk gs ge k) (wo k.toNatClampNeg) (suV gk gs ge k td gn.toNatClampNeg) (owV pk pf po pd pe pr k td td (fo k.toNatClampNeg) pn.toNatClampNeg) (0, tr) else mkF (kd_day pn hn lc gn td fo wo pk pf po pd pe pr ho hc hp hs lp la lb gk gs ge k) (wo k.toNatClampNeg) (owV pk pf po pd pe pr k td td (fo k.toNatClampNeg) pn.toNatClampNeg) (0, tr)) else (-1000001, tn, tr)

set_option maxHeartbeats 4000000 in
set_option maxRecDepth 100000 in
theorem ct_X10_ask (l : Launch) (D : va_G) (cI cY cJ cQ : ClassId) (sz : Nat) (ad : Nat → Nat) (tn td lf cn pn hn lc gn : Int32) (fo pk pf po pd pe pr ho hc hp hs pt ps ha re lp la lb wo gk gs gd ge tr : Nat → Int32) (k : Int32) (w : Int32)  (h1 : 0 ≤ cn.toInt) (h2 : cn.toInt ≤ 12) (h3 : 0 ≤ pn.toInt) (h4 : pn.toInt ≤ 40) (h5 : okO pn pr) (h6 : 0 ≤ hn.toInt) (h7 : hn.toInt ≤ 40) (h8 : okH hn ho hc) (h9 : okV hn hp) (h10 : 0 ≤ lc.toInt) (h11 : lc.toInt ≤ 20) (h12 : 0 ≤ gn.toInt) (h13 : gn.toInt ≤ 40) (h14 : okF cn fo) (h15 : okG pn po) (h16 : 0 ≤ tn.toInt) (h17 : tn.toInt ≤ 16)  : Met l yX10_ask wsX10_ask ({ frames := 17, cells := 0, slots := 0, locals := 494 }) (cPre D (ty4 cI cY cJ cQ) [(oC10 ad tn td lf), (oC1 ad cn), (aI cI (ad 31) 12 fo), (oC7 ad pn), (aI cI (ad 36) 40 pk), (aI cI (ad 37) 40 pf), (aI cI (ad 38) 40 po), (aI cI (ad 39) 40 pd), (aI cI (ad 40) 40 pe), (aI cI (ad 41) 40 pr), (oC3 ad hn), (aI cI (ad 23) 40 ho), (aI cI (ad 24) 40 hc), (aI cI (ad 25) 40 hp), (aI cI (ad 26) 40 hs), (aI cI (ad 27) 200 pt), (aI cI (ad 28) 200 ps), (aI cI (ad 29) 20 ha), (aI cI (ad 30) 10 re), (oC4 ad lc), (aI cI (ad 63) 20 lp), (aI cI (ad 64) 20 la), (aI cI (ad 65) 20 lb), (aI cI (ad 32) 12 wo), (oC8 ad gn), (aI cI (ad 42) 40 gk), (aI cI (ad 43) 40 gs), (aI cI (ad 44) 40 gd), (aI cI (ad 45) 40 ge), (aI cI (ad 11) 16 tr)] sz [.ref (ad 0), .int k, .int w]) (va_Qi (fun (r : Int32) (u : Int32 × (Nat → Int32) × (Nat → Int32) × (Nat → Int32) × (Nat → Int32) × (Nat → Int32)) => (r, u.1, u.2.1) = sp_ask tn tr cn pn hn lc gn td fo wo pk pf po pd pe pr ho hc hp hs lp la lb gk gs ge k w ∧ 0 ≤ u.1.toInt ∧ u.1.toInt ≤ 16) (cB D (ty4 cI cY cJ cQ) (fun (u : Int32 × (Nat → Int32) × (Nat → Int32) × (Nat → Int32) × (Nat → Int32) × (Nat → Int32)) => [(oC10 ad u.1 td lf), (oC1 ad cn), (aI cI (ad 31) 12 fo), (oC7 ad pn), (aI cI (ad 36) 40 pk), (aI cI (ad 37) 40 pf), (aI cI (ad 38) 40 po), (aI cI (ad 39) 40 pd), (aI cI (ad 40) 40 pe), (aI cI (ad 41) 40 pr), (oC3 ad hn), (aI cI (ad 23) 40 ho), (aI cI (ad 24) 40 hc), (aI cI (ad 25) 40 hp), (aI cI (ad 26) 40 hs), (aI cI (ad 27) 200 u.2.2.1), (aI cI (ad 28) 200 u.2.2.2.1), (aI cI (ad 29) 20 u.2.2.2.2.1), (aI cI (ad 30) 10 u.2.2.2.2.2), (oC4 ad lc), (aI cI (ad 63) 20 lp), (aI cI (ad 64) 20 la), (aI cI (ad 65) 20 lb), (aI cI (ad 32) 12 wo), (oC8 ad gn), (aI cI (ad 42) 40 gk), (aI cI (ad 43) 40 gs), (aI cI (ad 44) 40 gd), (aI cI (ad 45) 40 ge), (aI cI (ad 11) 16 u.2.1)]) (va_A [(oC10 ad tn td lf), (oC1 ad cn), (aI cI (ad 31) 12 fo), (oC7 ad pn), (aI cI (ad 36) 40 pk), (aI cI (ad 37) 40 pf), (aI cI (ad 38) 40 po), (aI cI (ad 39) 40 pd), (aI cI (ad 40) 40 pe), (aI cI (ad 41) 40 pr), (oC3 ad hn), (aI cI (ad 23) 40 ho), (aI cI (ad 24) 40 hc), (aI cI (ad 25) 40 hp), (aI cI (ad 26) 40 hs), (aI cI (ad 27) 200 pt), (aI cI (ad 28) 200 ps), (aI cI (ad 29) 20 ha), (aI cI (ad 30) 10 re), (oC4 ad lc), (aI cI (ad 63) 20 lp), (aI cI (ad 64) 20 la), (aI cI (ad 65) 20 lb), (aI cI (ad 32) 12 wo), (oC8 ad gn), (aI cI (ad 42) 40 gk), (aI cI (ad 43) 40 gs), (aI cI (ad 44) 40 gd), (aI cI (ad 45) 40 ge), (aI cI (ad 11) 16 tr)] sz)) (va_A [(oC10 ad tn td lf), (oC1 ad cn), (aI cI (ad 31) 12 fo), (oC7 ad pn), (aI cI (ad 36) 40 pk), (aI cI (ad 37) 40 pf), (aI cI (ad 38) 40 po), (aI cI (ad 39) 40 pd), (aI cI (ad 40) 40 pe), (aI cI (ad 41) 40 pr), (oC3 ad hn), (aI cI (ad 23) 40 ho), (aI cI (ad 24) 40 hc), (aI cI (ad 25) 40 hp), (aI cI (ad 26) 40 hs), (aI cI (ad 27) 200 pt), (aI cI (ad 28) 200 ps), (aI cI (ad 29) 20 ha), (aI cI (ad 30) 10 re), (oC4 ad lc), (aI cI (ad 63) 20 lp), (aI cI (ad 64) 20 la), (aI cI (ad 65) 20 lb), (aI cI (ad 32) 12 wo), (oC8 ad gn), (aI cI (ad 42) 40 gk), (aI cI (ad 43) 40 gs), (aI cI (ad 44) 40 gd), (aI cI (ad 45) 40 ge), (aI cI (ad 11) 16 tr)] sz)) 0 0 (va_A [(oC10 ad tn td lf), (oC1 ad cn), (aI cI (ad 31) 12 fo), (oC7 ad pn), (aI cI (ad 36) 40 pk), (aI cI (ad 37) 40 pf), (aI cI (ad 38) 40 po), (aI cI (ad 39) 40 pd), (aI cI (ad 40) 40 pe), (aI cI (ad 41) 40 pr), (oC3 ad hn), (aI cI (ad 23) 40 ho), (aI cI (ad 24) 40 hc), (aI cI (ad 25) 40 hp), (aI cI (ad 26) 40 hs), (aI cI (ad 27) 200 pt), (aI cI (ad 28) 200 ps), (aI cI (ad 29) 20 ha), (aI cI (ad 30) 10 re), (oC4 ad lc), (aI cI (ad 63) 20 lp), (aI cI (ad 64) 20 la), (aI cI (ad 65) 20 lb), (aI cI (ad 32) 12 wo), (oC8 ad gn), (aI cI (ad 42) 40 gk), (aI cI (ad 43) 40 gs), (aI cI (ad 44) 40 gd), (aI cI (ad 45) 40 ge), (aI cI (ad 11) 16 tr)] sz) := by
  refine Met.ofW (cc := cX10_ask) (maxL := 4) (ret := (some .int)) (by decide) rfl ?_
  intro p e s m args below meth c s₁ B hml hv
  obtain ⟨rfl, hsz, hP, hK, hD0, hN⟩ := hv
  have hx := B.exec
  have hb := B.bytes
  have hr := B.returns
  have hts := atoms_spec (ws := wsX10_ask) B.pre
  have hown : s.vm.findClass RX10 = some m.cls := findClass_of_methodNamed B.named
  have hlocks := B.notSynchronized
  subst hsz
  have hD := hD0.self (sz := s.heap.size)
  generalize hAe : va_A [(oC10 ad tn td lf), (oC1 ad cn), (aI cI (ad 31) 12 fo), (oC7 ad pn), (aI cI (ad 36) 40 pk), (aI cI (ad 37) 40 pf), (aI cI (ad 38) 40 po), (aI cI (ad 39) 40 pd), (aI cI (ad 40) 40 pe), (aI cI (ad 41) 40 pr), (oC3 ad hn), (aI cI (ad 23) 40 ho), (aI cI (ad 24) 40 hc), (aI cI (ad 25) 40 hp), (aI cI (ad 26) 40 hs), (aI cI (ad 27) 200 pt), (aI cI (ad 28) 200 ps), (aI cI (ad 29) 20 ha), (aI cI (ad 30) 10 re), (oC4 ad lc), (aI cI (ad 63) 20 lp), (aI cI (ad 64) 20 la), (aI cI (ad 65) 20 lb), (aI cI (ad 32) 12 wo), (oC8 ad gn), (aI cI (ad 42) 40 gk), (aI cI (ad 43) 40 gs), (aI cI (ad 44) 40 gd), (aI cI (ad 45) 40 ge), (aI cI (ad 11) 16 tr)] s.heap.size = A at hD ⊢
  have hA : ∀ q : Nat, s.heap.size ≤ q → A q := fun q h => by rw [← hAe]; exact Or.inr h
  have hS : va_S A s.heap s.heap [] := va_S.rf
  have hP : va_P D vwCl [(oC10 ad tn td lf), (oC1 ad cn), (aI cI (ad 31) 12 fo), (oC7 ad pn), (aI cI (ad 36) 40 pk), (aI cI (ad 37) 40 pf), (aI cI (ad 38) 40 po), (aI cI (ad 39) 40 pd), (aI cI (ad 40) 40 pe), (aI cI (ad 41) 40 pr), (oC3 ad hn), (aI cI (ad 23) 40 ho), (aI cI (ad 24) 40 hc), (aI cI (ad 25) 40 hp), (aI cI (ad 26) 40 hs), (aI cI (ad 27) 200 pt), (aI cI (ad 28) 200 ps), (aI cI (ad 29) 20 ha), (aI cI (ad 30) 10 re), (oC4 ad lc), (aI cI (ad 63) 20 lp), (aI cI (ad 64) 20 la), (aI cI (ad 65) 20 lb), (aI cI (ad 32) 12 wo), (oC8 ad gn), (aI cI (ad 42) 40 gk), (aI cI (ad 43) 40 gs), (aI cI (ad 44) 40 gd), (aI cI (ad 45) 40 ge), (aI cI (ad 11) 16 tr)] s.heap := hP
  have hl := lv_entry ([.ref (ad 0), .int k, .int w]) (n := 4) (Nat.le_of_ble_eq_true rfl)
  rw [lg_entry_eq]
  generalize (lg_sl ([.ref (ad 0), .int k, .int w]) ++ List.replicate (4 - (lg_sl ([.ref (ad 0), .int k, .int w])).length) Slot.unset).toArray = ls at hl ⊢
  have hl : lv_has ls 4 [(0, .ref (ad 0)), (1, .int k), (2, .int w)] := hl
  have km1000001 : (-1000001 : Int32).toInt = -1000001 := by decide
  have k0 : (0 : Int32).toInt = 0 := by decide
  have k2 : (2 : Int32).toInt = 2 := by decide
  refine lv_aload_n hx hb dX10_ask_0 rfl (lv_at hl 0 rfl) ?_
  refine lv_iload_n hx hb dX10_ask_1 rfl (lv_at hl 1 rfl) ?_
  refine st_i1 (va_runV (C := RX10) (As := [.int k]) (rest := []) ⟨hx, hb, hml, hown, hts⟩ (ct_X10_isCrate l D cI cY cJ cQ _ ad tn td lf cn k) (cwV 1 hts gX10_ask_X10_isCrate rfl rfl rfl ⟨rfl, cdX10_isCrate⟩ ⟨Nat.le_of_ble_eq_true rfl, Nat.le_of_ble_eq_true rfl⟩) (cPreV (hP.sub [0, 1] rfl) hK (hD.sub [0, 1] (by decide +kernel) rfl) hN (ci := 10) (q0 := 0) rfl rfl) rfl rfl hl.1 rfl (lv_room (Nat.le_of_ble_eq_true rfl)) dX10_ask_2 ⟨Nat.le_of_ble_eq_true rfl, Nat.le_of_ble_eq_true rfl⟩) hP hD hS hA [0, 1] rfl (fun _ => rfl) (fun r3 u1 H locs hw2 => ?_)
  clear hP hS
  intro hP hS
  replace hw2 : r3 = if 0 ≤ k.toInt ∧ k.toInt < cn.toInt then 1 else 0 := hw2
  refine lv_if_eq (tgt := 16) hx hb dX10_ask_5 (by decide) (fun c4 => ?_) (fun c4 => ?_)
  · skip
    have f5 := bo_f hw2 c4
    refine lv_ldc hx hb hown (hts (Cond.constant RX10 89 (-1000001)) (wm_t (wm_l (wm_i 0 rfl)))) dX10_ask_16 ?_
    have hP9 := hP
    have hD9 := hD
    exact W.iret (v := (-1000001)) hx hb hr (fun t ht hW => ⟨⟨(-1000001), (tn, tr, pt, ps, ha, re), rfl, (by show (((-1000001) : Int32), tn, tr) = sp_ask tn tr cn pn hn lc gn td fo wo pk pf po pd pe pr ho hc hp hs lp la lb gk gs ge k w ∧ 0 ≤ tn.toInt ∧ tn.toInt ≤ 16; exact ⟨(by unfold sp_ask; rw [if_neg (by omega)]), by omega, by omega⟩), by rw [ht]; exact hP9, va_K.moved hW.alike hK, hD9⟩, hS.F ht⟩) hS.2.2 dX10_ask_18
  · skip
    have f6 := bo_t hw2 c4
    refine lv_iload_n hx hb dX10_ask_8 rfl (lv_at hl 2 rfl) ?_
    refine lv_iconst (v := 2) hx hb dX10_ask_9 (by decide) ?_
    refine st_i1 (va_runS (As := [.int w, .int 2]) (rest := []) ⟨hx, hb, hml, hown, hts⟩ (ct_X10_isBelow l D cI cY cJ cQ _ w (2 : Int32)) (va_cwS 2 hts gX10_ask_X10_isBelow rfl rfl rfl cdX10_isBelow ⟨Nat.le_of_ble_eq_true rfl, Nat.le_of_ble_eq_true rfl⟩) (cPreS (hP.sub [] rfl) hK (hD.sub [] (by decide +kernel) rfl) hN) rfl rfl hl.1 rfl (lv_room (Nat.le_of_ble_eq_true rfl)) dX10_ask_10 ⟨Nat.le_of_ble_eq_true rfl, Nat.le_of_ble_eq_true rfl⟩) hP hD hS hA [] rfl (fun _ => rfl) (fun r9 u7 H locs hw8 => ?_)
    clear hP hS
    intro hP hS
    replace hw8 : r9 = if 0 ≤ w.toInt ∧ w.toInt < (2 : Int32).toInt then 1 else 0 := hw8
    refine lv_if_ne (tgt := 19) hx hb dX10_ask_13 (by decide) (fun c10 => ?_) (fun c10 => ?_)
    · skip
      have f11 := bo_t hw8 c10
      refine lv_aload_n hx hb dX10_ask_19 rfl (lv_at hl 0 rfl) ?_
      refine lv_iconst (v := 0) hx hb dX10_ask_20 (by decide) ?_
      refine va_put (D := D) (ci := 10) (v := .int 0) (ty := .int) (C := RX10) (T := TX10) (N := 14) hx hb hts inX10_ask_X10 tyX10 tyX10_ok nmX10 hown hK hP hD hS 0 rfl rfl 11 (by decide) (hts (Cond.fieldLink RX10 307 "PortRooms" "traced" "I") (wm_t (wm_l (wm_i 1 rfl)))) (fun _ h9 => h9) rfl (tyX10_ok 11 (by decide)) rfl rfl (Nat.le_of_ble_eq_true rfl) dX10_ask_21 (fun H locs => ?_)
      clear hP hD hS
      intro hP hD hS
      replace hP : va_P D vwCl [(oC10 ad (0) td lf), (oC1 ad cn), (aI cI (ad 31) 12 fo), (oC7 ad pn), (aI cI (ad 36) 40 pk), (aI cI (ad 37) 40 pf), (aI cI (ad 38) 40 po), (aI cI (ad 39) 40 pd), (aI cI (ad 40) 40 pe), (aI cI (ad 41) 40 pr), (oC3 ad hn), (aI cI (ad 23) 40 ho), (aI cI (ad 24) 40 hc), (aI cI (ad 25) 40 hp), (aI cI (ad 26) 40 hs), (aI cI (ad 27) 200 pt), (aI cI (ad 28) 200 ps), (aI cI (ad 29) 20 ha), (aI cI (ad 30) 10 re), (oC4 ad lc), (aI cI (ad 63) 20 lp), (aI cI (ad 64) 20 la), (aI cI (ad 65) 20 lb), (aI cI (ad 32) 12 wo), (oC8 ad gn), (aI cI (ad 42) 40 gk), (aI cI (ad 43) 40 gs), (aI cI (ad 44) 40 gd), (aI cI (ad 45) 40 ge), (aI cI (ad 11) 16 tr)] H := hP
      replace hD : va_D A [(oC10 ad (0) td lf), (oC1 ad cn), (aI cI (ad 31) 12 fo), (oC7 ad pn), (aI cI (ad 36) 40 pk), (aI cI (ad 37) 40 pf), (aI cI (ad 38) 40 po), (aI cI (ad 39) 40 pd), (aI cI (ad 40) 40 pe), (aI cI (ad 41) 40 pr), (oC3 ad hn), (aI cI (ad 23) 40 ho), (aI cI (ad 24) 40 hc), (aI cI (ad 25) 40 hp), (aI cI (ad 26) 40 hs), (aI cI (ad 27) 200 pt), (aI cI (ad 28) 200 ps), (aI cI (ad 29) 20 ha), (aI cI (ad 30) 10 re), (oC4 ad lc), (aI cI (ad 63) 20 lp), (aI cI (ad 64) 20 la), (aI cI (ad 65) 20 lb), (aI cI (ad 32) 12 wo), (oC8 ad gn), (aI cI (ad 42) 40 gk), (aI cI (ad 43) 40 gs), (aI cI (ad 44) 40 gd), (aI cI (ad 45) 40 ge), (aI cI (ad 11) 16 tr)] := hD
      refine lv_aload_n hx hb dX10_ask_24 rfl (lv_at hl 0 rfl) ?_
      refine lv_iload_n hx hb dX10_ask_25 rfl (lv_at hl 1 rfl) ?_
      refine st_i (wr := [(aI cI (ad 11) 16 tr)]) (va_runV (C := RX10) (As := [.int k]) (rest := []) ⟨hx, hb, hml, hown, hts⟩ (ct_X10_kindToday l D cI cY cJ cQ _ ad 0 td lf cn pn hn lc gn fo pk pf po pd pe pr ho hc hp hs pt ps ha re lp la lb wo gk gs gd ge k h2 (by omega) (by omega) h3 h4 h5 h6 h7 h8 h9 h10 h11 h12 h13 h14 h15) (cwV 1 hts gX10_ask_X10_kindToday rfl rfl rfl ⟨rfl, cdX10_kindToday⟩ ⟨Nat.le_of_ble_eq_true rfl, Nat.le_of_ble_eq_true rfl⟩) (cPreV (hP.sub [0, 1, 2, 3, 4, 5, 6, 7, 8, 9, 10, 11, 12, 13, 14, 15, 16, 17, 18, 19, 20, 21, 22, 23, 24, 25, 26, 27, 28] rfl) hK (hD.sub [0, 1, 2, 3, 4, 5, 6, 7, 8, 9, 10, 11, 12, 13, 14, 15, 16, 17, 18, 19, 20, 21, 22, 23, 24, 25, 26, 27, 28] (by decide +kernel) rfl) hN (ci := 10) (q0 := 0) rfl rfl) rfl rfl hl.1 rfl (lv_room (Nat.le_of_ble_eq_true rfl)) dX10_ask_26 ⟨Nat.le_of_ble_eq_true rfl, Nat.le_of_ble_eq_true rfl⟩) hP hD hS hA [0, 1, 2, 3, 4, 5, 6, 7, 8, 9, 10, 11, 12, 13, 14, 15, 16, 17, 18, 19, 20, 21, 22, 23, 24, 25, 26, 27, 28] [29] rfl rfl (by decide +kernel) (by decide +kernel) (fun r14 u12 H locs hw13 => ?_)
      clear hP hD hS
      intro hP hD hS
      obtain ⟨pt_15, ps_16, ha_17, re_18⟩ := u12
      replace hw13 : r14 = kdF (brV (ppF ho hc hp hs td hn.toNatClampNeg) (poV lp la lb td lc.toNatClampNeg) (owV pk pf po pd pe pr k td td (fo k.toNatClampNeg) pn.toNatClampNeg).toNatClampNeg 10) (suV gk gs ge k td gn.toNatClampNeg) (wo k.toNatClampNeg) := hw13
      replace hP : va_P D vwCl [(aI cI (ad 11) 16 tr), (oC10 ad (0) td lf), (oC1 ad cn), (aI cI (ad 31) 12 fo), (oC7 ad pn), (aI cI (ad 36) 40 pk), (aI cI (ad 37) 40 pf), (aI cI (ad 38) 40 po), (aI cI (ad 39) 40 pd), (aI cI (ad 40) 40 pe), (aI cI (ad 41) 40 pr), (oC3 ad hn), (aI cI (ad 23) 40 ho), (aI cI (ad 24) 40 hc), (aI cI (ad 25) 40 hp), (aI cI (ad 26) 40 hs), (aI cI (ad 27) 200 pt_15), (aI cI (ad 28) 200 ps_16), (aI cI (ad 29) 20 ha_17), (aI cI (ad 30) 10 re_18), (oC4 ad lc), (aI cI (ad 63) 20 lp), (aI cI (ad 64) 20 la), (aI cI (ad 65) 20 lb), (aI cI (ad 32) 12 wo), (oC8 ad gn), (aI cI (ad 42) 40 gk), (aI cI (ad 43) 40 gs), (aI cI (ad 44) 40 gd), (aI cI (ad 45) 40 ge)] H := hP
      replace hD : va_D A [(aI cI (ad 11) 16 tr), (oC10 ad (0) td lf), (oC1 ad cn), (aI cI (ad 31) 12 fo), (oC7 ad pn), (aI cI (ad 36) 40 pk), (aI cI (ad 37) 40 pf), (aI cI (ad 38) 40 po), (aI cI (ad 39) 40 pd), (aI cI (ad 40) 40 pe), (aI cI (ad 41) 40 pr), (oC3 ad hn), (aI cI (ad 23) 40 ho), (aI cI (ad 24) 40 hc), (aI cI (ad 25) 40 hp), (aI cI (ad 26) 40 hs), (aI cI (ad 27) 200 pt_15), (aI cI (ad 28) 200 ps_16), (aI cI (ad 29) 20 ha_17), (aI cI (ad 30) 10 re_18), (oC4 ad lc), (aI cI (ad 63) 20 lp), (aI cI (ad 64) 20 la), (aI cI (ad 65) 20 lb), (aI cI (ad 32) 12 wo), (oC8 ad gn), (aI cI (ad 42) 40 gk), (aI cI (ad 43) 40 gs), (aI cI (ad 44) 40 gd), (aI cI (ad 45) 40 ge)] := hD
      subst hw13
      refine lv_istore_n (lv' := [(3, .int (kdF (brV (ppF ho hc hp hs td hn.toNatClampNeg) (poV lp la lb td lc.toNatClampNeg) (owV pk pf po pd pe pr k td td (fo k.toNatClampNeg) pn.toNatClampNeg).toNatClampNeg 10) (suV gk gs ge k td gn.toNatClampNeg) (wo k.toNatClampNeg))), (0, .ref (ad 0)), (1, .int k), (2, .int w)]) hx hb dX10_ask_29 rfl hl (by decide) rfl (fun ls hl => ?_)
      refine lv_iload_n hx hb dX10_ask_30 rfl (lv_at hl 3 rfl) ?_
      refine lv_if_ne (tgt := 43) hx hb dX10_ask_31 (by decide) (fun c19 => ?_) (fun c19 => ?_)
      · skip
        have f20 := i_ne c19
        refine lv_aload_n hx hb dX10_ask_43 rfl (lv_at hl 1 rfl) ?_
        refine lv_iload_n hx hb dX10_ask_44 rfl (lv_at hl 2 rfl) ?_
        refine lv_iload_n hx hb dX10_ask_45 rfl (lv_at hl 0 rfl) ?_
        refine st_i (wr := [(oC3 ad hn), (aI cI (ad 23) 40 ho), (aI cI (ad 24) 40 hc), (aI cI (ad 25) 40 hp), (aI cI (ad 26) 40 hs), (aI cI (ad 27) 200 pt_15), (aI cI (ad 28) 200 ps_16), (aI cI (ad 29) 20 ha_17), (aI cI (ad 30) 10 re_18), (oC4 ad lc), (aI cI (ad 63) 20 lp), (aI cI (ad 64) 20 la), (aI cI (ad 65) 20 lb), (oC8 ad gn), (aI cI (ad 42) 40 gk), (aI cI (ad 43) 40 gs), (aI cI (ad 44) 40 gd), (aI cI (ad 45) 40 ge)]) (va_runV (C := RX10) (As := [.int k, .int (kdF (brV (ppF ho hc hp hs td hn.toNatClampNeg) (poV lp la lb td lc.toNatClampNeg) (owV pk pf po pd pe pr k td td (fo k.toNatClampNeg) pn.toNatClampNeg).toNatClampNeg 10) (suV gk gs ge k td gn.toNatClampNeg) (wo k.toNatClampNeg))]) (rest := []) ⟨hx, hb, hml, hown, hts⟩ (ct_X10_askMark l D cI cY cJ cQ _ ad 0 td lf cn pn tr fo pk pf po pd pe pr wo k (kdF (brV (ppF ho hc hp hs td hn.toNatClampNeg) (poV lp la lb td lc.toNatClampNeg) (owV pk pf po pd pe pr k td td (fo k.toNatClampNeg) pn.toNatClampNeg).toNatClampNeg 10) (suV gk gs ge k td gn.toNatClampNeg) (wo k.toNatClampNeg)) h2 (by omega) (by omega) (by omega) (by omega) h3 h4 h5) (cwV 2 hts gX10_ask_X10_askMark rfl rfl rfl ⟨rfl, cdX10_askMark⟩ ⟨Nat.le_of_ble_eq_true rfl, Nat.le_of_ble_eq_true rfl⟩) (cPreV (hP.sub [1, 0, 2, 3, 4, 5, 6, 7, 8, 9, 10, 24] rfl) hK (hD.sub [1, 0, 2, 3, 4, 5, 6, 7, 8, 9, 10, 24] (by decide +kernel) rfl) hN (ci := 10) (q0 := 0) rfl rfl) rfl rfl hl.1 rfl (lv_room (Nat.le_of_ble_eq_true rfl)) dX10_ask_46 ⟨Nat.le_of_ble_eq_true rfl, Nat.le_of_ble_eq_true rfl⟩) hP hD hS hA [1, 0, 2, 3, 4, 5, 6, 7, 8, 9, 10, 24] [11, 12, 13, 14, 15, 16, 17, 18, 19, 20, 21, 22, 23, 25, 26, 27, 28, 29] rfl rfl (by decide +kernel) (by decide +kernel) (fun r23 u21 H locs hw22 => ?_)
        clear hP hD hS
        intro hP hD hS
        obtain ⟨tn_24, tr_25⟩ := u21
        replace hw22 : (r23, (tn_24, tr_25)) = mkF (kdF (brV (ppF ho hc hp hs td hn.toNatClampNeg) (poV lp la lb td lc.toNatClampNeg) (owV pk pf po pd pe pr k td td (fo k.toNatClampNeg) pn.toNatClampNeg).toNatClampNeg 10) (suV gk gs ge k td gn.toNatClampNeg) (wo k.toNatClampNeg)) (wo k.toNatClampNeg) (owV pk pf po pd pe pr k td td (fo k.toNatClampNeg) pn.toNatClampNeg) ((0 : Int32), tr) ∧ 0 ≤ tn_24.toInt ∧ tn_24.toInt ≤ 16 := hw22
        replace hP : va_P D vwCl [(oC3 ad hn), (aI cI (ad 23) 40 ho), (aI cI (ad 24) 40 hc), (aI cI (ad 25) 40 hp), (aI cI (ad 26) 40 hs), (aI cI (ad 27) 200 pt_15), (aI cI (ad 28) 200 ps_16), (aI cI (ad 29) 20 ha_17), (aI cI (ad 30) 10 re_18), (oC4 ad lc), (aI cI (ad 63) 20 lp), (aI cI (ad 64) 20 la), (aI cI (ad 65) 20 lb), (oC8 ad gn), (aI cI (ad 42) 40 gk), (aI cI (ad 43) 40 gs), (aI cI (ad 44) 40 gd), (aI cI (ad 45) 40 ge), (oC10 ad tn_24 td lf), (aI cI (ad 11) 16 tr_25), (oC1 ad cn), (aI cI (ad 31) 12 fo), (oC7 ad pn), (aI cI (ad 36) 40 pk), (aI cI (ad 37) 40 pf), (aI cI (ad 38) 40 po), (aI cI (ad 39) 40 pd), (aI cI (ad 40) 40 pe), (aI cI (ad 41) 40 pr), (aI cI (ad 32) 12 wo)] H := hP
        replace hD : va_D A [(oC3 ad hn), (aI cI (ad 23) 40 ho), (aI cI (ad 24) 40 hc), (aI cI (ad 25) 40 hp), (aI cI (ad 26) 40 hs), (aI cI (ad 27) 200 pt_15), (aI cI (ad 28) 200 ps_16), (aI cI (ad 29) 20 ha_17), (aI cI (ad 30) 10 re_18), (oC4 ad lc), (aI cI (ad 63) 20 lp), (aI cI (ad 64) 20 la), (aI cI (ad 65) 20 lb), (oC8 ad gn), (aI cI (ad 42) 40 gk), (aI cI (ad 43) 40 gs), (aI cI (ad 44) 40 gd), (aI cI (ad 45) 40 ge), (oC10 ad tn_24 td lf), (aI cI (ad 11) 16 tr_25), (oC1 ad cn), (aI cI (ad 31) 12 fo), (oC7 ad pn), (aI cI (ad 36) 40 pk), (aI cI (ad 37) 40 pf), (aI cI (ad 38) 40 po), (aI cI (ad 39) 40 pd), (aI cI (ad 40) 40 pe), (aI cI (ad 41) 40 pr), (aI cI (ad 32) 12 wo)] := hD
        obtain ⟨hw22, hw22a, hw22b⟩ := hw22
        have hP9 := hP.sub (ws' := [(oC10 ad tn_24 td lf), (oC1 ad cn), (aI cI (ad 31) 12 fo), (oC7 ad pn), (aI cI (ad 36) 40 pk), (aI cI (ad 37) 40 pf), (aI cI (ad 38) 40 po), (aI cI (ad 39) 40 pd), (aI cI (ad 40) 40 pe), (aI cI (ad 41) 40 pr), (oC3 ad hn), (aI cI (ad 23) 40 ho), (aI cI (ad 24) 40 hc), (aI cI (ad 25) 40 hp), (aI cI (ad 26) 40 hs), (aI cI (ad 27) 200 pt_15), (aI cI (ad 28) 200 ps_16), (aI cI (ad 29) 20 ha_17), (aI cI (ad 30) 10 re_18), (oC4 ad lc), (aI cI (ad 63) 20 lp), (aI cI (ad 64) 20 la), (aI cI (ad 65) 20 lb), (aI cI (ad 32) 12 wo), (oC8 ad gn), (aI cI (ad 42) 40 gk), (aI cI (ad 43) 40 gs), (aI cI (ad 44) 40 gd), (aI cI (ad 45) 40 ge), (aI cI (ad 11) 16 tr_25)]) [18, 20, 21, 22, 23, 24, 25, 26, 27, 28, 0, 1, 2, 3, 4, 5, 6, 7, 8, 9, 10, 11, 12, 29, 13, 14, 15, 16, 17, 19] rfl
        have hD9 := hD.sub (ws' := [(oC10 ad tn_24 td lf), (oC1 ad cn), (aI cI (ad 31) 12 fo), (oC7 ad pn), (aI cI (ad 36) 40 pk), (aI cI (ad 37) 40 pf), (aI cI (ad 38) 40 po), (aI cI (ad 39) 40 pd), (aI cI (ad 40) 40 pe), (aI cI (ad 41) 40 pr), (oC3 ad hn), (aI cI (ad 23) 40 ho), (aI cI (ad 24) 40 hc), (aI cI (ad 25) 40 hp), (aI cI (ad 26) 40 hs), (aI cI (ad 27) 200 pt_15), (aI cI (ad 28) 200 ps_16), (aI cI (ad 29) 20 ha_17), (aI cI (ad 30) 10 re_18), (oC4 ad lc), (aI cI (ad 63) 20 lp), (aI cI (ad 64) 20 la), (aI cI (ad 65) 20 lb), (aI cI (ad 32) 12 wo), (oC8 ad gn), (aI cI (ad 42) 40 gk), (aI cI (ad 43) 40 gs), (aI cI (ad 44) 40 gd), (aI cI (ad 45) 40 ge), (aI cI (ad 11) 16 tr_25)]) [18, 20, 21, 22, 23, 24, 25, 26, 27, 28, 0, 1, 2, 3, 4, 5, 6, 7, 8, 9, 10, 11, 12, 29, 13, 14, 15, 16, 17, 19] (by decide +kernel) rfl
        exact W.iret (v := r23) hx hb hr (fun t ht hW => ⟨⟨r23, (tn_24, tr_25, pt_15, ps_16, ha_17, re_18), rfl, (by show (r23, tn_24, tr_25) = sp_ask tn tr cn pn hn lc gn td fo wo pk pf po pd pe pr ho hc hp hs lp la lb gk gs ge k w ∧ 0 ≤ tn_24.toInt ∧ tn_24.toInt ≤ 16; exact ⟨(by unfold sp_ask; rw [if_pos (by omega)]; first | (rw [if_pos (by omega)]; exact hw22) | (rw [if_neg (by omega)]; exact hw22)), by omega, by omega⟩), by rw [ht]; exact hP9, va_K.moved hW.alike hK, hD9⟩, hS.F ht⟩) hS.2.2 dX10_ask_49
      · skip
        have f26 := i_eq c19
        refine lv_aload_n hx hb dX10_ask_34 rfl (lv_at hl 1 rfl) ?_
        refine lv_iload_n hx hb dX10_ask_35 rfl (lv_at hl 2 rfl) ?_
        refine lv_iload_n hx hb dX10_ask_36 rfl (lv_at hl 0 rfl) ?_
        refine st_i (wr := [(oC3 ad hn), (aI cI (ad 23) 40 ho), (aI cI (ad 24) 40 hc), (aI cI (ad 25) 40 hp), (aI cI (ad 26) 40 hs), (aI cI (ad 27) 200 pt_15), (aI cI (ad 28) 200 ps_16), (aI cI (ad 29) 20 ha_17), (aI cI (ad 30) 10 re_18), (oC4 ad lc), (aI cI (ad 63) 20 lp), (aI cI (ad 64) 20 la), (aI cI (ad 65) 20 lb)]) (va_runV (C := RX10) (As := [.int k, .int (kdF (brV (ppF ho hc hp hs td hn.toNatClampNeg) (poV lp la lb td lc.toNatClampNeg) (owV pk pf po pd pe pr k td td (fo k.toNatClampNeg) pn.toNatClampNeg).toNatClampNeg 10) (suV gk gs ge k td gn.toNatClampNeg) (wo k.toNatClampNeg))]) (rest := []) ⟨hx, hb, hml, hown, hts⟩ (ct_X10_askSize l D cI cY cJ cQ _ ad 0 td lf cn pn gn tr fo pk pf po pd pe pr wo gk gs gd ge k (kdF (brV (ppF ho hc hp hs td hn.toNatClampNeg) (poV lp la lb td lc.toNatClampNeg) (owV pk pf po pd pe pr k td td (fo k.toNatClampNeg) pn.toNatClampNeg).toNatClampNeg 10) (suV gk gs ge k td gn.toNatClampNeg) (wo k.toNatClampNeg)) h2 (by omega) (by omega) (by omega) (by omega) h3 h4 h5 h12 h13) (cwV 2 hts gX10_ask_X10_askSize rfl rfl rfl ⟨rfl, cdX10_askSize⟩ ⟨Nat.le_of_ble_eq_true rfl, Nat.le_of_ble_eq_true rfl⟩) (cPreV (hP.sub [1, 0, 2, 3, 4, 5, 6, 7, 8, 9, 10, 24, 25, 26, 27, 28, 29] rfl) hK (hD.sub [1, 0, 2, 3, 4, 5, 6, 7, 8, 9, 10, 24, 25, 26, 27, 28, 29] (by decide +kernel) rfl) hN (ci := 10) (q0 := 0) rfl rfl) rfl rfl hl.1 rfl (lv_room (Nat.le_of_ble_eq_true rfl)) dX10_ask_37 ⟨Nat.le_of_ble_eq_true rfl, Nat.le_of_ble_eq_true rfl⟩) hP hD hS hA [1, 0, 2, 3, 4, 5, 6, 7, 8, 9, 10, 24, 25, 26, 27, 28, 29] [11, 12, 13, 14, 15, 16, 17, 18, 19, 20, 21, 22, 23] rfl rfl (by decide +kernel) (by decide +kernel) (fun r29 u27 H locs hw28 => ?_)
        clear hP hD hS
        intro hP hD hS
        obtain ⟨tn_30, tr_31⟩ := u27
        replace hw28 : (r29, (tn_30, tr_31)) = szF (kdF (brV (ppF ho hc hp hs td hn.toNatClampNeg) (poV lp la lb td lc.toNatClampNeg) (owV pk pf po pd pe pr k td td (fo k.toNatClampNeg) pn.toNatClampNeg).toNatClampNeg 10) (suV gk gs ge k td gn.toNatClampNeg) (wo k.toNatClampNeg)) (wo k.toNatClampNeg) (suV gk gs ge k td gn.toNatClampNeg) (owV pk pf po pd pe pr k td td (fo k.toNatClampNeg) pn.toNatClampNeg) ((0 : Int32), tr) ∧ 0 ≤ tn_30.toInt ∧ tn_30.toInt ≤ 16 := hw28
        replace hP : va_P D vwCl [(oC3 ad hn), (aI cI (ad 23) 40 ho), (aI cI (ad 24) 40 hc), (aI cI (ad 25) 40 hp), (aI cI (ad 26) 40 hs), (aI cI (ad 27) 200 pt_15), (aI cI (ad 28) 200 ps_16), (aI cI (ad 29) 20 ha_17), (aI cI (ad 30) 10 re_18), (oC4 ad lc), (aI cI (ad 63) 20 lp), (aI cI (ad 64) 20 la), (aI cI (ad 65) 20 lb), (oC10 ad tn_30 td lf), (aI cI (ad 11) 16 tr_31), (oC1 ad cn), (aI cI (ad 31) 12 fo), (oC7 ad pn), (aI cI (ad 36) 40 pk), (aI cI (ad 37) 40 pf), (aI cI (ad 38) 40 po), (aI cI (ad 39) 40 pd), (aI cI (ad 40) 40 pe), (aI cI (ad 41) 40 pr), (aI cI (ad 32) 12 wo), (oC8 ad gn), (aI cI (ad 42) 40 gk), (aI cI (ad 43) 40 gs), (aI cI (ad 44) 40 gd), (aI cI (ad 45) 40 ge)] H := hP
        replace hD : va_D A [(oC3 ad hn), (aI cI (ad 23) 40 ho), (aI cI (ad 24) 40 hc), (aI cI (ad 25) 40 hp), (aI cI (ad 26) 40 hs), (aI cI (ad 27) 200 pt_15), (aI cI (ad 28) 200 ps_16), (aI cI (ad 29) 20 ha_17), (aI cI (ad 30) 10 re_18), (oC4 ad lc), (aI cI (ad 63) 20 lp), (aI cI (ad 64) 20 la), (aI cI (ad 65) 20 lb), (oC10 ad tn_30 td lf), (aI cI (ad 11) 16 tr_31), (oC1 ad cn), (aI cI (ad 31) 12 fo), (oC7 ad pn), (aI cI (ad 36) 40 pk), (aI cI (ad 37) 40 pf), (aI cI (ad 38) 40 po), (aI cI (ad 39) 40 pd), (aI cI (ad 40) 40 pe), (aI cI (ad 41) 40 pr), (aI cI (ad 32) 12 wo), (oC8 ad gn), (aI cI (ad 42) 40 gk), (aI cI (ad 43) 40 gs), (aI cI (ad 44) 40 gd), (aI cI (ad 45) 40 ge)] := hD
        obtain ⟨hw28, hw28a, hw28b⟩ := hw28
        refine lv_goto (tgt := 49) hx hb dX10_ask_40 (by decide) ?_
        have hP9 := hP.sub (ws' := [(oC10 ad tn_30 td lf), (oC1 ad cn), (aI cI (ad 31) 12 fo), (oC7 ad pn), (aI cI (ad 36) 40 pk), (aI cI (ad 37) 40 pf), (aI cI (ad 38) 40 po), (aI cI (ad 39) 40 pd), (aI cI (ad 40) 40 pe), (aI cI (ad 41) 40 pr), (oC3 ad hn), (aI cI (ad 23) 40 ho), (aI cI (ad 24) 40 hc), (aI cI (ad 25) 40 hp), (aI cI (ad 26) 40 hs), (aI cI (ad 27) 200 pt_15), (aI cI (ad 28) 200 ps_16), (aI cI (ad 29) 20 ha_17), (aI cI (ad 30) 10 re_18), (oC4 ad lc), (aI cI (ad 63) 20 lp), (aI cI (ad 64) 20 la), (aI cI (ad 65) 20 lb), (aI cI (ad 32) 12 wo), (oC8 ad gn), (aI cI (ad 42) 40 gk), (aI cI (ad 43) 40 gs), (aI cI (ad 44) 40 gd), (aI cI (ad 45) 40 ge), (aI cI (ad 11) 16 tr_31)]) [13, 15, 16, 17, 18, 19, 20, 21, 22, 23, 0, 1, 2, 3, 4, 5, 6, 7, 8, 9, 10, 11, 12, 24, 25, 26, 27, 28, 29, 14] rfl
        have hD9 := hD.sub (ws' := [(oC10 ad tn_30 td lf), (oC1 ad cn), (aI cI (ad 31) 12 fo), (oC7 ad pn), (aI cI (ad 36) 40 pk), (aI cI (ad 37) 40 pf), (aI cI (ad 38) 40 po), (aI cI (ad 39) 40 pd), (aI cI (ad 40) 40 pe), (aI cI (ad 41) 40 pr), (oC3 ad hn), (aI cI (ad 23) 40 ho), (aI cI (ad 24) 40 hc), (aI cI (ad 25) 40 hp), (aI cI (ad 26) 40 hs), (aI cI (ad 27) 200 pt_15), (aI cI (ad 28) 200 ps_16), (aI cI (ad 29) 20 ha_17), (aI cI (ad 30) 10 re_18), (oC4 ad lc), (aI cI (ad 63) 20 lp), (aI cI (ad 64) 20 la), (aI cI (ad 65) 20 lb), (aI cI (ad 32) 12 wo), (oC8 ad gn), (aI cI (ad 42) 40 gk), (aI cI (ad 43) 40 gs), (aI cI (ad 44) 40 gd), (aI cI (ad 45) 40 ge), (aI cI (ad 11) 16 tr_31)]) [13, 15, 16, 17, 18, 19, 20, 21, 22, 23, 0, 1, 2, 3, 4, 5, 6, 7, 8, 9, 10, 11, 12, 24, 25, 26, 27, 28, 29, 14] (by decide +kernel) rfl
        exact W.iret (v := r29) hx hb hr (fun t ht hW => ⟨⟨r29, (tn_30, tr_31, pt_15, ps_16, ha_17, re_18), rfl, (by show (r29, tn_30, tr_31) = sp_ask tn tr cn pn hn lc gn td fo wo pk pf po pd pe pr ho hc hp hs lp la lb gk gs ge k w ∧ 0 ≤ tn_30.toInt ∧ tn_30.toInt ≤ 16; exact ⟨(by unfold sp_ask; rw [if_pos (by omega)]; first | (rw [if_pos (by omega)]; exact hw28) | (rw [if_neg (by omega)]; exact hw28)), by omega, by omega⟩), by rw [ht]; exact hP9, va_K.moved hW.alike hK, hD9⟩, hS.F ht⟩) hS.2.2 dX10_ask_49
    · skip
      have f32 := bo_f hw8 c10
      refine lv_ldc hx hb hown (hts (Cond.constant RX10 89 (-1000001)) (wm_t (wm_l (wm_i 0 rfl)))) dX10_ask_16 ?_
      have hP9 := hP
      have hD9 := hD
      exact W.iret (v := (-1000001)) hx hb hr (fun t ht hW => ⟨⟨(-1000001), (tn, tr, pt, ps, ha, re), rfl, (by show (((-1000001) : Int32), tn, tr) = sp_ask tn tr cn pn hn lc gn td fo wo pk pf po pd pe pr ho hc hp hs lp la lb gk gs ge k w ∧ 0 ≤ tn.toInt ∧ tn.toInt ≤ 16; exact ⟨(by unfold sp_ask; rw [if_neg (by omega)]), by omega, by omega⟩), by rw [ht]; exact hP9, va_K.moved hW.alike hK, hD9⟩, hS.F ht⟩) hS.2.2 dX10_ask_18

def sp_trace (tn : Int32) (tr : Nat → Int32) (i : Int32) : Int32 := if 0 ≤ i.toInt ∧ i.toInt < tn.toInt then tr i.toNatClampNeg else -1000000

set_option maxHeartbeats 4000000 in
set_option maxRecDepth 100000 in
theorem ct_X10_trace (l : Launch) (D : va_G) (cI cY cJ cQ : ClassId) (sz : Nat) (ad : Nat → Nat) (tn td lf : Int32) (tr : Nat → Int32) (i : Int32)  (h1 : 0 ≤ tn.toInt) (h2 : tn.toInt ≤ 16)  : Met l yX10_trace wsX10_trace ({ frames := 1, cells := 0, slots := 0, locals := 21 }) (cPre D (ty4 cI cY cJ cQ) [(oC10 ad tn td lf), (aI cI (ad 11) 16 tr)] sz [.ref (ad 0), .int i]) (va_Qi (fun (r : Int32) (u : Unit) => r = sp_trace tn tr i) (cB D (ty4 cI cY cJ cQ) (fun (u : Unit) => [(oC10 ad tn td lf), (aI cI (ad 11) 16 tr)]) (va_A [(oC10 ad tn td lf), (aI cI (ad 11) 16 tr)] sz)) (va_A [(oC10 ad tn td lf), (aI cI (ad 11) 16 tr)] sz)) 0 0 (va_A [(oC10 ad tn td lf), (aI cI (ad 11) 16 tr)] sz) := by
  refine Met.ofW (cc := cX10_trace) (maxL := 2) (ret := (some .int)) (by decide) rfl ?_
  intro p e s m args below meth c s₁ B hml hv
  obtain ⟨rfl, hsz, hP, hK, hD0, hN⟩ := hv
  have hx := B.exec
  have hb := B.bytes
  have hr := B.returns
  have hts := atoms_spec (ws := wsX10_trace) B.pre
  have hown : s.vm.findClass RX10 = some m.cls := findClass_of_methodNamed B.named
  have hlocks := B.notSynchronized
  subst hsz
  have hD := hD0.self (sz := s.heap.size)
  generalize hAe : va_A [(oC10 ad tn td lf), (aI cI (ad 11) 16 tr)] s.heap.size = A at hD ⊢
  have hA : ∀ q : Nat, s.heap.size ≤ q → A q := fun q h => by rw [← hAe]; exact Or.inr h
  have hS : va_S A s.heap s.heap [] := va_S.rf
  have hP : va_P D vwCl [(oC10 ad tn td lf), (aI cI (ad 11) 16 tr)] s.heap := hP
  have hl := lv_entry ([.ref (ad 0), .int i]) (n := 2) (Nat.le_of_ble_eq_true rfl)
  rw [lg_entry_eq]
  generalize (lg_sl ([.ref (ad 0), .int i]) ++ List.replicate (2 - (lg_sl ([.ref (ad 0), .int i])).length) Slot.unset).toArray = ls at hl ⊢
  have hl : lv_has ls 2 [(0, .ref (ad 0)), (1, .int i)] := hl
  have km1000000 : (-1000000 : Int32).toInt = -1000000 := by decide
  have k0 : (0 : Int32).toInt = 0 := by decide
  refine lv_iload_n hx hb dX10_trace_0 rfl (lv_at hl 1 rfl) ?_
  refine lv_aload_n hx hb dX10_trace_1 rfl (lv_at hl 0 rfl) ?_
  refine va_get (D := D) (ci := 10) (v := .int tn) (C := RX10) (T := TX10) (N := 14) hx hb hts inX10_trace_X10 hown hK hP 0 rfl rfl 11 (by decide) (hts (Cond.fieldLink RX10 307 "PortRooms" "traced" "I") (wm_t (wm_l (wm_i 0 rfl)))) (fun _ h9 => h9) rfl dX10_trace_2 ?_
  refine st_i1 (va_runS (As := [.int i, .int tn]) (rest := []) ⟨hx, hb, hml, hown, hts⟩ (ct_X10_isBelow l D cI cY cJ cQ _ i tn) (va_cwS 2 hts gX10_trace_X10_isBelow rfl rfl rfl cdX10_isBelow ⟨Nat.le_of_ble_eq_true rfl, Nat.le_of_ble_eq_true rfl⟩) (cPreS (hP.sub [] rfl) hK (hD.sub [] (by decide +kernel) rfl) hN) rfl rfl hl.1 rfl (lv_room (Nat.le_of_ble_eq_true rfl)) dX10_trace_5 ⟨Nat.le_of_ble_eq_true rfl, Nat.le_of_ble_eq_true rfl⟩) hP hD hS hA [] rfl (fun _ => rfl) (fun r3 u1 H locs hw2 => ?_)
  clear hP hS
  intro hP hS
  replace hw2 : r3 = if 0 ≤ i.toInt ∧ i.toInt < tn.toInt then 1 else 0 := hw2
  refine lv_if_eq (tgt := 20) hx hb dX10_trace_8 (by decide) (fun c4 => ?_) (fun c4 => ?_)
  · skip
    have f5 := bo_f hw2 c4
    refine lv_ldc hx hb hown (hts (Cond.constant RX10 169 (-1000000)) (wm_t (wm_l (wm_i 2 rfl)))) dX10_trace_20 ?_
    have hP9 := hP
    have hD9 := hD
    exact W.iret (v := (-1000000)) hx hb hr (fun t ht hW => ⟨⟨(-1000000), (), rfl, (by unfold sp_trace; (repeat' split) <;> first | rfl | (exfalso; omega) | (subst_vars; rfl)), by rw [ht]; exact hP9, va_K.moved hW.alike hK, hD9⟩, hS.F ht⟩) hS.2.2 dX10_trace_22
  · skip
    have f6 := bo_t hw2 c4
    refine lv_aload_n hx hb dX10_trace_11 rfl (lv_at hl 0 rfl) ?_
    refine va_get (D := D) (ci := 10) (v := .ref (ad 11)) (C := RX10) (T := TX10) (N := 14) hx hb hts inX10_trace_X10 hown hK hP 0 rfl rfl 10 (by decide) (hts (Cond.fieldLink RX10 72 "PortRooms" "trace" "[I") (wm_t (wm_l (wm_i 1 rfl)))) (fun _ h9 => h9) rfl dX10_trace_12 ?_
    refine lv_iload_n hx hb dX10_trace_15 rfl (lv_at hl 1 rfl) ?_
    refine va_iald hx hb hK hP 1 0 rfl rfl (i_in (by omega) (by omega)) dX10_trace_16 ?_
    refine lv_topi (fun v7 ev7 => ?_)
    refine lv_goto (tgt := 22) hx hb dX10_trace_17 (by decide) ?_
    have hP9 := hP
    have hD9 := hD
    exact W.iret (v := v7) hx hb hr (fun t ht hW => ⟨⟨v7, (), rfl, (by unfold sp_trace; (repeat' split) <;> first | rfl | (exfalso; omega) | (subst_vars; rfl)), by rw [ht]; exact hP9, va_K.moved hW.alike hK, hD9⟩, hS.F ht⟩) hS.2.2 dX10_trace_22
