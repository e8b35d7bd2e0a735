theorem Gd_X00 : gdA wsX00 := gd_all (by decide +kernel)
theorem cdX0_tell : yX0_tell.cls ≠ "java/lang/invoke/MethodHandle" ∧ yX0_tell.cls ≠ "java/lang/invoke/VarHandle" ∧ (parseMethodDescriptor yX0_tell.desc).map (fun d => d.parameters.length) = some 4 := by decide +kernel
theorem Gd_X10 : gdA wsX10 := gd_all (by decide +kernel)
theorem cdX1_tell : yX1_tell.cls ≠ "java/lang/invoke/MethodHandle" ∧ yX1_tell.cls ≠ "java/lang/invoke/VarHandle" ∧ (parseMethodDescriptor yX1_tell.desc).map (fun d => d.parameters.length) = some 2 := by decide +kernel
theorem Gd_X30 : gdA wsX30 := gd_all (by decide +kernel)
theorem cdX3_tell : yX3_tell.cls ≠ "java/lang/invoke/MethodHandle" ∧ yX3_tell.cls ≠ "java/lang/invoke/VarHandle" ∧ (parseMethodDescriptor yX3_tell.desc).map (fun d => d.parameters.length) = some 4 := by decide +kernel
theorem Gd_X40 : gdA wsX40 := gd_all (by decide +kernel)
theorem cdX4_tell : yX4_tell.cls ≠ "java/lang/invoke/MethodHandle" ∧ yX4_tell.cls ≠ "java/lang/invoke/VarHandle" ∧ (parseMethodDescriptor yX4_tell.desc).map (fun d => d.parameters.length) = some 3 := by decide +kernel
theorem Gd_X60 : gdA wsX60 := gd_all (by decide +kernel)
theorem cdX6_tell : yX6_tell.cls ≠ "java/lang/invoke/MethodHandle" ∧ yX6_tell.cls ≠ "java/lang/invoke/VarHandle" ∧ (parseMethodDescriptor yX6_tell.desc).map (fun d => d.parameters.length) = some 4 := by decide +kernel
theorem Gd_X80 : gdA wsX80 := gd_all (by decide +kernel)
theorem cdX8_tell : yX8_tell.cls ≠ "java/lang/invoke/MethodHandle" ∧ yX8_tell.cls ≠ "java/lang/invoke/VarHandle" ∧ (parseMethodDescriptor yX8_tell.desc).map (fun d => d.parameters.length) = some 4 := by decide +kernel
theorem Gd_X100 : gdA wsX100 := gd_all (by decide +kernel)
theorem cdX10_isFrom : yX10_isFrom.cls ≠ "java/lang/invoke/MethodHandle" ∧ yX10_isFrom.cls ≠ "java/lang/invoke/VarHandle" ∧ (parseMethodDescriptor yX10_isFrom.desc).map (fun d => d.parameters.length) = some 3 := by decide +kernel
theorem cdX10_areDays : yX10_areDays.cls ≠ "java/lang/invoke/MethodHandle" ∧ yX10_areDays.cls ≠ "java/lang/invoke/VarHandle" ∧ (parseMethodDescriptor yX10_areDays.desc).map (fun d => d.parameters.length) = some 2 := by decide +kernel
theorem cdX10_isPair : yX10_isPair.cls ≠ "java/lang/invoke/MethodHandle" ∧ yX10_isPair.cls ≠ "java/lang/invoke/VarHandle" ∧ (parseMethodDescriptor yX10_isPair.desc).map (fun d => d.parameters.length) = some 2 := by decide +kernel
theorem cdX10_isCrate : yX10_isCrate.cls ≠ "java/lang/invoke/MethodHandle" ∧ yX10_isCrate.cls ≠ "java/lang/invoke/VarHandle" ∧ (parseMethodDescriptor yX10_isCrate.desc).map (fun d => d.parameters.length) = some 1 := by decide +kernel
theorem Gd_X0_tell : gdA wsX0_tell := gd_cons (by decide +kernel) (gd_app (gd_all (ws := wsX0_tell_o1) (by decide +kernel)) Gd_X00)
theorem inX0_tell_X0 : ∀ w ∈ u_ws RX0 TX0 5, w ∈ wsX0_tell := fun _ h => (List.mem_cons_of_mem _ (List.mem_append_right _ h))
theorem Gd_X1_tell : gdA wsX1_tell := gd_cons (by decide +kernel) (gd_app (gd_all (ws := wsX1_tell_o1) (by decide +kernel)) Gd_X10)
theorem inX1_tell_X1 : ∀ w ∈ u_ws RX1 TX1 6, w ∈ wsX1_tell := fun _ h => (List.mem_cons_of_mem _ (List.mem_append_right _ h))
theorem Gd_X3_tell : gdA wsX3_tell := gd_cons (by decide +kernel) (gd_app (gd_all (ws := wsX3_tell_o1) (by decide +kernel)) Gd_X30)
theorem inX3_tell_X3 : ∀ w ∈ u_ws RX3 TX3 9, w ∈ wsX3_tell := fun _ h => (List.mem_cons_of_mem _ (List.mem_append_right _ h))
theorem Gd_X4_tell : gdA wsX4_tell := gd_cons (by decide +kernel) (gd_app (gd_all (ws := wsX4_tell_o1) (by decide +kernel)) Gd_X40)
theorem inX4_tell_X4 : ∀ w ∈ u_ws RX4 TX4 4, w ∈ wsX4_tell := fun _ h => (List.mem_cons_of_mem _ (List.mem_append_right _ h))
theorem Gd_X6_tell : gdA wsX6_tell := gd_cons (by decide +kernel) (gd_app (gd_all (ws := wsX6_tell_o1) (by decide +kernel)) Gd_X60)
theorem inX6_tell_X6 : ∀ w ∈ u_ws RX6 TX6 5, w ∈ wsX6_tell := fun _ h => (List.mem_cons_of_mem _ (List.mem_append_right _ h))
theorem Gd_X8_tell : gdA wsX8_tell := gd_cons (by decide +kernel) (gd_app (gd_all (ws := wsX8_tell_o1) (by decide +kernel)) Gd_X80)
theorem inX8_tell_X8 : ∀ w ∈ u_ws RX8 TX8 6, w ∈ wsX8_tell := fun _ h => (List.mem_cons_of_mem _ (List.mem_append_right _ h))
theorem Gd_X10_isPair : gdA wsX10_isPair := gd_cons (by decide +kernel) (gd_app (gd_all (ws := wsX10_isPair_o1) (by decide +kernel)) (gd_app Gd_X10_isOwner Gd_X10_isPerson))
theorem Gd_X10_isFrom : gdA wsX10_isFrom := gd_cons (by decide +kernel) (gd_all (ws := []) rfl)
theorem inX10_hold_X3 : ∀ w ∈ u_ws RX3 TX3 9, w ∈ wsX10_hold := fun _ h => (List.mem_cons_of_mem _ (List.mem_append_right _ (List.mem_append_left _ (List.mem_append_left _ (List.mem_append_right _ h)))))
theorem inX10_hold_X10 : ∀ w ∈ u_ws RX10 TX10 14, w ∈ wsX10_hold := fun _ h => (List.mem_cons_of_mem _ (List.mem_append_right _ (List.mem_append_left _ (List.mem_append_left _ (List.mem_append_left _ h)))))
theorem inX10_crate_X10 : ∀ w ∈ u_ws RX10 TX10 14, w ∈ wsX10_crate := fun _ h => (List.mem_cons_of_mem _ (List.mem_append_right _ (List.mem_append_left _ (List.mem_append_left _ (List.mem_append_left _ h)))))
theorem inX10_crate_X1 : ∀ w ∈ u_ws RX1 TX1 6, w ∈ wsX10_crate := fun _ h => (List.mem_cons_of_mem _ (List.mem_append_right _ (List.mem_append_left _ (List.mem_append_left _ (List.mem_append_right _ h)))))
theorem Gd_X10_isCrate : gdA wsX10_isCrate := gd_cons (by decide +kernel) (gd_app (gd_all (ws := wsX10_isCrate_o1) (by decide +kernel)) (gd_app (gd_app Gd_X100 Gd_X10) Gd_X10_isBelow))
theorem Gd_X10_areDays : gdA wsX10_areDays := gd_cons (by decide +kernel) (gd_app (gd_all (ws := wsX10_areDays_o1) (by decide +kernel)) Gd_X10_isDay)
theorem inX10_pledge_X10 : ∀ w ∈ u_ws RX10 TX10 14, w ∈ wsX10_pledge := fun _ h => (List.mem_cons_of_mem _ (List.mem_append_right _ (List.mem_append_left _ (List.mem_append_left _ (List.mem_append_left _ h)))))
theorem inX10_pledge_X8 : ∀ w ∈ u_ws RX8 TX8 6, w ∈ wsX10_pledge := fun _ h => (List.mem_cons_of_mem _ (List.mem_append_right _ (List.mem_append_left _ (List.mem_append_left _ (List.mem_append_right _ h)))))
theorem inX10_act_X10 : ∀ w ∈ u_ws RX10 TX10 14, w ∈ wsX10_act := fun _ h => (List.mem_cons_of_mem _ (List.mem_append_right _ (List.mem_append_left _ (List.mem_append_left _ (List.mem_append_left _ h)))))
theorem inX10_act_X0 : ∀ w ∈ u_ws RX0 TX0 5, w ∈ wsX10_act := fun _ h => (List.mem_cons_of_mem _ (List.mem_append_right _ (List.mem_append_left _ (List.mem_append_left _ (List.mem_append_right _ h)))))
theorem inX10_opened_X6 : ∀ w ∈ u_ws RX6 TX6 5, w ∈ wsX10_opened := fun _ h => (List.mem_cons_of_mem _ (List.mem_append_right _ (List.mem_append_left _ (List.mem_append_left _ (List.mem_append_right _ h)))))
theorem inX10_opened_X10 : ∀ w ∈ u_ws RX10 TX10 14, w ∈ wsX10_opened := fun _ h => (List.mem_cons_of_mem _ (List.mem_append_right _ (List.mem_append_left _ (List.mem_append_left _ (List.mem_append_left _ h)))))
theorem inX10_list_X4 : ∀ w ∈ u_ws RX4 TX4 4, w ∈ wsX10_list := fun _ h => (List.mem_cons_of_mem _ (List.mem_append_right _ (List.mem_append_left _ (List.mem_append_left _ (List.mem_append_right _ h)))))
theorem inX10_list_X10 : ∀ w ∈ u_ws RX10 TX10 14, w ∈ wsX10_list := fun _ h => (List.mem_cons_of_mem _ (List.mem_append_right _ (List.mem_append_left _ (List.mem_append_left _ (List.mem_append_left _ h)))))
theorem dX0_tell_all0 : decode cX0_tell 0 = .ok (.aload_n 0, 1) ∧ decode cX0_tell 1 = .ok (.getfield 9, 3) ∧ decode cX0_tell 4 = .ok (.aload_n 0, 1) ∧ decode cX0_tell 5 = .ok (.getfield 24, 3) ∧ decode cX0_tell 8 = .ok (.iload_n 1, 1) ∧ decode cX0_tell 9 = .ok (.iastore, 1) ∧ decode cX0_tell 10 = .ok (.aload_n 0, 1) ∧ decode cX0_tell 11 = .ok (.getfield 15, 3) ∧ decode cX0_tell 14 = .ok (.aload_n 0, 1) ∧ decode cX0_tell 15 = .ok (.getfield 24, 3) ∧ decode cX0_tell 18 = .ok (.iload_n 2, 1) ∧ decode cX0_tell 19 = .ok (.iastore, 1) := by decide +kernel
theorem dX0_tell_0 : decode cX0_tell 0 = .ok (.aload_n 0, 1) := dX0_tell_all0.1
theorem dX0_tell_1 : decode cX0_tell 1 = .ok (.getfield 9, 3) := dX0_tell_all0.2.1
theorem dX0_tell_4 : decode cX0_tell 4 = .ok (.aload_n 0, 1) := dX0_tell_all0.2.2.1
theorem dX0_tell_5 : decode cX0_tell 5 = .ok (.getfield 24, 3) := dX0_tell_all0.2.2.2.1
theorem dX0_tell_8 : decode cX0_tell 8 = .ok (.iload_n 1, 1) := dX0_tell_all0.2.2.2.2.1
theorem dX0_tell_9 : decode cX0_tell 9 = .ok (.iastore, 1) := dX0_tell_all0.2.2.2.2.2.1
theorem dX0_tell_10 : decode cX0_tell 10 = .ok (.aload_n 0, 1) := dX0_tell_all0.2.2.2.2.2.2.1
theorem dX0_tell_11 : decode cX0_tell 11 = .ok (.getfield 15, 3) := dX0_tell_all0.2.2.2.2.2.2.2.1
theorem dX0_tell_14 : decode cX0_tell 14 = .ok (.aload_n 0, 1) := dX0_tell_all0.2.2.2.2.2.2.2.2.1
theorem dX0_tell_15 : decode cX0_tell 15 = .ok (.getfield 24, 3) := dX0_tell_all0.2.2.2.2.2.2.2.2.2.1
theorem dX0_tell_18 : decode cX0_tell 18 = .ok (.iload_n 2, 1) := dX0_tell_all0.2.2.2.2.2.2.2.2.2.2.1
theorem dX0_tell_19 : decode cX0_tell 19 = .ok (.iastore, 1) := dX0_tell_all0.2.2.2.2.2.2.2.2.2.2.2
theorem dX0_tell_all1 : decode cX0_tell 20 = .ok (.aload_n 0, 1) ∧ decode cX0_tell 21 = .ok (.getfield 18, 3) ∧ decode cX0_tell 24 = .ok (.aload_n 0, 1) ∧ decode cX0_tell 25 = .ok (.getfield 24, 3) ∧ decode cX0_tell 28 = .ok (.iload_n 3, 1) ∧ decode cX0_tell 29 = .ok (.iastore, 1) ∧ decode cX0_tell 30 = .ok (.aload_n 0, 1) ∧ decode cX0_tell 31 = .ok (.getfield 21, 3) ∧ decode cX0_tell 34 = .ok (.aload_n 0, 1) ∧ decode cX0_tell 35 = .ok (.getfield 24, 3) ∧ decode cX0_tell 38 = .ok (.iload 4, 2) ∧ decode cX0_tell 40 = .ok (.iastore, 1) := by decide +kernel
theorem dX0_tell_20 : decode cX0_tell 20 = .ok (.aload_n 0, 1) := dX0_tell_all1.1
theorem dX0_tell_21 : decode cX0_tell 21 = .ok (.getfield 18, 3) := dX0_tell_all1.2.1
theorem dX0_tell_24 : decode cX0_tell 24 = .ok (.aload_n 0, 1) := dX0_tell_all1.2.2.1
theorem dX0_tell_25 : decode cX0_tell 25 = .ok (.getfield 24, 3) := dX0_tell_all1.2.2.2.1
theorem dX0_tell_28 : decode cX0_tell 28 = .ok (.iload_n 3, 1) := dX0_tell_all1.2.2.2.2.1
theorem dX0_tell_29 : decode cX0_tell 29 = .ok (.iastore, 1) := dX0_tell_all1.2.2.2.2.2.1
theorem dX0_tell_30 : decode cX0_tell 30 = .ok (.aload_n 0, 1) := dX0_tell_all1.2.2.2.2.2.2.1
theorem dX0_tell_31 : decode cX0_tell 31 = .ok (.getfield 21, 3) := dX0_tell_all1.2.2.2.2.2.2.2.1
theorem dX0_tell_34 : decode cX0_tell 34 = .ok (.aload_n 0, 1) := dX0_tell_all1.2.2.2.2.2.2.2.2.1
theorem dX0_tell_35 : decode cX0_tell 35 = .ok (.getfield 24, 3) := dX0_tell_all1.2.2.2.2.2.2.2.2.2.1
theorem dX0_tell_38 : decode cX0_tell 38 = .ok (.iload 4, 2) := dX0_tell_all1.2.2.2.2.2.2.2.2.2.2.1
theorem dX0_tell_40 : decode cX0_tell 40 = .ok (.iastore, 1) := dX0_tell_all1.2.2.2.2.2.2.2.2.2.2.2
theorem dX0_tell_all2 : decode cX0_tell 41 = .ok (.aload_n 0, 1) ∧ decode cX0_tell 42 = .ok (.dup, 1) ∧ decode cX0_tell 43 = .ok (.getfield 24, 3) ∧ decode cX0_tell 46 = .ok (.iconst 1, 1) ∧ decode cX0_tell 47 = .ok (.iadd, 1) ∧ decode cX0_tell 48 = .ok (.putfield 24, 3) ∧ decode cX0_tell 51 = .ok (.aload_n 0, 1) ∧ decode cX0_tell 52 = .ok (.getfield 24, 3) ∧ decode cX0_tell 55 = .ok (.ireturn, 1) := by decide +kernel
theorem dX0_tell_41 : decode cX0_tell 41 = .ok (.aload_n 0, 1) := dX0_tell_all2.1
theorem dX0_tell_42 : decode cX0_tell 42 = .ok (.dup, 1) := dX0_tell_all2.2.1
theorem dX0_tell_43 : decode cX0_tell 43 = .ok (.getfield 24, 3) := dX0_tell_all2.2.2.1
theorem dX0_tell_46 : decode cX0_tell 46 = .ok (.iconst 1, 1) := dX0_tell_all2.2.2.2.1
theorem dX0_tell_47 : decode cX0_tell 47 = .ok (.iadd, 1) := dX0_tell_all2.2.2.2.2.1
theorem dX0_tell_48 : decode cX0_tell 48 = .ok (.putfield 24, 3) := dX0_tell_all2.2.2.2.2.2.1
theorem dX0_tell_51 : decode cX0_tell 51 = .ok (.aload_n 0, 1) := dX0_tell_all2.2.2.2.2.2.2.1
theorem dX0_tell_52 : decode cX0_tell 52 = .ok (.getfield 24, 3) := dX0_tell_all2.2.2.2.2.2.2.2.1
theorem dX0_tell_55 : decode cX0_tell 55 = .ok (.ireturn, 1) := dX0_tell_all2.2.2.2.2.2.2.2.2
theorem dX1_tell_all0 : decode cX1_tell 0 = .ok (.aload_n 0, 1) ∧ decode cX1_tell 1 = .ok (.getfield 9, 3) ∧ decode cX1_tell 4 = .ok (.aload_n 0, 1) ∧ decode cX1_tell 5 = .ok (.getfield 35, 3) ∧ decode cX1_tell 8 = .ok (.iload_n 1, 1) ∧ decode cX1_tell 9 = .ok (.iastore, 1) ∧ decode cX1_tell 10 = .ok (.aload_n 0, 1) ∧ decode cX1_tell 11 = .ok (.getfield 15, 3) ∧ decode cX1_tell 14 = .ok (.aload_n 0, 1) ∧ decode cX1_tell 15 = .ok (.getfield 35, 3) ∧ decode cX1_tell 18 = .ok (.iload_n 2, 1) ∧ decode cX1_tell 19 = .ok (.iastore, 1) := by decide +kernel
theorem dX1_tell_0 : decode cX1_tell 0 = .ok (.aload_n 0, 1) := dX1_tell_all0.1
theorem dX1_tell_1 : decode cX1_tell 1 = .ok (.getfield 9, 3) := dX1_tell_all0.2.1
theorem dX1_tell_4 : decode cX1_tell 4 = .ok (.aload_n 0, 1) := dX1_tell_all0.2.2.1
theorem dX1_tell_5 : decode cX1_tell 5 = .ok (.getfield 35, 3) := dX1_tell_all0.2.2.2.1
theorem dX1_tell_8 : decode cX1_tell 8 = .ok (.iload_n 1, 1) := dX1_tell_all0.2.2.2.2.1
theorem dX1_tell_9 : decode cX1_tell 9 = .ok (.iastore, 1) := dX1_tell_all0.2.2.2.2.2.1
theorem dX1_tell_10 : decode cX1_tell 10 = .ok (.aload_n 0, 1) := dX1_tell_all0.2.2.2.2.2.2.1
theorem dX1_tell_11 : decode cX1_tell 11 = .ok (.getfield 15, 3) := dX1_tell_all0.2.2.2.2.2.2.2.1
theorem dX1_tell_14 : decode cX1_tell 14 = .ok (.aload_n 0, 1) := dX1_tell_all0.2.2.2.2.2.2.2.2.1
theorem dX1_tell_15 : decode cX1_tell 15 = .ok (.getfield 35, 3) := dX1_tell_all0.2.2.2.2.2.2.2.2.2.1
theorem dX1_tell_18 : decode cX1_tell 18 = .ok (.iload_n 2, 1) := dX1_tell_all0.2.2.2.2.2.2.2.2.2.2.1
theorem dX1_tell_19 : decode cX1_tell 19 = .ok (.iastore, 1) := dX1_tell_all0.2.2.2.2.2.2.2.2.2.2.2
theorem dX1_tell_all1 : decode cX1_tell 20 = .ok (.aload_n 0, 1) ∧ decode cX1_tell 21 = .ok (.dup, 1) ∧ decode cX1_tell 22 = .ok (.getfield 35, 3) ∧ decode cX1_tell 25 = .ok (.iconst 1, 1) ∧ decode cX1_tell 26 = .ok (.iadd, 1) ∧ decode cX1_tell 27 = .ok (.putfield 35, 3) ∧ decode cX1_tell 30 = .ok (.aload_n 0, 1) ∧ decode cX1_tell 31 = .ok (.getfield 35, 3) ∧ decode cX1_tell 34 = .ok (.iconst 1, 1) ∧ decode cX1_tell 35 = .ok (.isub, 1) ∧ decode cX1_tell 36 = .ok (.ireturn, 1) := by decide +kernel
theorem dX1_tell_20 : decode cX1_tell 20 = .ok (.aload_n 0, 1) := dX1_tell_all1.1
theorem dX1_tell_21 : decode cX1_tell 21 = .ok (.dup, 1) := dX1_tell_all1.2.1
theorem dX1_tell_22 : decode cX1_tell 22 = .ok (.getfield 35, 3) := dX1_tell_all1.2.2.1
theorem dX1_tell_25 : decode cX1_tell 25 = .ok (.iconst 1, 1) := dX1_tell_all1.2.2.2.1
theorem dX1_tell_26 : decode cX1_tell 26 = .ok (.iadd, 1) := dX1_tell_all1.2.2.2.2.1
theorem dX1_tell_27 : decode cX1_tell 27 = .ok (.putfield 35, 3) := dX1_tell_all1.2.2.2.2.2.1
theorem dX1_tell_30 : decode cX1_tell 30 = .ok (.aload_n 0, 1) := dX1_tell_all1.2.2.2.2.2.2.1
theorem dX1_tell_31 : decode cX1_tell 31 = .ok (.getfield 35, 3) := dX1_tell_all1.2.2.2.2.2.2.2.1
theorem dX1_tell_34 : decode cX1_tell 34 = .ok (.iconst 1, 1) := dX1_tell_all1.2.2.2.2.2.2.2.2.1
theorem dX1_tell_35 : decode cX1_tell 35 = .ok (.isub, 1) := dX1_tell_all1.2.2.2.2.2.2.2.2.2.1
theorem dX1_tell_36 : decode cX1_tell 36 = .ok (.ireturn, 1) := dX1_tell_all1.2.2.2.2.2.2.2.2.2.2
theorem dX3_tell_all0 : decode cX3_tell 0 = .ok (.aload_n 0, 1) ∧ decode cX3_tell 1 = .ok (.getfield 9, 3) ∧ decode cX3_tell 4 = .ok (.aload_n 0, 1) ∧ decode cX3_tell 5 = .ok (.getfield 36, 3) ∧ decode cX3_tell 8 = .ok (.iload_n 1, 1) ∧ decode cX3_tell 9 = .ok (.iastore, 1) ∧ decode cX3_tell 10 = .ok (.aload_n 0, 1) ∧ decode cX3_tell 11 = .ok (.getfield 15, 3) ∧ decode cX3_tell 14 = .ok (.aload_n 0, 1) ∧ decode cX3_tell 15 = .ok (.getfield 36, 3) ∧ decode cX3_tell 18 = .ok (.iload_n 2, 1) ∧ decode cX3_tell 19 = .ok (.iastore, 1) := by decide +kernel
theorem dX3_tell_0 : decode cX3_tell 0 = .ok (.aload_n 0, 1) := dX3_tell_all0.1
theorem dX3_tell_1 : decode cX3_tell 1 = .ok (.getfield 9, 3) := dX3_tell_all0.2.1
theorem dX3_tell_4 : decode cX3_tell 4 = .ok (.aload_n 0, 1) := dX3_tell_all0.2.2.1
theorem dX3_tell_5 : decode cX3_tell 5 = .ok (.getfield 36, 3) := dX3_tell_all0.2.2.2.1
theorem dX3_tell_8 : decode cX3_tell 8 = .ok (.iload_n 1, 1) := dX3_tell_all0.2.2.2.2.1
theorem dX3_tell_9 : decode cX3_tell 9 = .ok (.iastore, 1) := dX3_tell_all0.2.2.2.2.2.1
theorem dX3_tell_10 : decode cX3_tell 10 = .ok (.aload_n 0, 1) := dX3_tell_all0.2.2.2.2.2.2.1
theorem dX3_tell_11 : decode cX3_tell 11 = .ok (.getfield 15, 3) := dX3_tell_all0.2.2.2.2.2.2.2.1
theorem dX3_tell_14 : decode cX3_tell 14 = .ok (.aload_n 0, 1) := dX3_tell_all0.2.2.2.2.2.2.2.2.1
theorem dX3_tell_15 : decode cX3_tell 15 = .ok (.getfield 36, 3) := dX3_tell_all0.2.2.2.2.2.2.2.2.2.1
theorem dX3_tell_18 : decode cX3_tell 18 = .ok (.iload_n 2, 1) := dX3_tell_all0.2.2.2.2.2.2.2.2.2.2.1
theorem dX3_tell_19 : decode cX3_tell 19 = .ok (.iastore, 1) := dX3_tell_all0.2.2.2.2.2.2.2.2.2.2.2
theorem dX3_tell_all1 : decode cX3_tell 20 = .ok (.aload_n 0, 1) ∧ decode cX3_tell 21 = .ok (.getfield 18, 3) ∧ decode cX3_tell 24 = .ok (.aload_n 0, 1) ∧ decode cX3_tell 25 = .ok (.getfield 36, 3) ∧ decode cX3_tell 28 = .ok (.iload_n 3, 1) ∧ decode cX3_tell 29 = .ok (.iastore, 1) ∧ decode cX3_tell 30 = .ok (.aload_n 0, 1) ∧ decode cX3_tell 31 = .ok (.getfield 21, 3) ∧ decode cX3_tell 34 = .ok (.aload_n 0, 1) ∧ decode cX3_tell 35 = .ok (.getfield 36, 3) ∧ decode cX3_tell 38 = .ok (.iload 4, 2) ∧ decode cX3_tell 40 = .ok (.iastore, 1) := by decide +kernel
theorem dX3_tell_20 : decode cX3_tell 20 = .ok (.aload_n 0, 1) := dX3_tell_all1.1
theorem dX3_tell_21 : decode cX3_tell 21 = .ok (.getfield 18, 3) := dX3_tell_all1.2.1
theorem dX3_tell_24 : decode cX3_tell 24 = .ok (.aload_n 0, 1) := dX3_tell_all1.2.2.1
theorem dX3_tell_25 : decode cX3_tell 25 = .ok (.getfield 36, 3) := dX3_tell_all1.2.2.2.1
theorem dX3_tell_28 : decode cX3_tell 28 = .ok (.iload_n 3, 1) := dX3_tell_all1.2.2.2.2.1
theorem dX3_tell_29 : decode cX3_tell 29 = .ok (.iastore, 1) := dX3_tell_all1.2.2.2.2.2.1
theorem dX3_tell_30 : decode cX3_tell 30 = .ok (.aload_n 0, 1) := dX3_tell_all1.2.2.2.2.2.2.1
theorem dX3_tell_31 : decode cX3_tell 31 = .ok (.getfield 21, 3) := dX3_tell_all1.2.2.2.2.2.2.2.1
theorem dX3_tell_34 : decode cX3_tell 34 = .ok (.aload_n 0, 1) := dX3_tell_all1.2.2.2.2.2.2.2.2.1
theorem dX3_tell_35 : decode cX3_tell 35 = .ok (.getfield 36, 3) := dX3_tell_all1.2.2.2.2.2.2.2.2.2.1
theorem dX3_tell_38 : decode cX3_tell 38 = .ok (.iload 4, 2) := dX3_tell_all1.2.2.2.2.2.2.2.2.2.2.1
theorem dX3_tell_40 : decode cX3_tell 40 = .ok (.iastore, 1) := dX3_tell_all1.2.2.2.2.2.2.2.2.2.2.2
theorem dX3_tell_all2 : decode cX3_tell 41 = .ok (.aload_n 0, 1) ∧ decode cX3_tell 42 = .ok (.dup, 1) ∧ decode cX3_tell 43 = .ok (.getfield 36, 3) ∧ decode cX3_tell 46 = .ok (.iconst 1, 1) ∧ decode cX3_tell 47 = .ok (.iadd, 1) ∧ decode cX3_tell 48 = .ok (.putfield 36, 3) ∧ decode cX3_tell 51 = .ok (.aload_n 0, 1) ∧ decode cX3_tell 52 = .ok (.getfield 36, 3) ∧ decode cX3_tell 55 = .ok (.ireturn, 1) := by decide +kernel
theorem dX3_tell_41 : decode cX3_tell 41 = .ok (.aload_n 0, 1) := dX3_tell_all2.1
theorem dX3_tell_42 : decode cX3_tell 42 = .ok (.dup, 1) := dX3_tell_all2.2.1
theorem dX3_tell_43 : decode cX3_tell 43 = .ok (.getfield 36, 3) := dX3_tell_all2.2.2.1
theorem dX3_tell_46 : decode cX3_tell 46 = .ok (.iconst 1, 1) := dX3_tell_all2.2.2.2.1
theorem dX3_tell_47 : decode cX3_tell 47 = .ok (.iadd, 1) := dX3_tell_all2.2.2.2.2.1
theorem dX3_tell_48 : decode cX3_tell 48 = .ok (.putfield 36, 3) := dX3_tell_all2.2.2.2.2.2.1
theorem dX3_tell_51 : decode cX3_tell 51 = .ok (.aload_n 0, 1) := dX3_tell_all2.2.2.2.2.2.2.1
theorem dX3_tell_52 : decode cX3_tell 52 = .ok (.getfield 36, 3) := dX3_tell_all2.2.2.2.2.2.2.2.1
theorem dX3_tell_55 : decode cX3_tell 55 = .ok (.ireturn, 1) := dX3_tell_all2.2.2.2.2.2.2.2.2
theorem dX4_tell_all0 : decode cX4_tell 0 = .ok (.aload_n 0, 1) ∧ decode cX4_tell 1 = .ok (.getfield 9, 3) ∧ decode cX4_tell 4 = .ok (.aload_n 0, 1) ∧ decode cX4_tell 5 = .ok (.getfield 21, 3) ∧ decode cX4_tell 8 = .ok (.iload_n 1, 1) ∧ decode cX4_tell 9 = .ok (.iastore, 1) ∧ decode cX4_tell 10 = .ok (.aload_n 0, 1) ∧ decode cX4_tell 11 = .ok (.getfield 15, 3) ∧ decode cX4_tell 14 = .ok (.aload_n 0, 1) ∧ decode cX4_tell 15 = .ok (.getfield 21, 3) ∧ decode cX4_tell 18 = .ok (.iload_n 2, 1) ∧ decode cX4_tell 19 = .ok (.iastore, 1) := by decide +kernel
theorem dX4_tell_0 : decode cX4_tell 0 = .ok (.aload_n 0, 1) := dX4_tell_all0.1
theorem dX4_tell_1 : decode cX4_tell 1 = .ok (.getfield 9, 3) := dX4_tell_all0.2.1
theorem dX4_tell_4 : decode cX4_tell 4 = .ok (.aload_n 0, 1) := dX4_tell_all0.2.2.1
theorem dX4_tell_5 : decode cX4_tell 5 = .ok (.getfield 21, 3) := dX4_tell_all0.2.2.2.1
theorem dX4_tell_8 : decode cX4_tell 8 = .ok (.iload_n 1, 1) := dX4_tell_all0.2.2.2.2.1
theorem dX4_tell_9 : decode cX4_tell 9 = .ok (.iastore, 1) := dX4_tell_all0.2.2.2.2.2.1
theorem dX4_tell_10 : decode cX4_tell 10 = .ok (.aload_n 0, 1) := dX4_tell_all0.2.2.2.2.2.2.1
theorem dX4_tell_11 : decode cX4_tell 11 = .ok (.getfield 15, 3) := dX4_tell_all0.2.2.2.2.2.2.2.1
theorem dX4_tell_14 : decode cX4_tell 14 = .ok (.aload_n 0, 1) := dX4_tell_all0.2.2.2.2.2.2.2.2.1
theorem dX4_tell_15 : decode cX4_tell 15 = .ok (.getfield 21, 3) := dX4_tell_all0.2.2.2.2.2.2.2.2.2.1
theorem dX4_tell_18 : decode cX4_tell 18 = .ok (.iload_n 2, 1) := dX4_tell_all0.2.2.2.2.2.2.2.2.2.2.1
theorem dX4_tell_19 : decode cX4_tell 19 = .ok (.iastore, 1) := dX4_tell_all0.2.2.2.2.2.2.2.2.2.2.2
theorem dX4_tell_all1 : decode cX4_tell 20 = .ok (.aload_n 0, 1) ∧ decode cX4_tell 21 = .ok (.getfield 18, 3) ∧ decode cX4_tell 24 = .ok (.aload_n 0, 1) ∧ decode cX4_tell 25 = .ok (.getfield 21, 3) ∧ decode cX4_tell 28 = .ok (.iload_n 3, 1) ∧ decode cX4_tell 29 = .ok (.iastore, 1) ∧ decode cX4_tell 30 = .ok (.aload_n 0, 1) ∧ decode cX4_tell 31 = .ok (.dup, 1) ∧ decode cX4_tell 32 = .ok (.getfield 21, 3) ∧ decode cX4_tell 35 = .ok (.iconst 1, 1) ∧ decode cX4_tell 36 = .ok (.iadd, 1) ∧ decode cX4_tell 37 = .ok (.putfield 21, 3) := by decide +kernel
theorem dX4_tell_20 : decode cX4_tell 20 = .ok (.aload_n 0, 1) := dX4_tell_all1.1
theorem dX4_tell_21 : decode cX4_tell 21 = .ok (.getfield 18, 3) := dX4_tell_all1.2.1
theorem dX4_tell_24 : decode cX4_tell 24 = .ok (.aload_n 0, 1) := dX4_tell_all1.2.2.1
theorem dX4_tell_25 : decode cX4_tell 25 = .ok (.getfield 21, 3) := dX4_tell_all1.2.2.2.1
theorem dX4_tell_28 : decode cX4_tell 28 = .ok (.iload_n 3, 1) := dX4_tell_all1.2.2.2.2.1
theorem dX4_tell_29 : decode cX4_tell 29 = .ok (.iastore, 1) := dX4_tell_all1.2.2.2.2.2.1
theorem dX4_tell_30 : decode cX4_tell 30 = .ok (.aload_n 0, 1) := dX4_tell_all1.2.2.2.2.2.2.1
theorem dX4_tell_31 : decode cX4_tell 31 = .ok (.dup, 1) := dX4_tell_all1.2.2.2.2.2.2.2.1
theorem dX4_tell_32 : decode cX4_tell 32 = .ok (.getfield 21, 3) := dX4_tell_all1.2.2.2.2.2.2.2.2.1
theorem dX4_tell_35 : decode cX4_tell 35 = .ok (.iconst 1, 1) := dX4_tell_all1.2.2.2.2.2.2.2.2.2.1
theorem dX4_tell_36 : decode cX4_tell 36 = .ok (.iadd, 1) := dX4_tell_all1.2.2.2.2.2.2.2.2.2.2.1
theorem dX4_tell_37 : decode cX4_tell 37 = .ok (.putfield 21, 3) := dX4_tell_all1.2.2.2.2.2.2.2.2.2.2.2
theorem dX4_tell_all2 : decode cX4_tell 40 = .ok (.aload_n 0, 1) ∧ decode cX4_tell 41 = .ok (.getfield 21, 3) ∧ decode cX4_tell 44 = .ok (.ireturn, 1) := by decide +kernel
theorem dX4_tell_40 : decode cX4_tell 40 = .ok (.aload_n 0, 1) := dX4_tell_all2.1
theorem dX4_tell_41 : decode cX4_tell 41 = .ok (.getfield 21, 3) := dX4_tell_all2.2.1
theorem dX4_tell_44 : decode cX4_tell 44 = .ok (.ireturn, 1) := dX4_tell_all2.2.2
theorem dX6_tell_all0 : decode cX6_tell 0 = .ok (.aload_n 0, 1) ∧ decode cX6_tell 1 = .ok (.getfield 9, 3) ∧ decode cX6_tell 4 = .ok (.aload_n 0, 1) ∧ decode cX6_tell 5 = .ok (.getfield 24, 3) ∧ decode cX6_tell 8 = .ok (.iload_n 1, 1) ∧ decode cX6_tell 9 = .ok (.iastore, 1) ∧ decode cX6_tell 10 = .ok (.aload_n 0, 1) ∧ decode cX6_tell 11 = .ok (.getfield 15, 3) ∧ decode cX6_tell 14 = .ok (.aload_n 0, 1) ∧ decode cX6_tell 15 = .ok (.getfield 24, 3) ∧ decode cX6_tell 18 = .ok (.iload_n 2, 1) ∧ decode cX6_tell 19 = .ok (.iastore, 1) := by decide +kernel
theorem dX6_tell_0 : decode cX6_tell 0 = .ok (.aload_n 0, 1) := dX6_tell_all0.1
theorem dX6_tell_1 : decode cX6_tell 1 = .ok (.getfield 9, 3) := dX6_tell_all0.2.1
theorem dX6_tell_4 : decode cX6_tell 4 = .ok (.aload_n 0, 1) := dX6_tell_all0.2.2.1
theorem dX6_tell_5 : decode cX6_tell 5 = .ok (.getfield 24, 3) := dX6_tell_all0.2.2.2.1
theorem dX6_tell_8 : decode cX6_tell 8 = .ok (.iload_n 1, 1) := dX6_tell_all0.2.2.2.2.1
theorem dX6_tell_9 : decode cX6_tell 9 = .ok (.iastore, 1) := dX6_tell_all0.2.2.2.2.2.1
theorem dX6_tell_10 : decode cX6_tell 10 = .ok (.aload_n 0, 1) := dX6_tell_all0.2.2.2.2.2.2.1
theorem dX6_tell_11 : decode cX6_tell 11 = .ok (.getfield 15, 3) := dX6_tell_all0.2.2.2.2.2.2.2.1
theorem dX6_tell_14 : decode cX6_tell 14 = .ok (.aload_n 0, 1) := dX6_tell_all0.2.2.2.2.2.2.2.2.1
theorem dX6_tell_15 : decode cX6_tell 15 = .ok (.getfield 24, 3) := dX6_tell_all0.2.2.2.2.2.2.2.2.2.1
theorem dX6_tell_18 : decode cX6_tell 18 = .ok (.iload_n 2, 1) := dX6_tell_all0.2.2.2.2.2.2.2.2.2.2.1
theorem dX6_tell_19 : decode cX6_tell 19 = .ok (.iastore, 1) := dX6_tell_all0.2.2.2.2.2.2.2.2.2.2.2
theorem dX6_tell_all1 : decode cX6_tell 20 = .ok (.aload_n 0, 1) ∧ decode cX6_tell 21 = .ok (.getfield 18, 3) ∧ decode cX6_tell 24 = .ok (.aload_n 0, 1) ∧ decode cX6_tell 25 = .ok (.getfield 24, 3) ∧ decode cX6_tell 28 = .ok (.iload_n 3, 1) ∧ decode cX6_tell 29 = .ok (.iastore, 1) ∧ decode cX6_tell 30 = .ok (.aload_n 0, 1) ∧ decode cX6_tell 31 = .ok (.getfield 21, 3) ∧ decode cX6_tell 34 = .ok (.aload_n 0, 1) ∧ decode cX6_tell 35 = .ok (.getfield 24, 3) ∧ decode cX6_tell 38 = .ok (.iload 4, 2) ∧ decode cX6_tell 40 = .ok (.iastore, 1) := by decide +kernel
theorem dX6_tell_20 : decode cX6_tell 20 = .ok (.aload_n 0, 1) := dX6_tell_all1.1
theorem dX6_tell_21 : decode cX6_tell 21 = .ok (.getfield 18, 3) := dX6_tell_all1.2.1
theorem dX6_tell_24 : decode cX6_tell 24 = .ok (.aload_n 0, 1) := dX6_tell_all1.2.2.1
theorem dX6_tell_25 : decode cX6_tell 25 = .ok (.getfield 24, 3) := dX6_tell_all1.2.2.2.1
theorem dX6_tell_28 : decode cX6_tell 28 = .ok (.iload_n 3, 1) := dX6_tell_all1.2.2.2.2.1
theorem dX6_tell_29 : decode cX6_tell 29 = .ok (.iastore, 1) := dX6_tell_all1.2.2.2.2.2.1
theorem dX6_tell_30 : decode cX6_tell 30 = .ok (.aload_n 0, 1) := dX6_tell_all1.2.2.2.2.2.2.1
theorem dX6_tell_31 : decode cX6_tell 31 = .ok (.getfield 21, 3) := dX6_tell_all1.2.2.2.2.2.2.2.1
theorem dX6_tell_34 : decode cX6_tell 34 = .ok (.aload_n 0, 1) := dX6_tell_all1.2.2.2.2.2.2.2.2.1
theorem dX6_tell_35 : decode cX6_tell 35 = .ok (.getfield 24, 3) := dX6_tell_all1.2.2.2.2.2.2.2.2.2.1
theorem dX6_tell_38 : decode cX6_tell 38 = .ok (.iload 4, 2) := dX6_tell_all1.2.2.2.2.2.2.2.2.2.2.1
theorem dX6_tell_40 : decode cX6_tell 40 = .ok (.iastore, 1) := dX6_tell_all1.2.2.2.2.2.2.2.2.2.2.2
theorem dX6_tell_all2 : decode cX6_tell 41 = .ok (.aload_n 0, 1) ∧ decode cX6_tell 42 = .ok (.dup, 1) ∧ decode cX6_tell 43 = .ok (.getfield 24, 3) ∧ decode cX6_tell 46 = .ok (.iconst 1, 1) ∧ decode cX6_tell 47 = .ok (.iadd, 1) ∧ decode cX6_tell 48 = .ok (.putfield 24, 3) ∧ decode cX6_tell 51 = .ok (.aload_n 0, 1) ∧ decode cX6_tell 52 = .ok (.getfield 24, 3) ∧ decode cX6_tell 55 = .ok (.ireturn, 1) := by decide +kernel
theorem dX6_tell_41 : decode cX6_tell 41 = .ok (.aload_n 0, 1) := dX6_tell_all2.1
theorem dX6_tell_42 : decode cX6_tell 42 = .ok (.dup, 1) := dX6_tell_all2.2.1
theorem dX6_tell_43 : decode cX6_tell 43 = .ok (.getfield 24, 3) := dX6_tell_all2.2.2.1
theorem dX6_tell_46 : decode cX6_tell 46 = .ok (.iconst 1, 1) := dX6_tell_all2.2.2.2.1
theorem dX6_tell_47 : decode cX6_tell 47 = .ok (.iadd, 1) := dX6_tell_all2.2.2.2.2.1
theorem dX6_tell_48 : decode cX6_tell 48 = .ok (.putfield 24, 3) := dX6_tell_all2.2.2.2.2.2.1
theorem dX6_tell_51 : decode cX6_tell 51 = .ok (.aload_n 0, 1) := dX6_tell_all2.2.2.2.2.2.2.1
theorem dX6_tell_52 : decode cX6_tell 52 = .ok (.getfield 24, 3) := dX6_tell_all2.2.2.2.2.2.2.2.1
theorem dX6_tell_55 : decode cX6_tell 55 = .ok (.ireturn, 1) := dX6_tell_all2.2.2.2.2.2.2.2.2
theorem dX8_tell_all0 : decode cX8_tell 0 = .ok (.aload_n 0, 1) ∧ decode cX8_tell 1 = .ok (.getfield 9, 3) ∧ decode cX8_tell 4 = .ok (.aload_n 0, 1) ∧ decode cX8_tell 5 = .ok (.getfield 27, 3) ∧ decode cX8_tell 8 = .ok (.iload_n 1, 1) ∧ decode cX8_tell 9 = .ok (.iastore, 1) ∧ decode cX8_tell 10 = .ok (.aload_n 0, 1) ∧ decode cX8_tell 11 = .ok (.getfield 15, 3) ∧ decode cX8_tell 14 = .ok (.aload_n 0, 1) ∧ decode cX8_tell 15 = .ok (.getfield 27, 3) ∧ decode cX8_tell 18 = .ok (.iload_n 2, 1) ∧ decode cX8_tell 19 = .ok (.iastore, 1) := by decide +kernel
theorem dX8_tell_0 : decode cX8_tell 0 = .ok (.aload_n 0, 1) := dX8_tell_all0.1
theorem dX8_tell_1 : decode cX8_tell 1 = .ok (.getfield 9, 3) := dX8_tell_all0.2.1
theorem dX8_tell_4 : decode cX8_tell 4 = .ok (.aload_n 0, 1) := dX8_tell_all0.2.2.1
theorem dX8_tell_5 : decode cX8_tell 5 = .ok (.getfield 27, 3) := dX8_tell_all0.2.2.2.1
theorem dX8_tell_8 : decode cX8_tell 8 = .ok (.iload_n 1, 1) := dX8_tell_all0.2.2.2.2.1
theorem dX8_tell_9 : decode cX8_tell 9 = .ok (.iastore, 1) := dX8_tell_all0.2.2.2.2.2.1
theorem dX8_tell_10 : decode cX8_tell 10 = .ok (.aload_n 0, 1) := dX8_tell_all0.2.2.2.2.2.2.1
theorem dX8_tell_11 : decode cX8_tell 11 = .ok (.getfield 15, 3) := dX8_tell_all0.2.2.2.2.2.2.2.1
theorem dX8_tell_14 : decode cX8_tell 14 = .ok (.aload_n 0, 1) := dX8_tell_all0.2.2.2.2.2.2.2.2.1
theorem dX8_tell_15 : decode cX8_tell 15 = .ok (.getfield 27, 3) := dX8_tell_all0.2.2.2.2.2.2.2.2.2.1
theorem dX8_tell_18 : decode cX8_tell 18 = .ok (.iload_n 2, 1) := dX8_tell_all0.2.2.2.2.2.2.2.2.2.2.1
theorem dX8_tell_19 : decode cX8_tell 19 = .ok (.iastore, 1) := dX8_tell_all0.2.2.2.2.2.2.2.2.2.2.2
theorem dX8_tell_all1 : decode cX8_tell 20 = .ok (.aload_n 0, 1) ∧ decode cX8_tell 21 = .ok (.getfield 18, 3) ∧ decode cX8_tell 24 = .ok (.aload_n 0, 1) ∧ decode cX8_tell 25 = .ok (.getfield 27, 3) ∧ decode cX8_tell 28 = .ok (.iload_n 3, 1) ∧ decode cX8_tell 29 = .ok (.iastore, 1) ∧ decode cX8_tell 30 = .ok (.aload_n 0, 1) ∧ decode cX8_tell 31 = .ok (.getfield 21, 3) ∧ decode cX8_tell 34 = .ok (.aload_n 0, 1) ∧ decode cX8_tell 35 = .ok (.getfield 27, 3) ∧ decode cX8_tell 38 = .ok (.iload 4, 2) ∧ decode cX8_tell 40 = .ok (.iastore, 1) := by decide +kernel
theorem dX8_tell_20 : decode cX8_tell 20 = .ok (.aload_n 0, 1) := dX8_tell_all1.1
theorem dX8_tell_21 : decode cX8_tell 21 = .ok (.getfield 18, 3) := dX8_tell_all1.2.1
theorem dX8_tell_24 : decode cX8_tell 24 = .ok (.aload_n 0, 1) := dX8_tell_all1.2.2.1
theorem dX8_tell_25 : decode cX8_tell 25 = .ok (.getfield 27, 3) := dX8_tell_all1.2.2.2.1
theorem dX8_tell_28 : decode cX8_tell 28 = .ok (.iload_n 3, 1) := dX8_tell_all1.2.2.2.2.1
theorem dX8_tell_29 : decode cX8_tell 29 = .ok (.iastore, 1) := dX8_tell_all1.2.2.2.2.2.1
theorem dX8_tell_30 : decode cX8_tell 30 = .ok (.aload_n 0, 1) := dX8_tell_all1.2.2.2.2.2.2.1
theorem dX8_tell_31 : decode cX8_tell 31 = .ok (.getfield 21, 3) := dX8_tell_all1.2.2.2.2.2.2.2.1
theorem dX8_tell_34 : decode cX8_tell 34 = .ok (.aload_n 0, 1) := dX8_tell_all1.2.2.2.2.2.2.2.2.1
theorem dX8_tell_35 : decode cX8_tell 35 = .ok (.getfield 27, 3) := dX8_tell_all1.2.2.2.2.2.2.2.2.2.1
theorem dX8_tell_38 : decode cX8_tell 38 = .ok (.iload 4, 2) := dX8_tell_all1.2.2.2.2.2.2.2.2.2.2.1
theorem dX8_tell_40 : decode cX8_tell 40 = .ok (.iastore, 1) := dX8_tell_all1.2.2.2.2.2.2.2.2.2.2.2
theorem dX8_tell_all2 : decode cX8_tell 41 = .ok (.aload_n 0, 1) ∧ decode cX8_tell 42 = .ok (.dup, 1) ∧ decode cX8_tell 43 = .ok (.getfield 27, 3) ∧ decode cX8_tell 46 = .ok (.iconst 1, 1) ∧ decode cX8_tell 47 = .ok (.iadd, 1) ∧ decode cX8_tell 48 = .ok (.putfield 27, 3) ∧ decode cX8_tell 51 = .ok (.aload_n 0, 1) ∧ decode cX8_tell 52 = .ok (.getfield 27, 3) ∧ decode cX8_tell 55 = .ok (.iconst 1, 1) ∧ decode cX8_tell 56 = .ok (.isub, 1) ∧ decode cX8_tell 57 = .ok (.ireturn, 1) := by decide +kernel
theorem dX8_tell_41 : decode cX8_tell 41 = .ok (.aload_n 0, 1) := dX8_tell_all2.1
theorem dX8_tell_42 : decode cX8_tell 42 = .ok (.dup, 1) := dX8_tell_all2.2.1
theorem dX8_tell_43 : decode cX8_tell 43 = .ok (.getfield 27, 3) := dX8_tell_all2.2.2.1
theorem dX8_tell_46 : decode cX8_tell 46 = .ok (.iconst 1, 1) := dX8_tell_all2.2.2.2.1
theorem dX8_tell_47 : decode cX8_tell 47 = .ok (.iadd, 1) := dX8_tell_all2.2.2.2.2.1
theorem dX8_tell_48 : decode cX8_tell 48 = .ok (.putfield 27, 3) := dX8_tell_all2.2.2.2.2.2.1
theorem dX8_tell_51 : decode cX8_tell 51 = .ok (.aload_n 0, 1) := dX8_tell_all2.2.2.2.2.2.2.1
theorem dX8_tell_52 : decode cX8_tell 52 = .ok (.getfield 27, 3) := dX8_tell_all2.2.2.2.2.2.2.2.1
theorem dX8_tell_55 : decode cX8_tell 55 = .ok (.iconst 1, 1) := dX8_tell_all2.2.2.2.2.2.2.2.2.1
theorem dX8_tell_56 : decode cX8_tell 56 = .ok (.isub, 1) := dX8_tell_all2.2.2.2.2.2.2.2.2.2.1
theorem dX8_tell_57 : decode cX8_tell 57 = .ok (.ireturn, 1) := dX8_tell_all2.2.2.2.2.2.2.2.2.2.2
theorem ggX10_hold_X10_isPair : GoodIn wsX10_hold wsX10_isPair := goodIn_s (fun _ h => wm_t (wm_r (wm_l (wm_r h)))) Gd_X10_isPair
theorem gX10_hold_X10_isPair : GoodIn wsX10_hold (va_wsS RX10 132 yX10_isPair wsX10_isPair) := goodIn_S (own := RX10) (idx := 132) (y := yX10_isPair) (wm_t (wm_l (wm_i 4 rfl))) (wm_t (wm_l (wm_i 5 rfl))) (wm_t (wm_l (wm_i 6 rfl))) ggX10_hold_X10_isPair
theorem ggX10_hold_X10_isFrom : GoodIn wsX10_hold wsX10_isFrom := goodIn_s (fun _ h => wm_t (wm_r (wm_r (wm_l (wm_l h))))) Gd_X10_isFrom
theorem gX10_hold_X10_isFrom : GoodIn wsX10_hold (va_wsS RX10 135 yX10_isFrom wsX10_isFrom) := goodIn_S (own := RX10) (idx := 135) (y := yX10_isFrom) (wm_t (wm_l (wm_i 7 rfl))) (wm_t (wm_l (wm_i 8 rfl))) (wm_t (wm_l (wm_i 6 rfl))) ggX10_hold_X10_isFrom
theorem ggX10_hold_X10_isDay : GoodIn wsX10_hold wsX10_isDay := goodIn_s (fun _ h => wm_t (wm_r (wm_r (wm_l (wm_r h))))) Gd_X10_isDay
theorem gX10_hold_X10_isDay : GoodIn wsX10_hold (va_wsS RX10 138 yX10_isDay wsX10_isDay) := goodIn_S (own := RX10) (idx := 138) (y := yX10_isDay) (wm_t (wm_l (wm_i 9 rfl))) (wm_t (wm_l (wm_i 10 rfl))) (wm_t (wm_l (wm_i 6 rfl))) ggX10_hold_X10_isDay
theorem ggX10_hold_X3_tell : GoodIn wsX10_hold wsX3_tell := goodIn_s (fun _ h => wm_t (wm_r (wm_r (wm_r h)))) Gd_X3_tell
theorem gX10_hold_X3_tell : GoodIn wsX10_hold (wsV RX10 146 RX3 yX3_tell wsX3_tell) := goodIn_V (own := RX10) (idx := 146) (C := RX3) (y := yX3_tell) (wm_t (wm_l (wm_i 11 rfl))) (wm_t (wm_l (wm_i 12 rfl))) (wm_t (wm_l (wm_i 13 rfl))) (wm_t (wm_l (wm_i 14 rfl))) ggX10_hold_X3_tell
theorem dX10_hold_all0 : decode cX10_hold 0 = .ok (.iload_n 1, 1) ∧ decode cX10_hold 1 = .ok (.iload_n 2, 1) ∧ decode cX10_hold 2 = .ok (.invokestatic 132, 3) ∧ decode cX10_hold 5 = .ok (.ifCond .eq 21, 3) ∧ decode cX10_hold 8 = .ok (.iload_n 3, 1) ∧ decode cX10_hold 9 = .ok (.iconst 0, 1) ∧ decode cX10_hold 10 = .ok (.bipush 100, 2) ∧ decode cX10_hold 12 = .ok (.invokestatic 135, 3) ∧ decode cX10_hold 15 = .ok (.ifCond .eq 11, 3) ∧ decode cX10_hold 18 = .ok (.iload 4, 2) ∧ decode cX10_hold 20 = .ok (.invokestatic 138, 3) ∧ decode cX10_hold 23 = .ok (.ifCond .ne 6, 3) := by decide +kernel
theorem dX10_hold_0 : decode cX10_hold 0 = .ok (.iload_n 1, 1) := dX10_hold_all0.1
theorem dX10_hold_1 : decode cX10_hold 1 = .ok (.iload_n 2, 1) := dX10_hold_all0.2.1
theorem dX10_hold_2 : decode cX10_hold 2 = .ok (.invokestatic 132, 3) := dX10_hold_all0.2.2.1
theorem dX10_hold_5 : decode cX10_hold 5 = .ok (.ifCond .eq 21, 3) := dX10_hold_all0.2.2.2.1
theorem dX10_hold_8 : decode cX10_hold 8 = .ok (.iload_n 3, 1) := dX10_hold_all0.2.2.2.2.1
theorem dX10_hold_9 : decode cX10_hold 9 = .ok (.iconst 0, 1) := dX10_hold_all0.2.2.2.2.2.1
theorem dX10_hold_10 : decode cX10_hold 10 = .ok (.bipush 100, 2) := dX10_hold_all0.2.2.2.2.2.2.1
theorem dX10_hold_12 : decode cX10_hold 12 = .ok (.invokestatic 135, 3) := dX10_hold_all0.2.2.2.2.2.2.2.1
theorem dX10_hold_15 : decode cX10_hold 15 = .ok (.ifCond .eq 11, 3) := dX10_hold_all0.2.2.2.2.2.2.2.2.1
theorem dX10_hold_18 : decode cX10_hold 18 = .ok (.iload 4, 2) := dX10_hold_all0.2.2.2.2.2.2.2.2.2.1
theorem dX10_hold_20 : decode cX10_hold 20 = .ok (.invokestatic 138, 3) := dX10_hold_all0.2.2.2.2.2.2.2.2.2.2.1
theorem dX10_hold_23 : decode cX10_hold 23 = .ok (.ifCond .ne 6, 3) := dX10_hold_all0.2.2.2.2.2.2.2.2.2.2.2
theorem dX10_hold_all1 : decode cX10_hold 26 = .ok (.ldc 89, 2) ∧ decode cX10_hold 28 = .ok (.ireturn, 1) ∧ decode cX10_hold 29 = .ok (.aload_n 0, 1) ∧ decode cX10_hold 30 = .ok (.getfield 19, 3) ∧ decode cX10_hold 33 = .ok (.getfield 141, 3) ∧ decode cX10_hold 36 = .ok (.bipush 40, 2) ∧ decode cX10_hold 38 = .ok (.if_icmp .lt 6, 3) ∧ decode cX10_hold 41 = .ok (.ldc 145, 2) ∧ decode cX10_hold 43 = .ok (.ireturn, 1) ∧ decode cX10_hold 44 = .ok (.aload_n 0, 1) ∧ decode cX10_hold 45 = .ok (.getfield 19, 3) ∧ decode cX10_hold 48 = .ok (.iload_n 1, 1) := by decide +kernel
theorem dX10_hold_26 : decode cX10_hold 26 = .ok (.ldc 89, 2) := dX10_hold_all1.1
theorem dX10_hold_28 : decode cX10_hold 28 = .ok (.ireturn, 1) := dX10_hold_all1.2.1
theorem dX10_hold_29 : decode cX10_hold 29 = .ok (.aload_n 0, 1) := dX10_hold_all1.2.2.1
theorem dX10_hold_30 : decode cX10_hold 30 = .ok (.getfield 19, 3) := dX10_hold_all1.2.2.2.1
theorem dX10_hold_33 : decode cX10_hold 33 = .ok (.getfield 141, 3) := dX10_hold_all1.2.2.2.2.1
theorem dX10_hold_36 : decode cX10_hold 36 = .ok (.bipush 40, 2) := dX10_hold_all1.2.2.2.2.2.1
theorem dX10_hold_38 : decode cX10_hold 38 = .ok (.if_icmp .lt 6, 3) := dX10_hold_all1.2.2.2.2.2.2.1
theorem dX10_hold_41 : decode cX10_hold 41 = .ok (.ldc 145, 2) := dX10_hold_all1.2.2.2.2.2.2.2.1
theorem dX10_hold_43 : decode cX10_hold 43 = .ok (.ireturn, 1) := dX10_hold_all1.2.2.2.2.2.2.2.2.1
theorem dX10_hold_44 : decode cX10_hold 44 = .ok (.aload_n 0, 1) := dX10_hold_all1.2.2.2.2.2.2.2.2.2.1
theorem dX10_hold_45 : decode cX10_hold 45 = .ok (.getfield 19, 3) := dX10_hold_all1.2.2.2.2.2.2.2.2.2.2.1
theorem dX10_hold_48 : decode cX10_hold 48 = .ok (.iload_n 1, 1) := dX10_hold_all1.2.2.2.2.2.2.2.2.2.2.2
theorem dX10_hold_all2 : decode cX10_hold 49 = .ok (.iload_n 2, 1) ∧ decode cX10_hold 50 = .ok (.iload_n 3, 1) ∧ decode cX10_hold 51 = .ok (.iload 4, 2) ∧ decode cX10_hold 53 = .ok (.invokevirtual 146, 3) ∧ decode cX10_hold 56 = .ok (.ireturn, 1) := by decide +kernel
theorem dX10_hold_49 : decode cX10_hold 49 = .ok (.iload_n 2, 1) := dX10_hold_all2.1
theorem dX10_hold_50 : decode cX10_hold 50 = .ok (.iload_n 3, 1) := dX10_hold_all2.2.1
theorem dX10_hold_51 : decode cX10_hold 51 = .ok (.iload 4, 2) := dX10_hold_all2.2.2.1
theorem dX10_hold_53 : decode cX10_hold 53 = .ok (.invokevirtual 146, 3) := dX10_hold_all2.2.2.2.1
theorem dX10_hold_56 : decode cX10_hold 56 = .ok (.ireturn, 1) := dX10_hold_all2.2.2.2.2
theorem ggX10_crate_X10_isOwner : GoodIn wsX10_crate wsX10_isOwner := goodIn_s (fun _ h => wm_t (wm_r (wm_l (wm_r h)))) Gd_X10_isOwner
theorem gX10_crate_X10_isOwner : GoodIn wsX10_crate (va_wsS RX10 163 yX10_isOwner wsX10_isOwner) := goodIn_S (own := RX10) (idx := 163) (y := yX10_isOwner) (wm_t (wm_l (wm_i 5 rfl))) (wm_t (wm_l (wm_i 6 rfl))) (wm_t (wm_l (wm_i 7 rfl))) ggX10_crate_X10_isOwner
theorem ggX10_crate_X10_isFrom : GoodIn wsX10_crate wsX10_isFrom := goodIn_s (fun _ h => wm_t (wm_r (wm_r (wm_l h)))) Gd_X10_isFrom
theorem gX10_crate_X10_isFrom : GoodIn wsX10_crate (va_wsS RX10 135 yX10_isFrom wsX10_isFrom) := goodIn_S (own := RX10) (idx := 135) (y := yX10_isFrom) (wm_t (wm_l (wm_i 8 rfl))) (wm_t (wm_l (wm_i 9 rfl))) (wm_t (wm_l (wm_i 7 rfl))) ggX10_crate_X10_isFrom
theorem ggX10_crate_X1_tell : GoodIn wsX10_crate wsX1_tell := goodIn_s (fun _ h => wm_t (wm_r (wm_r (wm_r h)))) Gd_X1_tell
theorem gX10_crate_X1_tell : GoodIn wsX10_crate (wsV RX10 178 RX1 yX1_tell wsX1_tell) := goodIn_V (own := RX10) (idx := 178) (C := RX1) (y := yX1_tell) (wm_t (wm_l (wm_i 10 rfl))) (wm_t (wm_l (wm_i 11 rfl))) (wm_t (wm_l (wm_i 12 rfl))) (wm_t (wm_l (wm_i 13 rfl))) ggX10_crate_X1_tell
theorem dX10_crate_all0 : decode cX10_crate 0 = .ok (.iload_n 1, 1) ∧ decode cX10_crate 1 = .ok (.invokestatic 163, 3) ∧ decode cX10_crate 4 = .ok (.ifCond .eq 13, 3) ∧ decode cX10_crate 7 = .ok (.iload_n 2, 1) ∧ decode cX10_crate 8 = .ok (.iconst 1, 1) ∧ decode cX10_crate 9 = .ok (.ldc 176, 2) ∧ decode cX10_crate 11 = .ok (.invokestatic 135, 3) ∧ decode cX10_crate 14 = .ok (.ifCond .ne 6, 3) ∧ decode cX10_crate 17 = .ok (.ldc 89, 2) ∧ decode cX10_crate 19 = .ok (.ireturn, 1) ∧ decode cX10_crate 20 = .ok (.aload_n 0, 1) ∧ decode cX10_crate 21 = .ok (.getfield 26, 3) := by decide +kernel
theorem dX10_crate_0 : decode cX10_crate 0 = .ok (.iload_n 1, 1) := dX10_crate_all0.1
theorem dX10_crate_1 : decode cX10_crate 1 = .ok (.invokestatic 163, 3) := dX10_crate_all0.2.1
theorem dX10_crate_4 : decode cX10_crate 4 = .ok (.ifCond .eq 13, 3) := dX10_crate_all0.2.2.1
theorem dX10_crate_7 : decode cX10_crate 7 = .ok (.iload_n 2, 1) := dX10_crate_all0.2.2.2.1
theorem dX10_crate_8 : decode cX10_crate 8 = .ok (.iconst 1, 1) := dX10_crate_all0.2.2.2.2.1
theorem dX10_crate_9 : decode cX10_crate 9 = .ok (.ldc 176, 2) := dX10_crate_all0.2.2.2.2.2.1
theorem dX10_crate_11 : decode cX10_crate 11 = .ok (.invokestatic 135, 3) := dX10_crate_all0.2.2.2.2.2.2.1
theorem dX10_crate_14 : decode cX10_crate 14 = .ok (.ifCond .ne 6, 3) := dX10_crate_all0.2.2.2.2.2.2.2.1
theorem dX10_crate_17 : decode cX10_crate 17 = .ok (.ldc 89, 2) := dX10_crate_all0.2.2.2.2.2.2.2.2.1
theorem dX10_crate_19 : decode cX10_crate 19 = .ok (.ireturn, 1) := dX10_crate_all0.2.2.2.2.2.2.2.2.2.1
theorem dX10_crate_20 : decode cX10_crate 20 = .ok (.aload_n 0, 1) := dX10_crate_all0.2.2.2.2.2.2.2.2.2.2.1
theorem dX10_crate_21 : decode cX10_crate 21 = .ok (.getfield 26, 3) := dX10_crate_all0.2.2.2.2.2.2.2.2.2.2.2
theorem dX10_crate_all1 : decode cX10_crate 24 = .ok (.getfield 177, 3) ∧ decode cX10_crate 27 = .ok (.bipush 12, 2) ∧ decode cX10_crate 29 = .ok (.if_icmp .lt 6, 3) ∧ decode cX10_crate 32 = .ok (.ldc 145, 2) ∧ decode cX10_crate 34 = .ok (.ireturn, 1) ∧ decode cX10_crate 35 = .ok (.aload_n 0, 1) ∧ decode cX10_crate 36 = .ok (.getfield 26, 3) ∧ decode cX10_crate 39 = .ok (.iload_n 1, 1) ∧ decode cX10_crate 40 = .ok (.iload_n 2, 1) ∧ decode cX10_crate 41 = .ok (.invokevirtual 178, 3) ∧ decode cX10_crate 44 = .ok (.ireturn, 1) := by decide +kernel
theorem dX10_crate_24 : decode cX10_crate 24 = .ok (.getfield 177, 3) := dX10_crate_all1.1
theorem dX10_crate_27 : decode cX10_crate 27 = .ok (.bipush 12, 2) := dX10_crate_all1.2.1
theorem dX10_crate_29 : decode cX10_crate 29 = .ok (.if_icmp .lt 6, 3) := dX10_crate_all1.2.2.1
theorem dX10_crate_32 : decode cX10_crate 32 = .ok (.ldc 145, 2) := dX10_crate_all1.2.2.2.1
theorem dX10_crate_34 : decode cX10_crate 34 = .ok (.ireturn, 1) := dX10_crate_all1.2.2.2.2.1
theorem dX10_crate_35 : decode cX10_crate 35 = .ok (.aload_n 0, 1) := dX10_crate_all1.2.2.2.2.2.1
theorem dX10_crate_36 : decode cX10_crate 36 = .ok (.getfield 26, 3) := dX10_crate_all1.2.2.2.2.2.2.1
theorem dX10_crate_39 : decode cX10_crate 39 = .ok (.iload_n 1, 1) := dX10_crate_all1.2.2.2.2.2.2.2.1
theorem dX10_crate_40 : decode cX10_crate 40 = .ok (.iload_n 2, 1) := dX10_crate_all1.2.2.2.2.2.2.2.2.1
theorem dX10_crate_41 : decode cX10_crate 41 = .ok (.invokevirtual 178, 3) := dX10_crate_all1.2.2.2.2.2.2.2.2.2.1
theorem dX10_crate_44 : decode cX10_crate 44 = .ok (.ireturn, 1) := dX10_crate_all1.2.2.2.2.2.2.2.2.2.2
theorem ggX10_pledge_X10_isCrate : GoodIn wsX10_pledge wsX10_isCrate := goodIn_s (fun _ h => wm_t (wm_r (wm_l (wm_r (wm_r h))))) Gd_X10_isCrate
theorem gX10_pledge_X10_isCrate : GoodIn wsX10_pledge (wsV RX10 180 RX10 yX10_isCrate wsX10_isCrate) := goodIn_V (own := RX10) (idx := 180) (C := RX10) (y := yX10_isCrate) (wm_t (wm_l (wm_i 5 rfl))) (wm_t (wm_l (wm_i 6 rfl))) (wm_t (wm_l (wm_i 7 rfl))) (wm_t (wm_l (wm_i 8 rfl))) ggX10_pledge_X10_isCrate
theorem ggX10_pledge_X10_isPerson : GoodIn wsX10_pledge wsX10_isPerson := goodIn_s (fun _ h => wm_t (wm_r (wm_r (wm_l (wm_l h))))) Gd_X10_isPerson
theorem gX10_pledge_X10_isPerson : GoodIn wsX10_pledge (va_wsS RX10 160 yX10_isPerson wsX10_isPerson) := goodIn_S (own := RX10) (idx := 160) (y := yX10_isPerson) (wm_t (wm_l (wm_i 9 rfl))) (wm_t (wm_l (wm_i 10 rfl))) (wm_t (wm_l (wm_i 8 rfl))) ggX10_pledge_X10_isPerson
theorem ggX10_pledge_X10_isFrom : GoodIn wsX10_pledge wsX10_isFrom := goodIn_s (fun _ h => wm_t (wm_r (wm_r (wm_l (wm_r h))))) Gd_X10_isFrom
theorem gX10_pledge_X10_isFrom : GoodIn wsX10_pledge (va_wsS RX10 135 yX10_isFrom wsX10_isFrom) := goodIn_S (own := RX10) (idx := 135) (y := yX10_isFrom) (wm_t (wm_l (wm_i 11 rfl))) (wm_t (wm_l (wm_i 12 rfl))) (wm_t (wm_l (wm_i 8 rfl))) ggX10_pledge_X10_isFrom
theorem ggX10_pledge_X10_areDays : GoodIn wsX10_pledge wsX10_areDays := goodIn_s (fun _ h => wm_t (wm_r (wm_r (wm_r (wm_l h))))) Gd_X10_areDays
theorem gX10_pledge_X10_areDays : GoodIn wsX10_pledge (va_wsS RX10 183 yX10_areDays wsX10_areDays) := goodIn_S (own := RX10) (idx := 183) (y := yX10_areDays) (wm_t (wm_l (wm_i 13 rfl))) (wm_t (wm_l (wm_i 14 rfl))) (wm_t (wm_l (wm_i 8 rfl))) ggX10_pledge_X10_areDays
theorem ggX10_pledge_X8_tell : GoodIn wsX10_pledge wsX8_tell := goodIn_s (fun _ h => wm_t (wm_r (wm_r (wm_r (wm_r h))))) Gd_X8_tell
theorem gX10_pledge_X8_tell : GoodIn wsX10_pledge (wsV RX10 200 RX8 yX8_tell wsX8_tell) := goodIn_V (own := RX10) (idx := 200) (C := RX8) (y := yX8_tell) (wm_t (wm_l (wm_i 15 rfl))) (wm_t (wm_l (wm_i 16 rfl))) (wm_t (wm_l (wm_i 17 rfl))) (wm_t (wm_l (wm_i 18 rfl))) ggX10_pledge_X8_tell
theorem dX10_pledge_all0 : decode cX10_pledge 0 = .ok (.aload_n 0, 1) ∧ decode cX10_pledge 1 = .ok (.iload_n 1, 1) ∧ decode cX10_pledge 2 = .ok (.invokevirtual 180, 3) ∧ decode cX10_pledge 5 = .ok (.ifCond .eq 30, 3) ∧ decode cX10_pledge 8 = .ok (.iload_n 2, 1) ∧ decode cX10_pledge 9 = .ok (.invokestatic 160, 3) ∧ decode cX10_pledge 12 = .ok (.ifCond .eq 23, 3) ∧ decode cX10_pledge 15 = .ok (.iload_n 3, 1) ∧ decode cX10_pledge 16 = .ok (.iconst 1, 1) ∧ decode cX10_pledge 17 = .ok (.ldc 176, 2) ∧ decode cX10_pledge 19 = .ok (.invokestatic 135, 3) ∧ decode cX10_pledge 22 = .ok (.ifCond .eq 13, 3) := by decide +kernel
theorem dX10_pledge_0 : decode cX10_pledge 0 = .ok (.aload_n 0, 1) := dX10_pledge_all0.1
theorem dX10_pledge_1 : decode cX10_pledge 1 = .ok (.iload_n 1, 1) := dX10_pledge_all0.2.1
theorem dX10_pledge_2 : decode cX10_pledge 2 = .ok (.invokevirtual 180, 3) := dX10_pledge_all0.2.2.1
theorem dX10_pledge_5 : decode cX10_pledge 5 = .ok (.ifCond .eq 30, 3) := dX10_pledge_all0.2.2.2.1
theorem dX10_pledge_8 : decode cX10_pledge 8 = .ok (.iload_n 2, 1) := dX10_pledge_all0.2.2.2.2.1
theorem dX10_pledge_9 : decode cX10_pledge 9 = .ok (.invokestatic 160, 3) := dX10_pledge_all0.2.2.2.2.2.1
theorem dX10_pledge_12 : decode cX10_pledge 12 = .ok (.ifCond .eq 23, 3) := dX10_pledge_all0.2.2.2.2.2.2.1
theorem dX10_pledge_15 : decode cX10_pledge 15 = .ok (.iload_n 3, 1) := dX10_pledge_all0.2.2.2.2.2.2.2.1
theorem dX10_pledge_16 : decode cX10_pledge 16 = .ok (.iconst 1, 1) := dX10_pledge_all0.2.2.2.2.2.2.2.2.1
theorem dX10_pledge_17 : decode cX10_pledge 17 = .ok (.ldc 176, 2) := dX10_pledge_all0.2.2.2.2.2.2.2.2.2.1
theorem dX10_pledge_19 : decode cX10_pledge 19 = .ok (.invokestatic 135, 3) := dX10_pledge_all0.2.2.2.2.2.2.2.2.2.2.1
theorem dX10_pledge_22 : decode cX10_pledge 22 = .ok (.ifCond .eq 13, 3) := dX10_pledge_all0.2.2.2.2.2.2.2.2.2.2.2
theorem dX10_pledge_all1 : decode cX10_pledge 25 = .ok (.iload 4, 2) ∧ decode cX10_pledge 27 = .ok (.iload 5, 2) ∧ decode cX10_pledge 29 = .ok (.invokestatic 183, 3) ∧ decode cX10_pledge 32 = .ok (.ifCond .ne 6, 3) ∧ decode cX10_pledge 35 = .ok (.ldc 89, 2) ∧ decode cX10_pledge 37 = .ok (.ireturn, 1) ∧ decode cX10_pledge 38 = .ok (.aload_n 0, 1) ∧ decode cX10_pledge 39 = .ok (.getfield 40, 3) ∧ decode cX10_pledge 42 = .ok (.getfield 199, 3) ∧ decode cX10_pledge 45 = .ok (.bipush 40, 2) ∧ decode cX10_pledge 47 = .ok (.if_icmp .lt 6, 3) ∧ decode cX10_pledge 50 = .ok (.ldc 145, 2) := by decide +kernel
theorem dX10_pledge_25 : decode cX10_pledge 25 = .ok (.iload 4, 2) := dX10_pledge_all1.1
theorem dX10_pledge_27 : decode cX10_pledge 27 = .ok (.iload 5, 2) := dX10_pledge_all1.2.1
theorem dX10_pledge_29 : decode cX10_pledge 29 = .ok (.invokestatic 183, 3) := dX10_pledge_all1.2.2.1
theorem dX10_pledge_32 : decode cX10_pledge 32 = .ok (.ifCond .ne 6, 3) := dX10_pledge_all1.2.2.2.1
theorem dX10_pledge_35 : decode cX10_pledge 35 = .ok (.ldc 89, 2) := dX10_pledge_all1.2.2.2.2.1
theorem dX10_pledge_37 : decode cX10_pledge 37 = .ok (.ireturn, 1) := dX10_pledge_all1.2.2.2.2.2.1
theorem dX10_pledge_38 : decode cX10_pledge 38 = .ok (.aload_n 0, 1) := dX10_pledge_all1.2.2.2.2.2.2.1
theorem dX10_pledge_39 : decode cX10_pledge 39 = .ok (.getfield 40, 3) := dX10_pledge_all1.2.2.2.2.2.2.2.1
theorem dX10_pledge_42 : decode cX10_pledge 42 = .ok (.getfield 199, 3) := dX10_pledge_all1.2.2.2.2.2.2.2.2.1
theorem dX10_pledge_45 : decode cX10_pledge 45 = .ok (.bipush 40, 2) := dX10_pledge_all1.2.2.2.2.2.2.2.2.2.1
theorem dX10_pledge_47 : decode cX10_pledge 47 = .ok (.if_icmp .lt 6, 3) := dX10_pledge_all1.2.2.2.2.2.2.2.2.2.2.1
theorem dX10_pledge_50 : decode cX10_pledge 50 = .ok (.ldc 145, 2) := dX10_pledge_all1.2.2.2.2.2.2.2.2.2.2.2
theorem dX10_pledge_all2 : decode cX10_pledge 52 = .ok (.ireturn, 1) ∧ decode cX10_pledge 53 = .ok (.aload_n 0, 1) ∧ decode cX10_pledge 54 = .ok (.getfield 40, 3) ∧ decode cX10_pledge 57 = .ok (.iload_n 1, 1) ∧ decode cX10_pledge 58 = .ok (.iload_n 3, 1) ∧ decode cX10_pledge 59 = .ok (.iload 4, 2) ∧ decode cX10_pledge 61 = .ok (.iload 5, 2) ∧ decode cX10_pledge 63 = .ok (.invokevirtual 200, 3) ∧ decode cX10_pledge 66 = .ok (.ireturn, 1) := by decide +kernel
theorem dX10_pledge_52 : decode cX10_pledge 52 = .ok (.ireturn, 1) := dX10_pledge_all2.1
theorem dX10_pledge_53 : decode cX10_pledge 53 = .ok (.aload_n 0, 1) := dX10_pledge_all2.2.1
theorem dX10_pledge_54 : decode cX10_pledge 54 = .ok (.getfield 40, 3) := dX10_pledge_all2.2.2.1
theorem dX10_pledge_57 : decode cX10_pledge 57 = .ok (.iload_n 1, 1) := dX10_pledge_all2.2.2.2.1
theorem dX10_pledge_58 : decode cX10_pledge 58 = .ok (.iload_n 3, 1) := dX10_pledge_all2.2.2.2.2.1
theorem dX10_pledge_59 : decode cX10_pledge 59 = .ok (.iload 4, 2) := dX10_pledge_all2.2.2.2.2.2.1
theorem dX10_pledge_61 : decode cX10_pledge 61 = .ok (.iload 5, 2) := dX10_pledge_all2.2.2.2.2.2.2.1
theorem dX10_pledge_63 : decode cX10_pledge 63 = .ok (.invokevirtual 200, 3) := dX10_pledge_all2.2.2.2.2.2.2.2.1
theorem dX10_pledge_66 : decode cX10_pledge 66 = .ok (.ireturn, 1) := dX10_pledge_all2.2.2.2.2.2.2.2.2
theorem ggX10_act_X10_isCrate : GoodIn wsX10_act wsX10_isCrate := goodIn_s (fun _ h => wm_t (wm_r (wm_l (wm_r (wm_r h))))) Gd_X10_isCrate
theorem gX10_act_X10_isCrate : GoodIn wsX10_act (wsV RX10 180 RX10 yX10_isCrate wsX10_isCrate) := goodIn_V (own := RX10) (idx := 180) (C := RX10) (y := yX10_isCrate) (wm_t (wm_l (wm_i 4 rfl))) (wm_t (wm_l (wm_i 5 rfl))) (wm_t (wm_l (wm_i 6 rfl))) (wm_t (wm_l (wm_i 7 rfl))) ggX10_act_X10_isCrate
theorem ggX10_act_X10_isBelow : GoodIn wsX10_act wsX10_isBelow := goodIn_s (fun _ h => wm_t (wm_r (wm_r (wm_l (wm_l h))))) Gd_X10_isBelow
theorem gX10_act_X10_isBelow : GoodIn wsX10_act (va_wsS RX10 85 yX10_isBelow wsX10_isBelow) := goodIn_S (own := RX10) (idx := 85) (y := yX10_isBelow) (wm_t (wm_l (wm_i 8 rfl))) (wm_t (wm_l (wm_i 9 rfl))) (wm_t (wm_l (wm_i 7 rfl))) ggX10_act_X10_isBelow
theorem ggX10_act_X10_isDay : GoodIn wsX10_act wsX10_isDay := goodIn_s (fun _ h => wm_t (wm_r (wm_r (wm_l (wm_r h))))) Gd_X10_isDay
theorem gX10_act_X10_isDay : GoodIn wsX10_act (va_wsS RX10 138 yX10_isDay wsX10_isDay) := goodIn_S (own := RX10) (idx := 138) (y := yX10_isDay) (wm_t (wm_l (wm_i 10 rfl))) (wm_t (wm_l (wm_i 11 rfl))) (wm_t (wm_l (wm_i 7 rfl))) ggX10_act_X10_isDay
theorem ggX10_act_X10_isFrom : GoodIn wsX10_act wsX10_isFrom := goodIn_s (fun _ h => wm_t (wm_r (wm_r (wm_r (wm_l h))))) Gd_X10_isFrom
theorem gX10_act_X10_isFrom : GoodIn wsX10_act (va_wsS RX10 135 yX10_isFrom wsX10_isFrom) := goodIn_S (own := RX10) (idx := 135) (y := yX10_isFrom) (wm_t (wm_l (wm_i 12 rfl))) (wm_t (wm_l (wm_i 13 rfl))) (wm_t (wm_l (wm_i 7 rfl))) ggX10_act_X10_isFrom
theorem ggX10_act_X0_tell : GoodIn wsX10_act wsX0_tell := goodIn_s (fun _ h => wm_t (wm_r (wm_r (wm_r (wm_r h))))) Gd_X0_tell
theorem gX10_act_X0_tell : GoodIn wsX10_act (wsV RX10 228 RX0 yX0_tell wsX0_tell) := goodIn_V (own := RX10) (idx := 228) (C := RX0) (y := yX0_tell) (wm_t (wm_l (wm_i 14 rfl))) (wm_t (wm_l (wm_i 15 rfl))) (wm_t (wm_l (wm_i 16 rfl))) (wm_t (wm_l (wm_i 17 rfl))) ggX10_act_X0_tell
theorem dX10_act_all0 : decode cX10_act 0 = .ok (.aload_n 0, 1) ∧ decode cX10_act 1 = .ok (.iload_n 1, 1) ∧ decode cX10_act 2 = .ok (.invokevirtual 180, 3) ∧ decode cX10_act 5 = .ok (.ifCond .eq 30, 3) ∧ decode cX10_act 8 = .ok (.iload_n 2, 1) ∧ decode cX10_act 9 = .ok (.iconst 4, 1) ∧ decode cX10_act 10 = .ok (.invokestatic 85, 3) ∧ decode cX10_act 13 = .ok (.ifCond .eq 22, 3) ∧ decode cX10_act 16 = .ok (.iload_n 3, 1) ∧ decode cX10_act 17 = .ok (.invokestatic 138, 3) ∧ decode cX10_act 20 = .ok (.ifCond .eq 15, 3) ∧ decode cX10_act 23 = .ok (.iload 4, 2) := by decide +kernel
theorem dX10_act_0 : decode cX10_act 0 = .ok (.aload_n 0, 1) := dX10_act_all0.1
theorem dX10_act_1 : decode cX10_act 1 = .ok (.iload_n 1, 1) := dX10_act_all0.2.1
theorem dX10_act_2 : decode cX10_act 2 = .ok (.invokevirtual 180, 3) := dX10_act_all0.2.2.1
theorem dX10_act_5 : decode cX10_act 5 = .ok (.ifCond .eq 30, 3) := dX10_act_all0.2.2.2.1
theorem dX10_act_8 : decode cX10_act 8 = .ok (.iload_n 2, 1) := dX10_act_all0.2.2.2.2.1
theorem dX10_act_9 : decode cX10_act 9 = .ok (.iconst 4, 1) := dX10_act_all0.2.2.2.2.2.1
theorem dX10_act_10 : decode cX10_act 10 = .ok (.invokestatic 85, 3) := dX10_act_all0.2.2.2.2.2.2.1
theorem dX10_act_13 : decode cX10_act 13 = .ok (.ifCond .eq 22, 3) := dX10_act_all0.2.2.2.2.2.2.2.1
theorem dX10_act_16 : decode cX10_act 16 = .ok (.iload_n 3, 1) := dX10_act_all0.2.2.2.2.2.2.2.2.1
theorem dX10_act_17 : decode cX10_act 17 = .ok (.invokestatic 138, 3) := dX10_act_all0.2.2.2.2.2.2.2.2.2.1
theorem dX10_act_20 : decode cX10_act 20 = .ok (.ifCond .eq 15, 3) := dX10_act_all0.2.2.2.2.2.2.2.2.2.2.1
theorem dX10_act_23 : decode cX10_act 23 = .ok (.iload 4, 2) := dX10_act_all0.2.2.2.2.2.2.2.2.2.2.2
theorem dX10_act_all1 : decode cX10_act 25 = .ok (.iconst 0, 1) ∧ decode cX10_act 26 = .ok (.sipush 999, 3) ∧ decode cX10_act 29 = .ok (.invokestatic 135, 3) ∧ decode cX10_act 32 = .ok (.ifCond .ne 6, 3) ∧ decode cX10_act 35 = .ok (.ldc 89, 2) ∧ decode cX10_act 37 = .ok (.ireturn, 1) ∧ decode cX10_act 38 = .ok (.aload_n 0, 1) ∧ decode cX10_act 39 = .ok (.getfield 54, 3) ∧ decode cX10_act 42 = .ok (.getfield 227, 3) ∧ decode cX10_act 45 = .ok (.bipush 60, 2) ∧ decode cX10_act 47 = .ok (.if_icmp .lt 6, 3) ∧ decode cX10_act 50 = .ok (.ldc 145, 2) := by decide +kernel
theorem dX10_act_25 : decode cX10_act 25 = .ok (.iconst 0, 1) := dX10_act_all1.1
theorem dX10_act_26 : decode cX10_act 26 = .ok (.sipush 999, 3) := dX10_act_all1.2.1
theorem dX10_act_29 : decode cX10_act 29 = .ok (.invokestatic 135, 3) := dX10_act_all1.2.2.1
theorem dX10_act_32 : decode cX10_act 32 = .ok (.ifCond .ne 6, 3) := dX10_act_all1.2.2.2.1
theorem dX10_act_35 : decode cX10_act 35 = .ok (.ldc 89, 2) := dX10_act_all1.2.2.2.2.1
theorem dX10_act_37 : decode cX10_act 37 = .ok (.ireturn, 1) := dX10_act_all1.2.2.2.2.2.1
theorem dX10_act_38 : decode cX10_act 38 = .ok (.aload_n 0, 1) := dX10_act_all1.2.2.2.2.2.2.1
theorem dX10_act_39 : decode cX10_act 39 = .ok (.getfield 54, 3) := dX10_act_all1.2.2.2.2.2.2.2.1
theorem dX10_act_42 : decode cX10_act 42 = .ok (.getfield 227, 3) := dX10_act_all1.2.2.2.2.2.2.2.2.1
theorem dX10_act_45 : decode cX10_act 45 = .ok (.bipush 60, 2) := dX10_act_all1.2.2.2.2.2.2.2.2.2.1
theorem dX10_act_47 : decode cX10_act 47 = .ok (.if_icmp .lt 6, 3) := dX10_act_all1.2.2.2.2.2.2.2.2.2.2.1
theorem dX10_act_50 : decode cX10_act 50 = .ok (.ldc 145, 2) := dX10_act_all1.2.2.2.2.2.2.2.2.2.2.2
theorem dX10_act_all2 : decode cX10_act 52 = .ok (.ireturn, 1) ∧ decode cX10_act 53 = .ok (.aload_n 0, 1) ∧ decode cX10_act 54 = .ok (.getfield 54, 3) ∧ decode cX10_act 57 = .ok (.iload_n 1, 1) ∧ decode cX10_act 58 = .ok (.iload_n 2, 1) ∧ decode cX10_act 59 = .ok (.iload_n 3, 1) ∧ decode cX10_act 60 = .ok (.iload 4, 2) ∧ decode cX10_act 62 = .ok (.invokevirtual 228, 3) ∧ decode cX10_act 65 = .ok (.ireturn, 1) := by decide +kernel
theorem dX10_act_52 : decode cX10_act 52 = .ok (.ireturn, 1) := dX10_act_all2.1
theorem dX10_act_53 : decode cX10_act 53 = .ok (.aload_n 0, 1) := dX10_act_all2.2.1
theorem dX10_act_54 : decode cX10_act 54 = .ok (.getfield 54, 3) := dX10_act_all2.2.2.1
theorem dX10_act_57 : decode cX10_act 57 = .ok (.iload_n 1, 1) := dX10_act_all2.2.2.2.1
theorem dX10_act_58 : decode cX10_act 58 = .ok (.iload_n 2, 1) := dX10_act_all2.2.2.2.2.1
theorem dX10_act_59 : decode cX10_act 59 = .ok (.iload_n 3, 1) := dX10_act_all2.2.2.2.2.2.1
theorem dX10_act_60 : decode cX10_act 60 = .ok (.iload 4, 2) := dX10_act_all2.2.2.2.2.2.2.1
theorem dX10_act_62 : decode cX10_act 62 = .ok (.invokevirtual 228, 3) := dX10_act_all2.2.2.2.2.2.2.2.1
theorem dX10_act_65 : decode cX10_act 65 = .ok (.ireturn, 1) := dX10_act_all2.2.2.2.2.2.2.2.2
theorem ggX10_opened_X10_isCrate : GoodIn wsX10_opened wsX10_isCrate := goodIn_s (fun _ h => wm_t (wm_r (wm_l (wm_r (wm_r h))))) Gd_X10_isCrate
theorem gX10_opened_X10_isCrate : GoodIn wsX10_opened (wsV RX10 180 RX10 yX10_isCrate wsX10_isCrate) := goodIn_V (own := RX10) (idx := 180) (C := RX10) (y := yX10_isCrate) (wm_t (wm_l (wm_i 5 rfl))) (wm_t (wm_l (wm_i 6 rfl))) (wm_t (wm_l (wm_i 7 rfl))) (wm_t (wm_l (wm_i 8 rfl))) ggX10_opened_X10_isCrate
theorem ggX10_opened_X10_isDay : GoodIn wsX10_opened wsX10_isDay := goodIn_s (fun _ h => wm_t (wm_r (wm_r (wm_l (wm_l h))))) Gd_X10_isDay
theorem gX10_opened_X10_isDay : GoodIn wsX10_opened (va_wsS RX10 138 yX10_isDay wsX10_isDay) := goodIn_S (own := RX10) (idx := 138) (y := yX10_isDay) (wm_t (wm_l (wm_i 9 rfl))) (wm_t (wm_l (wm_i 10 rfl))) (wm_t (wm_l (wm_i 8 rfl))) ggX10_opened_X10_isDay
theorem ggX10_opened_X10_isFrom : GoodIn wsX10_opened wsX10_isFrom := goodIn_s (fun _ h => wm_t (wm_r (wm_r (wm_l (wm_r h))))) Gd_X10_isFrom
theorem gX10_opened_X10_isFrom : GoodIn wsX10_opened (va_wsS RX10 135 yX10_isFrom wsX10_isFrom) := goodIn_S (own := RX10) (idx := 135) (y := yX10_isFrom) (wm_t (wm_l (wm_i 11 rfl))) (wm_t (wm_l (wm_i 12 rfl))) (wm_t (wm_l (wm_i 8 rfl))) ggX10_opened_X10_isFrom
theorem ggX10_opened_X6_tell : GoodIn wsX10_opened wsX6_tell := goodIn_s (fun _ h => wm_t (wm_r (wm_r (wm_r h)))) Gd_X6_tell
theorem gX10_opened_X6_tell : GoodIn wsX10_opened (wsV RX10 288 RX6 yX6_tell wsX6_tell) := goodIn_V (own := RX10) (idx := 288) (C := RX6) (y := yX6_tell) (wm_t (wm_l (wm_i 13 rfl))) (wm_t (wm_l (wm_i 14 rfl))) (wm_t (wm_l (wm_i 15 rfl))) (wm_t (wm_l (wm_i 16 rfl))) ggX10_opened_X6_tell
theorem dX10_opened_all0 : decode cX10_opened 0 = .ok (.aload_n 0, 1) ∧ decode cX10_opened 1 = .ok (.iload_n 1, 1) ∧ decode cX10_opened 2 = .ok (.invokevirtual 180, 3) ∧ decode cX10_opened 5 = .ok (.ifCond .eq 32, 3) ∧ decode cX10_opened 8 = .ok (.iload_n 2, 1) ∧ decode cX10_opened 9 = .ok (.invokestatic 138, 3) ∧ decode cX10_opened 12 = .ok (.ifCond .eq 25, 3) ∧ decode cX10_opened 15 = .ok (.iload_n 3, 1) ∧ decode cX10_opened 16 = .ok (.iconst 1, 1) ∧ decode cX10_opened 17 = .ok (.ldc 176, 2) ∧ decode cX10_opened 19 = .ok (.invokestatic 135, 3) ∧ decode cX10_opened 22 = .ok (.ifCond .eq 15, 3) := by decide +kernel
theorem dX10_opened_0 : decode cX10_opened 0 = .ok (.aload_n 0, 1) := dX10_opened_all0.1
theorem dX10_opened_1 : decode cX10_opened 1 = .ok (.iload_n 1, 1) := dX10_opened_all0.2.1
theorem dX10_opened_2 : decode cX10_opened 2 = .ok (.invokevirtual 180, 3) := dX10_opened_all0.2.2.1
theorem dX10_opened_5 : decode cX10_opened 5 = .ok (.ifCond .eq 32, 3) := dX10_opened_all0.2.2.2.1
theorem dX10_opened_8 : decode cX10_opened 8 = .ok (.iload_n 2, 1) := dX10_opened_all0.2.2.2.2.1
theorem dX10_opened_9 : decode cX10_opened 9 = .ok (.invokestatic 138, 3) := dX10_opened_all0.2.2.2.2.2.1
theorem dX10_opened_12 : decode cX10_opened 12 = .ok (.ifCond .eq 25, 3) := dX10_opened_all0.2.2.2.2.2.2.1
theorem dX10_opened_15 : decode cX10_opened 15 = .ok (.iload_n 3, 1) := dX10_opened_all0.2.2.2.2.2.2.2.1
theorem dX10_opened_16 : decode cX10_opened 16 = .ok (.iconst 1, 1) := dX10_opened_all0.2.2.2.2.2.2.2.2.1
theorem dX10_opened_17 : decode cX10_opened 17 = .ok (.ldc 176, 2) := dX10_opened_all0.2.2.2.2.2.2.2.2.2.1
theorem dX10_opened_19 : decode cX10_opened 19 = .ok (.invokestatic 135, 3) := dX10_opened_all0.2.2.2.2.2.2.2.2.2.2.1
theorem dX10_opened_22 : decode cX10_opened 22 = .ok (.ifCond .eq 15, 3) := dX10_opened_all0.2.2.2.2.2.2.2.2.2.2.2
theorem dX10_opened_all1 : decode cX10_opened 25 = .ok (.iload 4, 2) ∧ decode cX10_opened 27 = .ok (.iconst 0, 1) ∧ decode cX10_opened 28 = .ok (.sipush 255, 3) ∧ decode cX10_opened 31 = .ok (.invokestatic 135, 3) ∧ decode cX10_opened 34 = .ok (.ifCond .ne 6, 3) ∧ decode cX10_opened 37 = .ok (.ldc 89, 2) ∧ decode cX10_opened 39 = .ok (.ireturn, 1) ∧ decode cX10_opened 40 = .ok (.aload_n 0, 1) ∧ decode cX10_opened 41 = .ok (.getfield 61, 3) ∧ decode cX10_opened 44 = .ok (.getfield 287, 3) ∧ decode cX10_opened 47 = .ok (.bipush 60, 2) ∧ decode cX10_opened 49 = .ok (.if_icmp .lt 6, 3) := by decide +kernel
theorem dX10_opened_25 : decode cX10_opened 25 = .ok (.iload 4, 2) := dX10_opened_all1.1
theorem dX10_opened_27 : decode cX10_opened 27 = .ok (.iconst 0, 1) := dX10_opened_all1.2.1
theorem dX10_opened_28 : decode cX10_opened 28 = .ok (.sipush 255, 3) := dX10_opened_all1.2.2.1
theorem dX10_opened_31 : decode cX10_opened 31 = .ok (.invokestatic 135, 3) := dX10_opened_all1.2.2.2.1
theorem dX10_opened_34 : decode cX10_opened 34 = .ok (.ifCond .ne 6, 3) := dX10_opened_all1.2.2.2.2.1
theorem dX10_opened_37 : decode cX10_opened 37 = .ok (.ldc 89, 2) := dX10_opened_all1.2.2.2.2.2.1
theorem dX10_opened_39 : decode cX10_opened 39 = .ok (.ireturn, 1) := dX10_opened_all1.2.2.2.2.2.2.1
theorem dX10_opened_40 : decode cX10_opened 40 = .ok (.aload_n 0, 1) := dX10_opened_all1.2.2.2.2.2.2.2.1
theorem dX10_opened_41 : decode cX10_opened 41 = .ok (.getfield 61, 3) := dX10_opened_all1.2.2.2.2.2.2.2.2.1
theorem dX10_opened_44 : decode cX10_opened 44 = .ok (.getfield 287, 3) := dX10_opened_all1.2.2.2.2.2.2.2.2.2.1
theorem dX10_opened_47 : decode cX10_opened 47 = .ok (.bipush 60, 2) := dX10_opened_all1.2.2.2.2.2.2.2.2.2.2.1
theorem dX10_opened_49 : decode cX10_opened 49 = .ok (.if_icmp .lt 6, 3) := dX10_opened_all1.2.2.2.2.2.2.2.2.2.2.2
theorem dX10_opened_all2 : decode cX10_opened 52 = .ok (.ldc 145, 2) ∧ decode cX10_opened 54 = .ok (.ireturn, 1) ∧ decode cX10_opened 55 = .ok (.aload_n 0, 1) ∧ decode cX10_opened 56 = .ok (.getfield 61, 3) ∧ decode cX10_opened 59 = .ok (.iload_n 1, 1) ∧ decode cX10_opened 60 = .ok (.iload_n 2, 1) ∧ decode cX10_opened 61 = .ok (.iload_n 3, 1) ∧ decode cX10_opened 62 = .ok (.iload 4, 2) ∧ decode cX10_opened 64 = .ok (.invokevirtual 288, 3) ∧ decode cX10_opened 67 = .ok (.ireturn, 1) := by decide +kernel
theorem dX10_opened_52 : decode cX10_opened 52 = .ok (.ldc 145, 2) := dX10_opened_all2.1
theorem dX10_opened_54 : decode cX10_opened 54 = .ok (.ireturn, 1) := dX10_opened_all2.2.1
theorem dX10_opened_55 : decode cX10_opened 55 = .ok (.aload_n 0, 1) := dX10_opened_all2.2.2.1
theorem dX10_opened_56 : decode cX10_opened 56 = .ok (.getfield 61, 3) := dX10_opened_all2.2.2.2.1
theorem dX10_opened_59 : decode cX10_opened 59 = .ok (.iload_n 1, 1) := dX10_opened_all2.2.2.2.2.1
theorem dX10_opened_60 : decode cX10_opened 60 = .ok (.iload_n 2, 1) := dX10_opened_all2.2.2.2.2.2.1
theorem dX10_opened_61 : decode cX10_opened 61 = .ok (.iload_n 3, 1) := dX10_opened_all2.2.2.2.2.2.2.1
theorem dX10_opened_62 : decode cX10_opened 62 = .ok (.iload 4, 2) := dX10_opened_all2.2.2.2.2.2.2.2.1
theorem dX10_opened_64 : decode cX10_opened 64 = .ok (.invokevirtual 288, 3) := dX10_opened_all2.2.2.2.2.2.2.2.2.1
theorem dX10_opened_67 : decode cX10_opened 67 = .ok (.ireturn, 1) := dX10_opened_all2.2.2.2.2.2.2.2.2.2
theorem ggX10_list_X10_isPerson : GoodIn wsX10_list wsX10_isPerson := goodIn_s (fun _ h => wm_t (wm_r (wm_l (wm_r h)))) Gd_X10_isPerson
theorem gX10_list_X10_isPerson : GoodIn wsX10_list (va_wsS RX10 160 yX10_isPerson wsX10_isPerson) := goodIn_S (own := RX10) (idx := 160) (y := yX10_isPerson) (wm_t (wm_l (wm_i 4 rfl))) (wm_t (wm_l (wm_i 5 rfl))) (wm_t (wm_l (wm_i 6 rfl))) ggX10_list_X10_isPerson
theorem ggX10_list_X10_areDays : GoodIn wsX10_list wsX10_areDays := goodIn_s (fun _ h => wm_t (wm_r (wm_r (wm_l h)))) Gd_X10_areDays
theorem gX10_list_X10_areDays : GoodIn wsX10_list (va_wsS RX10 183 yX10_areDays wsX10_areDays) := goodIn_S (own := RX10) (idx := 183) (y := yX10_areDays) (wm_t (wm_l (wm_i 7 rfl))) (wm_t (wm_l (wm_i 8 rfl))) (wm_t (wm_l (wm_i 6 rfl))) ggX10_list_X10_areDays
theorem ggX10_list_X4_tell : GoodIn wsX10_list wsX4_tell := goodIn_s (fun _ h => wm_t (wm_r (wm_r (wm_r h)))) Gd_X4_tell
theorem gX10_list_X4_tell : GoodIn wsX10_list (wsV RX10 293 RX4 yX4_tell wsX4_tell) := goodIn_V (own := RX10) (idx := 293) (C := RX4) (y := yX4_tell) (wm_t (wm_l (wm_i 9 rfl))) (wm_t (wm_l (wm_i 10 rfl))) (wm_t (wm_l (wm_i 11 rfl))) (wm_t (wm_l (wm_i 12 rfl))) ggX10_list_X4_tell
theorem dX10_list_all0 : decode cX10_list 0 = .ok (.iload_n 1, 1) ∧ decode cX10_list 1 = .ok (.invokestatic 160, 3) ∧ decode cX10_list 4 = .ok (.ifCond .eq 11, 3) ∧ decode cX10_list 7 = .ok (.iload_n 2, 1) ∧ decode cX10_list 8 = .ok (.iload_n 3, 1) ∧ decode cX10_list 9 = .ok (.invokestatic 183, 3) ∧ decode cX10_list 12 = .ok (.ifCond .ne 6, 3) ∧ decode cX10_list 15 = .ok (.ldc 89, 2) ∧ decode cX10_list 17 = .ok (.ireturn, 1) ∧ decode cX10_list 18 = .ok (.aload_n 0, 1) ∧ decode cX10_list 19 = .ok (.getfield 68, 3) ∧ decode cX10_list 22 = .ok (.getfield 292, 3) := by decide +kernel
theorem dX10_list_0 : decode cX10_list 0 = .ok (.iload_n 1, 1) := dX10_list_all0.1
theorem dX10_list_1 : decode cX10_list 1 = .ok (.invokestatic 160, 3) := dX10_list_all0.2.1
theorem dX10_list_4 : decode cX10_list 4 = .ok (.ifCond .eq 11, 3) := dX10_list_all0.2.2.1
theorem dX10_list_7 : decode cX10_list 7 = .ok (.iload_n 2, 1) := dX10_list_all0.2.2.2.1
theorem dX10_list_8 : decode cX10_list 8 = .ok (.iload_n 3, 1) := dX10_list_all0.2.2.2.2.1
theorem dX10_list_9 : decode cX10_list 9 = .ok (.invokestatic 183, 3) := dX10_list_all0.2.2.2.2.2.1
theorem dX10_list_12 : decode cX10_list 12 = .ok (.ifCond .ne 6, 3) := dX10_list_all0.2.2.2.2.2.2.1
theorem dX10_list_15 : decode cX10_list 15 = .ok (.ldc 89, 2) := dX10_list_all0.2.2.2.2.2.2.2.1
theorem dX10_list_17 : decode cX10_list 17 = .ok (.ireturn, 1) := dX10_list_all0.2.2.2.2.2.2.2.2.1
theorem dX10_list_18 : decode cX10_list 18 = .ok (.aload_n 0, 1) := dX10_list_all0.2.2.2.2.2.2.2.2.2.1
theorem dX10_list_19 : decode cX10_list 19 = .ok (.getfield 68, 3) := dX10_list_all0.2.2.2.2.2.2.2.2.2.2.1
theorem dX10_list_22 : decode cX10_list 22 = .ok (.getfield 292, 3) := dX10_list_all0.2.2.2.2.2.2.2.2.2.2.2
theorem dX10_list_all1 : decode cX10_list 25 = .ok (.bipush 20, 2) ∧ decode cX10_list 27 = .ok (.if_icmp .lt 6, 3) ∧ decode cX10_list 30 = .ok (.ldc 145, 2) ∧ decode cX10_list 32 = .ok (.ireturn, 1) ∧ decode cX10_list 33 = .ok (.aload_n 0, 1) ∧ decode cX10_list 34 = .ok (.getfield 68, 3) ∧ decode cX10_list 37 = .ok (.iload_n 1, 1) ∧ decode cX10_list 38 = .ok (.iload_n 2, 1) ∧ decode cX10_list 39 = .ok (.iload_n 3, 1) ∧ decode cX10_list 40 = .ok (.invokevirtual 293, 3) ∧ decode cX10_list 43 = .ok (.ireturn, 1) := by decide +kernel
theorem dX10_list_25 : decode cX10_list 25 = .ok (.bipush 20, 2) := dX10_list_all1.1
theorem dX10_list_27 : decode cX10_list 27 = .ok (.if_icmp .lt 6, 3) := dX10_list_all1.2.1
theorem dX10_list_30 : decode cX10_list 30 = .ok (.ldc 145, 2) := dX10_list_all1.2.2.1
theorem dX10_list_32 : decode cX10_list 32 = .ok (.ireturn, 1) := dX10_list_all1.2.2.2.1
theorem dX10_list_33 : decode cX10_list 33 = .ok (.aload_n 0, 1) := dX10_list_all1.2.2.2.2.1
theorem dX10_list_34 : decode cX10_list 34 = .ok (.getfield 68, 3) := dX10_list_all1.2.2.2.2.2.1
theorem dX10_list_37 : decode cX10_list 37 = .ok (.iload_n 1, 1) := dX10_list_all1.2.2.2.2.2.2.1
theorem dX10_list_38 : decode cX10_list 38 = .ok (.iload_n 2, 1) := dX10_list_all1.2.2.2.2.2.2.2.1
theorem dX10_list_39 : decode cX10_list 39 = .ok (.iload_n 3, 1) := dX10_list_all1.2.2.2.2.2.2.2.2.1
theorem dX10_list_40 : decode cX10_list 40 = .ok (.invokevirtual 293, 3) := dX10_list_all1.2.2.2.2.2.2.2.2.2.1
theorem dX10_list_43 : decode cX10_list 43 = .ok (.ireturn, 1) := dX10_list_all1.2.2.2.2.2.2.2.2.2.2
set_option maxHeartbeats 4000000 in
set_option maxRecDepth 100000 in
theorem ct_X3_tell (l : Launch) (D : va_G) (cI cY cJ cQ : ClassId) (sz : Nat) (ad : Nat → Nat) (hn : Int32) (ho hc hp hs : Nat → Int32) (o : Int32) (k : Int32) (q : Int32) (d : Int32)  (h1 : 0 ≤ hn.toInt) (h2 : hn.toInt < 40)  : Met l yX3_tell wsX3_tell ({ frames := 0, cells := 0, slots := 0, locals := 0 }) (cPre D (ty4 cI cY cJ cQ) [(oC3 ad hn), (aI cI (ad 23) 40 ho), (aI cI (ad 24) 40 hc), (aI cI (ad 25) 40 hp), (aI cI (ad 26) 40 hs)] sz [.ref (ad 2), .int o, .int k, .int q, .int d]) (va_Qi (fun (r : Int32) (u : Unit) => r = hn + 1) (cB D (ty4 cI cY cJ cQ) (fun (u : Unit) => [(oC3 ad (hn + 1)), (aI cI (ad 23) 40 (upd ho hn.toNatClampNeg o)), (aI cI (ad 24) 40 (upd hc hn.toNatClampNeg k)), (aI cI (ad 25) 40 (upd hp hn.toNatClampNeg q)), (aI cI (ad 26) 40 (upd hs hn.toNatClampNeg d))]) (va_A [(oC3 ad hn), (aI cI (ad 23) 40 ho), (aI cI (ad 24) 40 hc), (aI cI (ad 25) 40 hp), (aI cI (ad 26) 40 hs)] sz)) (va_A [(oC3 ad hn), (aI cI (ad 23) 40 ho), (aI cI (ad 24) 40 hc), (aI cI (ad 25) 40 hp), (aI cI (ad 26) 40 hs)] sz)) 0 0 (va_A [(oC3 ad hn), (aI cI (ad 23) 40 ho), (aI cI (ad 24) 40 hc), (aI cI (ad 25) 40 hp), (aI cI (ad 26) 40 hs)] sz) := by
  refine Met.ofW (cc := cX3_tell) (maxL := 5) (ret := (some .int)) (by decide) rfl ?_
  intro p e s m args below meth c s₁ B hml hv
  obtain ⟨rfl, hsz, hP, hK, hD0, hN⟩ := hv
  have hx := B.exec
  have hb := B.bytes
  have hr := B.returns
  have hts := atoms_spec (ws := wsX3_tell) B.pre
  have hown : s.vm.findClass RX3 = some m.cls := findClass_of_methodNamed B.named
  have hlocks := B.notSynchronized
  subst hsz
  have hD := hD0.self (sz := s.heap.size)
  generalize hAe : va_A [(oC3 ad hn), (aI cI (ad 23) 40 ho), (aI cI (ad 24) 40 hc), (aI cI (ad 25) 40 hp), (aI cI (ad 26) 40 hs)] s.heap.size = A at hD ⊢
  have hA : ∀ q : Nat, s.heap.size ≤ q → A q := fun q h => by rw [← hAe]; exact Or.inr h
  have hS : va_S A s.heap s.heap [] := va_S.rf
  have hP : va_P D vwCl [(oC3 ad hn), (aI cI (ad 23) 40 ho), (aI cI (ad 24) 40 hc), (aI cI (ad 25) 40 hp), (aI cI (ad 26) 40 hs)] s.heap := hP
  have hl := lv_entry ([.ref (ad 2), .int o, .int k, .int q, .int d]) (n := 5) (Nat.le_of_ble_eq_true rfl)
  rw [lg_entry_eq]
  generalize (lg_sl ([.ref (ad 2), .int o, .int k, .int q, .int d]) ++ List.replicate (5 - (lg_sl ([.ref (ad 2), .int o, .int k, .int q, .int d])).length) Slot.unset).toArray = ls at hl ⊢
  have hl : lv_has ls 5 [(0, .ref (ad 2)), (1, .int o), (2, .int k), (3, .int q), (4, .int d)] := hl
  have k1 : (1 : Int32).toInt = 1 := by decide
  refine lv_aload_n hx hb dX3_tell_0 rfl (lv_at hl 0 rfl) ?_
  refine va_get (D := D) (ci := 3) (v := .ref (ad 23)) (C := RX3) (T := TX3) (N := 9) hx hb hts inX3_tell_X3 hown hK hP 0 rfl rfl 0 (by decide) (hts (Cond.fieldLink RX3 9 "PortRooms$Holdings" "owner" "[I") (wm_t (wm_l (wm_i 0 rfl)))) (fun _ h9 => h9) rfl dX3_tell_1 ?_
  refine lv_aload_n hx hb dX3_tell_4 rfl (lv_at hl 0 rfl) ?_
  refine va_get (D := D) (ci := 3) (v := .int hn) (C := RX3) (T := TX3) (N := 9) hx hb hts inX3_tell_X3 hown hK hP 0 rfl rfl 4 (by decide) (hts (Cond.fieldLink RX3 36 "PortRooms$Holdings" "count" "I") (wm_t (wm_l (wm_i 1 rfl)))) (fun _ h9 => h9) rfl dX3_tell_5 ?_
  refine lv_iload_n hx hb dX3_tell_8 rfl (lv_at hl 1 rfl) ?_
  refine va_iast hx hb hK hP hD hS 1 0 rfl rfl (i_in (by omega) (by omega)) dX3_tell_9 (fun H locs => ?_)
  clear hP hD hS
  intro hP hD hS
  replace hP : va_P D vwCl [(oC3 ad hn), (aI cI (ad 23) 40 (upd ho hn.toNatClampNeg o)), (aI cI (ad 24) 40 hc), (aI cI (ad 25) 40 hp), (aI cI (ad 26) 40 hs)] H := hP
  replace hD : va_D A [(oC3 ad hn), (aI cI (ad 23) 40 (upd ho hn.toNatClampNeg o)), (aI cI (ad 24) 40 hc), (aI cI (ad 25) 40 hp), (aI cI (ad 26) 40 hs)] := hD
  refine lv_aload_n hx hb dX3_tell_10 rfl (lv_at hl 0 rfl) ?_
  refine va_get (D := D) (ci := 3) (v := .ref (ad 24)) (C := RX3) (T := TX3) (N := 9) hx hb hts inX3_tell_X3 hown hK hP 0 rfl rfl 1 (by decide) (hts (Cond.fieldLink RX3 15 "PortRooms$Holdings" "company" "[I") (wm_t (wm_l (wm_i 2 rfl)))) (fun _ h9 => h9) rfl dX3_tell_11 ?_
  refine lv_aload_n hx hb dX3_tell_14 rfl (lv_at hl 0 rfl) ?_
  refine va_get (D := D) (ci := 3) (v := .int hn) (C := RX3) (T := TX3) (N := 9) hx hb hts inX3_tell_X3 hown hK hP 0 rfl rfl 4 (by decide) (hts (Cond.fieldLink RX3 36 "PortRooms$Holdings" "count" "I") (wm_t (wm_l (wm_i 1 rfl)))) (fun _ h9 => h9) rfl dX3_tell_15 ?_
  refine lv_iload_n hx hb dX3_tell_18 rfl (lv_at hl 2 rfl) ?_
  refine va_iast hx hb hK hP hD hS 2 0 rfl rfl (i_in (by omega) (by omega)) dX3_tell_19 (fun H locs => ?_)
  clear hP hD hS
  intro hP hD hS
  replace hP : va_P D vwCl [(oC3 ad hn), (aI cI (ad 23) 40 (upd ho hn.toNatClampNeg o)), (aI cI (ad 24) 40 (upd hc hn.toNatClampNeg k)), (aI cI (ad 25) 40 hp), (aI cI (ad 26) 40 hs)] H := hP
  replace hD : va_D A [(oC3 ad hn), (aI cI (ad 23) 40 (upd ho hn.toNatClampNeg o)), (aI cI (ad 24) 40 (upd hc hn.toNatClampNeg k)), (aI cI (ad 25) 40 hp), (aI cI (ad 26) 40 hs)] := hD
  refine lv_aload_n hx hb dX3_tell_20 rfl (lv_at hl 0 rfl) ?_
  refine va_get (D := D) (ci := 3) (v := .ref (ad 25)) (C := RX3) (T := TX3) (N := 9) hx hb hts inX3_tell_X3 hown hK hP 0 rfl rfl 2 (by decide) (hts (Cond.fieldLink RX3 18 "PortRooms$Holdings" "percentage" "[I") (wm_t (wm_l (wm_i 3 rfl)))) (fun _ h9 => h9) rfl dX3_tell_21 ?_
  refine lv_aload_n hx hb dX3_tell_24 rfl (lv_at hl 0 rfl) ?_
  refine va_get (D := D) (ci := 3) (v := .int hn) (C := RX3) (T := TX3) (N := 9) hx hb hts inX3_tell_X3 hown hK hP 0 rfl rfl 4 (by decide) (hts (Cond.fieldLink RX3 36 "PortRooms$Holdings" "count" "I") (wm_t (wm_l (wm_i 1 rfl)))) (fun _ h9 => h9) rfl dX3_tell_25 ?_
  refine lv_iload_n hx hb dX3_tell_28 rfl (lv_at hl 3 rfl) ?_
  refine va_iast hx hb hK hP hD hS 3 0 rfl rfl (i_in (by omega) (by omega)) dX3_tell_29 (fun H locs => ?_)
  clear hP hD hS
  intro hP hD hS
  replace hP : va_P D vwCl [(oC3 ad hn), (aI cI (ad 23) 40 (upd ho hn.toNatClampNeg o)), (aI cI (ad 24) 40 (upd hc hn.toNatClampNeg k)), (aI cI (ad 25) 40 (upd hp hn.toNatClampNeg q)), (aI cI (ad 26) 40 hs)] H := hP
  replace hD : va_D A [(oC3 ad hn), (aI cI (ad 23) 40 (upd ho hn.toNatClampNeg o)), (aI cI (ad 24) 40 (upd hc hn.toNatClampNeg k)), (aI cI (ad 25) 40 (upd hp hn.toNatClampNeg q)), (aI cI (ad 26) 40 hs)] := hD
  refine lv_aload_n hx hb dX3_tell_30 rfl (lv_at hl 0 rfl) ?_
  refine va_get (D := D) (ci := 3) (v := .ref (ad 26)) (C := RX3) (T := TX3) (N := 9) hx hb hts inX3_tell_X3 hown hK hP 0 rfl rfl 3 (by decide) (hts (Cond.fieldLink RX3 21 "PortRooms$Holdings" "since" "[I") (wm_t (wm_l (wm_i 4 rfl)))) (fun _ h9 => h9) rfl dX3_tell_31 ?_
  refine lv_aload_n hx hb dX3_tell_34 rfl (lv_at hl 0 rfl) ?_
  refine va_get (D := D) (ci := 3) (v := .int hn) (C := RX3) (T := TX3) (N := 9) hx hb hts inX3_tell_X3 hown hK hP 0 rfl rfl 4 (by decide) (hts (Cond.fieldLink RX3 36 "PortRooms$Holdings" "count" "I") (wm_t (wm_l (wm_i 1 rfl)))) (fun _ h9 => h9) rfl dX3_tell_35 ?_
  refine lv_iload hx hb dX3_tell_38 (lv_at hl 4 rfl) ?_
  refine va_iast hx hb hK hP hD hS 4 0 rfl rfl (i_in (by omega) (by omega)) dX3_tell_40 (fun H locs => ?_)
  clear hP hD hS
  intro hP hD hS
  replace hP : va_P D vwCl [(oC3 ad hn), (aI cI (ad 23) 40 (upd ho hn.toNatClampNeg o)), (aI cI (ad 24) 40 (upd hc hn.toNatClampNeg k)), (aI cI (ad 25) 40 (upd hp hn.toNatClampNeg q)), (aI cI (ad 26) 40 (upd hs hn.toNatClampNeg d))] H := hP
  replace hD : va_D A [(oC3 ad hn), (aI cI (ad 23) 40 (upd ho hn.toNatClampNeg o)), (aI cI (ad 24) 40 (upd hc hn.toNatClampNeg k)), (aI cI (ad 25) 40 (upd hp hn.toNatClampNeg q)), (aI cI (ad 26) 40 (upd hs hn.toNatClampNeg d))] := hD
  refine lv_aload_n hx hb dX3_tell_41 rfl (lv_at hl 0 rfl) ?_
  refine lv_dup hx hb dX3_tell_42 rfl ?_
  refine va_get (D := D) (ci := 3) (v := .int hn) (C := RX3) (T := TX3) (N := 9) hx hb hts inX3_tell_X3 hown hK hP 0 rfl rfl 4 (by decide) (hts (Cond.fieldLink RX3 36 "PortRooms$Holdings" "count" "I") (wm_t (wm_l (wm_i 1 rfl)))) (fun _ h9 => h9) rfl dX3_tell_43 ?_
  refine lv_iconst (v := 1) hx hb dX3_tell_46 (by decide) ?_
  refine lv_iadd hx hb dX3_tell_47 ?_
  refine lv_topi (fun v1 ev1 => ?_)
  try have tv1 : v1.toInt = hn.toInt + 1 := by rw [ev1]; exact (i_add (x := hn) (y := (1 : Int32)) (by rw [k1]; omega) (by rw [k1]; omega)).trans (by rw [k1])
  refine va_put (D := D) (ci := 3) (v := .int v1) (ty := .int) (C := RX3) (T := TX3) (N := 9) hx hb hts inX3_tell_X3 tyX3 tyX3_ok nmX3 hown hK hP hD hS 0 rfl rfl 4 (by decide) (hts (Cond.fieldLink RX3 36 "PortRooms$Holdings" "count" "I") (wm_t (wm_l (wm_i 1 rfl)))) (fun _ h9 => h9) rfl (tyX3_ok 4 (by decide)) rfl rfl (Nat.le_of_ble_eq_true rfl) dX3_tell_48 (fun H locs => ?_)
  clear hP hD hS
  intro hP hD hS
  replace hP : va_P D vwCl [(oC3 ad v1), (aI cI (ad 23) 40 (upd ho hn.toNatClampNeg o)), (aI cI (ad 24) 40 (upd hc hn.toNatClampNeg k)), (aI cI (ad 25) 40 (upd hp hn.toNatClampNeg q)), (aI cI (ad 26) 40 (upd hs hn.toNatClampNeg d))] H := hP
  replace hD : va_D A [(oC3 ad v1), (aI cI (ad 23) 40 (upd ho hn.toNatClampNeg o)), (aI cI (ad 24) 40 (upd hc hn.toNatClampNeg k)), (aI cI (ad 25) 40 (upd hp hn.toNatClampNeg q)), (aI cI (ad 26) 40 (upd hs hn.toNatClampNeg d))] := hD
  refine lv_aload_n hx hb dX3_tell_51 rfl (lv_at hl 0 rfl) ?_
  refine va_get (D := D) (ci := 3) (v := .int v1) (C := RX3) (T := TX3) (N := 9) hx hb hts inX3_tell_X3 hown hK hP 0 rfl rfl 4 (by decide) (hts (Cond.fieldLink RX3 36 "PortRooms$Holdings" "count" "I") (wm_t (wm_l (wm_i 1 rfl)))) (fun _ h9 => h9) rfl dX3_tell_52 ?_
  subst ev1
  have hP9 := hP
  have hD9 := hD
  exact W.iret (v := hn + 1) hx hb hr (fun t ht hW => ⟨⟨hn + 1, (), rfl, rfl, by rw [ht]; exact hP9, va_K.moved hW.alike hK, hD9⟩, hS.F ht⟩) hS.2.2 dX3_tell_55

set_option maxHeartbeats 4000000 in
set_option maxRecDepth 100000 in
theorem ct_X1_tell (l : Launch) (D : va_G) (cI cY cJ cQ : ClassId) (sz : Nat) (ad : Nat → Nat) (cn : Int32) (fo wo : Nat → Int32) (o : Int32) (w : Int32)  (h1 : 0 ≤ cn.toInt) (h2 : cn.toInt < 12)  : Met l yX1_tell wsX1_tell ({ frames := 0, cells := 0, slots := 0, locals := 0 }) (cPre D (ty4 cI cY cJ cQ) [(oC1 ad cn), (aI cI (ad 31) 12 fo), (aI cI (ad 32) 12 wo)] sz [.ref (ad 3), .int o, .int w]) (va_Qi (fun (r : Int32) (u : Unit) => r = cn + 1 - 1) (cB D (ty4 cI cY cJ cQ) (fun (u : Unit) => [(oC1 ad (cn + 1)), (aI cI (ad 31) 12 (upd fo cn.toNatClampNeg o)), (aI cI (ad 32) 12 (upd wo cn.toNatClampNeg w))]) (va_A [(oC1 ad cn), (aI cI (ad 31) 12 fo), (aI cI (ad 32) 12 wo)] sz)) (va_A [(oC1 ad cn), (aI cI (ad 31) 12 fo), (aI cI (ad 32) 12 wo)] sz)) 0 0 (va_A [(oC1 ad cn), (aI cI (ad 31) 12 fo), (aI cI (ad 32) 12 wo)] sz) := by
  refine Met.ofW (cc := cX1_tell) (maxL := 3) (ret := (some .int)) (by decide) rfl ?_
  intro p e s m args below meth c s₁ B hml hv
  obtain ⟨rfl, hsz, hP, hK, hD0, hN⟩ := hv
  have hx := B.exec
  have hb := B.bytes
  have hr := B.returns
  have hts := atoms_spec (ws := wsX1_tell) B.pre
  have hown : s.vm.findClass RX1 = some m.cls := findClass_of_methodNamed B.named
  have hlocks := B.notSynchronized
  subst hsz
  have hD := hD0.self (sz := s.heap.size)
  generalize hAe : va_A [(oC1 ad cn), (aI cI (ad 31) 12 fo), (aI cI (ad 32) 12 wo)] s.heap.size = A at hD ⊢
  have hA : ∀ q : Nat, s.heap.size ≤ q → A q := fun q h => by rw [← hAe]; exact Or.inr h
  have hS : va_S A s.heap s.heap [] := va_S.rf
  have hP : va_P D vwCl [(oC1 ad cn), (aI cI (ad 31) 12 fo), (aI cI (ad 32) 12 wo)] s.heap := hP
  have hl := lv_entry ([.ref (ad 3), .int o, .int w]) (n := 3) (Nat.le_of_ble_eq_true rfl)
  rw [lg_entry_eq]
  generalize (lg_sl ([.ref (ad 3), .int o, .int w]) ++ List.replicate (3 - (lg_sl ([.ref (ad 3), .int o, .int w])).length) Slot.unset).toArray = ls at hl ⊢
  have hl : lv_has ls 3 [(0, .ref (ad 3)), (1, .int o), (2, .int w)] := hl
  have k1 : (1 : Int32).toInt = 1 := by decide
  refine lv_aload_n hx hb dX1_tell_0 rfl (lv_at hl 0 rfl) ?_
  refine va_get (D := D) (ci := 1) (v := .ref (ad 31)) (C := RX1) (T := TX1) (N := 6) hx hb hts inX1_tell_X1 hown hK hP 0 rfl rfl 0 (by decide) (hts (Cond.fieldLink RX1 9 "PortRooms$Crates" "firstOwner" "[I") (wm_t (wm_l (wm_i 0 rfl)))) (fun _ h9 => h9) rfl dX1_tell_1 ?_
  refine lv_aload_n hx hb dX1_tell_4 rfl (lv_at hl 0 rfl) ?_
  refine va_get (D := D) (ci := 1) (v := .int cn) (C := RX1) (T := TX1) (N := 6) hx hb hts inX1_tell_X1 hown hK hP 0 rfl rfl 3 (by decide) (hts (Cond.fieldLink RX1 35 "PortRooms$Crates" "count" "I") (wm_t (wm_l (wm_i 1 rfl)))) (fun _ h9 => h9) rfl dX1_tell_5 ?_
  refine lv_iload_n hx hb dX1_tell_8 rfl (lv_at hl 1 rfl) ?_
  refine va_iast hx hb hK hP hD hS 1 0 rfl rfl (i_in (by omega) (by omega)) dX1_tell_9 (fun H locs => ?_)
  clear hP hD hS
  intro hP hD hS
  replace hP : va_P D vwCl [(oC1 ad cn), (aI cI (ad 31) 12 (upd fo cn.toNatClampNeg o)), (aI cI (ad 32) 12 wo)] H := hP
  replace hD : va_D A [(oC1 ad cn), (aI cI (ad 31) 12 (upd fo cn.toNatClampNeg o)), (aI cI (ad 32) 12 wo)] := hD
  refine lv_aload_n hx hb dX1_tell_10 rfl (lv_at hl 0 rfl) ?_
  refine va_get (D := D) (ci := 1) (v := .ref (ad 32)) (C := RX1) (T := TX1) (N := 6) hx hb hts inX1_tell_X1 hown hK hP 0 rfl rfl 1 (by decide) (hts (Cond.fieldLink RX1 15 "PortRooms$Crates" "worth" "[I") (wm_t (wm_l (wm_i 2 rfl)))) (fun _ h9 => h9) rfl dX1_tell_11 ?_
  refine lv_aload_n hx hb dX1_tell_14 rfl (lv_at hl 0 rfl) ?_
  refine va_get (D := D) (ci := 1) (v := .int cn) (C := RX1) (T := TX1) (N := 6) hx hb hts inX1_tell_X1 hown hK hP 0 rfl rfl 3 (by decide) (hts (Cond.fieldLink RX1 35 "PortRooms$Crates" "count" "I") (wm_t (wm_l (wm_i 1 rfl)))) (fun _ h9 => h9) rfl dX1_tell_15 ?_
  refine lv_iload_n hx hb dX1_tell_18 rfl (lv_at hl 2 rfl) ?_
  refine va_iast hx hb hK hP hD hS 2 0 rfl rfl (i_in (by omega) (by omega)) dX1_tell_19 (fun H locs => ?_)
  clear hP hD hS
  intro hP hD hS
  replace hP : va_P D vwCl [(oC1 ad cn), (aI cI (ad 31) 12 (upd fo cn.toNatClampNeg o)), (aI cI (ad 32) 12 (upd wo cn.toNatClampNeg w))] H := hP
  replace hD : va_D A [(oC1 ad cn), (aI cI (ad 31) 12 (upd fo cn.toNatClampNeg o)), (aI cI (ad 32) 12 (upd wo cn.toNatClampNeg w))] := hD
  refine lv_aload_n hx hb dX1_tell_20 rfl (lv_at hl 0 rfl) ?_
  refine lv_dup hx hb dX1_tell_21 rfl ?_
  refine va_get (D := D) (ci := 1) (v := .int cn) (C := RX1) (T := TX1) (N := 6) hx hb hts inX1_tell_X1 hown hK hP 0 rfl rfl 3 (by decide) (hts (Cond.fieldLink RX1 35 "PortRooms$Crates" "count" "I") (wm_t (wm_l (wm_i 1 rfl)))) (fun _ h9 => h9) rfl dX1_tell_22 ?_
  refine lv_iconst (v := 1) hx hb dX1_tell_25 (by decide) ?_
  refine lv_iadd hx hb dX1_tell_26 ?_
  refine lv_topi (fun v1 ev1 => ?_)
  try have tv1 : v1.toInt = cn.toInt + 1 := by rw [ev1]; exact (i_add (x := cn) (y := (1 : Int32)) (by rw [k1]; omega) (by rw [k1]; omega)).trans (by rw [k1])
  refine va_put (D := D) (ci := 1) (v := .int v1) (ty := .int) (C := RX1) (T := TX1) (N := 6) hx hb hts inX1_tell_X1 tyX1 tyX1_ok nmX1 hown hK hP hD hS 0 rfl rfl 3 (by decide) (hts (Cond.fieldLink RX1 35 "PortRooms$Crates" "count" "I") (wm_t (wm_l (wm_i 1 rfl)))) (fun _ h9 => h9) rfl (tyX1_ok 3 (by decide)) rfl rfl (Nat.le_of_ble_eq_true rfl) dX1_tell_27 (fun H locs => ?_)
  clear hP hD hS
  intro hP hD hS
  replace hP : va_P D vwCl [(oC1 ad v1), (aI cI (ad 31) 12 (upd fo cn.toNatClampNeg o)), (aI cI (ad 32) 12 (upd wo cn.toNatClampNeg w))] H := hP
  replace hD : va_D A [(oC1 ad v1), (aI cI (ad 31) 12 (upd fo cn.toNatClampNeg o)), (aI cI (ad 32) 12 (upd wo cn.toNatClampNeg w))] := hD
  refine lv_aload_n hx hb dX1_tell_30 rfl (lv_at hl 0 rfl) ?_
  refine va_get (D := D) (ci := 1) (v := .int v1) (C := RX1) (T := TX1) (N := 6) hx hb hts inX1_tell_X1 hown hK hP 0 rfl rfl 3 (by decide) (hts (Cond.fieldLink RX1 35 "PortRooms$Crates" "count" "I") (wm_t (wm_l (wm_i 1 rfl)))) (fun _ h9 => h9) rfl dX1_tell_31 ?_
  refine lv_iconst (v := 1) hx hb dX1_tell_34 (by decide) ?_
  refine lv_isub hx hb dX1_tell_35 ?_
  refine lv_topi (fun v2 ev2 => ?_)
  try have tv2 : v2.toInt = v1.toInt - 1 := by rw [ev2]; exact (i_sub (x := v1) (y := (1 : Int32)) (by rw [k1]; omega) (by rw [k1]; omega)).trans (by rw [k1])
  subst ev1
  subst ev2
  have hP9 := hP
  have hD9 := hD
  exact W.iret (v := (cn + 1) - 1) hx hb hr (fun t ht hW => ⟨⟨(cn + 1) - 1, (), rfl, rfl, by rw [ht]; exact hP9, va_K.moved hW.alike hK, hD9⟩, hS.F ht⟩) hS.2.2 dX1_tell_36

set_option maxHeartbeats 4000000 in
set_option maxRecDepth 100000 in
theorem ct_X8_tell (l : Launch) (D : va_G) (cI cY cJ cQ : ClassId) (sz : Nat) (ad : Nat → Nat) (gn : Int32) (gk gs gd ge : Nat → Int32) (k : Int32) (q : Int32) (a : Int32) (b : Int32)  (h1 : 0 ≤ gn.toInt) (h2 : gn.toInt < 40)  : Met l yX8_tell wsX8_tell ({ frames := 0, cells := 0, slots := 0, locals := 0 }) (cPre D (ty4 cI cY cJ cQ) [(oC8 ad gn), (aI cI (ad 42) 40 gk), (aI cI (ad 43) 40 gs), (aI cI (ad 44) 40 gd), (aI cI (ad 45) 40 ge)] sz [.ref (ad 5), .int k, .int q, .int a, .int b]) (va_Qi (fun (r : Int32) (u : Unit) => r = gn + 1 - 1) (cB D (ty4 cI cY cJ cQ) (fun (u : Unit) => [(oC8 ad (gn + 1)), (aI cI (ad 42) 40 (upd gk gn.toNatClampNeg k)), (aI cI (ad 43) 40 (upd gs gn.toNatClampNeg q)), (aI cI (ad 44) 40 (upd gd gn.toNatClampNeg a)), (aI cI (ad 45) 40 (upd ge gn.toNatClampNeg b))]) (va_A [(oC8 ad gn), (aI cI (ad 42) 40 gk), (aI cI (ad 43) 40 gs), (aI cI (ad 44) 40 gd), (aI cI (ad 45) 40 ge)] sz)) (va_A [(oC8 ad gn), (aI cI (ad 42) 40 gk), (aI cI (ad 43) 40 gs), (aI cI (ad 44) 40 gd), (aI cI (ad 45) 40 ge)] sz)) 0 0 (va_A [(oC8 ad gn), (aI cI (ad 42) 40 gk), (aI cI (ad 43) 40 gs), (aI cI (ad 44) 40 gd), (aI cI (ad 45) 40 ge)] sz) := by
  refine Met.ofW (cc := cX8_tell) (maxL := 5) (ret := (some .int)) (by decide) rfl ?_
  intro p e s m args below meth c s₁ B hml hv
  obtain ⟨rfl, hsz, hP, hK, hD0, hN⟩ := hv
  have hx := B.exec
  have hb := B.bytes
  have hr := B.returns
  have hts := atoms_spec (ws := wsX8_tell) B.pre
  have hown : s.vm.findClass RX8 = some m.cls := findClass_of_methodNamed B.named
  have hlocks := B.notSynchronized
  subst hsz
  have hD := hD0.self (sz := s.heap.size)
  generalize hAe : va_A [(oC8 ad gn), (aI cI (ad 42) 40 gk), (aI cI (ad 43) 40 gs), (aI cI (ad 44) 40 gd), (aI cI (ad 45) 40 ge)] s.heap.size = A at hD ⊢
  have hA : ∀ q : Nat, s.heap.size ≤ q → A q := fun q h => by rw [← hAe]; exact Or.inr h
  have hS : va_S A s.heap s.heap [] := va_S.rf
  have hP : va_P D vwCl [(oC8 ad gn), (aI cI (ad 42) 40 gk), (aI cI (ad 43) 40 gs), (aI cI (ad 44) 40 gd), (aI cI (ad 45) 40 ge)] s.heap := hP
  have hl := lv_entry ([.ref (ad 5), .int k, .int q, .int a, .int b]) (n := 5) (Nat.le_of_ble_eq_true rfl)
  rw [lg_entry_eq]
  generalize (lg_sl ([.ref (ad 5), .int k, .int q, .int a, .int b]) ++ List.replicate (5 - (lg_sl ([.ref (ad 5), .int k, .int q, .int a, .int b])).length) Slot.unset).toArray = ls at hl ⊢
  have hl : lv_has ls 5 [(0, .ref (ad 5)), (1, .int k), (2, .int q), (3, .int a), (4, .int b)] := hl
  have k1 : (1 : Int32).toInt = 1 := by decide
  refine lv_aload_n hx hb dX8_tell_0 rfl (lv_at hl 0 rfl) ?_
  refine va_get (D := D) (ci := 8) (v := .ref (ad 42)) (C := RX8) (T := TX8) (N := 6) hx hb hts inX8_tell_X8 hown hK hP 0 rfl rfl 0 (by decide) (hts (Cond.fieldLink RX8 9 "PortRooms$Pledges" "crate" "[I") (wm_t (wm_l (wm_i 0 rfl)))) (fun _ h9 => h9) rfl dX8_tell_1 ?_
  refine lv_aload_n hx hb dX8_tell_4 rfl (lv_at hl 0 rfl) ?_
  refine va_get (D := D) (ci := 8) (v := .int gn) (C := RX8) (T := TX8) (N := 6) hx hb hts inX8_tell_X8 hown hK hP 0 rfl rfl 4 (by decide) (hts (Cond.fieldLink RX8 27 "PortRooms$Pledges" "count" "I") (wm_t (wm_l (wm_i 1 rfl)))) (fun _ h9 => h9) rfl dX8_tell_5 ?_
  refine lv_iload_n hx hb dX8_tell_8 rfl (lv_at hl 1 rfl) ?_
  refine va_iast hx hb hK hP hD hS 1 0 rfl rfl (i_in (by omega) (by omega)) dX8_tell_9 (fun H locs => ?_)
  clear hP hD hS
  intro hP hD hS
  replace hP : va_P D vwCl [(oC8 ad gn), (aI cI (ad 42) 40 (upd gk gn.toNatClampNeg k)), (aI cI (ad 43) 40 gs), (aI cI (ad 44) 40 gd), (aI cI (ad 45) 40 ge)] H := hP
  replace hD : va_D A [(oC8 ad gn), (aI cI (ad 42) 40 (upd gk gn.toNatClampNeg k)), (aI cI (ad 43) 40 gs), (aI cI (ad 44) 40 gd), (aI cI (ad 45) 40 ge)] := hD
  refine lv_aload_n hx hb dX8_tell_10 rfl (lv_at hl 0 rfl) ?_
  refine va_get (D := D) (ci := 8) (v := .ref (ad 43)) (C := RX8) (T := TX8) (N := 6) hx hb hts inX8_tell_X8 hown hK hP 0 rfl rfl 1 (by decide) (hts (Cond.fieldLink RX8 15 "PortRooms$Pledges" "sum" "[I") (wm_t (wm_l (wm_i 2 rfl)))) (fun _ h9 => h9) rfl dX8_tell_11 ?_
  refine lv_aload_n hx hb dX8_tell_14 rfl (lv_at hl 0 rfl) ?_
  refine va_get (D := D) (ci := 8) (v := .int gn) (C := RX8) (T := TX8) (N := 6) hx hb hts inX8_tell_X8 hown hK hP 0 rfl rfl 4 (by decide) (hts (Cond.fieldLink RX8 27 "PortRooms$Pledges" "count" "I") (wm_t (wm_l (wm_i 1 rfl)))) (fun _ h9 => h9) rfl dX8_tell_15 ?_
  refine lv_iload_n hx hb dX8_tell_18 rfl (lv_at hl 2 rfl) ?_
  refine va_iast hx hb hK hP hD hS 2 0 rfl rfl (i_in (by omega) (by omega)) dX8_tell_19 (fun H locs => ?_)
  clear hP hD hS
  intro hP hD hS
  replace hP : va_P D vwCl [(oC8 ad gn), (aI cI (ad 42) 40 (upd gk gn.toNatClampNeg k)), (aI cI (ad 43) 40 (upd gs gn.toNatClampNeg q)), (aI cI (ad 44) 40 gd), (aI cI (ad 45) 40 ge)] H := hP
  replace hD : va_D A [(oC8 ad gn), (aI cI (ad 42) 40 (upd gk gn.toNatClampNeg k)), (aI cI (ad 43) 40 (upd gs gn.toNatClampNeg q)), (aI cI (ad 44) 40 gd), (aI cI (ad 45) 40 ge)] := hD
  refine lv_aload_n hx hb dX8_tell_20 rfl (lv_at hl 0 rfl) ?_
  refine va_get (D := D) (ci := 8) (v := .ref (ad 44)) (C := RX8) (T := TX8) (N := 6) hx hb hts inX8_tell_X8 hown hK hP 0 rfl rfl 2 (by decide) (hts (Cond.fieldLink RX8 18 "PortRooms$Pledges" "said" "[I") (wm_t (wm_l (wm_i 3 rfl)))) (fun _ h9 => h9) rfl dX8_tell_21 ?_
  refine lv_aload_n hx hb dX8_tell_24 rfl (lv_at hl 0 rfl) ?_
  refine va_get (D := D) (ci := 8) (v := .int gn) (C := RX8) (T := TX8) (N := 6) hx hb hts inX8_tell_X8 hown hK hP 0 rfl rfl 4 (by decide) (hts (Cond.fieldLink RX8 27 "PortRooms$Pledges" "count" "I") (wm_t (wm_l (wm_i 1 rfl)))) (fun _ h9 => h9) rfl dX8_tell_25 ?_
  refine lv_iload_n hx hb dX8_tell_28 rfl (lv_at hl 3 rfl) ?_
  refine va_iast hx hb hK hP hD hS 3 0 rfl rfl (i_in (by omega) (by omega)) dX8_tell_29 (fun H locs => ?_)
  clear hP hD hS
  intro hP hD hS
  replace hP : va_P D vwCl [(oC8 ad gn), (aI cI (ad 42) 40 (upd gk gn.toNatClampNeg k)), (aI cI (ad 43) 40 (upd gs gn.toNatClampNeg q)), (aI cI (ad 44) 40 (upd gd gn.toNatClampNeg a)), (aI cI (ad 45) 40 ge)] H := hP
  replace hD : va_D A [(oC8 ad gn), (aI cI (ad 42) 40 (upd gk gn.toNatClampNeg k)), (aI cI (ad 43) 40 (upd gs gn.toNatClampNeg q)), (aI cI (ad 44) 40 (upd gd gn.toNatClampNeg a)), (aI cI (ad 45) 40 ge)] := hD
  refine lv_aload_n hx hb dX8_tell_30 rfl (lv_at hl 0 rfl) ?_
  refine va_get (D := D) (ci := 8) (v := .ref (ad 45)) (C := RX8) (T := TX8) (N := 6) hx hb hts inX8_tell_X8 hown hK hP 0 rfl rfl 3 (by decide) (hts (Cond.fieldLink RX8 21 "PortRooms$Pledges" "filed" "[I") (wm_t (wm_l (wm_i 4 rfl)))) (fun _ h9 => h9) rfl dX8_tell_31 ?_
  refine lv_aload_n hx hb dX8_tell_34 rfl (lv_at hl 0 rfl) ?_
  refine va_get (D := D) (ci := 8) (v := .int gn) (C := RX8) (T := TX8) (N := 6) hx hb hts inX8_tell_X8 hown hK hP 0 rfl rfl 4 (by decide) (hts (Cond.fieldLink RX8 27 "PortRooms$Pledges" "count" "I") (wm_t (wm_l (wm_i 1 rfl)))) (fun _ h9 => h9) rfl dX8_tell_35 ?_
  refine lv_iload hx hb dX8_tell_38 (lv_at hl 4 rfl) ?_
  refine va_iast hx hb hK hP hD hS 4 0 rfl rfl (i_in (by omega) (by omega)) dX8_tell_40 (fun H locs => ?_)
  clear hP hD hS
  intro hP hD hS
  replace hP : va_P D vwCl [(oC8 ad gn), (aI cI (ad 42) 40 (upd gk gn.toNatClampNeg k)), (aI cI (ad 43) 40 (upd gs gn.toNatClampNeg q)), (aI cI (ad 44) 40 (upd gd gn.toNatClampNeg a)), (aI cI (ad 45) 40 (upd ge gn.toNatClampNeg b))] H := hP
  replace hD : va_D A [(oC8 ad gn), (aI cI (ad 42) 40 (upd gk gn.toNatClampNeg k)), (aI cI (ad 43) 40 (upd gs gn.toNatClampNeg q)), (aI cI (ad 44) 40 (upd gd gn.toNatClampNeg a)), (aI cI (ad 45) 40 (upd ge gn.toNatClampNeg b))] := hD
  refine lv_aload_n hx hb dX8_tell_41 rfl (lv_at hl 0 rfl) ?_
  refine lv_dup hx hb dX8_tell_42 rfl ?_
  refine va_get (D := D) (ci := 8) (v := .int gn) (C := RX8) (T := TX8) (N := 6) hx hb hts inX8_tell_X8 hown hK hP 0 rfl rfl 4 (by decide) (hts (Cond.fieldLink RX8 27 "PortRooms$Pledges" "count" "I") (wm_t (wm_l (wm_i 1 rfl)))) (fun _ h9 => h9) rfl dX8_tell_43 ?_
  refine lv_iconst (v := 1) hx hb dX8_tell_46 (by decide) ?_
  refine lv_iadd hx hb dX8_tell_47 ?_
  refine lv_topi (fun v1 ev1 => ?_)
  try have tv1 : v1.toInt = gn.toInt + 1 := by rw [ev1]; exact (i_add (x := gn) (y := (1 : Int32)) (by rw [k1]; omega) (by rw [k1]; omega)).trans (by rw [k1])
  refine va_put (D := D) (ci := 8) (v := .int v1) (ty := .int) (C := RX8) (T := TX8) (N := 6) hx hb hts inX8_tell_X8 tyX8 tyX8_ok nmX8 hown hK hP hD hS 0 rfl rfl 4 (by decide) (hts (Cond.fieldLink RX8 27 "PortRooms$Pledges" "count" "I") (wm_t (wm_l (wm_i 1 rfl)))) (fun _ h9 => h9) rfl (tyX8_ok 4 (by decide)) rfl rfl (Nat.le_of_ble_eq_true rfl) dX8_tell_48 (fun H locs => ?_)
  clear hP hD hS
  intro hP hD hS
  replace hP : va_P D vwCl [(oC8 ad v1), (aI cI (ad 42) 40 (upd gk gn.toNatClampNeg k)), (aI cI (ad 43) 40 (upd gs gn.toNatClampNeg q)), (aI cI (ad 44) 40 (upd gd gn.toNatClampNeg a)), (aI cI (ad 45) 40 (upd ge gn.toNatClampNeg b))] H := hP
  replace hD : va_D A [(oC8 ad v1), (aI cI (ad 42) 40 (upd gk gn.toNatClampNeg k)), (aI cI (ad 43) 40 (upd gs gn.toNatClampNeg q)), (aI cI (ad 44) 40 (upd gd gn.toNatClampNeg a)), (aI cI (ad 45) 40 (upd ge gn.toNatClampNeg b))] := hD
  refine lv_aload_n hx hb dX8_tell_51 rfl (lv_at hl 0 rfl) ?_
  refine va_get (D := D) (ci := 8) (v := .int v1) (C := RX8) (T := TX8) (N := 6) hx hb hts inX8_tell_X8 hown hK hP 0 rfl rfl 4 (by decide) (hts (Cond.fieldLink RX8 27 "PortRooms$Pledges" "count" "I") (wm_t (wm_l (wm_i 1 rfl)))) (fun _ h9 => h9) rfl dX8_tell_52 ?_
  refine lv_iconst (v := 1) hx hb dX8_tell_55 (by decide) ?_
  refine lv_isub hx hb dX8_tell_56 ?_
  refine lv_topi (fun v2 ev2 => ?_)
  try have tv2 : v2.toInt = v1.toInt - 1 := by rw [ev2]; exact (i_sub (x := v1) (y := (1 : Int32)) (by rw [k1]; omega) (by rw [k1]; omega)).trans (by rw [k1])
  subst ev1
  subst ev2
  have hP9 := hP
  have hD9 := hD
  exact W.iret (v := (gn + 1) - 1) hx hb hr (fun t ht hW => ⟨⟨(gn + 1) - 1, (), rfl, rfl, by rw [ht]; exact hP9, va_K.moved hW.alike hK, hD9⟩, hS.F ht⟩) hS.2.2 dX8_tell_57

set_option maxHeartbeats 4000000 in
set_option maxRecDepth 100000 in
theorem ct_X0_tell (l : Launch) (D : va_G) (cI cY cJ cQ : ClassId) (sz : Nat) (ad : Nat → Nat) (an : Int32) (ak ah ay az : Nat → Int32) (k : Int32) (w : Int32) (d : Int32) (n : Int32)  (h1 : 0 ≤ an.toInt) (h2 : an.toInt < 60)  : Met l yX0_tell wsX0_tell ({ frames := 0, cells := 0, slots := 0, locals := 0 }) (cPre D (ty4 cI cY cJ cQ) [(oC0 ad an), (aI cI (ad 54) 60 ak), (aI cI (ad 55) 60 ah), (aI cI (ad 56) 60 ay), (aI cI (ad 57) 60 az)] sz [.ref (ad 7), .int k, .int w, .int d, .int n]) (va_Qi (fun (r : Int32) (u : Unit) => r = an + 1) (cB D (ty4 cI cY cJ cQ) (fun (u : Unit) => [(oC0 ad (an + 1)), (aI cI (ad 54) 60 (upd ak an.toNatClampNeg k)), (aI cI (ad 55) 60 (upd ah an.toNatClampNeg w)), (aI cI (ad 56) 60 (upd ay an.toNatClampNeg d)), (aI cI (ad 57) 60 (upd az an.toNatClampNeg n))]) (va_A [(oC0 ad an), (aI cI (ad 54) 60 ak), (aI cI (ad 55) 60 ah), (aI cI (ad 56) 60 ay), (aI cI (ad 57) 60 az)] sz)) (va_A [(oC0 ad an), (aI cI (ad 54) 60 ak), (aI cI (ad 55) 60 ah), (aI cI (ad 56) 60 ay), (aI cI (ad 57) 60 az)] sz)) 0 0 (va_A [(oC0 ad an), (aI cI (ad 54) 60 ak), (aI cI (ad 55) 60 ah), (aI cI (ad 56) 60 ay), (aI cI (ad 57) 60 az)] sz) := by
  refine Met.ofW (cc := cX0_tell) (maxL := 5) (ret := (some .int)) (by decide) rfl ?_
  intro p e s m args below meth c s₁ B hml hv
  obtain ⟨rfl, hsz, hP, hK, hD0, hN⟩ := hv
  have hx := B.exec
  have hb := B.bytes
  have hr := B.returns
  have hts := atoms_spec (ws := wsX0_tell) B.pre
  have hown : s.vm.findClass RX0 = some m.cls := findClass_of_methodNamed B.named
  have hlocks := B.notSynchronized
  subst hsz
  have hD := hD0.self (sz := s.heap.size)
  generalize hAe : va_A [(oC0 ad an), (aI cI (ad 54) 60 ak), (aI cI (ad 55) 60 ah), (aI cI (ad 56) 60 ay), (aI cI (ad 57) 60 az)] s.heap.size = A at hD ⊢
  have hA : ∀ q : Nat, s.heap.size ≤ q → A q := fun q h => by rw [← hAe]; exact Or.inr h
  have hS : va_S A s.heap s.heap [] := va_S.rf
  have hP : va_P D vwCl [(oC0 ad an), (aI cI (ad 54) 60 ak), (aI cI (ad 55) 60 ah), (aI cI (ad 56) 60 ay), (aI cI (ad 57) 60 az)] s.heap := hP
  have hl := lv_entry ([.ref (ad 7), .int k, .int w, .int d, .int n]) (n := 5) (Nat.le_of_ble_eq_true rfl)
  rw [lg_entry_eq]
  generalize (lg_sl ([.ref (ad 7), .int k, .int w, .int d, .int n]) ++ List.replicate (5 - (lg_sl ([.ref (ad 7), .int k, .int w, .int d, .int n])).length) Slot.unset).toArray = ls at hl ⊢
  have hl : lv_has ls 5 [(0, .ref (ad 7)), (1, .int k), (2, .int w), (3, .int d), (4, .int n)] := hl
  have k1 : (1 : Int32).toInt = 1 := by decide
  refine lv_aload_n hx hb dX0_tell_0 rfl (lv_at hl 0 rfl) ?_
  refine va_get (D := D) (ci := 0) (v := .ref (ad 54)) (C := RX0) (T := TX0) (N := 5) hx hb hts inX0_tell_X0 hown hK hP 0 rfl rfl 0 (by decide) (hts (Cond.fieldLink RX0 9 "PortRooms$Acts" "crate" "[I") (wm_t (wm_l (wm_i 0 rfl)))) (fun _ h9 => h9) rfl dX0_tell_1 ?_
  refine lv_aload_n hx hb dX0_tell_4 rfl (lv_at hl 0 rfl) ?_
  refine va_get (D := D) (ci := 0) (v := .int an) (C := RX0) (T := TX0) (N := 5) hx hb hts inX0_tell_X0 hown hK hP 0 rfl rfl 4 (by decide) (hts (Cond.fieldLink RX0 24 "PortRooms$Acts" "count" "I") (wm_t (wm_l (wm_i 1 rfl)))) (fun _ h9 => h9) rfl dX0_tell_5 ?_
  refine lv_iload_n hx hb dX0_tell_8 rfl (lv_at hl 1 rfl) ?_
  refine va_iast hx hb hK hP hD hS 1 0 rfl rfl (i_in (by omega) (by omega)) dX0_tell_9 (fun H locs => ?_)
  clear hP hD hS
  intro hP hD hS
  replace hP : va_P D vwCl [(oC0 ad an), (aI cI (ad 54) 60 (upd ak an.toNatClampNeg k)), (aI cI (ad 55) 60 ah), (aI cI (ad 56) 60 ay), (aI cI (ad 57) 60 az)] H := hP
  replace hD : va_D A [(oC0 ad an), (aI cI (ad 54) 60 (upd ak an.toNatClampNeg k)), (aI cI (ad 55) 60 ah), (aI cI (ad 56) 60 ay), (aI cI (ad 57) 60 az)] := hD
  refine lv_aload_n hx hb dX0_tell_10 rfl (lv_at hl 0 rfl) ?_
  refine va_get (D := D) (ci := 0) (v := .ref (ad 55)) (C := RX0) (T := TX0) (N := 5) hx hb hts inX0_tell_X0 hown hK hP 0 rfl rfl 1 (by decide) (hts (Cond.fieldLink RX0 15 "PortRooms$Acts" "what" "[I") (wm_t (wm_l (wm_i 2 rfl)))) (fun _ h9 => h9) rfl dX0_tell_11 ?_
  refine lv_aload_n hx hb dX0_tell_14 rfl (lv_at hl 0 rfl) ?_
  refine va_get (D := D) (ci := 0) (v := .int an) (C := RX0) (T := TX0) (N := 5) hx hb hts inX0_tell_X0 hown hK hP 0 rfl rfl 4 (by decide) (hts (Cond.fieldLink RX0 24 "PortRooms$Acts" "count" "I") (wm_t (wm_l (wm_i 1 rfl)))) (fun _ h9 => h9) rfl dX0_tell_15 ?_
  refine lv_iload_n hx hb dX0_tell_18 rfl (lv_at hl 2 rfl) ?_
  refine va_iast hx hb hK hP hD hS 2 0 rfl rfl (i_in (by omega) (by omega)) dX0_tell_19 (fun H locs => ?_)
  clear hP hD hS
  intro hP hD hS
  replace hP : va_P D vwCl [(oC0 ad an), (aI cI (ad 54) 60 (upd ak an.toNatClampNeg k)), (aI cI (ad 55) 60 (upd ah an.toNatClampNeg w)), (aI cI (ad 56) 60 ay), (aI cI (ad 57) 60 az)] H := hP
  replace hD : va_D A [(oC0 ad an), (aI cI (ad 54) 60 (upd ak an.toNatClampNeg k)), (aI cI (ad 55) 60 (upd ah an.toNatClampNeg w)), (aI cI (ad 56) 60 ay), (aI cI (ad 57) 60 az)] := hD
  refine lv_aload_n hx hb dX0_tell_20 rfl (lv_at hl 0 rfl) ?_
  refine va_get (D := D) (ci := 0) (v := .ref (ad 56)) (C := RX0) (T := TX0) (N := 5) hx hb hts inX0_tell_X0 hown hK hP 0 rfl rfl 2 (by decide) (hts (Cond.fieldLink RX0 18 "PortRooms$Acts" "day" "[I") (wm_t (wm_l (wm_i 3 rfl)))) (fun _ h9 => h9) rfl dX0_tell_21 ?_
  refine lv_aload_n hx hb dX0_tell_24 rfl (lv_at hl 0 rfl) ?_
  refine va_get (D := D) (ci := 0) (v := .int an) (C := RX0) (T := TX0) (N := 5) hx hb hts inX0_tell_X0 hown hK hP 0 rfl rfl 4 (by decide) (hts (Cond.fieldLink RX0 24 "PortRooms$Acts" "count" "I") (wm_t (wm_l (wm_i 1 rfl)))) (fun _ h9 => h9) rfl dX0_tell_25 ?_
  refine lv_iload_n hx hb dX0_tell_28 rfl (lv_at hl 3 rfl) ?_
  refine va_iast hx hb hK hP hD hS 3 0 rfl rfl (i_in (by omega) (by omega)) dX0_tell_29 (fun H locs => ?_)
  clear hP hD hS
  intro hP hD hS
  replace hP : va_P D vwCl [(oC0 ad an), (aI cI (ad 54) 60 (upd ak an.toNatClampNeg k)), (aI cI (ad 55) 60 (upd ah an.toNatClampNeg w)), (aI cI (ad 56) 60 (upd ay an.toNatClampNeg d)), (aI cI (ad 57) 60 az)] H := hP
  replace hD : va_D A [(oC0 ad an), (aI cI (ad 54) 60 (upd ak an.toNatClampNeg k)), (aI cI (ad 55) 60 (upd ah an.toNatClampNeg w)), (aI cI (ad 56) 60 (upd ay an.toNatClampNeg d)), (aI cI (ad 57) 60 az)] := hD
  refine lv_aload_n hx hb dX0_tell_30 rfl (lv_at hl 0 rfl) ?_
  refine va_get (D := D) (ci := 0) (v := .ref (ad 57)) (C := RX0) (T := TX0) (N := 5) hx hb hts inX0_tell_X0 hown hK hP 0 rfl rfl 3 (by decide) (hts (Cond.fieldLink RX0 21 "PortRooms$Acts" "days" "[I") (wm_t (wm_l (wm_i 4 rfl)))) (fun _ h9 => h9) rfl dX0_tell_31 ?_
  refine lv_aload_n hx hb dX0_tell_34 rfl (lv_at hl 0 rfl) ?_
  refine va_get (D := D) (ci := 0) (v := .int an) (C := RX0) (T := TX0) (N := 5) hx hb hts inX0_tell_X0 hown hK hP 0 rfl rfl 4 (by decide) (hts (Cond.fieldLink RX0 24 "PortRooms$Acts" "count" "I") (wm_t (wm_l (wm_i 1 rfl)))) (fun _ h9 => h9) rfl dX0_tell_35 ?_
  refine lv_iload hx hb dX0_tell_38 (lv_at hl 4 rfl) ?_
  refine va_iast hx hb hK hP hD hS 4 0 rfl rfl (i_in (by omega) (by omega)) dX0_tell_40 (fun H locs => ?_)
  clear hP hD hS
  intro hP hD hS
  replace hP : va_P D vwCl [(oC0 ad an), (aI cI (ad 54) 60 (upd ak an.toNatClampNeg k)), (aI cI (ad 55) 60 (upd ah an.toNatClampNeg w)), (aI cI (ad 56) 60 (upd ay an.toNatClampNeg d)), (aI cI (ad 57) 60 (upd az an.toNatClampNeg n))] H := hP
  replace hD : va_D A [(oC0 ad an), (aI cI (ad 54) 60 (upd ak an.toNatClampNeg k)), (aI cI (ad 55) 60 (upd ah an.toNatClampNeg w)), (aI cI (ad 56) 60 (upd ay an.toNatClampNeg d)), (aI cI (ad 57) 60 (upd az an.toNatClampNeg n))] := hD
  refine lv_aload_n hx hb dX0_tell_41 rfl (lv_at hl 0 rfl) ?_
  refine lv_dup hx hb dX0_tell_42 rfl ?_
  refine va_get (D := D) (ci := 0) (v := .int an) (C := RX0) (T := TX0) (N := 5) hx hb hts inX0_tell_X0 hown hK hP 0 rfl rfl 4 (by decide) (hts (Cond.fieldLink RX0 24 "PortRooms$Acts" "count" "I") (wm_t (wm_l (wm_i 1 rfl)))) (fun _ h9 => h9) rfl dX0_tell_43 ?_
  refine lv_iconst (v := 1) hx hb dX0_tell_46 (by decide) ?_
  refine lv_iadd hx hb dX0_tell_47 ?_
  refine lv_topi (fun v1 ev1 => ?_)
  try have tv1 : v1.toInt = an.toInt + 1 := by rw [ev1]; exact (i_add (x := an) (y := (1 : Int32)) (by rw [k1]; omega) (by rw [k1]; omega)).trans (by rw [k1])
  refine va_put (D := D) (ci := 0) (v := .int v1) (ty := .int) (C := RX0) (T := TX0) (N := 5) hx hb hts inX0_tell_X0 tyX0 tyX0_ok nmX0 hown hK hP hD hS 0 rfl rfl 4 (by decide) (hts (Cond.fieldLink RX0 24 "PortRooms$Acts" "count" "I") (wm_t (wm_l (wm_i 1 rfl)))) (fun _ h9 => h9) rfl (tyX0_ok 4 (by decide)) rfl rfl (Nat.le_of_ble_eq_true rfl) dX0_tell_48 (fun H locs => ?_)
  clear hP hD hS
  intro hP hD hS
  replace hP : va_P D vwCl [(oC0 ad v1), (aI cI (ad 54) 60 (upd ak an.toNatClampNeg k)), (aI cI (ad 55) 60 (upd ah an.toNatClampNeg w)), (aI cI (ad 56) 60 (upd ay an.toNatClampNeg d)), (aI cI (ad 57) 60 (upd az an.toNatClampNeg n))] H := hP
  replace hD : va_D A [(oC0 ad v1), (aI cI (ad 54) 60 (upd ak an.toNatClampNeg k)), (aI cI (ad 55) 60 (upd ah an.toNatClampNeg w)), (aI cI (ad 56) 60 (upd ay an.toNatClampNeg d)), (aI cI (ad 57) 60 (upd az an.toNatClampNeg n))] := hD
  refine lv_aload_n hx hb dX0_tell_51 rfl (lv_at hl 0 rfl) ?_
  refine va_get (D := D) (ci := 0) (v := .int v1) (C := RX0) (T := TX0) (N := 5) hx hb hts inX0_tell_X0 hown hK hP 0 rfl rfl 4 (by decide) (hts (Cond.fieldLink RX0 24 "PortRooms$Acts" "count" "I") (wm_t (wm_l (wm_i 1 rfl)))) (fun _ h9 => h9) rfl dX0_tell_52 ?_
  subst ev1
  have hP9 := hP
  have hD9 := hD
  exact W.iret (v := an + 1) hx hb hr (fun t ht hW => ⟨⟨an + 1, (), rfl, rfl, by rw [ht]; exact hP9, va_K.moved hW.alike hK, hD9⟩, hS.F ht⟩) hS.2.2 dX0_tell_55

set_option maxHeartbeats 4000000 in
set_option maxRecDepth 100000 in
theorem ct_X6_tell (l : Launch) (D : va_G) (cI cY cJ cQ : ClassId) (sz : Nat) (ad : Nat → Nat) (un : Int32) (uk uy uw um : Nat → Int32) (k : Int32) (d : Int32) (w : Int32) (q : Int32)  (h1 : 0 ≤ un.toInt) (h2 : un.toInt < 60)  : Met l yX6_tell wsX6_tell ({ frames := 0, cells := 0, slots := 0, locals := 0 }) (cPre D (ty4 cI cY cJ cQ) [(oC6 ad un), (aI cI (ad 59) 60 uk), (aI cI (ad 60) 60 uy), (aI cI (ad 61) 60 uw), (aI cI (ad 62) 60 um)] sz [.ref (ad 9), .int k, .int d, .int w, .int q]) (va_Qi (fun (r : Int32) (u : Unit) => r = un + 1) (cB D (ty4 cI cY cJ cQ) (fun (u : Unit) => [(oC6 ad (un + 1)), (aI cI (ad 59) 60 (upd uk un.toNatClampNeg k)), (aI cI (ad 60) 60 (upd uy un.toNatClampNeg d)), (aI cI (ad 61) 60 (upd uw un.toNatClampNeg w)), (aI cI (ad 62) 60 (upd um un.toNatClampNeg q))]) (va_A [(oC6 ad un), (aI cI (ad 59) 60 uk), (aI cI (ad 60) 60 uy), (aI cI (ad 61) 60 uw), (aI cI (ad 62) 60 um)] sz)) (va_A [(oC6 ad un), (aI cI (ad 59) 60 uk), (aI cI (ad 60) 60 uy), (aI cI (ad 61) 60 uw), (aI cI (ad 62) 60 um)] sz)) 0 0 (va_A [(oC6 ad un), (aI cI (ad 59) 60 uk), (aI cI (ad 60) 60 uy), (aI cI (ad 61) 60 uw), (aI cI (ad 62) 60 um)] sz) := by
  refine Met.ofW (cc := cX6_tell) (maxL := 5) (ret := (some .int)) (by decide) rfl ?_
  intro p e s m args below meth c s₁ B hml hv
  obtain ⟨rfl, hsz, hP, hK, hD0, hN⟩ := hv
  have hx := B.exec
  have hb := B.bytes
  have hr := B.returns
  have hts := atoms_spec (ws := wsX6_tell) B.pre
  have hown : s.vm.findClass RX6 = some m.cls := findClass_of_methodNamed B.named
  have hlocks := B.notSynchronized
  subst hsz
  have hD := hD0.self (sz := s.heap.size)
  generalize hAe : va_A [(oC6 ad un), (aI cI (ad 59) 60 uk), (aI cI (ad 60) 60 uy), (aI cI (ad 61) 60 uw), (aI cI (ad 62) 60 um)] s.heap.size = A at hD ⊢
  have hA : ∀ q : Nat, s.heap.size ≤ q → A q := fun q h => by rw [← hAe]; exact Or.inr h
  have hS : va_S A s.heap s.heap [] := va_S.rf
  have hP : va_P D vwCl [(oC6 ad un), (aI cI (ad 59) 60 uk), (aI cI (ad 60) 60 uy), (aI cI (ad 61) 60 uw), (aI cI (ad 62) 60 um)] s.heap := hP
  have hl := lv_entry ([.ref (ad 9), .int k, .int d, .int w, .int q]) (n := 5) (Nat.le_of_ble_eq_true rfl)
  rw [lg_entry_eq]
  generalize (lg_sl ([.ref (ad 9), .int k, .int d, .int w, .int q]) ++ List.replicate (5 - (lg_sl ([.ref (ad 9), .int k, .int d, .int w, .int q])).length) Slot.unset).toArray = ls at hl ⊢
  have hl : lv_has ls 5 [(0, .ref (ad 9)), (1, .int k), (2, .int d), (3, .int w), (4, .int q)] := hl
  have k1 : (1 : Int32).toInt = 1 := by decide
  refine lv_aload_n hx hb dX6_tell_0 rfl (lv_at hl 0 rfl) ?_
  refine va_get (D := D) (ci := 6) (v := .ref (ad 59)) (C := RX6) (T := TX6) (N := 5) hx hb hts inX6_tell_X6 hown hK hP 0 rfl rfl 0 (by decide) (hts (Cond.fieldLink RX6 9 "PortRooms$Openings" "crate" "[I") (wm_t (wm_l (wm_i 0 rfl)))) (fun _ h9 => h9) rfl dX6_tell_1 ?_
  refine lv_aload_n hx hb dX6_tell_4 rfl (lv_at hl 0 rfl) ?_
  refine va_get (D := D) (ci := 6) (v := .int un) (C := RX6) (T := TX6) (N := 5) hx hb hts inX6_tell_X6 hown hK hP 0 rfl rfl 4 (by decide) (hts (Cond.fieldLink RX6 24 "PortRooms$Openings" "count" "I") (wm_t (wm_l (wm_i 1 rfl)))) (fun _ h9 => h9) rfl dX6_tell_5 ?_
  refine lv_iload_n hx hb dX6_tell_8 rfl (lv_at hl 1 rfl) ?_
  refine va_iast hx hb hK hP hD hS 1 0 rfl rfl (i_in (by omega) (by omega)) dX6_tell_9 (fun H locs => ?_)
  clear hP hD hS
  intro hP hD hS
  replace hP : va_P D vwCl [(oC6 ad un), (aI cI (ad 59) 60 (upd uk un.toNatClampNeg k)), (aI cI (ad 60) 60 uy), (aI cI (ad 61) 60 uw), (aI cI (ad 62) 60 um)] H := hP
  replace hD : va_D A [(oC6 ad un), (aI cI (ad 59) 60 (upd uk un.toNatClampNeg k)), (aI cI (ad 60) 60 uy), (aI cI (ad 61) 60 uw), (aI cI (ad 62) 60 um)] := hD
  refine lv_aload_n hx hb dX6_tell_10 rfl (lv_at hl 0 rfl) ?_
  refine va_get (D := D) (ci := 6) (v := .ref (ad 60)) (C := RX6) (T := TX6) (N := 5) hx hb hts inX6_tell_X6 hown hK hP 0 rfl rfl 1 (by decide) (hts (Cond.fieldLink RX6 15 "PortRooms$Openings" "day" "[I") (wm_t (wm_l (wm_i 2 rfl)))) (fun _ h9 => h9) rfl dX6_tell_11 ?_
  refine lv_aload_n hx hb dX6_tell_14 rfl (lv_at hl 0 rfl) ?_
  refine va_get (D := D) (ci := 6) (v := .int un) (C := RX6) (T := TX6) (N := 5) hx hb hts inX6_tell_X6 hown hK hP 0 rfl rfl 4 (by decide) (hts (Cond.fieldLink RX6 24 "PortRooms$Openings" "count" "I") (wm_t (wm_l (wm_i 1 rfl)))) (fun _ h9 => h9) rfl dX6_tell_15 ?_
  refine lv_iload_n hx hb dX6_tell_18 rfl (lv_at hl 2 rfl) ?_
  refine va_iast hx hb hK hP hD hS 2 0 rfl rfl (i_in (by omega) (by omega)) dX6_tell_19 (fun H locs => ?_)
  clear hP hD hS
  intro hP hD hS
  replace hP : va_P D vwCl [(oC6 ad un), (aI cI (ad 59) 60 (upd uk un.toNatClampNeg k)), (aI cI (ad 60) 60 (upd uy un.toNatClampNeg d)), (aI cI (ad 61) 60 uw), (aI cI (ad 62) 60 um)] H := hP
  replace hD : va_D A [(oC6 ad un), (aI cI (ad 59) 60 (upd uk un.toNatClampNeg k)), (aI cI (ad 60) 60 (upd uy un.toNatClampNeg d)), (aI cI (ad 61) 60 uw), (aI cI (ad 62) 60 um)] := hD
  refine lv_aload_n hx hb dX6_tell_20 rfl (lv_at hl 0 rfl) ?_
  refine va_get (D := D) (ci := 6) (v := .ref (ad 61)) (C := RX6) (T := TX6) (N := 5) hx hb hts inX6_tell_X6 hown hK hP 0 rfl rfl 2 (by decide) (hts (Cond.fieldLink RX6 18 "PortRooms$Openings" "weight" "[I") (wm_t (wm_l (wm_i 3 rfl)))) (fun _ h9 => h9) rfl dX6_tell_21 ?_
  refine lv_aload_n hx hb dX6_tell_24 rfl (lv_at hl 0 rfl) ?_
  refine va_get (D := D) (ci := 6) (v := .int un) (C := RX6) (T := TX6) (N := 5) hx hb hts inX6_tell_X6 hown hK hP 0 rfl rfl 4 (by decide) (hts (Cond.fieldLink RX6 24 "PortRooms$Openings" "count" "I") (wm_t (wm_l (wm_i 1 rfl)))) (fun _ h9 => h9) rfl dX6_tell_25 ?_
  refine lv_iload_n hx hb dX6_tell_28 rfl (lv_at hl 3 rfl) ?_
  refine va_iast hx hb hK hP hD hS 3 0 rfl rfl (i_in (by omega) (by omega)) dX6_tell_29 (fun H locs => ?_)
  clear hP hD hS
  intro hP hD hS
  replace hP : va_P D vwCl [(oC6 ad un), (aI cI (ad 59) 60 (upd uk un.toNatClampNeg k)), (aI cI (ad 60) 60 (upd uy un.toNatClampNeg d)), (aI cI (ad 61) 60 (upd uw un.toNatClampNeg w)), (aI cI (ad 62) 60 um)] H := hP
  replace hD : va_D A [(oC6 ad un), (aI cI (ad 59) 60 (upd uk un.toNatClampNeg k)), (aI cI (ad 60) 60 (upd uy un.toNatClampNeg d)), (aI cI (ad 61) 60 (upd uw un.toNatClampNeg w)), (aI cI (ad 62) 60 um)] := hD
  refine lv_aload_n hx hb dX6_tell_30 rfl (lv_at hl 0 rfl) ?_
  refine va_get (D := D) (ci := 6) (v := .ref (ad 62)) (C := RX6) (T := TX6) (N := 5) hx hb hts inX6_tell_X6 hown hK hP 0 rfl rfl 3 (by decide) (hts (Cond.fieldLink RX6 21 "PortRooms$Openings" "marks" "[I") (wm_t (wm_l (wm_i 4 rfl)))) (fun _ h9 => h9) rfl dX6_tell_31 ?_
  refine lv_aload_n hx hb dX6_tell_34 rfl (lv_at hl 0 rfl) ?_
  refine va_get (D := D) (ci := 6) (v := .int un) (C := RX6) (T := TX6) (N := 5) hx hb hts inX6_tell_X6 hown hK hP 0 rfl rfl 4 (by decide) (hts (Cond.fieldLink RX6 24 "PortRooms$Openings" "count" "I") (wm_t (wm_l (wm_i 1 rfl)))) (fun _ h9 => h9) rfl dX6_tell_35 ?_
  refine lv_iload hx hb dX6_tell_38 (lv_at hl 4 rfl) ?_
  refine va_iast hx hb hK hP hD hS 4 0 rfl rfl (i_in (by omega) (by omega)) dX6_tell_40 (fun H locs => ?_)
  clear hP hD hS
  intro hP hD hS
  replace hP : va_P D vwCl [(oC6 ad un), (aI cI (ad 59) 60 (upd uk un.toNatClampNeg k)), (aI cI (ad 60) 60 (upd uy un.toNatClampNeg d)), (aI cI (ad 61) 60 (upd uw un.toNatClampNeg w)), (aI cI (ad 62) 60 (upd um un.toNatClampNeg q))] H := hP
  replace hD : va_D A [(oC6 ad un), (aI cI (ad 59) 60 (upd uk un.toNatClampNeg k)), (aI cI (ad 60) 60 (upd uy un.toNatClampNeg d)), (aI cI (ad 61) 60 (upd uw un.toNatClampNeg w)), (aI cI (ad 62) 60 (upd um un.toNatClampNeg q))] := hD
  refine lv_aload_n hx hb dX6_tell_41 rfl (lv_at hl 0 rfl) ?_
  refine lv_dup hx hb dX6_tell_42 rfl ?_
  refine va_get (D := D) (ci := 6) (v := .int un) (C := RX6) (T := TX6) (N := 5) hx hb hts inX6_tell_X6 hown hK hP 0 rfl rfl 4 (by decide) (hts (Cond.fieldLink RX6 24 "PortRooms$Openings" "count" "I") (wm_t (wm_l (wm_i 1 rfl)))) (fun _ h9 => h9) rfl dX6_tell_43 ?_
  refine lv_iconst (v := 1) hx hb dX6_tell_46 (by decide) ?_
  refine lv_iadd hx hb dX6_tell_47 ?_
  refine lv_topi (fun v1 ev1 => ?_)
  try have tv1 : v1.toInt = un.toInt + 1 := by rw [ev1]; exact (i_add (x := un) (y := (1 : Int32)) (by rw [k1]; omega) (by rw [k1]; omega)).trans (by rw [k1])
  refine va_put (D := D) (ci := 6) (v := .int v1) (ty := .int) (C := RX6) (T := TX6) (N := 5) hx hb hts inX6_tell_X6 tyX6 tyX6_ok nmX6 hown hK hP hD hS 0 rfl rfl 4 (by decide) (hts (Cond.fieldLink RX6 24 "PortRooms$Openings" "count" "I") (wm_t (wm_l (wm_i 1 rfl)))) (fun _ h9 => h9) rfl (tyX6_ok 4 (by decide)) rfl rfl (Nat.le_of_ble_eq_true rfl) dX6_tell_48 (fun H locs => ?_)
  clear hP hD hS
  intro hP hD hS
  replace hP : va_P D vwCl [(oC6 ad v1), (aI cI (ad 59) 60 (upd uk un.toNatClampNeg k)), (aI cI (ad 60) 60 (upd uy un.toNatClampNeg d)), (aI cI (ad 61) 60 (upd uw un.toNatClampNeg w)), (aI cI (ad 62) 60 (upd um un.toNatClampNeg q))] H := hP
  replace hD : va_D A [(oC6 ad v1), (aI cI (ad 59) 60 (upd uk un.toNatClampNeg k)), (aI cI (ad 60) 60 (upd uy un.toNatClampNeg d)), (aI cI (ad 61) 60 (upd uw un.toNatClampNeg w)), (aI cI (ad 62) 60 (upd um un.toNatClampNeg q))] := hD
  refine lv_aload_n hx hb dX6_tell_51 rfl (lv_at hl 0 rfl) ?_
  refine va_get (D := D) (ci := 6) (v := .int v1) (C := RX6) (T := TX6) (N := 5) hx hb hts inX6_tell_X6 hown hK hP 0 rfl rfl 4 (by decide) (hts (Cond.fieldLink RX6 24 "PortRooms$Openings" "count" "I") (wm_t (wm_l (wm_i 1 rfl)))) (fun _ h9 => h9) rfl dX6_tell_52 ?_
  subst ev1
  have hP9 := hP
  have hD9 := hD
  exact W.iret (v := un + 1) hx hb hr (fun t ht hW => ⟨⟨un + 1, (), rfl, rfl, by rw [ht]; exact hP9, va_K.moved hW.alike hK, hD9⟩, hS.F ht⟩) hS.2.2 dX6_tell_55

set_option maxHeartbeats 4000000 in
set_option maxRecDepth 100000 in
theorem ct_X4_tell (l : Launch) (D : va_G) (cI cY cJ cQ : ClassId) (sz : Nat) (ad : Nat → Nat) (lc : Int32) (lp la lb : Nat → Int32) (q : Int32) (a : Int32) (b : Int32)  (h1 : 0 ≤ lc.toInt) (h2 : lc.toInt < 20)  : Met l yX4_tell wsX4_tell ({ frames := 0, cells := 0, slots := 0, locals := 0 }) (cPre D (ty4 cI cY cJ cQ) [(oC4 ad lc), (aI cI (ad 63) 20 lp), (aI cI (ad 64) 20 la), (aI cI (ad 65) 20 lb)] sz [.ref (ad 10), .int q, .int a, .int b]) (va_Qi (fun (r : Int32) (u : Unit) => r = lc + 1) (cB D (ty4 cI cY cJ cQ) (fun (u : Unit) => [(oC4 ad (lc + 1)), (aI cI (ad 63) 20 (upd lp lc.toNatClampNeg q)), (aI cI (ad 64) 20 (upd la lc.toNatClampNeg a)), (aI cI (ad 65) 20 (upd lb lc.toNatClampNeg b))]) (va_A [(oC4 ad lc), (aI cI (ad 63) 20 lp), (aI cI (ad 64) 20 la), (aI cI (ad 65) 20 lb)] sz)) (va_A [(oC4 ad lc), (aI cI (ad 63) 20 lp), (aI cI (ad 64) 20 la), (aI cI (ad 65) 20 lb)] sz)) 0 0 (va_A [(oC4 ad lc), (aI cI (ad 63) 20 lp), (aI cI (ad 64) 20 la), (aI cI (ad 65) 20 lb)] sz) := by
  refine Met.ofW (cc := cX4_tell) (maxL := 4) (ret := (some .int)) (by decide) rfl ?_
  intro p e s m args below meth c s₁ B hml hv
  obtain ⟨rfl, hsz, hP, hK, hD0, hN⟩ := hv
  have hx := B.exec
  have hb := B.bytes
  have hr := B.returns
  have hts := atoms_spec (ws := wsX4_tell) B.pre
  have hown : s.vm.findClass RX4 = some m.cls := findClass_of_methodNamed B.named
  have hlocks := B.notSynchronized
  subst hsz
  have hD := hD0.self (sz := s.heap.size)
  generalize hAe : va_A [(oC4 ad lc), (aI cI (ad 63) 20 lp), (aI cI (ad 64) 20 la), (aI cI (ad 65) 20 lb)] s.heap.size = A at hD ⊢
  have hA : ∀ q : Nat, s.heap.size ≤ q → A q := fun q h => by rw [← hAe]; exact Or.inr h
  have hS : va_S A s.heap s.heap [] := va_S.rf
  have hP : va_P D vwCl [(oC4 ad lc), (aI cI (ad 63) 20 lp), (aI cI (ad 64) 20 la), (aI cI (ad 65) 20 lb)] s.heap := hP
  have hl := lv_entry ([.ref (ad 10), .int q, .int a, .int b]) (n := 4) (Nat.le_of_ble_eq_true rfl)
  rw [lg_entry_eq]
  generalize (lg_sl ([.ref (ad 10), .int q, .int a, .int b]) ++ List.replicate (4 - (lg_sl ([.ref (ad 10), .int q, .int a, .int b])).length) Slot.unset).toArray = ls at hl ⊢
  have hl : lv_has ls 4 [(0, .ref (ad 10)), (1, .int q), (2, .int a), (3, .int b)] := hl
  have k1 : (1 : Int32).toInt = 1 := by decide
  refine lv_aload_n hx hb dX4_tell_0 rfl (lv_at hl 0 rfl) ?_
  refine va_get (D := D) (ci := 4) (v := .ref (ad 63)) (C := RX4) (T := TX4) (N := 4) hx hb hts inX4_tell_X4 hown hK hP 0 rfl rfl 0 (by decide) (hts (Cond.fieldLink RX4 9 "PortRooms$Lists" "person" "[I") (wm_t (wm_l (wm_i 0 rfl)))) (fun _ h9 => h9) rfl dX4_tell_1 ?_
  refine lv_aload_n hx hb dX4_tell_4 rfl (lv_at hl 0 rfl) ?_
  refine va_get (D := D) (ci := 4) (v := .int lc) (C := RX4) (T := TX4) (N := 4) hx hb hts inX4_tell_X4 hown hK hP 0 rfl rfl 3 (by decide) (hts (Cond.fieldLink RX4 21 "PortRooms$Lists" "count" "I") (wm_t (wm_l (wm_i 1 rfl)))) (fun _ h9 => h9) rfl dX4_tell_5 ?_
  refine lv_iload_n hx hb dX4_tell_8 rfl (lv_at hl 1 rfl) ?_
  refine va_iast hx hb hK hP hD hS 1 0 rfl rfl (i_in (by omega) (by omega)) dX4_tell_9 (fun H locs => ?_)
  clear hP hD hS
  intro hP hD hS
  replace hP : va_P D vwCl [(oC4 ad lc), (aI cI (ad 63) 20 (upd lp lc.toNatClampNeg q)), (aI cI (ad 64) 20 la), (aI cI (ad 65) 20 lb)] H := hP
  replace hD : va_D A [(oC4 ad lc), (aI cI (ad 63) 20 (upd lp lc.toNatClampNeg q)), (aI cI (ad 64) 20 la), (aI cI (ad 65) 20 lb)] := hD
  refine lv_aload_n hx hb dX4_tell_10 rfl (lv_at hl 0 rfl) ?_
  refine va_get (D := D) (ci := 4) (v := .ref (ad 64)) (C := RX4) (T := TX4) (N := 4) hx hb hts inX4_tell_X4 hown hK hP 0 rfl rfl 1 (by decide) (hts (Cond.fieldLink RX4 15 "PortRooms$Lists" "from" "[I") (wm_t (wm_l (wm_i 2 rfl)))) (fun _ h9 => h9) rfl dX4_tell_11 ?_
  refine lv_aload_n hx hb dX4_tell_14 rfl (lv_at hl 0 rfl) ?_
  refine va_get (D := D) (ci := 4) (v := .int lc) (C := RX4) (T := TX4) (N := 4) hx hb hts inX4_tell_X4 hown hK hP 0 rfl rfl 3 (by decide) (hts (Cond.fieldLink RX4 21 "PortRooms$Lists" "count" "I") (wm_t (wm_l (wm_i 1 rfl)))) (fun _ h9 => h9) rfl dX4_tell_15 ?_
  refine lv_iload_n hx hb dX4_tell_18 rfl (lv_at hl 2 rfl) ?_
  refine va_iast hx hb hK hP hD hS 2 0 rfl rfl (i_in (by omega) (by omega)) dX4_tell_19 (fun H locs => ?_)
  clear hP hD hS
  intro hP hD hS
  replace hP : va_P D vwCl [(oC4 ad lc), (aI cI (ad 63) 20 (upd lp lc.toNatClampNeg q)), (aI cI (ad 64) 20 (upd la lc.toNatClampNeg a)), (aI cI (ad 65) 20 lb)] H := hP
  replace hD : va_D A [(oC4 ad lc), (aI cI (ad 63) 20 (upd lp lc.toNatClampNeg q)), (aI cI (ad 64) 20 (upd la lc.toNatClampNeg a)), (aI cI (ad 65) 20 lb)] := hD
  refine lv_aload_n hx hb dX4_tell_20 rfl (lv_at hl 0 rfl) ?_
  refine va_get (D := D) (ci := 4) (v := .ref (ad 65)) (C := RX4) (T := TX4) (N := 4) hx hb hts inX4_tell_X4 hown hK hP 0 rfl rfl 2 (by decide) (hts (Cond.fieldLink RX4 18 "PortRooms$Lists" "to" "[I") (wm_t (wm_l (wm_i 3 rfl)))) (fun _ h9 => h9) rfl dX4_tell_21 ?_
  refine lv_aload_n hx hb dX4_tell_24 rfl (lv_at hl 0 rfl) ?_
  refine va_get (D := D) (ci := 4) (v := .int lc) (C := RX4) (T := TX4) (N := 4) hx hb hts inX4_tell_X4 hown hK hP 0 rfl rfl 3 (by decide) (hts (Cond.fieldLink RX4 21 "PortRooms$Lists" "count" "I") (wm_t (wm_l (wm_i 1 rfl)))) (fun _ h9 => h9) rfl dX4_tell_25 ?_
  refine lv_iload_n hx hb dX4_tell_28 rfl (lv_at hl 3 rfl) ?_
  refine va_iast hx hb hK hP hD hS 3 0 rfl rfl (i_in (by omega) (by omega)) dX4_tell_29 (fun H locs => ?_)
  clear hP hD hS
  intro hP hD hS
  replace hP : va_P D vwCl [(oC4 ad lc), (aI cI (ad 63) 20 (upd lp lc.toNatClampNeg q)), (aI cI (ad 64) 20 (upd la lc.toNatClampNeg a)), (aI cI (ad 65) 20 (upd lb lc.toNatClampNeg b))] H := hP
  replace hD : va_D A [(oC4 ad lc), (aI cI (ad 63) 20 (upd lp lc.toNatClampNeg q)), (aI cI (ad 64) 20 (upd la lc.toNatClampNeg a)), (aI cI (ad 65) 20 (upd lb lc.toNatClampNeg b))] := hD
  refine lv_aload_n hx hb dX4_tell_30 rfl (lv_at hl 0 rfl) ?_
  refine lv_dup hx hb dX4_tell_31 rfl ?_
  refine va_get (D := D) (ci := 4) (v := .int lc) (C := RX4) (T := TX4) (N := 4) hx hb hts inX4_tell_X4 hown hK hP 0 rfl rfl 3 (by decide) (hts (Cond.fieldLink RX4 21 "PortRooms$Lists" "count" "I") (wm_t (wm_l (wm_i 1 rfl)))) (fun _ h9 => h9) rfl dX4_tell_32 ?_
  refine lv_iconst (v := 1) hx hb dX4_tell_35 (by decide) ?_
  refine lv_iadd hx hb dX4_tell_36 ?_
  refine lv_topi (fun v1 ev1 => ?_)
  try have tv1 : v1.toInt = lc.toInt + 1 := by rw [ev1]; exact (i_add (x := lc) (y := (1 : Int32)) (by rw [k1]; omega) (by rw [k1]; omega)).trans (by rw [k1])
  refine va_put (D := D) (ci := 4) (v := .int v1) (ty := .int) (C := RX4) (T := TX4) (N := 4) hx hb hts inX4_tell_X4 tyX4 tyX4_ok nmX4 hown hK hP hD hS 0 rfl rfl 3 (by decide) (hts (Cond.fieldLink RX4 21 "PortRooms$Lists" "count" "I") (wm_t (wm_l (wm_i 1 rfl)))) (fun _ h9 => h9) rfl (tyX4_ok 3 (by decide)) rfl rfl (Nat.le_of_ble_eq_true rfl) dX4_tell_37 (fun H locs => ?_)
  clear hP hD hS
  intro hP hD hS
  replace hP : va_P D vwCl [(oC4 ad v1), (aI cI (ad 63) 20 (upd lp lc.toNatClampNeg q)), (aI cI (ad 64) 20 (upd la lc.toNatClampNeg a)), (aI cI (ad 65) 20 (upd lb lc.toNatClampNeg b))] H := hP
  replace hD : va_D A [(oC4 ad v1), (aI cI (ad 63) 20 (upd lp lc.toNatClampNeg q)), (aI cI (ad 64) 20 (upd la lc.toNatClampNeg a)), (aI cI (ad 65) 20 (upd lb lc.toNatClampNeg b))] := hD
  refine lv_aload_n hx hb dX4_tell_40 rfl (lv_at hl 0 rfl) ?_
  refine va_get (D := D) (ci := 4) (v := .int v1) (C := RX4) (T := TX4) (N := 4) hx hb hts inX4_tell_X4 hown hK hP 0 rfl rfl 3 (by decide) (hts (Cond.fieldLink RX4 21 "PortRooms$Lists" "count" "I") (wm_t (wm_l (wm_i 1 rfl)))) (fun _ h9 => h9) rfl dX4_tell_41 ?_
  subst ev1
  have hP9 := hP
  have hD9 := hD
  exact W.iret (v := lc + 1) hx hb hr (fun t ht hW => ⟨⟨lc + 1, (), rfl, rfl, by rw [ht]; exact hP9, va_K.moved hW.alike hK, hD9⟩, hS.F ht⟩) hS.2.2 dX4_tell_44

def sp_hold (hn : Int32) (ho hc hp hs : Nat → Int32) (o k q d : Int32) : Int32 × Int32 × (Nat → Int32) × (Nat → Int32) × (Nat → Int32) × (Nat → Int32) := if 0 ≤ o.toInt ∧ o.toInt < 20 ∧ 10 ≤ k.toInt ∧ k.toInt < 20 ∧ ¬ o.toInt = k.toInt ∧ 0 ≤ q.toInt ∧ q.toInt ≤ 100 ∧ 0 ≤ d.toInt ∧ d.toInt < 10000 then (if 40 ≤ hn.toInt then (-1000003, hn, ho, hc, hp, hs) else (hn + 1, hn + 1, upd ho hn.toNatClampNeg o, upd hc hn.toNatClampNeg k, upd hp hn.toNatClampNeg q, upd hs hn.toNatClampNeg d)) else (-1000001, hn, ho, hc, hp, hs)

set_option maxHeartbeats 4000000 in
set_option maxRecDepth 100000 in
theorem ct_X10_hold (l : Launch) (D : va_G) (cI cY cJ cQ : ClassId) (sz : Nat) (ad : Nat → Nat) (tn td lf hn : Int32) (ho hc hp hs : Nat → Int32) (o : Int32) (k : Int32) (q : Int32) (d : Int32)  (h1 : 0 ≤ hn.toInt) (h2 : hn.toInt ≤ 40)  : Met l yX10_hold wsX10_hold ({ frames := 3, cells := 0, slots := 0, locals := 62 }) (cPre D (ty4 cI cY cJ cQ) [(oC10 ad tn td lf), (oC3 ad hn), (aI cI (ad 23) 40 ho), (aI cI (ad 24) 40 hc), (aI cI (ad 25) 40 hp), (aI cI (ad 26) 40 hs)] sz [.ref (ad 0), .int o, .int k, .int q, .int d]) (va_Qi (fun (r : Int32) (u : Int32 × (Nat → Int32) × (Nat → Int32) × (Nat → Int32) × (Nat → Int32)) => (r, u) = sp_hold hn ho hc hp hs o k q d) (cB D (ty4 cI cY cJ cQ) (fun (u : Int32 × (Nat → Int32) × (Nat → Int32) × (Nat → Int32) × (Nat → Int32)) => [(oC10 ad tn td lf), (oC3 ad u.1), (aI cI (ad 23) 40 u.2.1), (aI cI (ad 24) 40 u.2.2.1), (aI cI (ad 25) 40 u.2.2.2.1), (aI cI (ad 26) 40 u.2.2.2.2)]) (va_A [(oC10 ad tn td lf), (oC3 ad hn), (aI cI (ad 23) 40 ho), (aI cI (ad 24) 40 hc), (aI cI (ad 25) 40 hp), (aI cI (ad 26) 40 hs)] sz)) (va_A [(oC10 ad tn td lf), (oC3 ad hn), (aI cI (ad 23) 40 ho), (aI cI (ad 24) 40 hc), (aI cI (ad 25) 40 hp), (aI cI (ad 26) 40 hs)] sz)) 0 0 (va_A [(oC10 ad tn td lf), (oC3 ad hn), (aI cI (ad 23) 40 ho), (aI cI (ad 24) 40 hc), (aI cI (ad 25) 40 hp), (aI cI (ad 26) 40 hs)] sz) := by
  refine Met.ofW (cc := cX10_hold) (maxL := 5) (ret := (some .int)) (by decide) rfl ?_
  intro p e s m args below meth c s₁ B hml hv
  obtain ⟨rfl, hsz, hP, hK, hD0, hN⟩ := hv
  have hx := B.exec
  have hb := B.bytes
  have hr := B.returns
  have hts := atoms_spec (ws := wsX10_hold) B.pre
  have hown : s.vm.findClass RX10 = some m.cls := findClass_of_methodNamed B.named
  have hlocks := B.notSynchronized
  subst hsz
  have hD := hD0.self (sz := s.heap.size)
  generalize hAe : va_A [(oC10 ad tn td lf), (oC3 ad hn), (aI cI (ad 23) 40 ho), (aI cI (ad 24) 40 hc), (aI cI (ad 25) 40 hp), (aI cI (ad 26) 40 hs)] s.heap.size = A at hD ⊢
  have hA : ∀ q : Nat, s.heap.size ≤ q → A q := fun q h => by rw [← hAe]; exact Or.inr h
  have hS : va_S A s.heap s.heap [] := va_S.rf
  have hP : va_P D vwCl [(oC10 ad tn td lf), (oC3 ad hn), (aI cI (ad 23) 40 ho), (aI cI (ad 24) 40 hc), (aI cI (ad 25) 40 hp), (aI cI (ad 26) 40 hs)] s.heap := hP
  have hl := lv_entry ([.ref (ad 0), .int o, .int k, .int q, .int d]) (n := 5) (Nat.le_of_ble_eq_true rfl)
  rw [lg_entry_eq]
  generalize (lg_sl ([.ref (ad 0), .int o, .int k, .int q, .int d]) ++ List.replicate (5 - (lg_sl ([.ref (ad 0), .int o, .int k, .int q, .int d])).length) Slot.unset).toArray = ls at hl ⊢
  have hl : lv_has ls 5 [(0, .ref (ad 0)), (1, .int o), (2, .int k), (3, .int q), (4, .int d)] := hl
  have km1000003 : (-1000003 : Int32).toInt = -1000003 := by decide
  have km1000001 : (-1000001 : Int32).toInt = -1000001 := by decide
  have k0 : (0 : Int32).toInt = 0 := by decide
  have k40 : (40 : Int32).toInt = 40 := by decide
  have k100 : (100 : Int32).toInt = 100 := by decide
  refine lv_iload_n hx hb dX10_hold_0 rfl (lv_at hl 1 rfl) ?_
  refine lv_iload_n hx hb dX10_hold_1 rfl (lv_at hl 2 rfl) ?_
  refine st_i1 (va_runS (As := [.int o, .int k]) (rest := []) ⟨hx, hb, hml, hown, hts⟩ (ct_X10_isPair l D cI cY cJ cQ _ o k) (va_cwS 2 hts gX10_hold_X10_isPair rfl rfl rfl cdX10_isPair ⟨Nat.le_of_ble_eq_true rfl, Nat.le_of_ble_eq_true rfl⟩) (cPreS (hP.sub [] rfl) hK (hD.sub [] (by decide +kernel) rfl) hN) rfl rfl hl.1 rfl (lv_room (Nat.le_of_ble_eq_true rfl)) dX10_hold_2 ⟨Nat.le_of_ble_eq_true rfl, Nat.le_of_ble_eq_true rfl⟩) hP hD hS hA [] rfl (fun _ => rfl) (fun r3 u1 H locs hw2 => ?_)
  clear hP hS
  intro hP hS
  replace hw2 : r3 = if 0 ≤ o.toInt ∧ o.toInt < 20 ∧ 10 ≤ k.toInt ∧ k.toInt < 20 ∧ ¬ o.toInt = k.toInt then 1 else 0 := hw2
  refine lv_if_eq (tgt := 26) hx hb dX10_hold_5 (by decide) (fun c4 => ?_) (fun c4 => ?_)
  · skip
    have f5 := bo_f hw2 c4
    refine lv_ldc hx hb hown (hts (Cond.constant RX10 89 (-1000001)) (wm_t (wm_l (wm_i 0 rfl)))) dX10_hold_26 ?_
    have hP9 := hP
    have hD9 := hD
    exact W.iret (v := (-1000001)) hx hb hr (fun t ht hW => ⟨⟨(-1000001), (hn, ho, hc, hp, hs), rfl, (by unfold sp_hold; (repeat' split) <;> first | rfl | (exfalso; omega) | (subst_vars; rfl)), by rw [ht]; exact hP9, va_K.moved hW.alike hK, hD9⟩, hS.F ht⟩) hS.2.2 dX10_hold_28
  · skip
    have f6 := bo_t hw2 c4
    refine lv_iload_n hx hb dX10_hold_8 rfl (lv_at hl 3 rfl) ?_
    refine lv_iconst (v := 0) hx hb dX10_hold_9 (by decide) ?_
    refine lv_bipush (v := 100) hx hb dX10_hold_10 (by decide) ?_
    refine st_i1 (va_runS (As := [.int q, .int 0, .int 100]) (rest := []) ⟨hx, hb, hml, hown, hts⟩ (ct_X10_isFrom l D cI cY cJ cQ _ q (0 : Int32) (100 : Int32)) (va_cwS 3 hts gX10_hold_X10_isFrom rfl rfl rfl cdX10_isFrom ⟨Nat.le_of_ble_eq_true rfl, Nat.le_of_ble_eq_true rfl⟩) (cPreS (hP.sub [] rfl) hK (hD.sub [] (by decide +kernel) rfl) hN) rfl rfl hl.1 rfl (lv_room (Nat.le_of_ble_eq_true rfl)) dX10_hold_12 ⟨Nat.le_of_ble_eq_true rfl, Nat.le_of_ble_eq_true rfl⟩) hP hD hS hA [] rfl (fun _ => rfl) (fun r9 u7 H locs hw8 => ?_)
    clear hP hS
    intro hP hS
    replace hw8 : r9 = if (0 : Int32).toInt ≤ q.toInt ∧ q.toInt ≤ (100 : Int32).toInt then 1 else 0 := hw8
    refine lv_if_eq (tgt := 26) hx hb dX10_hold_15 (by decide) (fun c10 => ?_) (fun c10 => ?_)
    · skip
      have f11 := bo_f hw8 c10
      refine lv_ldc hx hb hown (hts (Cond.constant RX10 89 (-1000001)) (wm_t (wm_l (wm_i 0 rfl)))) dX10_hold_26 ?_
      have hP9 := hP
      have hD9 := hD
      exact W.iret (v := (-1000001)) hx hb hr (fun t ht hW => ⟨⟨(-1000001), (hn, ho, hc, hp, hs), rfl, (by unfold sp_hold; (repeat' split) <;> first | rfl | (exfalso; omega) | (subst_vars; rfl)), by rw [ht]; exact hP9, va_K.moved hW.alike hK, hD9⟩, hS.F ht⟩) hS.2.2 dX10_hold_28
    · skip
      have f12 := bo_t hw8 c10
      refine lv_iload hx hb dX10_hold_18 (lv_at hl 4 rfl) ?_
      refine st_i1 (va_runS (As := [.int d]) (rest := []) ⟨hx, hb, hml, hown, hts⟩ (ct_X10_isDay l D cI cY cJ cQ _ d) (va_cwS 1 hts gX10_hold_X10_isDay rfl rfl rfl cdX10_isDay ⟨Nat.le_of_ble_eq_true rfl, Nat.le_of_ble_eq_true rfl⟩) (cPreS (hP.sub [] rfl) hK (hD.sub [] (by decide +kernel) rfl) hN) rfl rfl hl.1 rfl (lv_room (Nat.le_of_ble_eq_true rfl)) dX10_hold_20 ⟨Nat.le_of_ble_eq_true rfl, Nat.le_of_ble_eq_true rfl⟩) hP hD hS hA [] rfl (fun _ => rfl) (fun r15 u13 H locs hw14 => ?_)
      clear hP hS
      intro hP hS
      replace hw14 : r15 = if 0 ≤ d.toInt ∧ d.toInt < 10000 then 1 else 0 := hw14
      refine lv_if_ne (tgt := 29) hx hb dX10_hold_23 (by decide) (fun c16 => ?_) (fun c16 => ?_)
      · skip
        have f17 := bo_t hw14 c16
        refine lv_aload_n hx hb dX10_hold_29 rfl (lv_at hl 0 rfl) ?_
        refine va_get (D := D) (ci := 10) (v := .ref (ad 2)) (C := RX10) (T := TX10) (N := 14) hx hb hts inX10_hold_X10 hown hK hP 0 rfl rfl 1 (by decide) (hts (Cond.fieldLink RX10 19 "PortRooms" "holdings" "LPortRooms$Holdings;") (wm_t (wm_l (wm_i 1 rfl)))) (fun _ h9 => h9) rfl dX10_hold_30 ?_
        refine va_get (D := D) (ci := 3) (v := .int hn) (C := RX3) (T := TX3) (N := 9) hx hb hts inX10_hold_X3 hown hK hP 1 rfl rfl 4 (by decide) (hts (Cond.fieldLink RX10 141 "PortRooms$Holdings" "count" "I") (wm_t (wm_l (wm_i 2 rfl)))) (fun _ h9 => h9) rfl dX10_hold_33 ?_
        refine lv_bipush (v := 40) hx hb dX10_hold_36 (by decide) ?_
        refine lv_icmp_lt (tgt := 44) hx hb dX10_hold_38 (by decide) (fun c18 => ?_) (fun c18 => ?_)
        · skip
          have f19 := i_lt c18
          refine lv_aload_n hx hb dX10_hold_44 rfl (lv_at hl 0 rfl) ?_
          refine va_get (D := D) (ci := 10) (v := .ref (ad 2)) (C := RX10) (T := TX10) (N := 14) hx hb hts inX10_hold_X10 hown hK hP 0 rfl rfl 1 (by decide) (hts (Cond.fieldLink RX10 19 "PortRooms" "holdings" "LPortRooms$Holdings;") (wm_t (wm_l (wm_i 1 rfl)))) (fun _ h9 => h9) rfl dX10_hold_45 ?_
          refine lv_iload_n hx hb dX10_hold_48 rfl (lv_at hl 1 rfl) ?_
          refine lv_iload_n hx hb dX10_hold_49 rfl (lv_at hl 2 rfl) ?_
          refine lv_iload_n hx hb dX10_hold_50 rfl (lv_at hl 3 rfl) ?_
          refine lv_iload hx hb dX10_hold_51 (lv_at hl 4 rfl) ?_
          refine st_i (wr := [(oC10 ad tn td lf)]) (va_runV (C := RX3) (As := [.int o, .int k, .int q, .int d]) (rest := []) ⟨hx, hb, hml, hown, hts⟩ (ct_X3_tell l D cI cY cJ cQ _ ad hn ho hc hp hs o k q d h1 (by omega)) (cwV 4 hts gX10_hold_X3_tell rfl rfl rfl ⟨rfl, cdX3_tell⟩ ⟨Nat.le_of_ble_eq_true rfl, Nat.le_of_ble_eq_true rfl⟩) (cPreV (hP.sub [1, 2, 3, 4, 5] rfl) hK (hD.sub [1, 2, 3, 4, 5] (by decide +kernel) rfl) hN (ci := 3) (q0 := 0) rfl rfl) rfl rfl hl.1 rfl (lv_room (Nat.le_of_ble_eq_true rfl)) dX10_hold_53 ⟨Nat.le_of_ble_eq_true rfl, Nat.le_of_ble_eq_true rfl⟩) hP hD hS hA [1, 2, 3, 4, 5] [0] rfl rfl (by decide +kernel) (by decide +kernel) (fun r22 u20 H locs hw21 => ?_)
          clear hP hD hS
          intro hP hD hS
          replace hw21 : r22 = hn + 1 := hw21
          replace hP : va_P D vwCl [(oC10 ad tn td lf), (oC3 ad (hn + 1)), (aI cI (ad 23) 40 (upd ho hn.toNatClampNeg o)), (aI cI (ad 24) 40 (upd hc hn.toNatClampNeg k)), (aI cI (ad 25) 40 (upd hp hn.toNatClampNeg q)), (aI cI (ad 26) 40 (upd hs hn.toNatClampNeg d))] H := hP
          replace hD : va_D A [(oC10 ad tn td lf), (oC3 ad (hn + 1)), (aI cI (ad 23) 40 (upd ho hn.toNatClampNeg o)), (aI cI (ad 24) 40 (upd hc hn.toNatClampNeg k)), (aI cI (ad 25) 40 (upd hp hn.toNatClampNeg q)), (aI cI (ad 26) 40 (upd hs hn.toNatClampNeg d))] := hD
          subst hw21
          have hP9 := hP
          have hD9 := hD
          exact W.iret (v := hn + 1) hx hb hr (fun t ht hW => ⟨⟨hn + 1, (hn + 1, upd ho hn.toNatClampNeg o, upd hc hn.toNatClampNeg k, upd hp hn.toNatClampNeg q, upd hs hn.toNatClampNeg d), rfl, (by unfold sp_hold; (repeat' split) <;> first | rfl | (exfalso; omega) | (subst_vars; rfl)), by rw [ht]; exact hP9, va_K.moved hW.alike hK, hD9⟩, hS.F ht⟩) hS.2.2 dX10_hold_56
        · skip
          have f23 := i_nlt c18
          refine lv_ldc hx hb hown (hts (Cond.constant RX10 145 (-1000003)) (wm_t (wm_l (wm_i 3 rfl)))) dX10_hold_41 ?_
          have hP9 := hP
          have hD9 := hD
          exact W.iret (v := (-1000003)) hx hb hr (fun t ht hW => ⟨⟨(-1000003), (hn, ho, hc, hp, hs), rfl, (by unfold sp_hold; (repeat' split) <;> first | rfl | (exfalso; omega) | (subst_vars; rfl)), by rw [ht]; exact hP9, va_K.moved hW.alike hK, hD9⟩, hS.F ht⟩) hS.2.2 dX10_hold_43
      · skip
        have f24 := bo_f hw14 c16
        refine lv_ldc hx hb hown (hts (Cond.constant RX10 89 (-1000001)) (wm_t (wm_l (wm_i 0 rfl)))) dX10_hold_26 ?_
        have hP9 := hP
        have hD9 := hD
        exact W.iret (v := (-1000001)) hx hb hr (fun t ht hW => ⟨⟨(-1000001), (hn, ho, hc, hp, hs), rfl, (by unfold sp_hold; (repeat' split) <;> first | rfl | (exfalso; omega) | (subst_vars; rfl)), by rw [ht]; exact hP9, va_K.moved hW.alike hK, hD9⟩, hS.F ht⟩) hS.2.2 dX10_hold_28

def sp_crate (cn : Int32) (fo wo : Nat → Int32) (o w : Int32) : Int32 × Int32 × (Nat → Int32) × (Nat → Int32) := if 0 ≤ o.toInt ∧ o.toInt < 20 ∧ 1 ≤ w.toInt ∧ w.toInt ≤ 100000 then (if 12 ≤ cn.toInt then (-1000003, cn, fo, wo) else (cn + 1 - 1, cn + 1, upd fo cn.toNatClampNeg o, upd wo cn.toNatClampNeg w)) else (-1000001, cn, fo, wo)

set_option maxHeartbeats 4000000 in
set_option maxRecDepth 100000 in
theorem ct_X10_crate (l : Launch) (D : va_G) (cI cY cJ cQ : ClassId) (sz : Nat) (ad : Nat → Nat) (tn td lf cn : Int32) (fo wo : Nat → Int32) (o : Int32) (w : Int32)  (h1 : 0 ≤ cn.toInt) (h2 : cn.toInt ≤ 12)  : Met l yX10_crate wsX10_crate ({ frames := 2, cells := 0, slots := 0, locals := 41 }) (cPre D (ty4 cI cY cJ cQ) [(oC10 ad tn td lf), (oC1 ad cn), (aI cI (ad 31) 12 fo), (aI cI (ad 32) 12 wo)] sz [.ref (ad 0), .int o, .int w]) (va_Qi (fun (r : Int32) (u : Int32 × (Nat → Int32) × (Nat → Int32)) => (r, u) = sp_crate cn fo wo o w) (cB D (ty4 cI cY cJ cQ) (fun (u : Int32 × (Nat → Int32) × (Nat → Int32)) => [(oC10 ad tn td lf), (oC1 ad u.1), (aI cI (ad 31) 12 u.2.1), (aI cI (ad 32) 12 u.2.2)]) (va_A [(oC10 ad tn td lf), (oC1 ad cn), (aI cI (ad 31) 12 fo), (aI cI (ad 32) 12 wo)] sz)) (va_A [(oC10 ad tn td lf), (oC1 ad cn), (aI cI (ad 31) 12 fo), (aI cI (ad 32) 12 wo)] sz)) 0 0 (va_A [(oC10 ad tn td lf), (oC1 ad cn), (aI cI (ad 31) 12 fo), (aI cI (ad 32) 12 wo)] sz) := by
  refine Met.ofW (cc := cX10_crate) (maxL := 3) (ret := (some .int)) (by decide) rfl ?_
  intro p e s m args below meth c s₁ B hml hv
  obtain ⟨rfl, hsz, hP, hK, hD0, hN⟩ := hv
  have hx := B.exec
  have hb := B.bytes
  have hr := B.returns
  have hts := atoms_spec (ws := wsX10_crate) B.pre
  have hown : s.vm.findClass RX10 = some m.cls := findClass_of_methodNamed B.named
  have hlocks := B.notSynchronized
  subst hsz
  have hD := hD0.self (sz := s.heap.size)
  generalize hAe : va_A [(oC10 ad tn td lf), (oC1 ad cn), (aI cI (ad 31) 12 fo), (aI cI (ad 32) 12 wo)] s.heap.size = A at hD ⊢
  have hA : ∀ q : Nat, s.heap.size ≤ q → A q := fun q h => by rw [← hAe]; exact Or.inr h
  have hS : va_S A s.heap s.heap [] := va_S.rf
  have hP : va_P D vwCl [(oC10 ad tn td lf), (oC1 ad cn), (aI cI (ad 31) 12 fo), (aI cI (ad 32) 12 wo)] s.heap := hP
  have hl := lv_entry ([.ref (ad 0), .int o, .int w]) (n := 3) (Nat.le_of_ble_eq_true rfl)
  rw [lg_entry_eq]
  generalize (lg_sl ([.ref (ad 0), .int o, .int w]) ++ List.replicate (3 - (lg_sl ([.ref (ad 0), .int o, .int w])).length) Slot.unset).toArray = ls at hl ⊢
  have hl : lv_has ls 3 [(0, .ref (ad 0)), (1, .int o), (2, .int w)] := hl
  have km1000003 : (-1000003 : Int32).toInt = -1000003 := by decide
  have km1000001 : (-1000001 : Int32).toInt = -1000001 := by decide
  have k0 : (0 : Int32).toInt = 0 := by decide
  have k1 : (1 : Int32).toInt = 1 := by decide
  have k12 : (12 : Int32).toInt = 12 := by decide
  have k100000 : (100000 : Int32).toInt = 100000 := by decide
  refine lv_iload_n hx hb dX10_crate_0 rfl (lv_at hl 1 rfl) ?_
  refine st_i1 (va_runS (As := [.int o]) (rest := []) ⟨hx, hb, hml, hown, hts⟩ (ct_X10_isOwner l D cI cY cJ cQ _ o) (va_cwS 1 hts gX10_crate_X10_isOwner rfl rfl rfl cdX10_isOwner ⟨Nat.le_of_ble_eq_true rfl, Nat.le_of_ble_eq_true rfl⟩) (cPreS (hP.sub [] rfl) hK (hD.sub [] (by decide +kernel) rfl) hN) rfl rfl hl.1 rfl (lv_room (Nat.le_of_ble_eq_true rfl)) dX10_crate_1 ⟨Nat.le_of_ble_eq_true rfl, Nat.le_of_ble_eq_true rfl⟩) hP hD hS hA [] rfl (fun _ => rfl) (fun r3 u1 H locs hw2 => ?_)
  clear hP hS
  intro hP hS
  replace hw2 : r3 = if 0 ≤ o.toInt ∧ o.toInt < 20 then 1 else 0 := hw2
  refine lv_if_eq (tgt := 17) hx hb dX10_crate_4 (by decide) (fun c4 => ?_) (fun c4 => ?_)
  · skip
    have f5 := bo_f hw2 c4
    refine lv_ldc hx hb hown (hts (Cond.constant RX10 89 (-1000001)) (wm_t (wm_l (wm_i 1 rfl)))) dX10_crate_17 ?_
    have hP9 := hP
    have hD9 := hD
    exact W.iret (v := (-1000001)) hx hb hr (fun t ht hW => ⟨⟨(-1000001), (cn, fo, wo), rfl, (by unfold sp_crate; (repeat' split) <;> first | rfl | (exfalso; omega) | (subst_vars; rfl)), by rw [ht]; exact hP9, va_K.moved hW.alike hK, hD9⟩, hS.F ht⟩) hS.2.2 dX10_crate_19
  · skip
    have f6 := bo_t hw2 c4
    refine lv_iload_n hx hb dX10_crate_7 rfl (lv_at hl 2 rfl) ?_
    refine lv_iconst (v := 1) hx hb dX10_crate_8 (by decide) ?_
    refine lv_ldc hx hb hown (hts (Cond.constant RX10 176 (100000)) (wm_t (wm_l (wm_i 0 rfl)))) dX10_crate_9 ?_
    refine st_i1 (va_runS (As := [.int w, .int 1, .int 100000]) (rest := []) ⟨hx, hb, hml, hown, hts⟩ (ct_X10_isFrom l D cI cY cJ cQ _ w (1 : Int32) (100000 : Int32)) (va_cwS 3 hts gX10_crate_X10_isFrom rfl rfl rfl cdX10_isFrom ⟨Nat.le_of_ble_eq_true rfl, Nat.le_of_ble_eq_true rfl⟩) (cPreS (hP.sub [] rfl) hK (hD.sub [] (by decide +kernel) rfl) hN) rfl rfl hl.1 rfl (lv_room (Nat.le_of_ble_eq_true rfl)) dX10_crate_11 ⟨Nat.le_of_ble_eq_true rfl, Nat.le_of_ble_eq_true rfl⟩) hP hD hS hA [] rfl (fun _ => rfl) (fun r9 u7 H locs hw8 => ?_)
    clear hP hS
    intro hP hS
    replace hw8 : r9 = if (1 : Int32).toInt ≤ w.toInt ∧ w.toInt ≤ (100000 : Int32).toInt then 1 else 0 := hw8
    refine lv_if_ne (tgt := 20) hx hb dX10_crate_14 (by decide) (fun c10 => ?_) (fun c10 => ?_)
    · skip
      have f11 := bo_t hw8 c10
      refine lv_aload_n hx hb dX10_crate_20 rfl (lv_at hl 0 rfl) ?_
      refine va_get (D := D) (ci := 10) (v := .ref (ad 3)) (C := RX10) (T := TX10) (N := 14) hx hb hts inX10_crate_X10 hown hK hP 0 rfl rfl 2 (by decide) (hts (Cond.fieldLink RX10 26 "PortRooms" "crates" "LPortRooms$Crates;") (wm_t (wm_l (wm_i 2 rfl)))) (fun _ h9 => h9) rfl dX10_crate_21 ?_
      refine va_get (D := D) (ci := 1) (v := .int cn) (C := RX1) (T := TX1) (N := 6) hx hb hts inX10_crate_X1 hown hK hP 1 rfl rfl 3 (by decide) (hts (Cond.fieldLink RX10 177 "PortRooms$Crates" "count" "I") (wm_t (wm_l (wm_i 3 rfl)))) (fun _ h9 => h9) rfl dX10_crate_24 ?_
      refine lv_bipush (v := 12) hx hb dX10_crate_27 (by decide) ?_
      refine lv_icmp_lt (tgt := 35) hx hb dX10_crate_29 (by decide) (fun c12 => ?_) (fun c12 => ?_)
      · skip
        have f13 := i_lt c12
        refine lv_aload_n hx hb dX10_crate_35 rfl (lv_at hl 0 rfl) ?_
        refine va_get (D := D) (ci := 10) (v := .ref (ad 3)) (C := RX10) (T := TX10) (N := 14) hx hb hts inX10_crate_X10 hown hK hP 0 rfl rfl 2 (by decide) (hts (Cond.fieldLink RX10 26 "PortRooms" "crates" "LPortRooms$Crates;") (wm_t (wm_l (wm_i 2 rfl)))) (fun _ h9 => h9) rfl dX10_crate_36 ?_
        refine lv_iload_n hx hb dX10_crate_39 rfl (lv_at hl 1 rfl) ?_
        refine lv_iload_n hx hb dX10_crate_40 rfl (lv_at hl 2 rfl) ?_
        refine st_i (wr := [(oC10 ad tn td lf)]) (va_runV (C := RX1) (As := [.int o, .int w]) (rest := []) ⟨hx, hb, hml, hown, hts⟩ (ct_X1_tell l D cI cY cJ cQ _ ad cn fo wo o w h1 (by omega)) (cwV 2 hts gX10_crate_X1_tell rfl rfl rfl ⟨rfl, cdX1_tell⟩ ⟨Nat.le_of_ble_eq_true rfl, Nat.le_of_ble_eq_true rfl⟩) (cPreV (hP.sub [1, 2, 3] rfl) hK (hD.sub [1, 2, 3] (by decide +kernel) rfl) hN (ci := 1) (q0 := 0) rfl rfl) rfl rfl hl.1 rfl (lv_room (Nat.le_of_ble_eq_true rfl)) dX10_crate_41 ⟨Nat.le_of_ble_eq_true rfl, Nat.le_of_ble_eq_true rfl⟩) hP hD hS hA [1, 2, 3] [0] rfl rfl (by decide +kernel) (by decide +kernel) (fun r16 u14 H locs hw15 => ?_)
        clear hP hD hS
        intro hP hD hS
        replace hw15 : r16 = cn + 1 - 1 := hw15
        replace hP : va_P D vwCl [(oC10 ad tn td lf), (oC1 ad (cn + 1)), (aI cI (ad 31) 12 (upd fo cn.toNatClampNeg o)), (aI cI (ad 32) 12 (upd wo cn.toNatClampNeg w))] H := hP
        replace hD : va_D A [(oC10 ad tn td lf), (oC1 ad (cn + 1)), (aI cI (ad 31) 12 (upd fo cn.toNatClampNeg o)), (aI cI (ad 32) 12 (upd wo cn.toNatClampNeg w))] := hD
        subst hw15
        have hP9 := hP
        have hD9 := hD
        exact W.iret (v := cn + 1 - 1) hx hb hr (fun t ht hW => ⟨⟨cn + 1 - 1, (cn + 1, upd fo cn.toNatClampNeg o, upd wo cn.toNatClampNeg w), rfl, (by unfold sp_crate; (repeat' split) <;> first | rfl | (exfalso; omega) | (subst_vars; rfl)), by rw [ht]; exact hP9, va_K.moved hW.alike hK, hD9⟩, hS.F ht⟩) hS.2.2 dX10_crate_44
      · skip
        have f17 := i_nlt c12
        refine lv_ldc hx hb hown (hts (Cond.constant RX10 145 (-1000003)) (wm_t (wm_l (wm_i 4 rfl)))) dX10_crate_32 ?_
        have hP9 := hP
        have hD9 := hD
        exact W.iret (v := (-1000003)) hx hb hr (fun t ht hW => ⟨⟨(-1000003), (cn, fo, wo), rfl, (by unfold sp_crate; (repeat' split) <;> first | rfl | (exfalso; omega) | (subst_vars; rfl)), by rw [ht]; exact hP9, va_K.moved hW.alike hK, hD9⟩, hS.F ht⟩) hS.2.2 dX10_crate_34
    · skip
      have f18 := bo_f hw8 c10
      refine lv_ldc hx hb hown (hts (Cond.constant RX10 89 (-1000001)) (wm_t (wm_l (wm_i 1 rfl)))) dX10_crate_17 ?_
      have hP9 := hP
      have hD9 := hD
      exact W.iret (v := (-1000001)) hx hb hr (fun t ht hW => ⟨⟨(-1000001), (cn, fo, wo), rfl, (by unfold sp_crate; (repeat' split) <;> first | rfl | (exfalso; omega) | (subst_vars; rfl)), by rw [ht]; exact hP9, va_K.moved hW.alike hK, hD9⟩, hS.F ht⟩) hS.2.2 dX10_crate_19

def sp_pledge (gn : Int32) (gk gs gd ge : Nat → Int32) (cn k x q a b : Int32) : Int32 × Int32 × (Nat → Int32) × (Nat → Int32) × (Nat → Int32) × (Nat → Int32) := if 0 ≤ k.toInt ∧ k.toInt < cn.toInt ∧ 0 ≤ x.toInt ∧ x.toInt < 10 ∧ 1 ≤ q.toInt ∧ q.toInt ≤ 100000 ∧ 0 ≤ a.toInt ∧ b.toInt < 10000 ∧ a.toInt ≤ b.toInt then (if 40 ≤ gn.toInt then (-1000003, gn, gk, gs, gd, ge) else (gn + 1 - 1, gn + 1, upd gk gn.toNatClampNeg k, upd gs gn.toNatClampNeg q, upd gd gn.toNatClampNeg a, upd ge gn.toNatClampNeg b)) else (-1000001, gn, gk, gs, gd, ge)

set_option maxHeartbeats 4000000 in
set_option maxRecDepth 100000 in
theorem ct_X10_pledge (l : Launch) (D : va_G) (cI cY cJ cQ : ClassId) (sz : Nat) (ad : Nat → Nat) (tn td lf cn gn : Int32) (gk gs gd ge : Nat → Int32) (k : Int32) (x : Int32) (q : Int32) (a : Int32) (b : Int32)  (h1 : 0 ≤ gn.toInt) (h2 : gn.toInt ≤ 40)  : Met l yX10_pledge wsX10_pledge ({ frames := 3, cells := 0, slots := 0, locals := 62 }) (cPre D (ty4 cI cY cJ cQ) [(oC10 ad tn td lf), (oC1 ad cn), (oC8 ad gn), (aI cI (ad 42) 40 gk), (aI cI (ad 43) 40 gs), (aI cI (ad 44) 40 gd), (aI cI (ad 45) 40 ge)] sz [.ref (ad 0), .int k, .int x, .int q, .int a, .int b]) (va_Qi (fun (r : Int32) (u : Int32 × (Nat → Int32) × (Nat → Int32) × (Nat → Int32) × (Nat → Int32)) => (r, u) = sp_pledge gn gk gs gd ge cn k x q a b) (cB D (ty4 cI cY cJ cQ) (fun (u : Int32 × (Nat → Int32) × (Nat → Int32) × (Nat → Int32) × (Nat → Int32)) => [(oC10 ad tn td lf), (oC1 ad cn), (oC8 ad u.1), (aI cI (ad 42) 40 u.2.1), (aI cI (ad 43) 40 u.2.2.1), (aI cI (ad 44) 40 u.2.2.2.1), (aI cI (ad 45) 40 u.2.2.2.2)]) (va_A [(oC10 ad tn td lf), (oC1 ad cn), (oC8 ad gn), (aI cI (ad 42) 40 gk), (aI cI (ad 43) 40 gs), (aI cI (ad 44) 40 gd), (aI cI (ad 45) 40 ge)] sz)) (va_A [(oC10 ad tn td lf), (oC1 ad cn), (oC8 ad gn), (aI cI (ad 42) 40 gk), (aI cI (ad 43) 40 gs), (aI cI (ad 44) 40 gd), (aI cI (ad 45) 40 ge)] sz)) 0 0 (va_A [(oC10 ad tn td lf), (oC1 ad cn), (oC8 ad gn), (aI cI (ad 42) 40 gk), (aI cI (ad 43) 40 gs), (aI cI (ad 44) 40 gd), (aI cI (ad 45) 40 ge)] sz) := by
  refine Met.ofW (cc := cX10_pledge) (maxL := 6) (ret := (some .int)) (by decide) rfl ?_
  intro p e s m args below meth c s₁ B hml hv
  obtain ⟨rfl, hsz, hP, hK, hD0, hN⟩ := hv
  have hx := B.exec
  have hb := B.bytes
  have hr := B.returns
  have hts := atoms_spec (ws := wsX10_pledge) B.pre
  have hown : s.vm.findClass RX10 = some m.cls := findClass_of_methodNamed B.named
  have hlocks := B.notSynchronized
  subst hsz
  have hD := hD0.self (sz := s.heap.size)
  generalize hAe : va_A [(oC10 ad tn td lf), (oC1 ad cn), (oC8 ad gn), (aI cI (ad 42) 40 gk), (aI cI (ad 43) 40 gs), (aI cI (ad 44) 40 gd), (aI cI (ad 45) 40 ge)] s.heap.size = A at hD ⊢
  have hA : ∀ q : Nat, s.heap.size ≤ q → A q := fun q h => by rw [← hAe]; exact Or.inr h
  have hS : va_S A s.heap s.heap [] := va_S.rf
  have hP : va_P D vwCl [(oC10 ad tn td lf), (oC1 ad cn), (oC8 ad gn), (aI cI (ad 42) 40 gk), (aI cI (ad 43) 40 gs), (aI cI (ad 44) 40 gd), (aI cI (ad 45) 40 ge)] s.heap := hP
  have hl := lv_entry ([.ref (ad 0), .int k, .int x, .int q, .int a, .int b]) (n := 6) (Nat.le_of_ble_eq_true rfl)
  rw [lg_entry_eq]
  generalize (lg_sl ([.ref (ad 0), .int k, .int x, .int q, .int a, .int b]) ++ List.replicate (6 - (lg_sl ([.ref (ad 0), .int k, .int x, .int q, .int a, .int b])).length) Slot.unset).toArray = ls at hl ⊢
  have hl : lv_has ls 6 [(0, .ref (ad 0)), (1, .int k), (2, .int x), (3, .int q), (4, .int a), (5, .int b)] := hl
  have km1000003 : (-1000003 : Int32).toInt = -1000003 := by decide
  have km1000001 : (-1000001 : Int32).toInt = -1000001 := by decide
  have k0 : (0 : Int32).toInt = 0 := by decide
  have k1 : (1 : Int32).toInt = 1 := by decide
  have k40 : (40 : Int32).toInt = 40 := by decide
  have k100000 : (100000 : Int32).toInt = 100000 := by decide
  refine lv_aload_n hx hb dX10_pledge_0 rfl (lv_at hl 0 rfl) ?_
  refine lv_iload_n hx hb dX10_pledge_1 rfl (lv_at hl 1 rfl) ?_
  refine st_i1 (va_runV (C := RX10) (As := [.int k]) (rest := []) ⟨hx, hb, hml, hown, hts⟩ (ct_X10_isCrate l D cI cY cJ cQ _ ad tn td lf cn k) (cwV 1 hts gX10_pledge_X10_isCrate rfl rfl rfl ⟨rfl, cdX10_isCrate⟩ ⟨Nat.le_of_ble_eq_true rfl, Nat.le_of_ble_eq_true rfl⟩) (cPreV (hP.sub [0, 1] rfl) hK (hD.sub [0, 1] (by decide +kernel) rfl) hN (ci := 10) (q0 := 0) rfl rfl) rfl rfl hl.1 rfl (lv_room (Nat.le_of_ble_eq_true rfl)) dX10_pledge_2 ⟨Nat.le_of_ble_eq_true rfl, Nat.le_of_ble_eq_true rfl⟩) hP hD hS hA [0, 1] rfl (fun _ => rfl) (fun r3 u1 H locs hw2 => ?_)
  clear hP hS
  intro hP hS
  replace hw2 : r3 = if 0 ≤ k.toInt ∧ k.toInt < cn.toInt then 1 else 0 := hw2
  refine lv_if_eq (tgt := 35) hx hb dX10_pledge_5 (by decide) (fun c4 => ?_) (fun c4 => ?_)
  · skip
    have f5 := bo_f hw2 c4
    refine lv_ldc hx hb hown (hts (Cond.constant RX10 89 (-1000001)) (wm_t (wm_l (wm_i 1 rfl)))) dX10_pledge_35 ?_
    have hP9 := hP
    have hD9 := hD
    exact W.iret (v := (-1000001)) hx hb hr (fun t ht hW => ⟨⟨(-1000001), (gn, gk, gs, gd, ge), rfl, (by unfold sp_pledge; (repeat' split) <;> first | rfl | (exfalso; omega) | (subst_vars; rfl)), by rw [ht]; exact hP9, va_K.moved hW.alike hK, hD9⟩, hS.F ht⟩) hS.2.2 dX10_pledge_37
  · skip
    have f6 := bo_t hw2 c4
    refine lv_iload_n hx hb dX10_pledge_8 rfl (lv_at hl 2 rfl) ?_
    refine st_i1 (va_runS (As := [.int x]) (rest := []) ⟨hx, hb, hml, hown, hts⟩ (ct_X10_isPerson l D cI cY cJ cQ _ x) (va_cwS 1 hts gX10_pledge_X10_isPerson rfl rfl rfl cdX10_isPerson ⟨Nat.le_of_ble_eq_true rfl, Nat.le_of_ble_eq_true rfl⟩) (cPreS (hP.sub [] rfl) hK (hD.sub [] (by decide +kernel) rfl) hN) rfl rfl hl.1 rfl (lv_room (Nat.le_of_ble_eq_true rfl)) dX10_pledge_9 ⟨Nat.le_of_ble_eq_true rfl, Nat.le_of_ble_eq_true rfl⟩) hP hD hS hA [] rfl (fun _ => rfl) (fun r9 u7 H locs hw8 => ?_)
    clear hP hS
    intro hP hS
    replace hw8 : r9 = if 0 ≤ x.toInt ∧ x.toInt < 10 then 1 else 0 := hw8
    refine lv_if_eq (tgt := 35) hx hb dX10_pledge_12 (by decide) (fun c10 => ?_) (fun c10 => ?_)
    · skip
      have f11 := bo_f hw8 c10
      refine lv_ldc hx hb hown (hts (Cond.constant RX10 89 (-1000001)) (wm_t (wm_l (wm_i 1 rfl)))) dX10_pledge_35 ?_
      have hP9 := hP
      have hD9 := hD
      exact W.iret (v := (-1000001)) hx hb hr (fun t ht hW => ⟨⟨(-1000001), (gn, gk, gs, gd, ge), rfl, (by unfold sp_pledge; (repeat' split) <;> first | rfl | (exfalso; omega) | (subst_vars; rfl)), by rw [ht]; exact hP9, va_K.moved hW.alike hK, hD9⟩, hS.F ht⟩) hS.2.2 dX10_pledge_37
    · skip
      have f12 := bo_t hw8 c10
      refine lv_iload_n hx hb dX10_pledge_15 rfl (lv_at hl 3 rfl) ?_
      refine lv_iconst (v := 1) hx hb dX10_pledge_16 (by decide) ?_
      refine lv_ldc hx hb hown (hts (Cond.constant RX10 176 (100000)) (wm_t (wm_l (wm_i 0 rfl)))) dX10_pledge_17 ?_
      refine st_i1 (va_runS (As := [.int q, .int 1, .int 100000]) (rest := []) ⟨hx, hb, hml, hown, hts⟩ (ct_X10_isFrom l D cI cY cJ cQ _ q (1 : Int32) (100000 : Int32)) (va_cwS 3 hts gX10_pledge_X10_isFrom rfl rfl rfl cdX10_isFrom ⟨Nat.le_of_ble_eq_true rfl, Nat.le_of_ble_eq_true rfl⟩) (cPreS (hP.sub [] rfl) hK (hD.sub [] (by decide +kernel) rfl) hN) rfl rfl hl.1 rfl (lv_room (Nat.le_of_ble_eq_true rfl)) dX10_pledge_19 ⟨Nat.le_of_ble_eq_true rfl, Nat.le_of_ble_eq_true rfl⟩) hP hD hS hA [] rfl (fun _ => rfl) (fun r15 u13 H locs hw14 => ?_)
      clear hP hS
      intro hP hS
      replace hw14 : r15 = if (1 : Int32).toInt ≤ q.toInt ∧ q.toInt ≤ (100000 : Int32).toInt then 1 else 0 := hw14
      refine lv_if_eq (tgt := 35) hx hb dX10_pledge_22 (by decide) (fun c16 => ?_) (fun c16 => ?_)
      · skip
        have f17 := bo_f hw14 c16
        refine lv_ldc hx hb hown (hts (Cond.constant RX10 89 (-1000001)) (wm_t (wm_l (wm_i 1 rfl)))) dX10_pledge_35 ?_
        have hP9 := hP
        have hD9 := hD
        exact W.iret (v := (-1000001)) hx hb hr (fun t ht hW => ⟨⟨(-1000001), (gn, gk, gs, gd, ge), rfl, (by unfold sp_pledge; (repeat' split) <;> first | rfl | (exfalso; omega) | (subst_vars; rfl)), by rw [ht]; exact hP9, va_K.moved hW.alike hK, hD9⟩, hS.F ht⟩) hS.2.2 dX10_pledge_37
      · skip
        have f18 := bo_t hw14 c16
        refine lv_iload hx hb dX10_pledge_25 (lv_at hl 4 rfl) ?_
        refine lv_iload hx hb dX10_pledge_27 (lv_at hl 5 rfl) ?_
        refine st_i1 (va_runS (As := [.int a, .int b]) (rest := []) ⟨hx, hb, hml, hown, hts⟩ (ct_X10_areDays l D cI cY cJ cQ _ a b) (va_cwS 2 hts gX10_pledge_X10_areDays rfl rfl rfl cdX10_areDays ⟨Nat.le_of_ble_eq_true rfl, Nat.le_of_ble_eq_true rfl⟩) (cPreS (hP.sub [] rfl) hK (hD.sub [] (by decide +kernel) rfl) hN) rfl rfl hl.1 rfl (lv_room (Nat.le_of_ble_eq_true rfl)) dX10_pledge_29 ⟨Nat.le_of_ble_eq_true rfl, Nat.le_of_ble_eq_true rfl⟩) hP hD hS hA [] rfl (fun _ => rfl) (fun r21 u19 H locs hw20 => ?_)
        clear hP hS
        intro hP hS
        replace hw20 : r21 = if 0 ≤ a.toInt ∧ b.toInt < 10000 ∧ a.toInt ≤ b.toInt then 1 else 0 := hw20
        refine lv_if_ne (tgt := 38) hx hb dX10_pledge_32 (by decide) (fun c22 => ?_) (fun c22 => ?_)
        · skip
          have f23 := bo_t hw20 c22
          refine lv_aload_n hx hb dX10_pledge_38 rfl (lv_at hl 0 rfl) ?_
          refine va_get (D := D) (ci := 10) (v := .ref (ad 5)) (C := RX10) (T := TX10) (N := 14) hx hb hts inX10_pledge_X10 hown hK hP 0 rfl rfl 4 (by decide) (hts (Cond.fieldLink RX10 40 "PortRooms" "pledges" "LPortRooms$Pledges;") (wm_t (wm_l (wm_i 2 rfl)))) (fun _ h9 => h9) rfl dX10_pledge_39 ?_
          refine va_get (D := D) (ci := 8) (v := .int gn) (C := RX8) (T := TX8) (N := 6) hx hb hts inX10_pledge_X8 hown hK hP 2 rfl rfl 4 (by decide) (hts (Cond.fieldLink RX10 199 "PortRooms$Pledges" "count" "I") (wm_t (wm_l (wm_i 3 rfl)))) (fun _ h9 => h9) rfl dX10_pledge_42 ?_
          refine lv_bipush (v := 40) hx hb dX10_pledge_45 (by decide) ?_
          refine lv_icmp_lt (tgt := 53) hx hb dX10_pledge_47 (by decide) (fun c24 => ?_) (fun c24 => ?_)
          · skip
            have f25 := i_lt c24
            refine lv_aload_n hx hb dX10_pledge_53 rfl (lv_at hl 0 rfl) ?_
            refine va_get (D := D) (ci := 10) (v := .ref (ad 5)) (C := RX10) (T := TX10) (N := 14) hx hb hts inX10_pledge_X10 hown hK hP 0 rfl rfl 4 (by decide) (hts (Cond.fieldLink RX10 40 "PortRooms" "pledges" "LPortRooms$Pledges;") (wm_t (wm_l (wm_i 2 rfl)))) (fun _ h9 => h9) rfl dX10_pledge_54 ?_
            refine lv_iload_n hx hb dX10_pledge_57 rfl (lv_at hl 1 rfl) ?_
            refine lv_iload_n hx hb dX10_pledge_58 rfl (lv_at hl 3 rfl) ?_
            refine lv_iload hx hb dX10_pledge_59 (lv_at hl 4 rfl) ?_
            refine lv_iload hx hb dX10_pledge_61 (lv_at hl 5 rfl) ?_
            refine st_i (wr := [(oC10 ad tn td lf), (oC1 ad cn)]) (va_runV (C := RX8) (As := [.int k, .int q, .int a, .int b]) (rest := []) ⟨hx, hb, hml, hown, hts⟩ (ct_X8_tell l D cI cY cJ cQ _ ad gn gk gs gd ge k q a b h1 (by omega)) (cwV 4 hts gX10_pledge_X8_tell rfl rfl rfl ⟨rfl, cdX8_tell⟩ ⟨Nat.le_of_ble_eq_true rfl, Nat.le_of_ble_eq_true rfl⟩) (cPreV (hP.sub [2, 3, 4, 5, 6] rfl) hK (hD.sub [2, 3, 4, 5, 6] (by decide +kernel) rfl) hN (ci := 8) (q0 := 0) rfl rfl) rfl rfl hl.1 rfl (lv_room (Nat.le_of_ble_eq_true rfl)) dX10_pledge_63 ⟨Nat.le_of_ble_eq_true rfl, Nat.le_of_ble_eq_true rfl⟩) hP hD hS hA [2, 3, 4, 5, 6] [0, 1] rfl rfl (by decide +kernel) (by decide +kernel) (fun r28 u26 H locs hw27 => ?_)
            clear hP hD hS
            intro hP hD hS
            replace hw27 : r28 = gn + 1 - 1 := hw27
            replace hP : va_P D vwCl [(oC10 ad tn td lf), (oC1 ad cn), (oC8 ad (gn + 1)), (aI cI (ad 42) 40 (upd gk gn.toNatClampNeg k)), (aI cI (ad 43) 40 (upd gs gn.toNatClampNeg q)), (aI cI (ad 44) 40 (upd gd gn.toNatClampNeg a)), (aI cI (ad 45) 40 (upd ge gn.toNatClampNeg b))] H := hP
            replace hD : va_D A [(oC10 ad tn td lf), (oC1 ad cn), (oC8 ad (gn + 1)), (aI cI (ad 42) 40 (upd gk gn.toNatClampNeg k)), (aI cI (ad 43) 40 (upd gs gn.toNatClampNeg q)), (aI cI (ad 44) 40 (upd gd gn.toNatClampNeg a)), (aI cI (ad 45) 40 (upd ge gn.toNatClampNeg b))] := hD
            subst hw27
            have hP9 := hP
            have hD9 := hD
            exact W.iret (v := gn + 1 - 1) hx hb hr (fun t ht hW => ⟨⟨gn + 1 - 1, (gn + 1, upd gk gn.toNatClampNeg k, upd gs gn.toNatClampNeg q, upd gd gn.toNatClampNeg a, upd ge gn.toNatClampNeg b), rfl, (by unfold sp_pledge; (repeat' split) <;> first | rfl | (exfalso; omega) | (subst_vars; rfl)), by rw [ht]; exact hP9, va_K.moved hW.alike hK, hD9⟩, hS.F ht⟩) hS.2.2 dX10_pledge_66
          · skip
            have f29 := i_nlt c24
            refine lv_ldc hx hb hown (hts (Cond.constant RX10 145 (-1000003)) (wm_t (wm_l (wm_i 4 rfl)))) dX10_pledge_50 ?_
            have hP9 := hP
            have hD9 := hD
            exact W.iret (v := (-1000003)) hx hb hr (fun t ht hW => ⟨⟨(-1000003), (gn, gk, gs, gd, ge), rfl, (by unfold sp_pledge; (repeat' split) <;> first | rfl | (exfalso; omega) | (subst_vars; rfl)), by rw [ht]; exact hP9, va_K.moved hW.alike hK, hD9⟩, hS.F ht⟩) hS.2.2 dX10_pledge_52
        · skip
          have f30 := bo_f hw20 c22
          refine lv_ldc hx hb hown (hts (Cond.constant RX10 89 (-1000001)) (wm_t (wm_l (wm_i 1 rfl)))) dX10_pledge_35 ?_
          have hP9 := hP
          have hD9 := hD
          exact W.iret (v := (-1000001)) hx hb hr (fun t ht hW => ⟨⟨(-1000001), (gn, gk, gs, gd, ge), rfl, (by unfold sp_pledge; (repeat' split) <;> first | rfl | (exfalso; omega) | (subst_vars; rfl)), by rw [ht]; exact hP9, va_K.moved hW.alike hK, hD9⟩, hS.F ht⟩) hS.2.2 dX10_pledge_37

def sp_act (an : Int32) (ak ah ay az : Nat → Int32) (cn k w d n : Int32) : Int32 × Int32 × (Nat → Int32) × (Nat → Int32) × (Nat → Int32) × (Nat → Int32) := if 0 ≤ k.toInt ∧ k.toInt < cn.toInt ∧ 0 ≤ w.toInt ∧ w.toInt < 4 ∧ 0 ≤ d.toInt ∧ d.toInt < 10000 ∧ 0 ≤ n.toInt ∧ n.toInt ≤ 999 then (if 60 ≤ an.toInt then (-1000003, an, ak, ah, ay, az) else (an + 1, an + 1, upd ak an.toNatClampNeg k, upd ah an.toNatClampNeg w, upd ay an.toNatClampNeg d, upd az an.toNatClampNeg n)) else (-1000001, an, ak, ah, ay, az)

set_option maxHeartbeats 4000000 in
set_option maxRecDepth 100000 in
theorem ct_X10_act (l : Launch) (D : va_G) (cI cY cJ cQ : ClassId) (sz : Nat) (ad : Nat → Nat) (tn td lf cn an : Int32) (ak ah ay az : Nat → Int32) (k : Int32) (w : Int32) (d : Int32) (n : Int32)  (h1 : 0 ≤ an.toInt) (h2 : an.toInt ≤ 60)  : Met l yX10_act wsX10_act ({ frames := 2, cells := 0, slots := 0, locals := 42 }) (cPre D (ty4 cI cY cJ cQ) [(oC10 ad tn td lf), (oC1 ad cn), (oC0 ad an), (aI cI (ad 54) 60 ak), (aI cI (ad 55) 60 ah), (aI cI (ad 56) 60 ay), (aI cI (ad 57) 60 az)] sz [.ref (ad 0), .int k, .int w, .int d, .int n]) (va_Qi (fun (r : Int32) (u : Int32 × (Nat → Int32) × (Nat → Int32) × (Nat → Int32) × (Nat → Int32)) => (r, u) = sp_act an ak ah ay az cn k w d n) (cB D (ty4 cI cY cJ cQ) (fun (u : Int32 × (Nat → Int32) × (Nat → Int32) × (Nat → Int32) × (Nat → Int32)) => [(oC10 ad tn td lf), (oC1 ad cn), (oC0 ad u.1), (aI cI (ad 54) 60 u.2.1), (aI cI (ad 55) 60 u.2.2.1), (aI cI (ad 56) 60 u.2.2.2.1), (aI cI (ad 57) 60 u.2.2.2.2)]) (va_A [(oC10 ad tn td lf), (oC1 ad cn), (oC0 ad an), (aI cI (ad 54) 60 ak), (aI cI (ad 55) 60 ah), (aI cI (ad 56) 60 ay), (aI cI (ad 57) 60 az)] sz)) (va_A [(oC10 ad tn td lf), (oC1 ad cn), (oC0 ad an), (aI cI (ad 54) 60 ak), (aI cI (ad 55) 60 ah), (aI cI (ad 56) 60 ay), (aI cI (ad 57) 60 az)] sz)) 0 0 (va_A [(oC10 ad tn td lf), (oC1 ad cn), (oC0 ad an), (aI cI (ad 54) 60 ak), (aI cI (ad 55) 60 ah), (aI cI (ad 56) 60 ay), (aI cI (ad 57) 60 az)] sz) := by
  refine Met.ofW (cc := cX10_act) (maxL := 5) (ret := (some .int)) (by decide) rfl ?_
  intro p e s m args below meth c s₁ B hml hv
  obtain ⟨rfl, hsz, hP, hK, hD0, hN⟩ := hv
  have hx := B.exec
  have hb := B.bytes
  have hr := B.returns
  have hts := atoms_spec (ws := wsX10_act) B.pre
  have hown : s.vm.findClass RX10 = some m.cls := findClass_of_methodNamed B.named
  have hlocks := B.notSynchronized
  subst hsz
  have hD := hD0.self (sz := s.heap.size)
  generalize hAe : va_A [(oC10 ad tn td lf), (oC1 ad cn), (oC0 ad an), (aI cI (ad 54) 60 ak), (aI cI (ad 55) 60 ah), (aI cI (ad 56) 60 ay), (aI cI (ad 57) 60 az)] s.heap.size = A at hD ⊢
  have hA : ∀ q : Nat, s.heap.size ≤ q → A q := fun q h => by rw [← hAe]; exact Or.inr h
  have hS : va_S A s.heap s.heap [] := va_S.rf
  have hP : va_P D vwCl [(oC10 ad tn td lf), (oC1 ad cn), (oC0 ad an), (aI cI (ad 54) 60 ak), (aI cI (ad 55) 60 ah), (aI cI (ad 56) 60 ay), (aI cI (ad 57) 60 az)] s.heap := hP
  have hl := lv_entry ([.ref (ad 0), .int k, .int w, .int d, .int n]) (n := 5) (Nat.le_of_ble_eq_true rfl)
  rw [lg_entry_eq]
  generalize (lg_sl ([.ref (ad 0), .int k, .int w, .int d, .int n]) ++ List.replicate (5 - (lg_sl ([.ref (ad 0), .int k, .int w, .int d, .int n])).length) Slot.unset).toArray = ls at hl ⊢
  have hl : lv_has ls 5 [(0, .ref (ad 0)), (1, .int k), (2, .int w), (3, .int d), (4, .int n)] := hl
  have km1000003 : (-1000003 : Int32).toInt = -1000003 := by decide
  have km1000001 : (-1000001 : Int32).toInt = -1000001 := by decide
  have k0 : (0 : Int32).toInt = 0 := by decide
  have k4 : (4 : Int32).toInt = 4 := by decide
  have k60 : (60 : Int32).toInt = 60 := by decide
  have k999 : (999 : Int32).toInt = 999 := by decide
  refine lv_aload_n hx hb dX10_act_0 rfl (lv_at hl 0 rfl) ?_
  refine lv_iload_n hx hb dX10_act_1 rfl (lv_at hl 1 rfl) ?_
  refine st_i1 (va_runV (C := RX10) (As := [.int k]) (rest := []) ⟨hx, hb, hml, hown, hts⟩ (ct_X10_isCrate l D cI cY cJ cQ _ ad tn td lf cn k) (cwV 1 hts gX10_act_X10_isCrate rfl rfl rfl ⟨rfl, cdX10_isCrate⟩ ⟨Nat.le_of_ble_eq_true rfl, Nat.le_of_ble_eq_true rfl⟩) (cPreV (hP.sub [0, 1] rfl) hK (hD.sub [0, 1] (by decide +kernel) rfl) hN (ci := 10) (q0 := 0) rfl rfl) rfl rfl hl.1 rfl (lv_room (Nat.le_of_ble_eq_true rfl)) dX10_act_2 ⟨Nat.le_of_ble_eq_true rfl, Nat.le_of_ble_eq_true rfl⟩) hP hD hS hA [0, 1] rfl (fun _ => rfl) (fun r3 u1 H locs hw2 => ?_)
  clear hP hS
  intro hP hS
  replace hw2 : r3 = if 0 ≤ k.toInt ∧ k.toInt < cn.toInt then 1 else 0 := hw2
  refine lv_if_eq (tgt := 35) hx hb dX10_act_5 (by decide) (fun c4 => ?_) (fun c4 => ?_)
  · skip
    have f5 := bo_f hw2 c4
    refine lv_ldc hx hb hown (hts (Cond.constant RX10 89 (-1000001)) (wm_t (wm_l (wm_i 0 rfl)))) dX10_act_35 ?_
    have hP9 := hP
    have hD9 := hD
    exact W.iret (v := (-1000001)) hx hb hr (fun t ht hW => ⟨⟨(-1000001), (an, ak, ah, ay, az), rfl, (by unfold sp_act; (repeat' split) <;> first | rfl | (exfalso; omega) | (subst_vars; rfl)), by rw [ht]; exact hP9, va_K.moved hW.alike hK, hD9⟩, hS.F ht⟩) hS.2.2 dX10_act_37
  · skip
    have f6 := bo_t hw2 c4
    refine lv_iload_n hx hb dX10_act_8 rfl (lv_at hl 2 rfl) ?_
    refine lv_iconst (v := 4) hx hb dX10_act_9 (by decide) ?_
    refine st_i1 (va_runS (As := [.int w, .int 4]) (rest := []) ⟨hx, hb, hml, hown, hts⟩ (ct_X10_isBelow l D cI cY cJ cQ _ w (4 : Int32)) (va_cwS 2 hts gX10_act_X10_isBelow rfl rfl rfl cdX10_isBelow ⟨Nat.le_of_ble_eq_true rfl, Nat.le_of_ble_eq_true rfl⟩) (cPreS (hP.sub [] rfl) hK (hD.sub [] (by decide +kernel) rfl) hN) rfl rfl hl.1 rfl (lv_room (Nat.le_of_ble_eq_true rfl)) dX10_act_10 ⟨Nat.le_of_ble_eq_true rfl, Nat.le_of_ble_eq_true rfl⟩) hP hD hS hA [] rfl (fun _ => rfl) (fun r9 u7 H locs hw8 => ?_)
    clear hP hS
    intro hP hS
    replace hw8 : r9 = if 0 ≤ w.toInt ∧ w.toInt < (4 : Int32).toInt then 1 else 0 := hw8
    refine lv_if_eq (tgt := 35) hx hb dX10_act_13 (by decide) (fun c10 => ?_) (fun c10 => ?_)
    · skip
      have f11 := bo_f hw8 c10
      refine lv_ldc hx hb hown (hts (Cond.constant RX10 89 (-1000001)) (wm_t (wm_l (wm_i 0 rfl)))) dX10_act_35 ?_
      have hP9 := hP
      have hD9 := hD
      exact W.iret (v := (-1000001)) hx hb hr (fun t ht hW => ⟨⟨(-1000001), (an, ak, ah, ay, az), rfl, (by unfold sp_act; (repeat' split) <;> first | rfl | (exfalso; omega) | (subst_vars; rfl)), by rw [ht]; exact hP9, va_K.moved hW.alike hK, hD9⟩, hS.F ht⟩) hS.2.2 dX10_act_37
    · skip
      have f12 := bo_t hw8 c10
      refine lv_iload_n hx hb dX10_act_16 rfl (lv_at hl 3 rfl) ?_
      refine st_i1 (va_runS (As := [.int d]) (rest := []) ⟨hx, hb, hml, hown, hts⟩ (ct_X10_isDay l D cI cY cJ cQ _ d) (va_cwS 1 hts gX10_act_X10_isDay rfl rfl rfl cdX10_isDay ⟨Nat.le_of_ble_eq_true rfl, Nat.le_of_ble_eq_true rfl⟩) (cPreS (hP.sub [] rfl) hK (hD.sub [] (by decide +kernel) rfl) hN) rfl rfl hl.1 rfl (lv_room (Nat.le_of_ble_eq_true rfl)) dX10_act_17 ⟨Nat.le_of_ble_eq_true rfl, Nat.le_of_ble_eq_true rfl⟩) hP hD hS hA [] rfl (fun _ => rfl) (fun r15 u13 H locs hw14 => ?_)
      clear hP hS
      intro hP hS
      replace hw14 : r15 = if 0 ≤ d.toInt ∧ d.toInt < 10000 then 1 else 0 := hw14
      refine lv_if_eq (tgt := 35) hx hb dX10_act_20 (by decide) (fun c16 => ?_) (fun c16 => ?_)
      · skip
        have f17 := bo_f hw14 c16
        refine lv_ldc hx hb hown (hts (Cond.constant RX10 89 (-1000001)) (wm_t (wm_l (wm_i 0 rfl)))) dX10_act_35 ?_
        have hP9 := hP
        have hD9 := hD
        exact W.iret (v := (-1000001)) hx hb hr (fun t ht hW => ⟨⟨(-1000001), (an, ak, ah, ay, az), rfl, (by unfold sp_act; (repeat' split) <;> first | rfl | (exfalso; omega) | (subst_vars; rfl)), by rw [ht]; exact hP9, va_K.moved hW.alike hK, hD9⟩, hS.F ht⟩) hS.2.2 dX10_act_37
      · skip
        have f18 := bo_t hw14 c16
        refine lv_iload hx hb dX10_act_23 (lv_at hl 4 rfl) ?_
        refine lv_iconst (v := 0) hx hb dX10_act_25 (by decide) ?_
        refine lv_sipush (v := 999) hx hb dX10_act_26 (by decide) ?_
        refine st_i1 (va_runS (As := [.int n, .int 0, .int 999]) (rest := []) ⟨hx, hb, hml, hown, hts⟩ (ct_X10_isFrom l D cI cY cJ cQ _ n (0 : Int32) (999 : Int32)) (va_cwS 3 hts gX10_act_X10_isFrom rfl rfl rfl cdX10_isFrom ⟨Nat.le_of_ble_eq_true rfl, Nat.le_of_ble_eq_true rfl⟩) (cPreS (hP.sub [] rfl) hK (hD.sub [] (by decide +kernel) rfl) hN) rfl rfl hl.1 rfl (lv_room (Nat.le_of_ble_eq_true rfl)) dX10_act_29 ⟨Nat.le_of_ble_eq_true rfl, Nat.le_of_ble_eq_true rfl⟩) hP hD hS hA [] rfl (fun _ => rfl) (fun r21 u19 H locs hw20 => ?_)
        clear hP hS
        intro hP hS
        replace hw20 : r21 = if (0 : Int32).toInt ≤ n.toInt ∧ n.toInt ≤ (999 : Int32).toInt then 1 else 0 := hw20
        refine lv_if_ne (tgt := 38) hx hb dX10_act_32 (by decide) (fun c22 => ?_) (fun c22 => ?_)
        · skip
          have f23 := bo_t hw20 c22
          refine lv_aload_n hx hb dX10_act_38 rfl (lv_at hl 0 rfl) ?_
          refine va_get (D := D) (ci := 10) (v := .ref (ad 7)) (C := RX10) (T := TX10) (N := 14) hx hb hts inX10_act_X10 hown hK hP 0 rfl rfl 6 (by decide) (hts (Cond.fieldLink RX10 54 "PortRooms" "acts" "LPortRooms$Acts;") (wm_t (wm_l (wm_i 1 rfl)))) (fun _ h9 => h9) rfl dX10_act_39 ?_
          refine va_get (D := D) (ci := 0) (v := .int an) (C := RX0) (T := TX0) (N := 5) hx hb hts inX10_act_X0 hown hK hP 2 rfl rfl 4 (by decide) (hts (Cond.fieldLink RX10 227 "PortRooms$Acts" "count" "I") (wm_t (wm_l (wm_i 2 rfl)))) (fun _ h9 => h9) rfl dX10_act_42 ?_
          refine lv_bipush (v := 60) hx hb dX10_act_45 (by decide) ?_
          refine lv_icmp_lt (tgt := 53) hx hb dX10_act_47 (by decide) (fun c24 => ?_) (fun c24 => ?_)
          · skip
            have f25 := i_lt c24
            refine lv_aload_n hx hb dX10_act_53 rfl (lv_at hl 0 rfl) ?_
            refine va_get (D := D) (ci := 10) (v := .ref (ad 7)) (C := RX10) (T := TX10) (N := 14) hx hb hts inX10_act_X10 hown hK hP 0 rfl rfl 6 (by decide) (hts (Cond.fieldLink RX10 54 "PortRooms" "acts" "LPortRooms$Acts;") (wm_t (wm_l (wm_i 1 rfl)))) (fun _ h9 => h9) rfl dX10_act_54 ?_
            refine lv_iload_n hx hb dX10_act_57 rfl (lv_at hl 1 rfl) ?_
            refine lv_iload_n hx hb dX10_act_58 rfl (lv_at hl 2 rfl) ?_
            refine lv_iload_n hx hb dX10_act_59 rfl (lv_at hl 3 rfl) ?_
            refine lv_iload hx hb dX10_act_60 (lv_at hl 4 rfl) ?_
            refine st_i (wr := [(oC10 ad tn td lf), (oC1 ad cn)]) (va_runV (C := RX0) (As := [.int k, .int w, .int d, .int n]) (rest := []) ⟨hx, hb, hml, hown, hts⟩ (ct_X0_tell l D cI cY cJ cQ _ ad an ak ah ay az k w d n h1 (by omega)) (cwV 4 hts gX10_act_X0_tell rfl rfl rfl ⟨rfl, cdX0_tell⟩ ⟨Nat.le_of_ble_eq_true rfl, Nat.le_of_ble_eq_true rfl⟩) (cPreV (hP.sub [2, 3, 4, 5, 6] rfl) hK (hD.sub [2, 3, 4, 5, 6] (by decide +kernel) rfl) hN (ci := 0) (q0 := 0) rfl rfl) rfl rfl hl.1 rfl (lv_room (Nat.le_of_ble_eq_true rfl)) dX10_act_62 ⟨Nat.le_of_ble_eq_true rfl, Nat.le_of_ble_eq_true rfl⟩) hP hD hS hA [2, 3, 4, 5, 6] [0, 1] rfl rfl (by decide +kernel) (by decide +kernel) (fun r28 u26 H locs hw27 => ?_)
            clear hP hD hS
            intro hP hD hS
            replace hw27 : r28 = an + 1 := hw27
            replace hP : va_P D vwCl [(oC10 ad tn td lf), (oC1 ad cn), (oC0 ad (an + 1)), (aI cI (ad 54) 60 (upd ak an.toNatClampNeg k)), (aI cI (ad 55) 60 (upd ah an.toNatClampNeg w)), (aI cI (ad 56) 60 (upd ay an.toNatClampNeg d)), (aI cI (ad 57) 60 (upd az an.toNatClampNeg n))] H := hP
            replace hD : va_D A [(oC10 ad tn td lf), (oC1 ad cn), (oC0 ad (an + 1)), (aI cI (ad 54) 60 (upd ak an.toNatClampNeg k)), (aI cI (ad 55) 60 (upd ah an.toNatClampNeg w)), (aI cI (ad 56) 60 (upd ay an.toNatClampNeg d)), (aI cI (ad 57) 60 (upd az an.toNatClampNeg n))] := hD
            subst hw27
            have hP9 := hP
            have hD9 := hD
            exact W.iret (v := an + 1) hx hb hr (fun t ht hW => ⟨⟨an + 1, (an + 1, upd ak an.toNatClampNeg k, upd ah an.toNatClampNeg w, upd ay an.toNatClampNeg d, upd az an.toNatClampNeg n), rfl, (by unfold sp_act; (repeat' split) <;> first | rfl | (exfalso; omega) | (subst_vars; rfl)), by rw [ht]; exact hP9, va_K.moved hW.alike hK, hD9⟩, hS.F ht⟩) hS.2.2 dX10_act_65
          · skip
            have f29 := i_nlt c24
            refine lv_ldc hx hb hown (hts (Cond.constant RX10 145 (-1000003)) (wm_t (wm_l (wm_i 3 rfl)))) dX10_act_50 ?_
            have hP9 := hP
            have hD9 := hD
            exact W.iret (v := (-1000003)) hx hb hr (fun t ht hW => ⟨⟨(-1000003), (an, ak, ah, ay, az), rfl, (by unfold sp_act; (repeat' split) <;> first | rfl | (exfalso; omega) | (subst_vars; rfl)), by rw [ht]; exact hP9, va_K.moved hW.alike hK, hD9⟩, hS.F ht⟩) hS.2.2 dX10_act_52
        · skip
          have f30 := bo_f hw20 c22
          refine lv_ldc hx hb hown (hts (Cond.constant RX10 89 (-1000001)) (wm_t (wm_l (wm_i 0 rfl)))) dX10_act_35 ?_
          have hP9 := hP
          have hD9 := hD
          exact W.iret (v := (-1000001)) hx hb hr (fun t ht hW => ⟨⟨(-1000001), (an, ak, ah, ay, az), rfl, (by unfold sp_act; (repeat' split) <;> first | rfl | (exfalso; omega) | (subst_vars; rfl)), by rw [ht]; exact hP9, va_K.moved hW.alike hK, hD9⟩, hS.F ht⟩) hS.2.2 dX10_act_37

def sp_opened (un : Int32) (uk uy uw um : Nat → Int32) (cn k d w q : Int32) : Int32 × Int32 × (Nat → Int32) × (Nat → Int32) × (Nat → Int32) × (Nat → Int32) := if 0 ≤ k.toInt ∧ k.toInt < cn.toInt ∧ 0 ≤ d.toInt ∧ d.toInt < 10000 ∧ 1 ≤ w.toInt ∧ w.toInt ≤ 100000 ∧ 0 ≤ q.toInt ∧ q.toInt ≤ 255 then (if 60 ≤ un.toInt then (-1000003, un, uk, uy, uw, um) else (un + 1, un + 1, upd uk un.toNatClampNeg k, upd uy un.toNatClampNeg d, upd uw un.toNatClampNeg w, upd um un.toNatClampNeg q)) else (-1000001, un, uk, uy, uw, um)

set_option maxHeartbeats 4000000 in
set_option maxRecDepth 100000 in
theorem ct_X10_opened (l : Launch) (D : va_G) (cI cY cJ cQ : ClassId) (sz : Nat) (ad : Nat → Nat) (tn td lf cn un : Int32) (uk uy uw um : Nat → Int32) (k : Int32) (d : Int32) (w : Int32) (q : Int32)  (h1 : 0 ≤ un.toInt) (h2 : un.toInt ≤ 60)  : Met l yX10_opened wsX10_opened ({ frames := 2, cells := 0, slots := 0, locals := 42 }) (cPre D (ty4 cI cY cJ cQ) [(oC10 ad tn td lf), (oC1 ad cn), (oC6 ad un), (aI cI (ad 59) 60 uk), (aI cI (ad 60) 60 uy), (aI cI (ad 61) 60 uw), (aI cI (ad 62) 60 um)] sz [.ref (ad 0), .int k, .int d, .int w, .int q]) (va_Qi (fun (r : Int32) (u : Int32 × (Nat → Int32) × (Nat → Int32) × (Nat → Int32) × (Nat → Int32)) => (r, u) = sp_opened un uk uy uw um cn k d w q) (cB D (ty4 cI cY cJ cQ) (fun (u : Int32 × (Nat → Int32) × (Nat → Int32) × (Nat → Int32) × (Nat → Int32)) => [(oC10 ad tn td lf), (oC1 ad cn), (oC6 ad u.1), (aI cI (ad 59) 60 u.2.1), (aI cI (ad 60) 60 u.2.2.1), (aI cI (ad 61) 60 u.2.2.2.1), (aI cI (ad 62) 60 u.2.2.2.2)]) (va_A [(oC10 ad tn td lf), (oC1 ad cn), (oC6 ad un), (aI cI (ad 59) 60 uk), (aI cI (ad 60) 60 uy), (aI cI (ad 61) 60 uw), (aI cI (ad 62) 60 um)] sz)) (va_A [(oC10 ad tn td lf), (oC1 ad cn), (oC6 ad un), (aI cI (ad 59) 60 uk), (aI cI (ad 60) 60 uy), (aI cI (ad 61) 60 uw), (aI cI (ad 62) 60 um)] sz)) 0 0 (va_A [(oC10 ad tn td lf), (oC1 ad cn), (oC6 ad un), (aI cI (ad 59) 60 uk), (aI cI (ad 60) 60 uy), (aI cI (ad 61) 60 uw), (aI cI (ad 62) 60 um)] sz) := by
  refine Met.ofW (cc := cX10_opened) (maxL := 5) (ret := (some .int)) (by decide) rfl ?_
  intro p e s m args below meth c s₁ B hml hv
  obtain ⟨rfl, hsz, hP, hK, hD0, hN⟩ := hv
  have hx := B.exec
  have hb := B.bytes
  have hr := B.returns
  have hts := atoms_spec (ws := wsX10_opened) B.pre
  have hown : s.vm.findClass RX10 = some m.cls := findClass_of_methodNamed B.named
  have hlocks := B.notSynchronized
  subst hsz
  have hD := hD0.self (sz := s.heap.size)
  generalize hAe : va_A [(oC10 ad tn td lf), (oC1 ad cn), (oC6 ad un), (aI cI (ad 59) 60 uk), (aI cI (ad 60) 60 uy), (aI cI (ad 61) 60 uw), (aI cI (ad 62) 60 um)] s.heap.size = A at hD ⊢
  have hA : ∀ q : Nat, s.heap.size ≤ q → A q := fun q h => by rw [← hAe]; exact Or.inr h
  have hS : va_S A s.heap s.heap [] := va_S.rf
  have hP : va_P D vwCl [(oC10 ad tn td lf), (oC1 ad cn), (oC6 ad un), (aI cI (ad 59) 60 uk), (aI cI (ad 60) 60 uy), (aI cI (ad 61) 60 uw), (aI cI (ad 62) 60 um)] s.heap := hP
  have hl := lv_entry ([.ref (ad 0), .int k, .int d, .int w, .int q]) (n := 5) (Nat.le_of_ble_eq_true rfl)
  rw [lg_entry_eq]
  generalize (lg_sl ([.ref (ad 0), .int k, .int d, .int w, .int q]) ++ List.replicate (5 - (lg_sl ([.ref (ad 0), .int k, .int d, .int w, .int q])).length) Slot.unset).toArray = ls at hl ⊢
  have hl : lv_has ls 5 [(0, .ref (ad 0)), (1, .int k), (2, .int d), (3, .int w), (4, .int q)] := hl
  have km1000003 : (-1000003 : Int32).toInt = -1000003 := by decide
  have km1000001 : (-1000001 : Int32).toInt = -1000001 := by decide
  have k0 : (0 : Int32).toInt = 0 := by decide
  have k1 : (1 : Int32).toInt = 1 := by decide
  have k60 : (60 : Int32).toInt = 60 := by decide
  have k255 : (255 : Int32).toInt = 255 := by decide
  have k100000 : (100000 : Int32).toInt = 100000 := by decide
  refine lv_aload_n hx hb dX10_opened_0 rfl (lv_at hl 0 rfl) ?_
  refine lv_iload_n hx hb dX10_opened_1 rfl (lv_at hl 1 rfl) ?_
  refine st_i1 (va_runV (C := RX10) (As := [.int k]) (rest := []) ⟨hx, hb, hml, hown, hts⟩ (ct_X10_isCrate l D cI cY cJ cQ _ ad tn td lf cn k) (cwV 1 hts gX10_opened_X10_isCrate rfl rfl rfl ⟨rfl, cdX10_isCrate⟩ ⟨Nat.le_of_ble_eq_true rfl, Nat.le_of_ble_eq_true rfl⟩) (cPreV (hP.sub [0, 1] rfl) hK (hD.sub [0, 1] (by decide +kernel) rfl) hN (ci := 10) (q0 := 0) rfl rfl) rfl rfl hl.1 rfl (lv_room (Nat.le_of_ble_eq_true rfl)) dX10_opened_2 ⟨Nat.le_of_ble_eq_true rfl, Nat.le_of_ble_eq_true rfl⟩) hP hD hS hA [0, 1] rfl (fun _ => rfl) (fun r3 u1 H locs hw2 => ?_)
  clear hP hS
  intro hP hS
  replace hw2 : r3 = if 0 ≤ k.toInt ∧ k.toInt < cn.toInt then 1 else 0 := hw2
  refine lv_if_eq (tgt := 37) hx hb dX10_opened_5 (by decide) (fun c4 => ?_) (fun c4 => ?_)
  · skip
    have f5 := bo_f hw2 c4
    refine lv_ldc hx hb hown (hts (Cond.constant RX10 89 (-1000001)) (wm_t (wm_l (wm_i 1 rfl)))) dX10_opened_37 ?_
    have hP9 := hP
    have hD9 := hD
    exact W.iret (v := (-1000001)) hx hb hr (fun t ht hW => ⟨⟨(-1000001), (un, uk, uy, uw, um), rfl, (by unfold sp_opened; (repeat' split) <;> first | rfl | (exfalso; omega) | (subst_vars; rfl)), by rw [ht]; exact hP9, va_K.moved hW.alike hK, hD9⟩, hS.F ht⟩) hS.2.2 dX10_opened_39
  · skip
    have f6 := bo_t hw2 c4
    refine lv_iload_n hx hb dX10_opened_8 rfl (lv_at hl 2 rfl) ?_
    refine st_i1 (va_runS (As := [.int d]) (rest := []) ⟨hx, hb, hml, hown, hts⟩ (ct_X10_isDay l D cI cY cJ cQ _ d) (va_cwS 1 hts gX10_opened_X10_isDay rfl rfl rfl cdX10_isDay ⟨Nat.le_of_ble_eq_true rfl, Nat.le_of_ble_eq_true rfl⟩) (cPreS (hP.sub [] rfl) hK (hD.sub [] (by decide +kernel) rfl) hN) rfl rfl hl.1 rfl (lv_room (Nat.le_of_ble_eq_true rfl)) dX10_opened_9 ⟨Nat.le_of_ble_eq_true rfl, Nat.le_of_ble_eq_true rfl⟩) hP hD hS hA [] rfl (fun _ => rfl) (fun r9 u7 H locs hw8 => ?_)
    clear hP hS
    intro hP hS
    replace hw8 : r9 = if 0 ≤ d.toInt ∧ d.toInt < 10000 then 1 else 0 := hw8
    refine lv_if_eq (tgt := 37) hx hb dX10_opened_12 (by decide) (fun c10 => ?_) (fun c10 => ?_)
    · skip
      have f11 := bo_f hw8 c10
      refine lv_ldc hx hb hown (hts (Cond.constant RX10 89 (-1000001)) (wm_t (wm_l (wm_i 1 rfl)))) dX10_opened_37 ?_
      have hP9 := hP
      have hD9 := hD
      exact W.iret (v := (-1000001)) hx hb hr (fun t ht hW => ⟨⟨(-1000001), (un, uk, uy, uw, um), rfl, (by unfold sp_opened; (repeat' split) <;> first | rfl | (exfalso; omega) | (subst_vars; rfl)), by rw [ht]; exact hP9, va_K.moved hW.alike hK, hD9⟩, hS.F ht⟩) hS.2.2 dX10_opened_39
    · skip
      have f12 := bo_t hw8 c10
      refine lv_iload_n hx hb dX10_opened_15 rfl (lv_at hl 3 rfl) ?_
      refine lv_iconst (v := 1) hx hb dX10_opened_16 (by decide) ?_
      refine lv_ldc hx hb hown (hts (Cond.constant RX10 176 (100000)) (wm_t (wm_l (wm_i 0 rfl)))) dX10_opened_17 ?_
      refine st_i1 (va_runS (As := [.int w, .int 1, .int 100000]) (rest := []) ⟨hx, hb, hml, hown, hts⟩ (ct_X10_isFrom l D cI cY cJ cQ _ w (1 : Int32) (100000 : Int32)) (va_cwS 3 hts gX10_opened_X10_isFrom rfl rfl rfl cdX10_isFrom ⟨Nat.le_of_ble_eq_true rfl, Nat.le_of_ble_eq_true rfl⟩) (cPreS (hP.sub [] rfl) hK (hD.sub [] (by decide +kernel) rfl) hN) rfl rfl hl.1 rfl (lv_room (Nat.le_of_ble_eq_true rfl)) dX10_opened_19 ⟨Nat.le_of_ble_eq_true rfl, Nat.le_of_ble_eq_true rfl⟩) hP hD hS hA [] rfl (fun _ => rfl) (fun r15 u13 H locs hw14 => ?_)
      clear hP hS
      intro hP hS
      replace hw14 : r15 = if (1 : Int32).toInt ≤ w.toInt ∧ w.toInt ≤ (100000 : Int32).toInt then 1 else 0 := hw14
      refine lv_if_eq (tgt := 37) hx hb dX10_opened_22 (by decide) (fun c16 => ?_) (fun c16 => ?_)
      · skip
        have f17 := bo_f hw14 c16
        refine lv_ldc hx hb hown (hts (Cond.constant RX10 89 (-1000001)) (wm_t (wm_l (wm_i 1 rfl)))) dX10_opened_37 ?_
        have hP9 := hP
        have hD9 := hD
        exact W.iret (v := (-1000001)) hx hb hr (fun t ht hW => ⟨⟨(-1000001), (un, uk, uy, uw, um), rfl, (by unfold sp_opened; (repeat' split) <;> first | rfl | (exfalso; omega) | (subst_vars; rfl)), by rw [ht]; exact hP9, va_K.moved hW.alike hK, hD9⟩, hS.F ht⟩) hS.2.2 dX10_opened_39
      · skip
        have f18 := bo_t hw14 c16
        refine lv_iload hx hb dX10_opened_25 (lv_at hl 4 rfl) ?_
        refine lv_iconst (v := 0) hx hb dX10_opened_27 (by decide) ?_
        refine lv_sipush (v := 255) hx hb dX10_opened_28 (by decide) ?_
        refine st_i1 (va_runS (As := [.int q, .int 0, .int 255]) (rest := []) ⟨hx, hb, hml, hown, hts⟩ (ct_X10_isFrom l D cI cY cJ cQ _ q (0 : Int32) (255 : Int32)) (va_cwS 3 hts gX10_opened_X10_isFrom rfl rfl rfl cdX10_isFrom ⟨Nat.le_of_ble_eq_true rfl, Nat.le_of_ble_eq_true rfl⟩) (cPreS (hP.sub [] rfl) hK (hD.sub [] (by decide +kernel) rfl) hN) rfl rfl hl.1 rfl (lv_room (Nat.le_of_ble_eq_true rfl)) dX10_opened_31 ⟨Nat.le_of_ble_eq_true rfl, Nat.le_of_ble_eq_true rfl⟩) hP hD hS hA [] rfl (fun _ => rfl) (fun r21 u19 H locs hw20 => ?_)
        clear hP hS
        intro hP hS
        replace hw20 : r21 = if (0 : Int32).toInt ≤ q.toInt ∧ q.toInt ≤ (255 : Int32).toInt then 1 else 0 := hw20
        refine lv_if_ne (tgt := 40) hx hb dX10_opened_34 (by decide) (fun c22 => ?_) (fun c22 => ?_)
        · skip
          have f23 := bo_t hw20 c22
          refine lv_aload_n hx hb dX10_opened_40 rfl (lv_at hl 0 rfl) ?_
          refine va_get (D := D) (ci := 10) (v := .ref (ad 9)) (C := RX10) (T := TX10) (N := 14) hx hb hts inX10_opened_X10 hown hK hP 0 rfl rfl 8 (by decide) (hts (Cond.fieldLink RX10 61 "PortRooms" "openings" "LPortRooms$Openings;") (wm_t (wm_l (wm_i 2 rfl)))) (fun _ h9 => h9) rfl dX10_opened_41 ?_
          refine va_get (D := D) (ci := 6) (v := .int un) (C := RX6) (T := TX6) (N := 5) hx hb hts inX10_opened_X6 hown hK hP 2 rfl rfl 4 (by decide) (hts (Cond.fieldLink RX10 287 "PortRooms$Openings" "count" "I") (wm_t (wm_l (wm_i 3 rfl)))) (fun _ h9 => h9) rfl dX10_opened_44 ?_
          refine lv_bipush (v := 60) hx hb dX10_opened_47 (by decide) ?_
          refine lv_icmp_lt (tgt := 55) hx hb dX10_opened_49 (by decide) (fun c24 => ?_) (fun c24 => ?_)
          · skip
            have f25 := i_lt c24
            refine lv_aload_n hx hb dX10_opened_55 rfl (lv_at hl 0 rfl) ?_
            refine va_get (D := D) (ci := 10) (v := .ref (ad 9)) (C := RX10) (T := TX10) (N := 14) hx hb hts inX10_opened_X10 hown hK hP 0 rfl rfl 8 (by decide) (hts (Cond.fieldLink RX10 61 "PortRooms" "openings" "LPortRooms$Openings;") (wm_t (wm_l (wm_i 2 rfl)))) (fun _ h9 => h9) rfl dX10_opened_56 ?_
            refine lv_iload_n hx hb dX10_opened_59 rfl (lv_at hl 1 rfl) ?_
            refine lv_iload_n hx hb dX10_opened_60 rfl (lv_at hl 2 rfl) ?_
            refine lv_iload_n hx hb dX10_opened_61 rfl (lv_at hl 3 rfl) ?_
            refine lv_iload hx hb dX10_opened_62 (lv_at hl 4 rfl) ?_
            refine st_i (wr := [(oC10 ad tn td lf), (oC1 ad cn)]) (va_runV (C := RX6) (As := [.int k, .int d, .int w, .int q]) (rest := []) ⟨hx, hb, hml, hown, hts⟩ (ct_X6_tell l D cI cY cJ cQ _ ad un uk uy uw um k d w q h1 (by omega)) (cwV 4 hts gX10_opened_X6_tell rfl rfl rfl ⟨rfl, cdX6_tell⟩ ⟨Nat.le_of_ble_eq_true rfl, Nat.le_of_ble_eq_true rfl⟩) (cPreV (hP.sub [2, 3, 4, 5, 6] rfl) hK (hD.sub [2, 3, 4, 5, 6] (by decide +kernel) rfl) hN (ci := 6) (q0 := 0) rfl rfl) rfl rfl hl.1 rfl (lv_room (Nat.le_of_ble_eq_true rfl)) dX10_opened_64 ⟨Nat.le_of_ble_eq_true rfl, Nat.le_of_ble_eq_true rfl⟩) hP hD hS hA [2, 3, 4, 5, 6] [0, 1] rfl rfl (by decide +kernel) (by decide +kernel) (fun r28 u26 H locs hw27 => ?_)
            clear hP hD hS
            intro hP hD hS
            replace hw27 : r28 = un + 1 := hw27
            replace hP : va_P D vwCl [(oC10 ad tn td lf), (oC1 ad cn), (oC6 ad (un + 1)), (aI cI (ad 59) 60 (upd uk un.toNatClampNeg k)), (aI cI (ad 60) 60 (upd uy un.toNatClampNeg d)), (aI cI (ad 61) 60 (upd uw un.toNatClampNeg w)), (aI cI (ad 62) 60 (upd um un.toNatClampNeg q))] H := hP
            replace hD : va_D A [(oC10 ad tn td lf), (oC1 ad cn), (oC6 ad (un + 1)), (aI cI (ad 59) 60 (upd uk un.toNatClampNeg k)), (aI cI (ad 60) 60 (upd uy un.toNatClampNeg d)), (aI cI (ad 61) 60 (upd uw un.toNatClampNeg w)), (aI cI (ad 62) 60 (upd um un.toNatClampNeg q))] := hD
            subst hw27
            have hP9 := hP
            have hD9 := hD
            exact W.iret (v := un + 1) hx hb hr (fun t ht hW => ⟨⟨un + 1, (un + 1, upd uk un.toNatClampNeg k, upd uy un.toNatClampNeg d, upd uw un.toNatClampNeg w, upd um un.toNatClampNeg q), rfl, (by unfold sp_opened; (repeat' split) <;> first | rfl | (exfalso; omega) | (subst_vars; rfl)), by rw [ht]; exact hP9, va_K.moved hW.alike hK, hD9⟩, hS.F ht⟩) hS.2.2 dX10_opened_67
          · skip
            have f29 := i_nlt c24
            refine lv_ldc hx hb hown (hts (Cond.constant RX10 145 (-1000003)) (wm_t (wm_l (wm_i 4 rfl)))) dX10_opened_52 ?_
            have hP9 := hP
            have hD9 := hD
            exact W.iret (v := (-1000003)) hx hb hr (fun t ht hW => ⟨⟨(-1000003), (un, uk, uy, uw, um), rfl, (by unfold sp_opened; (repeat' split) <;> first | rfl | (exfalso; omega) | (subst_vars; rfl)), by rw [ht]; exact hP9, va_K.moved hW.alike hK, hD9⟩, hS.F ht⟩) hS.2.2 dX10_opened_54
        · skip
          have f30 := bo_f hw20 c22
          refine lv_ldc hx hb hown (hts (Cond.constant RX10 89 (-1000001)) (wm_t (wm_l (wm_i 1 rfl)))) dX10_opened_37 ?_
          have hP9 := hP
          have hD9 := hD
          exact W.iret (v := (-1000001)) hx hb hr (fun t ht hW => ⟨⟨(-1000001), (un, uk, uy, uw, um), rfl, (by unfold sp_opened; (repeat' split) <;> first | rfl | (exfalso; omega) | (subst_vars; rfl)), by rw [ht]; exact hP9, va_K.moved hW.alike hK, hD9⟩, hS.F ht⟩) hS.2.2 dX10_opened_39

def sp_list (lc : Int32) (lp la lb : Nat → Int32) (q a b : Int32) : Int32 × Int32 × (Nat → Int32) × (Nat → Int32) × (Nat → Int32) := if 0 ≤ q.toInt ∧ q.toInt < 10 ∧ 0 ≤ a.toInt ∧ b.toInt < 10000 ∧ a.toInt ≤ b.toInt then (if 20 ≤ lc.toInt then (-1000003, lc, lp, la, lb) else (lc + 1, lc + 1, upd lp lc.toNatClampNeg q, upd la lc.toNatClampNeg a, upd lb lc.toNatClampNeg b)) else (-1000001, lc, lp, la, lb)

set_option maxHeartbeats 4000000 in
set_option maxRecDepth 100000 in
theorem ct_X10_list (l : Launch) (D : va_G) (cI cY cJ cQ : ClassId) (sz : Nat) (ad : Nat → Nat) (tn td lf lc : Int32) (lp la lb : Nat → Int32) (q : Int32) (a : Int32) (b : Int32)  (h1 : 0 ≤ lc.toInt) (h2 : lc.toInt ≤ 20)  : Met l yX10_list wsX10_list ({ frames := 3, cells := 0, slots := 0, locals := 62 }) (cPre D (ty4 cI cY cJ cQ) [(oC10 ad tn td lf), (oC4 ad lc), (aI cI (ad 63) 20 lp), (aI cI (ad 64) 20 la), (aI cI (ad 65) 20 lb)] sz [.ref (ad 0), .int q, .int a, .int b]) (va_Qi (fun (r : Int32) (u : Int32 × (Nat → Int32) × (Nat → Int32) × (Nat → Int32)) => (r, u) = sp_list lc lp la lb q a b) (cB D (ty4 cI cY cJ cQ) (fun (u : Int32 × (Nat → Int32) × (Nat → Int32) × (Nat → Int32)) => [(oC10 ad tn td lf), (oC4 ad u.1), (aI cI (ad 63) 20 u.2.1), (aI cI (ad 64) 20 u.2.2.1), (aI cI (ad 65) 20 u.2.2.2)]) (va_A [(oC10 ad tn td lf), (oC4 ad lc), (aI cI (ad 63) 20 lp), (aI cI (ad 64) 20 la), (aI cI (ad 65) 20 lb)] sz)) (va_A [(oC10 ad tn td lf), (oC4 ad lc), (aI cI (ad 63) 20 lp), (aI cI (ad 64) 20 la), (aI cI (ad 65) 20 lb)] sz)) 0 0 (va_A [(oC10 ad tn td lf), (oC4 ad lc), (aI cI (ad 63) 20 lp), (aI cI (ad 64) 20 la), (aI cI (ad 65) 20 lb)] sz) := by
  refine Met.ofW (cc := cX10_list) (maxL := 4) (ret := (some .int)) (by decide) rfl ?_
  intro p e s m args below meth c s₁ B hml hv
  obtain ⟨rfl, hsz, hP, hK, hD0, hN⟩ := hv
  have hx := B.exec
  have hb := B.bytes
  have hr := B.returns
  have hts := atoms_spec (ws := wsX10_list) B.pre
  have hown : s.vm.findClass RX10 = some m.cls := findClass_of_methodNamed B.named
  have hlocks := B.notSynchronized
  subst hsz
  have hD := hD0.self (sz := s.heap.size)
  generalize hAe : va_A [(oC10 ad tn td lf), (oC4 ad lc), (aI cI (ad 63) 20 lp), (aI cI (ad 64) 20 la), (aI cI (ad 65) 20 lb)] s.heap.size = A at hD ⊢
  have hA : ∀ q : Nat, s.heap.size ≤ q → A q := fun q h => by rw [← hAe]; exact Or.inr h
  have hS : va_S A s.heap s.heap [] := va_S.rf
  have hP : va_P D vwCl [(oC10 ad tn td lf), (oC4 ad lc), (aI cI (ad 63) 20 lp), (aI cI (ad 64) 20 la), (aI cI (ad 65) 20 lb)] s.heap := hP
  have hl := lv_entry ([.ref (ad 0), .int q, .int a, .int b]) (n := 4) (Nat.le_of_ble_eq_true rfl)
  rw [lg_entry_eq]
  generalize (lg_sl ([.ref (ad 0), .int q, .int a, .int b]) ++ List.replicate (4 - (lg_sl ([.ref (ad 0), .int q, .int a, .int b])).length) Slot.unset).toArray = ls at hl ⊢
  have hl : lv_has ls 4 [(0, .ref (ad 0)), (1, .int q), (2, .int a), (3, .int b)] := hl
  have km1000003 : (-1000003 : Int32).toInt = -1000003 := by decide
  have km1000001 : (-1000001 : Int32).toInt = -1000001 := by decide
  have k0 : (0 : Int32).toInt = 0 := by decide
  have k20 : (20 : Int32).toInt = 20 := by decide
  refine lv_iload_n hx hb dX10_list_0 rfl (lv_at hl 1 rfl) ?_
  refine st_i1 (va_runS (As := [.int q]) (rest := []) ⟨hx, hb, hml, hown, hts⟩ (ct_X10_isPerson l D cI cY cJ cQ _ q) (va_cwS 1 hts gX10_list_X10_isPerson rfl rfl rfl cdX10_isPerson ⟨Nat.le_of_ble_eq_true rfl, Nat.le_of_ble_eq_true rfl⟩) (cPreS (hP.sub [] rfl) hK (hD.sub [] (by decide +kernel) rfl) hN) rfl rfl hl.1 rfl (lv_room (Nat.le_of_ble_eq_true rfl)) dX10_list_1 ⟨Nat.le_of_ble_eq_true rfl, Nat.le_of_ble_eq_true rfl⟩) hP hD hS hA [] rfl (fun _ => rfl) (fun r3 u1 H locs hw2 => ?_)
  clear hP hS
  intro hP hS
  replace hw2 : r3 = if 0 ≤ q.toInt ∧ q.toInt < 10 then 1 else 0 := hw2
  refine lv_if_eq (tgt := 15) hx hb dX10_list_4 (by decide) (fun c4 => ?_) (fun c4 => ?_)
  · skip
    have f5 := bo_f hw2 c4
    refine lv_ldc hx hb hown (hts (Cond.constant RX10 89 (-1000001)) (wm_t (wm_l (wm_i 0 rfl)))) dX10_list_15 ?_
    have hP9 := hP
    have hD9 := hD
    exact W.iret (v := (-1000001)) hx hb hr (fun t ht hW => ⟨⟨(-1000001), (lc, lp, la, lb), rfl, (by unfold sp_list; (repeat' split) <;> first | rfl | (exfalso; omega) | (subst_vars; rfl)), by rw [ht]; exact hP9, va_K.moved hW.alike hK, hD9⟩, hS.F ht⟩) hS.2.2 dX10_list_17
  · skip
    have f6 := bo_t hw2 c4
    refine lv_iload_n hx hb dX10_list_7 rfl (lv_at hl 2 rfl) ?_
    refine lv_iload_n hx hb dX10_list_8 rfl (lv_at hl 3 rfl) ?_
    refine st_i1 (va_runS (As := [.int a, .int b]) (rest := []) ⟨hx, hb, hml, hown, hts⟩ (ct_X10_areDays l D cI cY cJ cQ _ a b) (va_cwS 2 hts gX10_list_X10_areDays rfl rfl rfl cdX10_areDays ⟨Nat.le_of_ble_eq_true rfl, Nat.le_of_ble_eq_true rfl⟩) (cPreS (hP.sub [] rfl) hK (hD.sub [] (by decide +kernel) rfl) hN) rfl rfl hl.1 rfl (lv_room (Nat.le_of_ble_eq_true rfl)) dX10_list_9 ⟨Nat.le_of_ble_eq_true rfl, Nat.le_of_ble_eq_true rfl⟩) hP hD hS hA [] rfl (fun _ => rfl) (fun r9 u7 H locs hw8 => ?_)
    clear hP hS
    intro hP hS
    replace hw8 : r9 = if 0 ≤ a.toInt ∧ b.toInt < 10000 ∧ a.toInt ≤ b.toInt then 1 else 0 := hw8
    refine lv_if_ne (tgt := 18) hx hb dX10_list_12 (by decide) (fun c10 => ?_) (fun c10 => ?_)
    · skip
      have f11 := bo_t hw8 c10
      refine lv_aload_n hx hb dX10_list_18 rfl (lv_at hl 0 rfl) ?_
      refine va_get (D := D) (ci := 10) (v := .ref (ad 10)) (C := RX10) (T := TX10) (N := 14) hx hb hts inX10_list_X10 hown hK hP 0 rfl rfl 9 (by decide) (hts (Cond.fieldLink RX10 68 "PortRooms" "lists" "LPortRooms$Lists;") (wm_t (wm_l (wm_i 1 rfl)))) (fun _ h9 => h9) rfl dX10_list_19 ?_
      refine va_get (D := D) (ci := 4) (v := .int lc) (C := RX4) (T := TX4) (N := 4) hx hb hts inX10_list_X4 hown hK hP 1 rfl rfl 3 (by decide) (hts (Cond.fieldLink RX10 292 "PortRooms$Lists" "count" "I") (wm_t (wm_l (wm_i 2 rfl)))) (fun _ h9 => h9) rfl dX10_list_22 ?_
      refine lv_bipush (v := 20) hx hb dX10_list_25 (by decide) ?_
      refine lv_icmp_lt (tgt := 33) hx hb dX10_list_27 (by decide) (fun c12 => ?_) (fun c12 => ?_)
      · skip
        have f13 := i_lt c12
        refine lv_aload_n hx hb dX10_list_33 rfl (lv_at hl 0 rfl) ?_
        refine va_get (D := D) (ci := 10) (v := .ref (ad 10)) (C := RX10) (T := TX10) (N := 14) hx hb hts inX10_list_X10 hown hK hP 0 rfl rfl 9 (by decide) (hts (Cond.fieldLink RX10 68 "PortRooms" "lists" "LPortRooms$Lists;") (wm_t (wm_l (wm_i 1 rfl)))) (fun _ h9 => h9) rfl dX10_list_34 ?_
        refine lv_iload_n hx hb dX10_list_37 rfl (lv_at hl 1 rfl) ?_
        refine lv_iload_n hx hb dX10_list_38 rfl (lv_at hl 2 rfl) ?_
        refine lv_iload_n hx hb dX10_list_39 rfl (lv_at hl 3 rfl) ?_
        refine st_i (wr := [(oC10 ad tn td lf)]) (va_runV (C := RX4) (As := [.int q, .int a, .int b]) (rest := []) ⟨hx, hb, hml, hown, hts⟩ (ct_X4_tell l D cI cY cJ cQ _ ad lc lp la lb q a b h1 (by omega)) (cwV 3 hts gX10_list_X4_tell rfl rfl rfl ⟨rfl, cdX4_tell⟩ ⟨Nat.le_of_ble_eq_true rfl, Nat.le_of_ble_eq_true rfl⟩) (cPreV (hP.sub [1, 2, 3, 4] rfl) hK (hD.sub [1, 2, 3, 4] (by decide +kernel) rfl) hN (ci := 4) (q0 := 0) rfl rfl) rfl rfl hl.1 rfl (lv_room (Nat.le_of_ble_eq_true rfl)) dX10_list_40 ⟨Nat.le_of_ble_eq_true rfl, Nat.le_of_ble_eq_true rfl⟩) hP hD hS hA [1, 2, 3, 4] [0] rfl rfl (by decide +kernel) (by decide +kernel) (fun r16 u14 H locs hw15 => ?_)
        clear hP hD hS
        intro hP hD hS
        replace hw15 : r16 = lc + 1 := hw15
        replace hP : va_P D vwCl [(oC10 ad tn td lf), (oC4 ad (lc + 1)), (aI cI (ad 63) 20 (upd lp lc.toNatClampNeg q)), (aI cI (ad 64) 20 (upd la lc.toNatClampNeg a)), (aI cI (ad 65) 20 (upd lb lc.toNatClampNeg b))] H := hP
        replace hD : va_D A [(oC10 ad tn td lf), (oC4 ad (lc + 1)), (aI cI (ad 63) 20 (upd lp lc.toNatClampNeg q)), (aI cI (ad 64) 20 (upd la lc.toNatClampNeg a)), (aI cI (ad 65) 20 (upd lb lc.toNatClampNeg b))] := hD
        subst hw15
        have hP9 := hP
        have hD9 := hD
        exact W.iret (v := lc + 1) hx hb hr (fun t ht hW => ⟨⟨lc + 1, (lc + 1, upd lp lc.toNatClampNeg q, upd la lc.toNatClampNeg a, upd lb lc.toNatClampNeg b), rfl, (by unfold sp_list; (repeat' split) <;> first | rfl | (exfalso; omega) | (subst_vars; rfl)), by rw [ht]; exact hP9, va_K.moved hW.alike hK, hD9⟩, hS.F ht⟩) hS.2.2 dX10_list_43
      · skip
        have f17 := i_nlt c12
        refine lv_ldc hx hb hown (hts (Cond.constant RX10 145 (-1000003)) (wm_t (wm_l (wm_i 3 rfl)))) dX10_list_30 ?_
        have hP9 := hP
        have hD9 := hD
        exact W.iret (v := (-1000003)) hx hb hr (fun t ht hW => ⟨⟨(-1000003), (lc, lp, la, lb), rfl, (by unfold sp_list; (repeat' split) <;> first | rfl | (exfalso; omega) | (subst_vars; rfl)), by rw [ht]; exact hP9, va_K.moved hW.alike hK, hD9⟩, hS.F ht⟩) hS.2.2 dX10_list_32
    · skip
      have f18 := bo_f hw8 c10
      refine lv_ldc hx hb hown (hts (Cond.constant RX10 89 (-1000001)) (wm_t (wm_l (wm_i 0 rfl)))) dX10_list_15 ?_
      have hP9 := hP
      have hD9 := hD
      exact W.iret (v := (-1000001)) hx hb hr (fun t ht hW => ⟨⟨(-1000001), (lc, lp, la, lb), rfl, (by unfold sp_list; (repeat' split) <;> first | rfl | (exfalso; omega) | (subst_vars; rfl)), by rw [ht]; exact hP9, va_K.moved hW.alike hK, hD9⟩, hS.F ht⟩) hS.2.2 dX10_list_17
