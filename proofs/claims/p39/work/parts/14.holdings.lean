section
theorem cdX3_place : yX3_place.cls ≠ "java/lang/invoke/MethodHandle" ∧ yX3_place.cls ≠ "java/lang/invoke/VarHandle" ∧ (parseMethodDescriptor yX3_place.desc).map (fun d => d.parameters.length) = some 2 := by decide +kernel
theorem cdX3_lookAt : yX3_lookAt.cls ≠ "java/lang/invoke/MethodHandle" ∧ yX3_lookAt.cls ≠ "java/lang/invoke/VarHandle" ∧ (parseMethodDescriptor yX3_lookAt.desc).map (fun d => d.parameters.length) = some 1 := by decide +kernel
theorem cdX3_gatherWhoHas : yX3_gatherWhoHas.cls ≠ "java/lang/invoke/MethodHandle" ∧ yX3_gatherWhoHas.cls ≠ "java/lang/invoke/VarHandle" ∧ (parseMethodDescriptor yX3_gatherWhoHas.desc).map (fun d => d.parameters.length) = some 0 := by decide +kernel
theorem cdX3_closeReach : yX3_closeReach.cls ≠ "java/lang/invoke/MethodHandle" ∧ yX3_closeReach.cls ≠ "java/lang/invoke/VarHandle" ∧ (parseMethodDescriptor yX3_closeReach.desc).map (fun d => d.parameters.length) = some 0 := by decide +kernel
theorem cdX3_partOf : yX3_partOf.cls ≠ "java/lang/invoke/MethodHandle" ∧ yX3_partOf.cls ≠ "java/lang/invoke/VarHandle" ∧ (parseMethodDescriptor yX3_partOf.desc).map (fun d => d.parameters.length) = some 2 := by decide +kernel
theorem cdX10_hasBit : yX10_hasBit.cls ≠ "java/lang/invoke/MethodHandle" ∧ yX10_hasBit.cls ≠ "java/lang/invoke/VarHandle" ∧ (parseMethodDescriptor yX10_hasBit.desc).map (fun d => d.parameters.length) = some 2 := by decide +kernel
theorem cdJ7_fill_53178 : yJ7_fill_53178.cls ≠ "java/lang/invoke/MethodHandle" ∧ yJ7_fill_53178.cls ≠ "java/lang/invoke/VarHandle" ∧ (parseMethodDescriptor yJ7_fill_53178.desc).map (fun d => d.parameters.length) = some 2 := by decide +kernel
theorem Gd_J7_fill_53178 : gdA wsJ7_fill_53178 := gd_cons (by decide +kernel) (gd_all (ws := []) rfl)
theorem Gd_X10_hasBit : gdA wsX10_hasBit := gd_cons (by decide +kernel) (gd_all (ws := []) rfl)
theorem Gd_X3_place : gdA wsX3_place := gd_cons (by decide +kernel) (gd_all (ws := []) rfl)
theorem Gd_X3_gatherWhoHas : gdA wsX3_gatherWhoHas := gd_cons (by decide +kernel) (gd_app (gd_all (ws := wsX3_gatherWhoHas_o1) (by decide +kernel)) (gd_app (gd_app Gd_X30 Gd_J7_fill_53178) Gd_X3_place))
theorem inX3_gatherWhoHas_X3 : ∀ w ∈ u_ws RX3 TX3 9, w ∈ wsX3_gatherWhoHas := fun _ h => (List.mem_cons_of_mem _ (List.mem_append_right _ (List.mem_append_left _ (List.mem_append_left _ h))))
theorem Gd_X3_closeReach : gdA wsX3_closeReach := gd_cons (by decide +kernel) (gd_app (gd_all (ws := wsX3_closeReach_o1) (by decide +kernel)) (gd_app Gd_X30 Gd_X10_hasBit))
theorem inX3_closeReach_X3 : ∀ w ∈ u_ws RX3 TX3 9, w ∈ wsX3_closeReach := fun _ h => (List.mem_cons_of_mem _ (List.mem_append_right _ (List.mem_append_left _ h)))
theorem Gd_X3_lookAt : gdA wsX3_lookAt := gd_cons (by decide +kernel) (gd_app (gd_all (ws := wsX3_lookAt_o1) (by decide +kernel)) (gd_app (gd_app (gd_app Gd_X30 Gd_J7_fill_53178) Gd_X3_place) (gd_app Gd_X3_gatherWhoHas Gd_X3_closeReach)))
theorem inX3_lookAt_X3 : ∀ w ∈ u_ws RX3 TX3 9, w ∈ wsX3_lookAt := fun _ h => (List.mem_cons_of_mem _ (List.mem_append_right _ (List.mem_append_left _ (List.mem_append_left _ (List.mem_append_left _ h)))))
theorem Gd_X3_partOf : gdA wsX3_partOf := gd_cons (by decide +kernel) (gd_app (gd_all (ws := wsX3_partOf_o1) (by decide +kernel)) (gd_app Gd_X30 Gd_X3_place))
theorem inX3_partOf_X3 : ∀ w ∈ u_ws RX3 TX3 9, w ∈ wsX3_partOf := fun _ h => (List.mem_cons_of_mem _ (List.mem_append_right _ (List.mem_append_left _ h)))
theorem inX3_leadingTo_X3 : ∀ w ∈ u_ws RX3 TX3 9, w ∈ wsX3_leadingTo := fun _ h => (List.mem_cons_of_mem _ (List.mem_append_right _ (List.mem_append_left _ h)))
theorem inX10_percent_X10 : ∀ w ∈ u_ws RX10 TX10 14, w ∈ wsX10_percent := fun _ h => (List.mem_cons_of_mem _ (List.mem_append_right _ (List.mem_append_left _ (List.mem_append_left _ (List.mem_append_left _ h)))))
theorem dX3_place_all0 : decode cX3_place 0 = .ok (.iload_n 0, 1) ∧ decode cX3_place 1 = .ok (.bipush 10, 2) ∧ decode cX3_place 3 = .ok (.imul, 1) ∧ decode cX3_place 4 = .ok (.iload_n 1, 1) ∧ decode cX3_place 5 = .ok (.iadd, 1) ∧ decode cX3_place 6 = .ok (.bipush 10, 2) ∧ decode cX3_place 8 = .ok (.isub, 1) ∧ decode cX3_place 9 = .ok (.ireturn, 1) := by decide +kernel
theorem dX3_place_0 : decode cX3_place 0 = .ok (.iload_n 0, 1) := dX3_place_all0.1
theorem dX3_place_1 : decode cX3_place 1 = .ok (.bipush 10, 2) := dX3_place_all0.2.1
theorem dX3_place_3 : decode cX3_place 3 = .ok (.imul, 1) := dX3_place_all0.2.2.1
theorem dX3_place_4 : decode cX3_place 4 = .ok (.iload_n 1, 1) := dX3_place_all0.2.2.2.1
theorem dX3_place_5 : decode cX3_place 5 = .ok (.iadd, 1) := dX3_place_all0.2.2.2.2.1
theorem dX3_place_6 : decode cX3_place 6 = .ok (.bipush 10, 2) := dX3_place_all0.2.2.2.2.2.1
theorem dX3_place_8 : decode cX3_place 8 = .ok (.isub, 1) := dX3_place_all0.2.2.2.2.2.2.1
theorem dX3_place_9 : decode cX3_place 9 = .ok (.ireturn, 1) := dX3_place_all0.2.2.2.2.2.2.2
theorem ggX3_lookAt_J7_fill_53178 : GoodIn wsX3_lookAt wsJ7_fill_53178 := goodIn_s (fun _ h => wm_t (wm_r (wm_l (wm_l (wm_r h))))) Gd_J7_fill_53178
theorem gX3_lookAt_J7_fill_53178 : GoodIn wsX3_lookAt (va_wsS RX3 40 yJ7_fill_53178 wsJ7_fill_53178) := goodIn_S (own := RX3) (idx := 40) (y := yJ7_fill_53178) (wm_t (wm_l (wm_i 7 rfl))) (wm_t (wm_l (wm_i 8 rfl))) (wm_t (wm_l (wm_i 9 rfl))) ggX3_lookAt_J7_fill_53178
theorem ggX3_lookAt_X3_place : GoodIn wsX3_lookAt wsX3_place := goodIn_s (fun _ h => wm_t (wm_r (wm_l (wm_r h)))) Gd_X3_place
theorem gX3_lookAt_X3_place : GoodIn wsX3_lookAt (va_wsS RX3 46 yX3_place wsX3_place) := goodIn_S (own := RX3) (idx := 46) (y := yX3_place) (wm_t (wm_l (wm_i 10 rfl))) (wm_t (wm_l (wm_i 11 rfl))) (wm_t (wm_l (wm_i 12 rfl))) ggX3_lookAt_X3_place
theorem ggX3_lookAt_X3_gatherWhoHas : GoodIn wsX3_lookAt wsX3_gatherWhoHas := goodIn_s (fun _ h => wm_t (wm_r (wm_r (wm_l h)))) Gd_X3_gatherWhoHas
theorem gX3_lookAt_X3_gatherWhoHas : GoodIn wsX3_lookAt (wsV RX3 50 RX3 yX3_gatherWhoHas wsX3_gatherWhoHas) := goodIn_V (own := RX3) (idx := 50) (C := RX3) (y := yX3_gatherWhoHas) (wm_t (wm_l (wm_i 13 rfl))) (wm_t (wm_l (wm_i 14 rfl))) (wm_t (wm_l (wm_i 15 rfl))) (wm_t (wm_l (wm_i 12 rfl))) ggX3_lookAt_X3_gatherWhoHas
theorem ggX3_lookAt_X3_closeReach : GoodIn wsX3_lookAt wsX3_closeReach := goodIn_s (fun _ h => wm_t (wm_r (wm_r (wm_r h)))) Gd_X3_closeReach
theorem gX3_lookAt_X3_closeReach : GoodIn wsX3_lookAt (wsV RX3 53 RX3 yX3_closeReach wsX3_closeReach) := goodIn_V (own := RX3) (idx := 53) (C := RX3) (y := yX3_closeReach) (wm_t (wm_l (wm_i 16 rfl))) (wm_t (wm_l (wm_i 17 rfl))) (wm_t (wm_l (wm_i 18 rfl))) (wm_t (wm_l (wm_i 12 rfl))) ggX3_lookAt_X3_closeReach
theorem dX3_lookAt_all0 : decode cX3_lookAt 0 = .ok (.aload_n 0, 1) ∧ decode cX3_lookAt 1 = .ok (.getfield 24, 3) ∧ decode cX3_lookAt 4 = .ok (.iconst 0, 1) ∧ decode cX3_lookAt 5 = .ok (.invokestatic 40, 3) ∧ decode cX3_lookAt 8 = .ok (.aload_n 0, 1) ∧ decode cX3_lookAt 9 = .ok (.getfield 27, 3) ∧ decode cX3_lookAt 12 = .ok (.iconst 0, 1) ∧ decode cX3_lookAt 13 = .ok (.invokestatic 40, 3) ∧ decode cX3_lookAt 16 = .ok (.iconst 0, 1) ∧ decode cX3_lookAt 17 = .ok (.istore_n 2, 1) ∧ decode cX3_lookAt 18 = .ok (.iload_n 2, 1) ∧ decode cX3_lookAt 19 = .ok (.aload_n 0, 1) := by decide +kernel
theorem dX3_lookAt_0 : decode cX3_lookAt 0 = .ok (.aload_n 0, 1) := dX3_lookAt_all0.1
theorem dX3_lookAt_1 : decode cX3_lookAt 1 = .ok (.getfield 24, 3) := dX3_lookAt_all0.2.1
theorem dX3_lookAt_4 : decode cX3_lookAt 4 = .ok (.iconst 0, 1) := dX3_lookAt_all0.2.2.1
theorem dX3_lookAt_5 : decode cX3_lookAt 5 = .ok (.invokestatic 40, 3) := dX3_lookAt_all0.2.2.2.1
theorem dX3_lookAt_8 : decode cX3_lookAt 8 = .ok (.aload_n 0, 1) := dX3_lookAt_all0.2.2.2.2.1
theorem dX3_lookAt_9 : decode cX3_lookAt 9 = .ok (.getfield 27, 3) := dX3_lookAt_all0.2.2.2.2.2.1
theorem dX3_lookAt_12 : decode cX3_lookAt 12 = .ok (.iconst 0, 1) := dX3_lookAt_all0.2.2.2.2.2.2.1
theorem dX3_lookAt_13 : decode cX3_lookAt 13 = .ok (.invokestatic 40, 3) := dX3_lookAt_all0.2.2.2.2.2.2.2.1
theorem dX3_lookAt_16 : decode cX3_lookAt 16 = .ok (.iconst 0, 1) := dX3_lookAt_all0.2.2.2.2.2.2.2.2.1
theorem dX3_lookAt_17 : decode cX3_lookAt 17 = .ok (.istore_n 2, 1) := dX3_lookAt_all0.2.2.2.2.2.2.2.2.2.1
theorem dX3_lookAt_18 : decode cX3_lookAt 18 = .ok (.iload_n 2, 1) := dX3_lookAt_all0.2.2.2.2.2.2.2.2.2.2.1
theorem dX3_lookAt_19 : decode cX3_lookAt 19 = .ok (.aload_n 0, 1) := dX3_lookAt_all0.2.2.2.2.2.2.2.2.2.2.2
theorem dX3_lookAt_all1 : decode cX3_lookAt 20 = .ok (.getfield 36, 3) ∧ decode cX3_lookAt 23 = .ok (.if_icmp .ge 74, 3) ∧ decode cX3_lookAt 26 = .ok (.aload_n 0, 1) ∧ decode cX3_lookAt 27 = .ok (.getfield 9, 3) ∧ decode cX3_lookAt 30 = .ok (.iload_n 2, 1) ∧ decode cX3_lookAt 31 = .ok (.iaload, 1) ∧ decode cX3_lookAt 32 = .ok (.aload_n 0, 1) ∧ decode cX3_lookAt 33 = .ok (.getfield 15, 3) ∧ decode cX3_lookAt 36 = .ok (.iload_n 2, 1) ∧ decode cX3_lookAt 37 = .ok (.iaload, 1) ∧ decode cX3_lookAt 38 = .ok (.invokestatic 46, 3) ∧ decode cX3_lookAt 41 = .ok (.istore_n 3, 1) := by decide +kernel
theorem dX3_lookAt_20 : decode cX3_lookAt 20 = .ok (.getfield 36, 3) := dX3_lookAt_all1.1
theorem dX3_lookAt_23 : decode cX3_lookAt 23 = .ok (.if_icmp .ge 74, 3) := dX3_lookAt_all1.2.1
theorem dX3_lookAt_26 : decode cX3_lookAt 26 = .ok (.aload_n 0, 1) := dX3_lookAt_all1.2.2.1
theorem dX3_lookAt_27 : decode cX3_lookAt 27 = .ok (.getfield 9, 3) := dX3_lookAt_all1.2.2.2.1
theorem dX3_lookAt_30 : decode cX3_lookAt 30 = .ok (.iload_n 2, 1) := dX3_lookAt_all1.2.2.2.2.1
theorem dX3_lookAt_31 : decode cX3_lookAt 31 = .ok (.iaload, 1) := dX3_lookAt_all1.2.2.2.2.2.1
theorem dX3_lookAt_32 : decode cX3_lookAt 32 = .ok (.aload_n 0, 1) := dX3_lookAt_all1.2.2.2.2.2.2.1
theorem dX3_lookAt_33 : decode cX3_lookAt 33 = .ok (.getfield 15, 3) := dX3_lookAt_all1.2.2.2.2.2.2.2.1
theorem dX3_lookAt_36 : decode cX3_lookAt 36 = .ok (.iload_n 2, 1) := dX3_lookAt_all1.2.2.2.2.2.2.2.2.1
theorem dX3_lookAt_37 : decode cX3_lookAt 37 = .ok (.iaload, 1) := dX3_lookAt_all1.2.2.2.2.2.2.2.2.2.1
theorem dX3_lookAt_38 : decode cX3_lookAt 38 = .ok (.invokestatic 46, 3) := dX3_lookAt_all1.2.2.2.2.2.2.2.2.2.2.1
theorem dX3_lookAt_41 : decode cX3_lookAt 41 = .ok (.istore_n 3, 1) := dX3_lookAt_all1.2.2.2.2.2.2.2.2.2.2.2
theorem dX3_lookAt_all2 : decode cX3_lookAt 42 = .ok (.aload_n 0, 1) ∧ decode cX3_lookAt 43 = .ok (.getfield 21, 3) ∧ decode cX3_lookAt 46 = .ok (.iload_n 2, 1) ∧ decode cX3_lookAt 47 = .ok (.iaload, 1) ∧ decode cX3_lookAt 48 = .ok (.iload_n 1, 1) ∧ decode cX3_lookAt 49 = .ok (.if_icmp .gt 42, 3) ∧ decode cX3_lookAt 52 = .ok (.aload_n 0, 1) ∧ decode cX3_lookAt 53 = .ok (.getfield 21, 3) ∧ decode cX3_lookAt 56 = .ok (.iload_n 2, 1) ∧ decode cX3_lookAt 57 = .ok (.iaload, 1) ∧ decode cX3_lookAt 58 = .ok (.aload_n 0, 1) ∧ decode cX3_lookAt 59 = .ok (.getfield 27, 3) := by decide +kernel
theorem dX3_lookAt_42 : decode cX3_lookAt 42 = .ok (.aload_n 0, 1) := dX3_lookAt_all2.1
theorem dX3_lookAt_43 : decode cX3_lookAt 43 = .ok (.getfield 21, 3) := dX3_lookAt_all2.2.1
theorem dX3_lookAt_46 : decode cX3_lookAt 46 = .ok (.iload_n 2, 1) := dX3_lookAt_all2.2.2.1
theorem dX3_lookAt_47 : decode cX3_lookAt 47 = .ok (.iaload, 1) := dX3_lookAt_all2.2.2.2.1
theorem dX3_lookAt_48 : decode cX3_lookAt 48 = .ok (.iload_n 1, 1) := dX3_lookAt_all2.2.2.2.2.1
theorem dX3_lookAt_49 : decode cX3_lookAt 49 = .ok (.if_icmp .gt 42, 3) := dX3_lookAt_all2.2.2.2.2.2.1
theorem dX3_lookAt_52 : decode cX3_lookAt 52 = .ok (.aload_n 0, 1) := dX3_lookAt_all2.2.2.2.2.2.2.1
theorem dX3_lookAt_53 : decode cX3_lookAt 53 = .ok (.getfield 21, 3) := dX3_lookAt_all2.2.2.2.2.2.2.2.1
theorem dX3_lookAt_56 : decode cX3_lookAt 56 = .ok (.iload_n 2, 1) := dX3_lookAt_all2.2.2.2.2.2.2.2.2.1
theorem dX3_lookAt_57 : decode cX3_lookAt 57 = .ok (.iaload, 1) := dX3_lookAt_all2.2.2.2.2.2.2.2.2.2.1
theorem dX3_lookAt_58 : decode cX3_lookAt 58 = .ok (.aload_n 0, 1) := dX3_lookAt_all2.2.2.2.2.2.2.2.2.2.2.1
theorem dX3_lookAt_59 : decode cX3_lookAt 59 = .ok (.getfield 27, 3) := dX3_lookAt_all2.2.2.2.2.2.2.2.2.2.2.2
theorem dX3_lookAt_all3 : decode cX3_lookAt 62 = .ok (.iload_n 3, 1) ∧ decode cX3_lookAt 63 = .ok (.iaload, 1) ∧ decode cX3_lookAt 64 = .ok (.if_icmp .lt 27, 3) ∧ decode cX3_lookAt 67 = .ok (.aload_n 0, 1) ∧ decode cX3_lookAt 68 = .ok (.getfield 24, 3) ∧ decode cX3_lookAt 71 = .ok (.iload_n 3, 1) ∧ decode cX3_lookAt 72 = .ok (.aload_n 0, 1) ∧ decode cX3_lookAt 73 = .ok (.getfield 18, 3) ∧ decode cX3_lookAt 76 = .ok (.iload_n 2, 1) ∧ decode cX3_lookAt 77 = .ok (.iaload, 1) ∧ decode cX3_lookAt 78 = .ok (.iastore, 1) ∧ decode cX3_lookAt 79 = .ok (.aload_n 0, 1) := by decide +kernel
theorem dX3_lookAt_62 : decode cX3_lookAt 62 = .ok (.iload_n 3, 1) := dX3_lookAt_all3.1
theorem dX3_lookAt_63 : decode cX3_lookAt 63 = .ok (.iaload, 1) := dX3_lookAt_all3.2.1
theorem dX3_lookAt_64 : decode cX3_lookAt 64 = .ok (.if_icmp .lt 27, 3) := dX3_lookAt_all3.2.2.1
theorem dX3_lookAt_67 : decode cX3_lookAt 67 = .ok (.aload_n 0, 1) := dX3_lookAt_all3.2.2.2.1
theorem dX3_lookAt_68 : decode cX3_lookAt 68 = .ok (.getfield 24, 3) := dX3_lookAt_all3.2.2.2.2.1
theorem dX3_lookAt_71 : decode cX3_lookAt 71 = .ok (.iload_n 3, 1) := dX3_lookAt_all3.2.2.2.2.2.1
theorem dX3_lookAt_72 : decode cX3_lookAt 72 = .ok (.aload_n 0, 1) := dX3_lookAt_all3.2.2.2.2.2.2.1
theorem dX3_lookAt_73 : decode cX3_lookAt 73 = .ok (.getfield 18, 3) := dX3_lookAt_all3.2.2.2.2.2.2.2.1
theorem dX3_lookAt_76 : decode cX3_lookAt 76 = .ok (.iload_n 2, 1) := dX3_lookAt_all3.2.2.2.2.2.2.2.2.1
theorem dX3_lookAt_77 : decode cX3_lookAt 77 = .ok (.iaload, 1) := dX3_lookAt_all3.2.2.2.2.2.2.2.2.2.1
theorem dX3_lookAt_78 : decode cX3_lookAt 78 = .ok (.iastore, 1) := dX3_lookAt_all3.2.2.2.2.2.2.2.2.2.2.1
theorem dX3_lookAt_79 : decode cX3_lookAt 79 = .ok (.aload_n 0, 1) := dX3_lookAt_all3.2.2.2.2.2.2.2.2.2.2.2
theorem dX3_lookAt_all4 : decode cX3_lookAt 80 = .ok (.getfield 27, 3) ∧ decode cX3_lookAt 83 = .ok (.iload_n 3, 1) ∧ decode cX3_lookAt 84 = .ok (.aload_n 0, 1) ∧ decode cX3_lookAt 85 = .ok (.getfield 21, 3) ∧ decode cX3_lookAt 88 = .ok (.iload_n 2, 1) ∧ decode cX3_lookAt 89 = .ok (.iaload, 1) ∧ decode cX3_lookAt 90 = .ok (.iastore, 1) ∧ decode cX3_lookAt 91 = .ok (.iinc 2 1, 3) ∧ decode cX3_lookAt 94 = .ok (.goto (-76), 3) ∧ decode cX3_lookAt 97 = .ok (.aload_n 0, 1) ∧ decode cX3_lookAt 98 = .ok (.invokevirtual 50, 3) ∧ decode cX3_lookAt 101 = .ok (.aload_n 0, 1) := by decide +kernel
theorem dX3_lookAt_80 : decode cX3_lookAt 80 = .ok (.getfield 27, 3) := dX3_lookAt_all4.1
theorem dX3_lookAt_83 : decode cX3_lookAt 83 = .ok (.iload_n 3, 1) := dX3_lookAt_all4.2.1
theorem dX3_lookAt_84 : decode cX3_lookAt 84 = .ok (.aload_n 0, 1) := dX3_lookAt_all4.2.2.1
theorem dX3_lookAt_85 : decode cX3_lookAt 85 = .ok (.getfield 21, 3) := dX3_lookAt_all4.2.2.2.1
theorem dX3_lookAt_88 : decode cX3_lookAt 88 = .ok (.iload_n 2, 1) := dX3_lookAt_all4.2.2.2.2.1
theorem dX3_lookAt_89 : decode cX3_lookAt 89 = .ok (.iaload, 1) := dX3_lookAt_all4.2.2.2.2.2.1
theorem dX3_lookAt_90 : decode cX3_lookAt 90 = .ok (.iastore, 1) := dX3_lookAt_all4.2.2.2.2.2.2.1
theorem dX3_lookAt_91 : decode cX3_lookAt 91 = .ok (.iinc 2 1, 3) := dX3_lookAt_all4.2.2.2.2.2.2.2.1
theorem dX3_lookAt_94 : decode cX3_lookAt 94 = .ok (.goto (-76), 3) := dX3_lookAt_all4.2.2.2.2.2.2.2.2.1
theorem dX3_lookAt_97 : decode cX3_lookAt 97 = .ok (.aload_n 0, 1) := dX3_lookAt_all4.2.2.2.2.2.2.2.2.2.1
theorem dX3_lookAt_98 : decode cX3_lookAt 98 = .ok (.invokevirtual 50, 3) := dX3_lookAt_all4.2.2.2.2.2.2.2.2.2.2.1
theorem dX3_lookAt_101 : decode cX3_lookAt 101 = .ok (.aload_n 0, 1) := dX3_lookAt_all4.2.2.2.2.2.2.2.2.2.2.2
theorem dX3_lookAt_all5 : decode cX3_lookAt 102 = .ok (.invokevirtual 53, 3) ∧ decode cX3_lookAt 105 = .ok (.return_, 1) := by decide +kernel
theorem dX3_lookAt_102 : decode cX3_lookAt 102 = .ok (.invokevirtual 53, 3) := dX3_lookAt_all5.1
theorem dX3_lookAt_105 : decode cX3_lookAt 105 = .ok (.return_, 1) := dX3_lookAt_all5.2
theorem ggX3_gatherWhoHas_J7_fill_53178 : GoodIn wsX3_gatherWhoHas wsJ7_fill_53178 := goodIn_s (fun _ h => wm_t (wm_r (wm_l (wm_r h)))) Gd_J7_fill_53178
theorem gX3_gatherWhoHas_J7_fill_53178 : GoodIn wsX3_gatherWhoHas (va_wsS RX3 40 yJ7_fill_53178 wsJ7_fill_53178) := goodIn_S (own := RX3) (idx := 40) (y := yJ7_fill_53178) (wm_t (wm_l (wm_i 5 rfl))) (wm_t (wm_l (wm_i 6 rfl))) (wm_t (wm_l (wm_i 7 rfl))) ggX3_gatherWhoHas_J7_fill_53178
theorem ggX3_gatherWhoHas_X3_place : GoodIn wsX3_gatherWhoHas wsX3_place := goodIn_s (fun _ h => wm_t (wm_r (wm_r h))) Gd_X3_place
theorem gX3_gatherWhoHas_X3_place : GoodIn wsX3_gatherWhoHas (va_wsS RX3 46 yX3_place wsX3_place) := goodIn_S (own := RX3) (idx := 46) (y := yX3_place) (wm_t (wm_l (wm_i 8 rfl))) (wm_t (wm_l (wm_i 9 rfl))) (wm_t (wm_l (wm_i 10 rfl))) ggX3_gatherWhoHas_X3_place
theorem dX3_gatherWhoHas_all0 : decode cX3_gatherWhoHas 0 = .ok (.aload_n 0, 1) ∧ decode cX3_gatherWhoHas 1 = .ok (.getfield 30, 3) ∧ decode cX3_gatherWhoHas 4 = .ok (.iconst 0, 1) ∧ decode cX3_gatherWhoHas 5 = .ok (.invokestatic 40, 3) ∧ decode cX3_gatherWhoHas 8 = .ok (.iconst 0, 1) ∧ decode cX3_gatherWhoHas 9 = .ok (.istore_n 1, 1) ∧ decode cX3_gatherWhoHas 10 = .ok (.iload_n 1, 1) ∧ decode cX3_gatherWhoHas 11 = .ok (.aload_n 0, 1) ∧ decode cX3_gatherWhoHas 12 = .ok (.getfield 36, 3) ∧ decode cX3_gatherWhoHas 15 = .ok (.if_icmp .ge 57, 3) ∧ decode cX3_gatherWhoHas 18 = .ok (.aload_n 0, 1) ∧ decode cX3_gatherWhoHas 19 = .ok (.getfield 24, 3) := by decide +kernel
theorem dX3_gatherWhoHas_0 : decode cX3_gatherWhoHas 0 = .ok (.aload_n 0, 1) := dX3_gatherWhoHas_all0.1
theorem dX3_gatherWhoHas_1 : decode cX3_gatherWhoHas 1 = .ok (.getfield 30, 3) := dX3_gatherWhoHas_all0.2.1
theorem dX3_gatherWhoHas_4 : decode cX3_gatherWhoHas 4 = .ok (.iconst 0, 1) := dX3_gatherWhoHas_all0.2.2.1
theorem dX3_gatherWhoHas_5 : decode cX3_gatherWhoHas 5 = .ok (.invokestatic 40, 3) := dX3_gatherWhoHas_all0.2.2.2.1
theorem dX3_gatherWhoHas_8 : decode cX3_gatherWhoHas 8 = .ok (.iconst 0, 1) := dX3_gatherWhoHas_all0.2.2.2.2.1
theorem dX3_gatherWhoHas_9 : decode cX3_gatherWhoHas 9 = .ok (.istore_n 1, 1) := dX3_gatherWhoHas_all0.2.2.2.2.2.1
theorem dX3_gatherWhoHas_10 : decode cX3_gatherWhoHas 10 = .ok (.iload_n 1, 1) := dX3_gatherWhoHas_all0.2.2.2.2.2.2.1
theorem dX3_gatherWhoHas_11 : decode cX3_gatherWhoHas 11 = .ok (.aload_n 0, 1) := dX3_gatherWhoHas_all0.2.2.2.2.2.2.2.1
theorem dX3_gatherWhoHas_12 : decode cX3_gatherWhoHas 12 = .ok (.getfield 36, 3) := dX3_gatherWhoHas_all0.2.2.2.2.2.2.2.2.1
theorem dX3_gatherWhoHas_15 : decode cX3_gatherWhoHas 15 = .ok (.if_icmp .ge 57, 3) := dX3_gatherWhoHas_all0.2.2.2.2.2.2.2.2.2.1
theorem dX3_gatherWhoHas_18 : decode cX3_gatherWhoHas 18 = .ok (.aload_n 0, 1) := dX3_gatherWhoHas_all0.2.2.2.2.2.2.2.2.2.2.1
theorem dX3_gatherWhoHas_19 : decode cX3_gatherWhoHas 19 = .ok (.getfield 24, 3) := dX3_gatherWhoHas_all0.2.2.2.2.2.2.2.2.2.2.2
theorem dX3_gatherWhoHas_all1 : decode cX3_gatherWhoHas 22 = .ok (.aload_n 0, 1) ∧ decode cX3_gatherWhoHas 23 = .ok (.getfield 9, 3) ∧ decode cX3_gatherWhoHas 26 = .ok (.iload_n 1, 1) ∧ decode cX3_gatherWhoHas 27 = .ok (.iaload, 1) ∧ decode cX3_gatherWhoHas 28 = .ok (.aload_n 0, 1) ∧ decode cX3_gatherWhoHas 29 = .ok (.getfield 15, 3) ∧ decode cX3_gatherWhoHas 32 = .ok (.iload_n 1, 1) ∧ decode cX3_gatherWhoHas 33 = .ok (.iaload, 1) ∧ decode cX3_gatherWhoHas 34 = .ok (.invokestatic 46, 3) ∧ decode cX3_gatherWhoHas 37 = .ok (.iaload, 1) ∧ decode cX3_gatherWhoHas 38 = .ok (.ifCond .le 28, 3) ∧ decode cX3_gatherWhoHas 41 = .ok (.aload_n 0, 1) := by decide +kernel
theorem dX3_gatherWhoHas_22 : decode cX3_gatherWhoHas 22 = .ok (.aload_n 0, 1) := dX3_gatherWhoHas_all1.1
theorem dX3_gatherWhoHas_23 : decode cX3_gatherWhoHas 23 = .ok (.getfield 9, 3) := dX3_gatherWhoHas_all1.2.1
theorem dX3_gatherWhoHas_26 : decode cX3_gatherWhoHas 26 = .ok (.iload_n 1, 1) := dX3_gatherWhoHas_all1.2.2.1
theorem dX3_gatherWhoHas_27 : decode cX3_gatherWhoHas 27 = .ok (.iaload, 1) := dX3_gatherWhoHas_all1.2.2.2.1
theorem dX3_gatherWhoHas_28 : decode cX3_gatherWhoHas 28 = .ok (.aload_n 0, 1) := dX3_gatherWhoHas_all1.2.2.2.2.1
theorem dX3_gatherWhoHas_29 : decode cX3_gatherWhoHas 29 = .ok (.getfield 15, 3) := dX3_gatherWhoHas_all1.2.2.2.2.2.1
theorem dX3_gatherWhoHas_32 : decode cX3_gatherWhoHas 32 = .ok (.iload_n 1, 1) := dX3_gatherWhoHas_all1.2.2.2.2.2.2.1
theorem dX3_gatherWhoHas_33 : decode cX3_gatherWhoHas 33 = .ok (.iaload, 1) := dX3_gatherWhoHas_all1.2.2.2.2.2.2.2.1
theorem dX3_gatherWhoHas_34 : decode cX3_gatherWhoHas 34 = .ok (.invokestatic 46, 3) := dX3_gatherWhoHas_all1.2.2.2.2.2.2.2.2.1
theorem dX3_gatherWhoHas_37 : decode cX3_gatherWhoHas 37 = .ok (.iaload, 1) := dX3_gatherWhoHas_all1.2.2.2.2.2.2.2.2.2.1
theorem dX3_gatherWhoHas_38 : decode cX3_gatherWhoHas 38 = .ok (.ifCond .le 28, 3) := dX3_gatherWhoHas_all1.2.2.2.2.2.2.2.2.2.2.1
theorem dX3_gatherWhoHas_41 : decode cX3_gatherWhoHas 41 = .ok (.aload_n 0, 1) := dX3_gatherWhoHas_all1.2.2.2.2.2.2.2.2.2.2.2
theorem dX3_gatherWhoHas_all2 : decode cX3_gatherWhoHas 42 = .ok (.getfield 30, 3) ∧ decode cX3_gatherWhoHas 45 = .ok (.aload_n 0, 1) ∧ decode cX3_gatherWhoHas 46 = .ok (.getfield 9, 3) ∧ decode cX3_gatherWhoHas 49 = .ok (.iload_n 1, 1) ∧ decode cX3_gatherWhoHas 50 = .ok (.iaload, 1) ∧ decode cX3_gatherWhoHas 51 = .ok (.dup2, 1) ∧ decode cX3_gatherWhoHas 52 = .ok (.iaload, 1) ∧ decode cX3_gatherWhoHas 53 = .ok (.iconst 1, 1) ∧ decode cX3_gatherWhoHas 54 = .ok (.aload_n 0, 1) ∧ decode cX3_gatherWhoHas 55 = .ok (.getfield 15, 3) ∧ decode cX3_gatherWhoHas 58 = .ok (.iload_n 1, 1) ∧ decode cX3_gatherWhoHas 59 = .ok (.iaload, 1) := by decide +kernel
theorem dX3_gatherWhoHas_42 : decode cX3_gatherWhoHas 42 = .ok (.getfield 30, 3) := dX3_gatherWhoHas_all2.1
theorem dX3_gatherWhoHas_45 : decode cX3_gatherWhoHas 45 = .ok (.aload_n 0, 1) := dX3_gatherWhoHas_all2.2.1
theorem dX3_gatherWhoHas_46 : decode cX3_gatherWhoHas 46 = .ok (.getfield 9, 3) := dX3_gatherWhoHas_all2.2.2.1
theorem dX3_gatherWhoHas_49 : decode cX3_gatherWhoHas 49 = .ok (.iload_n 1, 1) := dX3_gatherWhoHas_all2.2.2.2.1
theorem dX3_gatherWhoHas_50 : decode cX3_gatherWhoHas 50 = .ok (.iaload, 1) := dX3_gatherWhoHas_all2.2.2.2.2.1
theorem dX3_gatherWhoHas_51 : decode cX3_gatherWhoHas 51 = .ok (.dup2, 1) := dX3_gatherWhoHas_all2.2.2.2.2.2.1
theorem dX3_gatherWhoHas_52 : decode cX3_gatherWhoHas 52 = .ok (.iaload, 1) := dX3_gatherWhoHas_all2.2.2.2.2.2.2.1
theorem dX3_gatherWhoHas_53 : decode cX3_gatherWhoHas 53 = .ok (.iconst 1, 1) := dX3_gatherWhoHas_all2.2.2.2.2.2.2.2.1
theorem dX3_gatherWhoHas_54 : decode cX3_gatherWhoHas 54 = .ok (.aload_n 0, 1) := dX3_gatherWhoHas_all2.2.2.2.2.2.2.2.2.1
theorem dX3_gatherWhoHas_55 : decode cX3_gatherWhoHas 55 = .ok (.getfield 15, 3) := dX3_gatherWhoHas_all2.2.2.2.2.2.2.2.2.2.1
theorem dX3_gatherWhoHas_58 : decode cX3_gatherWhoHas 58 = .ok (.iload_n 1, 1) := dX3_gatherWhoHas_all2.2.2.2.2.2.2.2.2.2.2.1
theorem dX3_gatherWhoHas_59 : decode cX3_gatherWhoHas 59 = .ok (.iaload, 1) := dX3_gatherWhoHas_all2.2.2.2.2.2.2.2.2.2.2.2
theorem dX3_gatherWhoHas_all3 : decode cX3_gatherWhoHas 60 = .ok (.bipush 10, 2) ∧ decode cX3_gatherWhoHas 62 = .ok (.isub, 1) ∧ decode cX3_gatherWhoHas 63 = .ok (.ishl, 1) ∧ decode cX3_gatherWhoHas 64 = .ok (.ior, 1) ∧ decode cX3_gatherWhoHas 65 = .ok (.iastore, 1) ∧ decode cX3_gatherWhoHas 66 = .ok (.iinc 1 1, 3) ∧ decode cX3_gatherWhoHas 69 = .ok (.goto (-59), 3) ∧ decode cX3_gatherWhoHas 72 = .ok (.return_, 1) := by decide +kernel
theorem dX3_gatherWhoHas_60 : decode cX3_gatherWhoHas 60 = .ok (.bipush 10, 2) := dX3_gatherWhoHas_all3.1
theorem dX3_gatherWhoHas_62 : decode cX3_gatherWhoHas 62 = .ok (.isub, 1) := dX3_gatherWhoHas_all3.2.1
theorem dX3_gatherWhoHas_63 : decode cX3_gatherWhoHas 63 = .ok (.ishl, 1) := dX3_gatherWhoHas_all3.2.2.1
theorem dX3_gatherWhoHas_64 : decode cX3_gatherWhoHas 64 = .ok (.ior, 1) := dX3_gatherWhoHas_all3.2.2.2.1
theorem dX3_gatherWhoHas_65 : decode cX3_gatherWhoHas 65 = .ok (.iastore, 1) := dX3_gatherWhoHas_all3.2.2.2.2.1
theorem dX3_gatherWhoHas_66 : decode cX3_gatherWhoHas 66 = .ok (.iinc 1 1, 3) := dX3_gatherWhoHas_all3.2.2.2.2.2.1
theorem dX3_gatherWhoHas_69 : decode cX3_gatherWhoHas 69 = .ok (.goto (-59), 3) := dX3_gatherWhoHas_all3.2.2.2.2.2.2.1
theorem dX3_gatherWhoHas_72 : decode cX3_gatherWhoHas 72 = .ok (.return_, 1) := dX3_gatherWhoHas_all3.2.2.2.2.2.2.2
theorem ggX3_closeReach_X10_hasBit : GoodIn wsX3_closeReach wsX10_hasBit := goodIn_s (fun _ h => wm_t (wm_r (wm_r h))) Gd_X10_hasBit
set_option maxRecDepth 20000 in
theorem gX3_closeReach_X10_hasBit_n62 : GoodIn wsX3_closeReach (wsX10_hasBit) := ggX3_closeReach_X10_hasBit
theorem dX3_closeReach_all0 : decode cX3_closeReach 0 = .ok (.aload_n 0, 1) ∧ decode cX3_closeReach 1 = .ok (.getfield 30, 3) ∧ decode cX3_closeReach 4 = .ok (.bipush 10, 2) ∧ decode cX3_closeReach 6 = .ok (.aload_n 0, 1) ∧ decode cX3_closeReach 7 = .ok (.getfield 33, 3) ∧ decode cX3_closeReach 10 = .ok (.iconst 0, 1) ∧ decode cX3_closeReach 11 = .ok (.bipush 10, 2) ∧ decode cX3_closeReach 13 = .ok (.invokestatic 56, 3) ∧ decode cX3_closeReach 16 = .ok (.iconst 0, 1) ∧ decode cX3_closeReach 17 = .ok (.istore_n 1, 1) ∧ decode cX3_closeReach 18 = .ok (.iload_n 1, 1) ∧ decode cX3_closeReach 19 = .ok (.bipush 10, 2) := by decide +kernel
theorem dX3_closeReach_0 : decode cX3_closeReach 0 = .ok (.aload_n 0, 1) := dX3_closeReach_all0.1
theorem dX3_closeReach_1 : decode cX3_closeReach 1 = .ok (.getfield 30, 3) := dX3_closeReach_all0.2.1
theorem dX3_closeReach_4 : decode cX3_closeReach 4 = .ok (.bipush 10, 2) := dX3_closeReach_all0.2.2.1
theorem dX3_closeReach_6 : decode cX3_closeReach 6 = .ok (.aload_n 0, 1) := dX3_closeReach_all0.2.2.2.1
theorem dX3_closeReach_7 : decode cX3_closeReach 7 = .ok (.getfield 33, 3) := dX3_closeReach_all0.2.2.2.2.1
theorem dX3_closeReach_10 : decode cX3_closeReach 10 = .ok (.iconst 0, 1) := dX3_closeReach_all0.2.2.2.2.2.1
theorem dX3_closeReach_11 : decode cX3_closeReach 11 = .ok (.bipush 10, 2) := dX3_closeReach_all0.2.2.2.2.2.2.1
theorem dX3_closeReach_13 : decode cX3_closeReach 13 = .ok (.invokestatic 56, 3) := dX3_closeReach_all0.2.2.2.2.2.2.2.1
theorem dX3_closeReach_16 : decode cX3_closeReach 16 = .ok (.iconst 0, 1) := dX3_closeReach_all0.2.2.2.2.2.2.2.2.1
theorem dX3_closeReach_17 : decode cX3_closeReach 17 = .ok (.istore_n 1, 1) := dX3_closeReach_all0.2.2.2.2.2.2.2.2.2.1
theorem dX3_closeReach_18 : decode cX3_closeReach 18 = .ok (.iload_n 1, 1) := dX3_closeReach_all0.2.2.2.2.2.2.2.2.2.2.1
theorem dX3_closeReach_19 : decode cX3_closeReach 19 = .ok (.bipush 10, 2) := dX3_closeReach_all0.2.2.2.2.2.2.2.2.2.2.2
theorem dX3_closeReach_all1 : decode cX3_closeReach 21 = .ok (.if_icmp .ge 51, 3) ∧ decode cX3_closeReach 24 = .ok (.iconst 0, 1) ∧ decode cX3_closeReach 25 = .ok (.istore_n 2, 1) ∧ decode cX3_closeReach 26 = .ok (.iload_n 2, 1) ∧ decode cX3_closeReach 27 = .ok (.bipush 10, 2) ∧ decode cX3_closeReach 29 = .ok (.if_icmp .ge 37, 3) ∧ decode cX3_closeReach 32 = .ok (.aload_n 0, 1) ∧ decode cX3_closeReach 33 = .ok (.getfield 33, 3) ∧ decode cX3_closeReach 36 = .ok (.iload_n 2, 1) ∧ decode cX3_closeReach 37 = .ok (.iaload, 1) ∧ decode cX3_closeReach 38 = .ok (.iload_n 1, 1) ∧ decode cX3_closeReach 39 = .ok (.invokestatic 62, 3) := by decide +kernel
theorem dX3_closeReach_21 : decode cX3_closeReach 21 = .ok (.if_icmp .ge 51, 3) := dX3_closeReach_all1.1
theorem dX3_closeReach_24 : decode cX3_closeReach 24 = .ok (.iconst 0, 1) := dX3_closeReach_all1.2.1
theorem dX3_closeReach_25 : decode cX3_closeReach 25 = .ok (.istore_n 2, 1) := dX3_closeReach_all1.2.2.1
theorem dX3_closeReach_26 : decode cX3_closeReach 26 = .ok (.iload_n 2, 1) := dX3_closeReach_all1.2.2.2.1
theorem dX3_closeReach_27 : decode cX3_closeReach 27 = .ok (.bipush 10, 2) := dX3_closeReach_all1.2.2.2.2.1
theorem dX3_closeReach_29 : decode cX3_closeReach 29 = .ok (.if_icmp .ge 37, 3) := dX3_closeReach_all1.2.2.2.2.2.1
theorem dX3_closeReach_32 : decode cX3_closeReach 32 = .ok (.aload_n 0, 1) := dX3_closeReach_all1.2.2.2.2.2.2.1
theorem dX3_closeReach_33 : decode cX3_closeReach 33 = .ok (.getfield 33, 3) := dX3_closeReach_all1.2.2.2.2.2.2.2.1
theorem dX3_closeReach_36 : decode cX3_closeReach 36 = .ok (.iload_n 2, 1) := dX3_closeReach_all1.2.2.2.2.2.2.2.2.1
theorem dX3_closeReach_37 : decode cX3_closeReach 37 = .ok (.iaload, 1) := dX3_closeReach_all1.2.2.2.2.2.2.2.2.2.1
theorem dX3_closeReach_38 : decode cX3_closeReach 38 = .ok (.iload_n 1, 1) := dX3_closeReach_all1.2.2.2.2.2.2.2.2.2.2.1
theorem dX3_closeReach_39 : decode cX3_closeReach 39 = .ok (.invokestatic 62, 3) := dX3_closeReach_all1.2.2.2.2.2.2.2.2.2.2.2
theorem dX3_closeReach_all2 : decode cX3_closeReach 42 = .ok (.ifCond .eq 18, 3) ∧ decode cX3_closeReach 45 = .ok (.aload_n 0, 1) ∧ decode cX3_closeReach 46 = .ok (.getfield 33, 3) ∧ decode cX3_closeReach 49 = .ok (.iload_n 2, 1) ∧ decode cX3_closeReach 50 = .ok (.dup2, 1) ∧ decode cX3_closeReach 51 = .ok (.iaload, 1) ∧ decode cX3_closeReach 52 = .ok (.aload_n 0, 1) ∧ decode cX3_closeReach 53 = .ok (.getfield 33, 3) ∧ decode cX3_closeReach 56 = .ok (.iload_n 1, 1) ∧ decode cX3_closeReach 57 = .ok (.iaload, 1) ∧ decode cX3_closeReach 58 = .ok (.ior, 1) ∧ decode cX3_closeReach 59 = .ok (.iastore, 1) := by decide +kernel
theorem dX3_closeReach_42 : decode cX3_closeReach 42 = .ok (.ifCond .eq 18, 3) := dX3_closeReach_all2.1
theorem dX3_closeReach_45 : decode cX3_closeReach 45 = .ok (.aload_n 0, 1) := dX3_closeReach_all2.2.1
theorem dX3_closeReach_46 : decode cX3_closeReach 46 = .ok (.getfield 33, 3) := dX3_closeReach_all2.2.2.1
theorem dX3_closeReach_49 : decode cX3_closeReach 49 = .ok (.iload_n 2, 1) := dX3_closeReach_all2.2.2.2.1
theorem dX3_closeReach_50 : decode cX3_closeReach 50 = .ok (.dup2, 1) := dX3_closeReach_all2.2.2.2.2.1
theorem dX3_closeReach_51 : decode cX3_closeReach 51 = .ok (.iaload, 1) := dX3_closeReach_all2.2.2.2.2.2.1
theorem dX3_closeReach_52 : decode cX3_closeReach 52 = .ok (.aload_n 0, 1) := dX3_closeReach_all2.2.2.2.2.2.2.1
theorem dX3_closeReach_53 : decode cX3_closeReach 53 = .ok (.getfield 33, 3) := dX3_closeReach_all2.2.2.2.2.2.2.2.1
theorem dX3_closeReach_56 : decode cX3_closeReach 56 = .ok (.iload_n 1, 1) := dX3_closeReach_all2.2.2.2.2.2.2.2.2.1
theorem dX3_closeReach_57 : decode cX3_closeReach 57 = .ok (.iaload, 1) := dX3_closeReach_all2.2.2.2.2.2.2.2.2.2.1
theorem dX3_closeReach_58 : decode cX3_closeReach 58 = .ok (.ior, 1) := dX3_closeReach_all2.2.2.2.2.2.2.2.2.2.2.1
theorem dX3_closeReach_59 : decode cX3_closeReach 59 = .ok (.iastore, 1) := dX3_closeReach_all2.2.2.2.2.2.2.2.2.2.2.2
theorem dX3_closeReach_all3 : decode cX3_closeReach 60 = .ok (.iinc 2 1, 3) ∧ decode cX3_closeReach 63 = .ok (.goto (-37), 3) ∧ decode cX3_closeReach 66 = .ok (.iinc 1 1, 3) ∧ decode cX3_closeReach 69 = .ok (.goto (-51), 3) ∧ decode cX3_closeReach 72 = .ok (.return_, 1) := by decide +kernel
theorem dX3_closeReach_60 : decode cX3_closeReach 60 = .ok (.iinc 2 1, 3) := dX3_closeReach_all3.1
theorem dX3_closeReach_63 : decode cX3_closeReach 63 = .ok (.goto (-37), 3) := dX3_closeReach_all3.2.1
theorem dX3_closeReach_66 : decode cX3_closeReach 66 = .ok (.iinc 1 1, 3) := dX3_closeReach_all3.2.2.1
theorem dX3_closeReach_69 : decode cX3_closeReach 69 = .ok (.goto (-51), 3) := dX3_closeReach_all3.2.2.2.1
theorem dX3_closeReach_72 : decode cX3_closeReach 72 = .ok (.return_, 1) := dX3_closeReach_all3.2.2.2.2
theorem ggX3_partOf_X3_place : GoodIn wsX3_partOf wsX3_place := goodIn_s (fun _ h => wm_t (wm_r (wm_r h))) Gd_X3_place
theorem gX3_partOf_X3_place : GoodIn wsX3_partOf (va_wsS RX3 46 yX3_place wsX3_place) := goodIn_S (own := RX3) (idx := 46) (y := yX3_place) (wm_t (wm_l (wm_i 1 rfl))) (wm_t (wm_l (wm_i 2 rfl))) (wm_t (wm_l (wm_i 3 rfl))) ggX3_partOf_X3_place
theorem dX3_partOf_all0 : decode cX3_partOf 0 = .ok (.aload_n 0, 1) ∧ decode cX3_partOf 1 = .ok (.getfield 24, 3) ∧ decode cX3_partOf 4 = .ok (.iload_n 1, 1) ∧ decode cX3_partOf 5 = .ok (.iload_n 2, 1) ∧ decode cX3_partOf 6 = .ok (.invokestatic 46, 3) ∧ decode cX3_partOf 9 = .ok (.iaload, 1) ∧ decode cX3_partOf 10 = .ok (.ireturn, 1) := by decide +kernel
theorem dX3_partOf_0 : decode cX3_partOf 0 = .ok (.aload_n 0, 1) := dX3_partOf_all0.1
theorem dX3_partOf_1 : decode cX3_partOf 1 = .ok (.getfield 24, 3) := dX3_partOf_all0.2.1
theorem dX3_partOf_4 : decode cX3_partOf 4 = .ok (.iload_n 1, 1) := dX3_partOf_all0.2.2.1
theorem dX3_partOf_5 : decode cX3_partOf 5 = .ok (.iload_n 2, 1) := dX3_partOf_all0.2.2.2.1
theorem dX3_partOf_6 : decode cX3_partOf 6 = .ok (.invokestatic 46, 3) := dX3_partOf_all0.2.2.2.2.1
theorem dX3_partOf_9 : decode cX3_partOf 9 = .ok (.iaload, 1) := dX3_partOf_all0.2.2.2.2.2.1
theorem dX3_partOf_10 : decode cX3_partOf 10 = .ok (.ireturn, 1) := dX3_partOf_all0.2.2.2.2.2.2
theorem ggX3_leadingTo_X10_hasBit : GoodIn wsX3_leadingTo wsX10_hasBit := goodIn_s (fun _ h => wm_t (wm_r (wm_r h))) Gd_X10_hasBit
set_option maxRecDepth 20000 in
theorem gX3_leadingTo_X10_hasBit_n62 : GoodIn wsX3_leadingTo (wsX10_hasBit) := ggX3_leadingTo_X10_hasBit
theorem dX3_leadingTo_all0 : decode cX3_leadingTo 0 = .ok (.iconst 1, 1) ∧ decode cX3_leadingTo 1 = .ok (.iload_n 1, 1) ∧ decode cX3_leadingTo 2 = .ok (.ishl, 1) ∧ decode cX3_leadingTo 3 = .ok (.istore_n 2, 1) ∧ decode cX3_leadingTo 4 = .ok (.iconst 0, 1) ∧ decode cX3_leadingTo 5 = .ok (.istore_n 3, 1) ∧ decode cX3_leadingTo 6 = .ok (.iload_n 3, 1) ∧ decode cX3_leadingTo 7 = .ok (.bipush 10, 2) ∧ decode cX3_leadingTo 9 = .ok (.if_icmp .ge 28, 3) ∧ decode cX3_leadingTo 12 = .ok (.aload_n 0, 1) ∧ decode cX3_leadingTo 13 = .ok (.getfield 33, 3) ∧ decode cX3_leadingTo 16 = .ok (.iload_n 3, 1) := by decide +kernel
theorem dX3_leadingTo_0 : decode cX3_leadingTo 0 = .ok (.iconst 1, 1) := dX3_leadingTo_all0.1
theorem dX3_leadingTo_1 : decode cX3_leadingTo 1 = .ok (.iload_n 1, 1) := dX3_leadingTo_all0.2.1
theorem dX3_leadingTo_2 : decode cX3_leadingTo 2 = .ok (.ishl, 1) := dX3_leadingTo_all0.2.2.1
theorem dX3_leadingTo_3 : decode cX3_leadingTo 3 = .ok (.istore_n 2, 1) := dX3_leadingTo_all0.2.2.2.1
theorem dX3_leadingTo_4 : decode cX3_leadingTo 4 = .ok (.iconst 0, 1) := dX3_leadingTo_all0.2.2.2.2.1
theorem dX3_leadingTo_5 : decode cX3_leadingTo 5 = .ok (.istore_n 3, 1) := dX3_leadingTo_all0.2.2.2.2.2.1
theorem dX3_leadingTo_6 : decode cX3_leadingTo 6 = .ok (.iload_n 3, 1) := dX3_leadingTo_all0.2.2.2.2.2.2.1
theorem dX3_leadingTo_7 : decode cX3_leadingTo 7 = .ok (.bipush 10, 2) := dX3_leadingTo_all0.2.2.2.2.2.2.2.1
theorem dX3_leadingTo_9 : decode cX3_leadingTo 9 = .ok (.if_icmp .ge 28, 3) := dX3_leadingTo_all0.2.2.2.2.2.2.2.2.1
theorem dX3_leadingTo_12 : decode cX3_leadingTo 12 = .ok (.aload_n 0, 1) := dX3_leadingTo_all0.2.2.2.2.2.2.2.2.2.1
theorem dX3_leadingTo_13 : decode cX3_leadingTo 13 = .ok (.getfield 33, 3) := dX3_leadingTo_all0.2.2.2.2.2.2.2.2.2.2.1
theorem dX3_leadingTo_16 : decode cX3_leadingTo 16 = .ok (.iload_n 3, 1) := dX3_leadingTo_all0.2.2.2.2.2.2.2.2.2.2.2
theorem dX3_leadingTo_all1 : decode cX3_leadingTo 17 = .ok (.iaload, 1) ∧ decode cX3_leadingTo 18 = .ok (.iload_n 1, 1) ∧ decode cX3_leadingTo 19 = .ok (.invokestatic 62, 3) ∧ decode cX3_leadingTo 22 = .ok (.ifCond .eq 9, 3) ∧ decode cX3_leadingTo 25 = .ok (.iload_n 2, 1) ∧ decode cX3_leadingTo 26 = .ok (.iconst 1, 1) ∧ decode cX3_leadingTo 27 = .ok (.iload_n 3, 1) ∧ decode cX3_leadingTo 28 = .ok (.ishl, 1) ∧ decode cX3_leadingTo 29 = .ok (.ior, 1) ∧ decode cX3_leadingTo 30 = .ok (.istore_n 2, 1) ∧ decode cX3_leadingTo 31 = .ok (.iinc 3 1, 3) ∧ decode cX3_leadingTo 34 = .ok (.goto (-28), 3) := by decide +kernel
theorem dX3_leadingTo_17 : decode cX3_leadingTo 17 = .ok (.iaload, 1) := dX3_leadingTo_all1.1
theorem dX3_leadingTo_18 : decode cX3_leadingTo 18 = .ok (.iload_n 1, 1) := dX3_leadingTo_all1.2.1
theorem dX3_leadingTo_19 : decode cX3_leadingTo 19 = .ok (.invokestatic 62, 3) := dX3_leadingTo_all1.2.2.1
theorem dX3_leadingTo_22 : decode cX3_leadingTo 22 = .ok (.ifCond .eq 9, 3) := dX3_leadingTo_all1.2.2.2.1
theorem dX3_leadingTo_25 : decode cX3_leadingTo 25 = .ok (.iload_n 2, 1) := dX3_leadingTo_all1.2.2.2.2.1
theorem dX3_leadingTo_26 : decode cX3_leadingTo 26 = .ok (.iconst 1, 1) := dX3_leadingTo_all1.2.2.2.2.2.1
theorem dX3_leadingTo_27 : decode cX3_leadingTo 27 = .ok (.iload_n 3, 1) := dX3_leadingTo_all1.2.2.2.2.2.2.1
theorem dX3_leadingTo_28 : decode cX3_leadingTo 28 = .ok (.ishl, 1) := dX3_leadingTo_all1.2.2.2.2.2.2.2.1
theorem dX3_leadingTo_29 : decode cX3_leadingTo 29 = .ok (.ior, 1) := dX3_leadingTo_all1.2.2.2.2.2.2.2.2.1
theorem dX3_leadingTo_30 : decode cX3_leadingTo 30 = .ok (.istore_n 2, 1) := dX3_leadingTo_all1.2.2.2.2.2.2.2.2.2.1
theorem dX3_leadingTo_31 : decode cX3_leadingTo 31 = .ok (.iinc 3 1, 3) := dX3_leadingTo_all1.2.2.2.2.2.2.2.2.2.2.1
theorem dX3_leadingTo_34 : decode cX3_leadingTo 34 = .ok (.goto (-28), 3) := dX3_leadingTo_all1.2.2.2.2.2.2.2.2.2.2.2
theorem dX3_leadingTo_all2 : decode cX3_leadingTo 37 = .ok (.iload_n 2, 1) ∧ decode cX3_leadingTo 38 = .ok (.ireturn, 1) := by decide +kernel
theorem dX3_leadingTo_37 : decode cX3_leadingTo 37 = .ok (.iload_n 2, 1) := dX3_leadingTo_all2.1
theorem dX3_leadingTo_38 : decode cX3_leadingTo 38 = .ok (.ireturn, 1) := dX3_leadingTo_all2.2
theorem ggX10_percent_X10_isPair : GoodIn wsX10_percent wsX10_isPair := goodIn_s (fun _ h => wm_t (wm_r (wm_l (wm_r h)))) Gd_X10_isPair
theorem gX10_percent_X10_isPair : GoodIn wsX10_percent (va_wsS RX10 132 yX10_isPair wsX10_isPair) := goodIn_S (own := RX10) (idx := 132) (y := yX10_isPair) (wm_t (wm_l (wm_i 2 rfl))) (wm_t (wm_l (wm_i 3 rfl))) (wm_t (wm_l (wm_i 4 rfl))) ggX10_percent_X10_isPair
theorem ggX10_percent_X10_isDay : GoodIn wsX10_percent wsX10_isDay := goodIn_s (fun _ h => wm_t (wm_r (wm_r (wm_l (wm_l h))))) Gd_X10_isDay
theorem gX10_percent_X10_isDay : GoodIn wsX10_percent (va_wsS RX10 138 yX10_isDay wsX10_isDay) := goodIn_S (own := RX10) (idx := 138) (y := yX10_isDay) (wm_t (wm_l (wm_i 5 rfl))) (wm_t (wm_l (wm_i 6 rfl))) (wm_t (wm_l (wm_i 4 rfl))) ggX10_percent_X10_isDay
theorem ggX10_percent_X3_lookAt : GoodIn wsX10_percent wsX3_lookAt := goodIn_s (fun _ h => wm_t (wm_r (wm_r (wm_l (wm_r h))))) Gd_X3_lookAt
theorem gX10_percent_X3_lookAt : GoodIn wsX10_percent (wsV RX10 153 RX3 yX3_lookAt wsX3_lookAt) := goodIn_V (own := RX10) (idx := 153) (C := RX3) (y := yX3_lookAt) (wm_t (wm_l (wm_i 7 rfl))) (wm_t (wm_l (wm_i 8 rfl))) (wm_t (wm_l (wm_i 9 rfl))) (wm_t (wm_l (wm_i 10 rfl))) ggX10_percent_X3_lookAt
theorem ggX10_percent_X3_partOf : GoodIn wsX10_percent wsX3_partOf := goodIn_s (fun _ h => wm_t (wm_r (wm_r (wm_r h)))) Gd_X3_partOf
theorem gX10_percent_X3_partOf : GoodIn wsX10_percent (wsV RX10 156 RX3 yX3_partOf wsX3_partOf) := goodIn_V (own := RX10) (idx := 156) (C := RX3) (y := yX3_partOf) (wm_t (wm_l (wm_i 11 rfl))) (wm_t (wm_l (wm_i 12 rfl))) (wm_t (wm_l (wm_i 13 rfl))) (wm_t (wm_l (wm_i 10 rfl))) ggX10_percent_X3_partOf
theorem dX10_percent_all0 : decode cX10_percent 0 = .ok (.iload_n 1, 1) ∧ decode cX10_percent 1 = .ok (.iload_n 2, 1) ∧ decode cX10_percent 2 = .ok (.invokestatic 132, 3) ∧ decode cX10_percent 5 = .ok (.ifCond .eq 10, 3) ∧ decode cX10_percent 8 = .ok (.iload_n 3, 1) ∧ decode cX10_percent 9 = .ok (.invokestatic 138, 3) ∧ decode cX10_percent 12 = .ok (.ifCond .ne 6, 3) ∧ decode cX10_percent 15 = .ok (.ldc 89, 2) ∧ decode cX10_percent 17 = .ok (.ireturn, 1) ∧ decode cX10_percent 18 = .ok (.aload_n 0, 1) ∧ decode cX10_percent 19 = .ok (.getfield 19, 3) ∧ decode cX10_percent 22 = .ok (.iload_n 3, 1) := by decide +kernel
theorem dX10_percent_0 : decode cX10_percent 0 = .ok (.iload_n 1, 1) := dX10_percent_all0.1
theorem dX10_percent_1 : decode cX10_percent 1 = .ok (.iload_n 2, 1) := dX10_percent_all0.2.1
theorem dX10_percent_2 : decode cX10_percent 2 = .ok (.invokestatic 132, 3) := dX10_percent_all0.2.2.1
theorem dX10_percent_5 : decode cX10_percent 5 = .ok (.ifCond .eq 10, 3) := dX10_percent_all0.2.2.2.1
theorem dX10_percent_8 : decode cX10_percent 8 = .ok (.iload_n 3, 1) := dX10_percent_all0.2.2.2.2.1
theorem dX10_percent_9 : decode cX10_percent 9 = .ok (.invokestatic 138, 3) := dX10_percent_all0.2.2.2.2.2.1
theorem dX10_percent_12 : decode cX10_percent 12 = .ok (.ifCond .ne 6, 3) := dX10_percent_all0.2.2.2.2.2.2.1
theorem dX10_percent_15 : decode cX10_percent 15 = .ok (.ldc 89, 2) := dX10_percent_all0.2.2.2.2.2.2.2.1
theorem dX10_percent_17 : decode cX10_percent 17 = .ok (.ireturn, 1) := dX10_percent_all0.2.2.2.2.2.2.2.2.1
theorem dX10_percent_18 : decode cX10_percent 18 = .ok (.aload_n 0, 1) := dX10_percent_all0.2.2.2.2.2.2.2.2.2.1
theorem dX10_percent_19 : decode cX10_percent 19 = .ok (.getfield 19, 3) := dX10_percent_all0.2.2.2.2.2.2.2.2.2.2.1
theorem dX10_percent_22 : decode cX10_percent 22 = .ok (.iload_n 3, 1) := dX10_percent_all0.2.2.2.2.2.2.2.2.2.2.2
theorem dX10_percent_all1 : decode cX10_percent 23 = .ok (.invokevirtual 153, 3) ∧ decode cX10_percent 26 = .ok (.aload_n 0, 1) ∧ decode cX10_percent 27 = .ok (.getfield 19, 3) ∧ decode cX10_percent 30 = .ok (.iload_n 1, 1) ∧ decode cX10_percent 31 = .ok (.iload_n 2, 1) ∧ decode cX10_percent 32 = .ok (.invokevirtual 156, 3) ∧ decode cX10_percent 35 = .ok (.ireturn, 1) := by decide +kernel
theorem dX10_percent_23 : decode cX10_percent 23 = .ok (.invokevirtual 153, 3) := dX10_percent_all1.1
theorem dX10_percent_26 : decode cX10_percent 26 = .ok (.aload_n 0, 1) := dX10_percent_all1.2.1
theorem dX10_percent_27 : decode cX10_percent 27 = .ok (.getfield 19, 3) := dX10_percent_all1.2.2.1
theorem dX10_percent_30 : decode cX10_percent 30 = .ok (.iload_n 1, 1) := dX10_percent_all1.2.2.2.1
theorem dX10_percent_31 : decode cX10_percent 31 = .ok (.iload_n 2, 1) := dX10_percent_all1.2.2.2.2.1
theorem dX10_percent_32 : decode cX10_percent 32 = .ok (.invokevirtual 156, 3) := dX10_percent_all1.2.2.2.2.2.1
theorem dX10_percent_35 : decode cX10_percent 35 = .ok (.ireturn, 1) := dX10_percent_all1.2.2.2.2.2.2

/-- holdings' owners and companies are owners and companies -/
def okH (hn : Int32) (ho hc : Nat → Int32) : Prop := ∀ j : Nat, (j : Int) < hn.toInt → 0 ≤ (ho j).toInt ∧ (ho j).toInt < 20 ∧ 10 ≤ (hc j).toInt ∧ (hc j).toInt < 20
theorem okH_o {hn : Int32} {ho hc : Nat → Int32} (h : okH hn ho hc) {v i : Int32} (e : v = ho i.toNatClampNeg) (h0 : 0 ≤ i.toInt) (h1 : i.toInt < hn.toInt) : 0 ≤ v.toInt ∧ v.toInt < 20 := by
  have := i_cl h0
  rw [e]
  have := h _ (show ((i.toNatClampNeg : Nat) : Int) < hn.toInt by omega)
  omega
theorem okH_c {hn : Int32} {ho hc : Nat → Int32} (h : okH hn ho hc) {v i : Int32} (e : v = hc i.toNatClampNeg) (h0 : 0 ≤ i.toInt) (h1 : i.toInt < hn.toInt) : 10 ≤ v.toInt ∧ v.toInt < 20 := by
  have := i_cl h0
  rw [e]
  have := h _ (show ((i.toNatClampNeg : Nat) : Int) < hn.toInt by omega)
  omega


/-- the part that an owner has of a company on a day, and since when: the holdings told, one after the other -/
def pcV (ho hc hp hs : Nat → Int32) (d o c : Int32) : Nat → Int32 × Int32
  | 0 => (0, 0)
  | n + 1 => if (ho n).toInt = o.toInt ∧ (hc n).toInt = c.toInt ∧ (hs n).toInt ≤ d.toInt ∧ (pcV ho hc hp hs d o c n).2.toInt ≤ (hs n).toInt then (hp n, hs n) else pcV ho hc hp hs d o c n
theorem pcV_s (ho hc hp hs : Nat → Int32) (d o c : Int32) (n : Nat) : pcV ho hc hp hs d o c (n + 1) = if (ho n).toInt = o.toInt ∧ (hc n).toInt = c.toInt ∧ (hs n).toInt ≤ d.toInt ∧ (pcV ho hc hp hs d o c n).2.toInt ≤ (hs n).toInt then (hp n, hs n) else pcV ho hc hp hs d o c n := rfl
/-- the table of parts is laid out for the first n holdings -/
def pcOk (pt ps ho hc hp hs : Nat → Int32) (d : Int32) (n : Nat) : Prop := ∀ o c : Int32, 0 ≤ o.toInt → o.toInt < 20 → 10 ≤ c.toInt → c.toInt < 20 → (pt (o.toNatClampNeg * 10 + c.toNatClampNeg - 10), ps (o.toNatClampNeg * 10 + c.toNatClampNeg - 10)) = pcV ho hc hp hs d o c n
theorem pcOk_up {pt ps ho hc hp hs : Nat → Int32} {d x y : Int32} {n m a : Nat} (h : pcOk pt ps ho hc hp hs d n) (hm : m = n + 1) (r1 : 0 ≤ (ho n).toInt ∧ (ho n).toInt < 20) (r2 : 10 ≤ (hc n).toInt ∧ (hc n).toInt < 20) (ha : (a : Int) = (ho n).toInt * 10 + (hc n).toInt - 10) (c1 : (hs n).toInt ≤ d.toInt) (c2 : (ps a).toInt ≤ (hs n).toInt) (e1 : x = hp n) (e2 : y = hs n) : pcOk (upd pt a x) (upd ps a y) ho hc hp hs d m := by
  subst e1 e2 hm
  intro o c o1 o2 q1 q2
  have h9 := h o c o1 o2 q1 q2
  have k1 := i_cl o1
  have k2 := i_cl (x := c) (by omega)
  rw [pcV_s, ← h9]
  by_cases e : o.toNatClampNeg * 10 + c.toNatClampNeg - 10 = a
  · rw [e, upd_s, upd_s, if_pos]
    refine ⟨by omega, by omega, c1, c2⟩
  · rw [upd_n _ _ e, upd_n _ _ e, if_neg]
    rintro ⟨z1, z2, -⟩
    exact e (by omega)
theorem pcOk_no {pt ps ho hc hp hs : Nat → Int32} {d : Int32} {n m a : Nat} (h : pcOk pt ps ho hc hp hs d n) (hm : m = n + 1) (r1 : 0 ≤ (ho n).toInt ∧ (ho n).toInt < 20) (r2 : 10 ≤ (hc n).toInt ∧ (hc n).toInt < 20) (ha : (a : Int) = (ho n).toInt * 10 + (hc n).toInt - 10) (c1 : (hs n).toInt ≤ d.toInt → ¬ (ps a).toInt ≤ (hs n).toInt) : pcOk pt ps ho hc hp hs d m := by
  subst hm
  intro o c o1 o2 q1 q2
  have h9 := h o c o1 o2 q1 q2
  have k1 := i_cl o1
  have k2 := i_cl (x := c) (by omega)
  rw [pcV_s, ← h9, if_neg]
  rintro ⟨z1, z2, z3, z4⟩
  refine c1 z3 ?_
  rw [show a = o.toNatClampNeg * 10 + c.toNatClampNeg - 10 by omega]
  exact z4
def sp_percent (hn : Int32) (ho hc hp hs : Nat → Int32) (o k d : Int32) : Int32 := if 0 ≤ o.toInt ∧ o.toInt < 20 ∧ 10 ≤ k.toInt ∧ k.toInt < 20 ∧ ¬ o.toInt = k.toInt ∧ 0 ≤ d.toInt ∧ d.toInt < 10000 then (pcV ho hc hp hs d o k hn.toNatClampNeg).1 else -1000001


/-- a sum over the first n -/
def smC (g : Nat → Int) : Nat → Int
  | 0 => 0
  | n + 1 => smC g n + g n
theorem smC_s (g : Nat → Int) (n : Nat) : smC g (n + 1) = smC g n + g n := rfl
theorem smC_c {g h : Nat → Int} (n : Nat) (e : ∀ c, c < n → g c = h c) : smC g n = smC h n := by
  induction n with
  | zero => rfl
  | succ n ih => rw [smC_s, smC_s, ih (fun c hc => e c (by omega)), e n (by omega)]
theorem smC_0 {g : Nat → Int} (n : Nat) (e : ∀ c, c < n → g c = 0) : smC g n = 0 := by
  induction n with
  | zero => rfl
  | succ n ih => rw [smC_s, ih (fun c hc => e c (by omega)), e n (by omega)]; rfl
theorem smC_tail {g : Nat → Int} {c : Nat} (n : Nat) (h : c ≤ n) (e : ∀ x, c ≤ x → x < n → g x = 0) : smC g n = smC g c := by
  induction n with
  | zero => rw [show c = 0 by omega]
  | succ n ih =>
    by_cases q : c = n + 1
    · rw [q]
    · rw [smC_s, ih (by omega) (fun x h1 h2 => e x h1 (by omega)), e n (by omega) (by omega)]
      omega
theorem smC_bd {g : Nat → Int} {B : Int} (n : Nat) (e : ∀ c, c < n → 0 ≤ g c ∧ g c ≤ B) : 0 ≤ smC g n ∧ smC g n ≤ n * B := by
  induction n with
  | zero => exact ⟨Int.le_refl _, by show (0 : Int) ≤ ((0 : Nat) : Int) * B; rw [Int.natCast_zero, Int.zero_mul]; exact Int.le_refl _⟩
  | succ n ih =>
    have h1 := ih (fun c hc => e c (by omega))
    have h2 := e n (by omega)
    rw [smC_s, Int.natCast_succ, Int.add_mul, Int.one_mul]
    omega
theorem smC_mono {g : Nat → Int} {a b : Nat} (h : a ≤ b) (e : ∀ c, a ≤ c → c < b → 0 ≤ g c) : smC g a ≤ smC g b := by
  induction b with
  | zero => rw [show a = 0 by omega]; exact Int.le_refl _
  | succ b ih =>
    by_cases q : a = b + 1
    · rw [q]; exact Int.le_refl _
    · have h1 := ih (by omega) (fun c h1 h2 => e c h1 (by omega))
      have h2 := e b (by omega) (by omega)
      rw [smC_s]
      omega
/-- what comes to company t over all rows of owners from o on: parts p, value v, companies that are free -/
def alG (p : Nat → Nat → Int) (t : Nat) : Nat → Nat → Int → (Nat → Bool) → Int
  | 0 => fun _ _ _ => 0
  | n + 1 => fun o v fr => smC (fun c => if 0 < p o c ∧ fr c = true then (if c = t then v * p o c / 100 else alG p t n (10 + c) (v * p o c / 100) (fun x => fr x && !decide (x = c))) else 0) 10
/-- a place's part of it -/
def alT (p : Nat → Nat → Int) (t n o : Nat) (v : Int) (fr : Nat → Bool) (c : Nat) : Int := if 0 < p o c ∧ fr c = true then (if c = t then v * p o c / 100 else alG p t n (10 + c) (v * p o c / 100) (fun x => fr x && !decide (x = c))) else 0
theorem alG_s (p : Nat → Nat → Int) (t n o : Nat) (v : Int) (fr : Nat → Bool) : alG p t (n + 1) o v fr = smC (alT p t n o v fr) 10 := rfl
theorem alG_z (p : Nat → Nat → Int) (t o : Nat) (v : Int) (fr : Nat → Bool) : alG p t 0 o v fr = 0 := rfl
def okp (p : Nat → Nat → Int) : Prop := ∀ o c, o < 20 → c < 10 → 0 ≤ p o c ∧ p o c ≤ 100
theorem pd_bd {v q : Int} (h0 : 0 ≤ v) (h1 : 0 ≤ q) (h2 : q ≤ 100) : 0 ≤ v * q / 100 ∧ v * q / 100 ≤ v := by
  have h3 : 0 ≤ v * q := Int.mul_nonneg h0 h1
  have h4 : v * q ≤ v * 100 := Int.mul_le_mul_of_nonneg_left h2 h0
  omega
theorem alT_0 {p : Nat → Nat → Int} {t n o c : Nat} {v : Int} {fr : Nat → Bool} (h : ¬ (0 < p o c ∧ fr c = true)) : alT p t n o v fr c = 0 := by
  unfold alT
  rw [if_neg h]
theorem alT_t {p : Nat → Nat → Int} {t n o c : Nat} {v : Int} {fr : Nat → Bool} (h : 0 < p o c ∧ fr c = true) (e : c = t) : alT p t n o v fr c = v * p o c / 100 := by
  unfold alT
  rw [if_pos h, if_pos e]
theorem alT_n {p : Nat → Nat → Int} {t n o c : Nat} {v : Int} {fr : Nat → Bool} (h : 0 < p o c ∧ fr c = true) (e : ¬ c = t) : alT p t n o v fr c = alG p t n (10 + c) (v * p o c / 100) (fun x => fr x && !decide (x = c)) := by
  unfold alT
  rw [if_pos h, if_neg e]
theorem alG_v0 (p : Nat → Nat → Int) (t n : Nat) : ∀ (o : Nat) (fr : Nat → Bool), alG p t n o 0 fr = 0 := by
  induction n with
  | zero => exact fun _ _ => rfl
  | succ n ih =>
    intro o fr
    rw [alG_s]
    refine smC_0 10 (fun c hc => ?_)
    by_cases h : 0 < p o c ∧ fr c = true
    · by_cases e : c = t
      · rw [alT_t h e, Int.zero_mul]; rfl
      · rw [alT_n h e, Int.zero_mul]
        exact ih _ _
    · exact alT_0 h
theorem alG_bd {p : Nat → Nat → Int} (hp : okp p) (t n : Nat) : ∀ (o : Nat) (v : Int) (fr : Nat → Bool), o < 20 → 0 ≤ v → 0 ≤ alG p t n o v fr ∧ alG p t n o v fr ≤ 10 ^ n * v := by
  induction n with
  | zero =>
    intro o v fr ho hv
    rw [alG_z, Int.pow_zero, Int.one_mul]
    exact ⟨Int.le_refl _, hv⟩
  | succ n ih =>
    intro o v fr ho hv
    have hpw : (1 : Int) ≤ 10 ^ n := Int.pow_pos (by decide)
    have hb : ∀ c, c < 10 → 0 ≤ alT p t n o v fr c ∧ alT p t n o v fr c ≤ 10 ^ n * v := by
      intro c hc
      have hq := hp o c ho hc
      have hd := pd_bd (v := v) hv hq.1 hq.2
      have hle : v ≤ 10 ^ n * v := by
        have h9 := Int.mul_le_mul_of_nonneg_right hpw hv
        rw [Int.one_mul] at h9
        exact h9
      by_cases h : 0 < p o c ∧ fr c = true
      · by_cases e : c = t
        · rw [alT_t h e]; omega
        · rw [alT_n h e]
          have h8 := ih (10 + c) (v * p o c / 100) (fun x => fr x && !decide (x = c)) (by omega) hd.1
          have h7 : 10 ^ n * (v * p o c / 100) ≤ 10 ^ n * v := Int.mul_le_mul_of_nonneg_left hd.2 (by omega)
          omega
      · rw [alT_0 h]; omega
    have hs := smC_bd 10 hb
    rw [alG_s, Int.pow_succ, Int.mul_comm (10 ^ n) 10, Int.mul_assoc]
    exact hs
theorem alT_bd {p : Nat → Nat → Int} (hp : okp p) {t n o c : Nat} {v : Int} {fr : Nat → Bool} (ho : o < 20) (hc : c < 10) (hv : 0 ≤ v) : 0 ≤ alT p t n o v fr c ∧ alT p t n o v fr c ≤ 10 ^ n * v := by
  have hpw : (1 : Int) ≤ 10 ^ n := Int.pow_pos (by decide)
  have hq := hp o c ho hc
  have hd := pd_bd (v := v) hv hq.1 hq.2
  have hle : v ≤ 10 ^ n * v := by
    have h9 := Int.mul_le_mul_of_nonneg_right hpw hv
    rw [Int.one_mul] at h9
    exact h9
  by_cases h : 0 < p o c ∧ fr c = true
  · by_cases e : c = t
    · rw [alT_t h e]; omega
    · rw [alT_n h e]
      have h8 := alG_bd hp t n (10 + c) (v * p o c / 100) (fun x => fr x && !decide (x = c)) (by omega) hd.1
      have h7 : 10 ^ n * (v * p o c / 100) ≤ 10 ^ n * v := Int.mul_le_mul_of_nonneg_left hd.2 (by omega)
      omega
  · rw [alT_0 h]; omega
/-- a bound that fits into a long -/
theorem big_bd {n : Nat} {v : Int} (hn : n ≤ 11) (h0 : 0 ≤ v) (h1 : v ≤ 1000000) : 10 ^ n * v ≤ 100000000000000000 := by
  have h2 : (10 : Int) ^ n ≤ 100000000000 := (by decide : ∀ k, k < 12 → (10 : Int) ^ k ≤ 100000000000) n (by omega)
  have h3 : 10 ^ n * v ≤ 100000000000 * v := Int.mul_le_mul_of_nonneg_right h2 h0
  omega
theorem smT_bd {p : Nat → Nat → Int} (hp : okp p) {t n o c : Nat} {v : Int} {fr : Nat → Bool} (ho : o < 20) (hc : c ≤ 10) (hn : n ≤ 10) (hv : 0 ≤ v) (hv1 : v ≤ 1000000) : 0 ≤ smC (alT p t n o v fr) c ∧ smC (alT p t n o v fr) c ≤ 100000000000000000 := by
  have h1 : smC (alT p t n o v fr) c ≤ smC (alT p t n o v fr) 10 := smC_mono hc (fun x _ hx => (alT_bd hp ho hx hv).1)
  have h2 := (smC_bd (B := 10 ^ n * v) c (fun x hx => alT_bd hp ho (by omega) hv) : 0 ≤ smC (alT p t n o v fr) c ∧ _).1
  have h3 := (alG_bd hp t (n + 1) o v fr ho hv).2
  have h4 := big_bd (n := n + 1) (by omega) hv hv1
  rw [alG_s] at h3
  omega
/-- other tables, other ways to tell what is free -/
theorem alG_c {p p' : Nat → Nat → Int} (hp : ∀ o c, o < 20 → c < 10 → p o c = p' o c) (t n : Nat) : ∀ (o : Nat) (v : Int) (fr fr' : Nat → Bool), o < 20 → (∀ x, x < 10 → fr x = fr' x) → alG p t n o v fr = alG p' t n o v fr' := by
  induction n with
  | zero => exact fun _ _ _ _ _ _ => rfl
  | succ n ih =>
    intro o v fr fr' ho hf
    rw [alG_s, alG_s]
    refine smC_c 10 (fun c hc => ?_)
    have e1 := hp o c ho hc
    have e2 := hf c hc
    by_cases h : 0 < p o c ∧ fr c = true
    · have h' : 0 < p' o c ∧ fr' c = true := by rw [← e1, ← e2]; exact h
      by_cases e : c = t
      · rw [alT_t h e, alT_t h' e, e1]
      · rw [alT_n h e, alT_n h' e, e1]
        exact ih _ _ _ _ (by omega) (fun x hx => by rw [hf x hx])
    · have h' : ¬ (0 < p' o c ∧ fr' c = true) := by rw [← e1, ← e2]; exact h
      rw [alT_0 h, alT_0 h']
theorem al_dead {p : Nat → Nat → Int} {t : Nat} {lead : Nat → Bool} (hcl : ∀ c c', c < 10 → c' < 10 → 0 < p (10 + c) c' → lead c' = true → lead c = true) (ht : lead t = true) (n : Nat) : ∀ (c : Nat) (v : Int) (fr : Nat → Bool), c < 10 → lead c = false → alG p t n (10 + c) v fr = 0 := by
  induction n with
  | zero => exact fun _ _ _ _ _ => rfl
  | succ n ih =>
    intro c v fr hc hl
    rw [alG_s]
    refine smC_0 10 (fun c' hc' => ?_)
    by_cases h : 0 < p (10 + c) c' ∧ fr c' = true
    · have hl' : lead c' = false := by
        cases q : lead c' with
        | false => rfl
        | true =>
          have h9 := hcl c c' hc hc' h.1 q
          rw [hl] at h9
          cases h9
      have hne : ¬ c' = t := fun e => by
        rw [e, ht] at hl'
        cases hl'
      rw [alT_n h hne]
      exact ih c' _ _ hc' hl'
    · exact alT_0 h
/-- companies from which t can't be reached may be left out -/
theorem al_prune {p : Nat → Nat → Int} {t : Nat} {lead : Nat → Bool} (hcl : ∀ c c', c < 10 → c' < 10 → 0 < p (10 + c) c' → lead c' = true → lead c = true) (ht : lead t = true) (n : Nat) : ∀ (o : Nat) (v : Int) (fr : Nat → Bool), alG p t n o v fr = alG p t n o v (fun x => fr x && lead x) := by
  induction n with
  | zero => exact fun _ _ _ => rfl
  | succ n ih =>
    intro o v fr
    rw [alG_s, alG_s]
    refine smC_c 10 (fun c hc => ?_)
    by_cases h : 0 < p o c ∧ fr c = true
    · cases q : lead c with
      | true =>
        have h' : 0 < p o c ∧ (fr c && lead c) = true := ⟨h.1, by rw [h.2, q]; rfl⟩
        by_cases e : c = t
        · rw [alT_t h e, alT_t h' e]
        · rw [alT_n h e, alT_n h' e, ih]
          congr 1
          funext x
          cases fr x <;> cases lead x <;> cases decide (x = c) <;> rfl
      | false =>
        have hne : ¬ c = t := fun e => by
          rw [e, ht] at q
          cases q
        rw [alT_n h hne, al_dead hcl ht n c _ _ hc q]
        exact (alT_0 (fun z => by rw [q, Bool.and_false] at z; exact absurd z.2 (by decide))).symm
    · rw [alT_0 h]
      refine (alT_0 (fun z => h ⟨z.1, ?_⟩)).symm
      have z2 := z.2
      rw [Bool.and_eq_true] at z2
      exact z2.1
/-- who reaches whom, row by row -/
def wrV (B : Nat → Nat → Bool) : Nat → Nat → Nat → Bool
  | 0 => fun c d => B c d
  | k + 1 => fun c d => wrV B k c d || (wrV B k c k && wrV B k k d)
theorem wrV_s (B : Nat → Nat → Bool) (k c d : Nat) : wrV B (k + 1) c d = (wrV B k c d || (wrV B k c k && wrV B k k d)) := rfl
theorem wr_le {B : Nat → Nat → Bool} (k c d : Nat) (h : B c d = true) : wrV B k c d = true := by
  induction k with
  | zero => exact h
  | succ k ih => rw [wrV_s, ih]; rfl
theorem wr_trans {B : Nat → Nat → Bool} (k : Nat) : ∀ c j d, j < k → wrV B k c j = true → wrV B k j d = true → wrV B k c d = true := by
  induction k with
  | zero => exact fun c j d h => absurd h (by omega)
  | succ k ih =>
    intro c j d hj h1 h2
    rw [wrV_s, Bool.or_eq_true, Bool.and_eq_true] at h1 h2 ⊢
    by_cases e : j = k
    · rw [e] at h1 h2
      have a1 : wrV B k c k = true := by rcases h1 with h1 | h1; exact h1; exact h1.1
      have a2 : wrV B k k d = true := by rcases h2 with h2 | h2; exact h2; exact h2.2
      exact Or.inr ⟨a1, a2⟩
    · have hj' : j < k := by omega
      rcases h1 with h1 | ⟨h1, h1'⟩
      · rcases h2 with h2 | ⟨h2, h2'⟩
        · exact Or.inl (ih c j d hj' h1 h2)
        · exact Or.inr ⟨ih c j k hj' h1 h2, h2'⟩
      · rcases h2 with h2 | ⟨h2, h2'⟩
        · exact Or.inr ⟨h1, ih k j d hj' h1' h2⟩
        · exact Or.inr ⟨h1, h2'⟩
theorem wr_least {B : Nat → Nat → Bool} {Q : Nat → Nat → Prop} (hB : ∀ c d, B c d = true → Q c d) (hT : ∀ c j d, Q c j → Q j d → Q c d) (k : Nat) : ∀ c d, wrV B k c d = true → Q c d := by
  induction k with
  | zero => exact hB
  | succ k ih =>
    intro c d h
    rw [wrV_s, Bool.or_eq_true, Bool.and_eq_true] at h
    rcases h with h | h
    · exact ih c d h
    · exact hT c k d (ih c k h.1) (ih k d h.2)
/-- the company x stands on the path, from place 1 to i -/
def onP (mp : Nat → Int32) : Nat → Nat → Bool
  | 0 => fun _ => false
  | i + 1 => fun x => onP mp i x || decide ((mp (i + 1)).toInt = (x : Int) + 10)
theorem onP_s (mp : Nat → Int32) (i x : Nat) : onP mp (i + 1) x = (onP mp i x || decide ((mp (i + 1)).toInt = (x : Int) + 10)) := rfl
theorem onP_iff (mp : Nat → Int32) (i x : Nat) : onP mp i x = true ↔ ∃ j, 1 ≤ j ∧ j ≤ i ∧ (mp j).toInt = (x : Int) + 10 := by
  induction i with
  | zero => exact ⟨fun h => absurd h (by show ¬ (false = true); decide), fun h => by obtain ⟨j, h1, h2, -⟩ := h; omega⟩
  | succ i ih =>
    rw [onP_s, Bool.or_eq_true, ih, decide_eq_true_iff]
    constructor
    · rintro (⟨j, h1, h2, h3⟩ | h)
      · exact ⟨j, h1, by omega, h3⟩
      · exact ⟨i + 1, by omega, by omega, h⟩
    · rintro ⟨j, h1, h2, h3⟩
      by_cases e : j = i + 1
      · rw [e] at h3; exact Or.inr h3
      · exact Or.inl ⟨j, h1, by omega, h3⟩
theorem onP_same {mp mp' : Nat → Int32} (i : Nat) (h : ∀ j, j ≤ i → mp' j = mp j) (x : Nat) : onP mp' i x = onP mp i x := by
  induction i with
  | zero => rfl
  | succ i ih => rw [onP_s, onP_s, ih (fun j hj => h j (by omega)), h (i + 1) (by omega)]
/-- the parts of one place of the path -/
def gL (p : Nat → Nat → Int) (t : Nat) (mp : Nat → Int32) (mf : Nat → Int64) (i : Nat) : Nat → Int := alT p t (10 - i) (mp i).toNatClampNeg (mf i).toInt (fun x => !onP mp i x)
/-- what is still to come of the places ahead of n -/
def reS (p : Nat → Nat → Int) (t : Nat) (mp mt : Nat → Int32) (mf : Nat → Int64) : Nat → Int
  | 0 => 0
  | i + 1 => reS p t mp mt mf i + (smC (gL p t mp mf i) 10 - smC (gL p t mp mf i) ((mt i).toInt + 1).toNat)
theorem reS_s (p : Nat → Nat → Int) (t : Nat) (mp mt : Nat → Int32) (mf : Nat → Int64) (i : Nat) : reS p t mp mt mf (i + 1) = reS p t mp mt mf i + (smC (gL p t mp mf i) 10 - smC (gL p t mp mf i) ((mt i).toInt + 1).toNat) := rfl
theorem gL_same {p : Nat → Nat → Int} {t : Nat} {mp mp' : Nat → Int32} {mf mf' : Nat → Int64} {i : Nat} (h1 : ∀ j, j ≤ i → mp' j = mp j) (h3 : mf' i = mf i) : gL p t mp' mf' i = gL p t mp mf i := by
  unfold gL
  rw [h1 i (Nat.le_refl _), h3, show (fun x => !onP mp' i x) = (fun x => !onP mp i x) from funext (fun x => by rw [onP_same i h1 x])]
theorem reS_same {p : Nat → Nat → Int} {t : Nat} {mp mp' mt mt' : Nat → Int32} {mf mf' : Nat → Int64} (n : Nat) (h1 : ∀ j, j < n → mp' j = mp j) (h2 : ∀ j, j < n → mt' j = mt j) (h3 : ∀ j, j < n → mf' j = mf j) : reS p t mp' mt' mf' n = reS p t mp mt mf n := by
  induction n with
  | zero => rfl
  | succ n ih => rw [reS_s, reS_s, ih (fun j hj => h1 j (by omega)) (fun j hj => h2 j (by omega)) (fun j hj => h3 j (by omega)), gL_same (fun j hj => h1 j (by omega)) (h3 n (by omega)), h2 n (by omega)]
theorem reS_nn {p : Nat → Nat → Int} (hp : okp p) {t : Nat} {mp mt : Nat → Int32} {mf : Nat → Int64} (n : Nat) (h : ∀ i, i < n → (mp i).toNatClampNeg < 20 ∧ 0 ≤ (mf i).toInt ∧ (mt i).toInt ≤ 9) : 0 ≤ reS p t mp mt mf n := by
  induction n with
  | zero => exact Int.le_refl _
  | succ n ih =>
    have h1 := ih (fun i hi => h i (by omega))
    obtain ⟨a1, a2, a3⟩ := h n (by omega)
    have h2 : smC (gL p t mp mf n) ((mt n).toInt + 1).toNat ≤ smC (gL p t mp mf n) 10 := smC_mono (by omega) (fun c _ hc => (alT_bd hp a1 hc a2).1)
    rw [reS_s]
    omega
/-- the search: what was found, and what is to come -/
def dfI (p : Nat → Nat → Int) (t q : Nat) (sum : Int) (a met : Int32) (mp mt : Nat → Int32) (mf : Nat → Int64) : Prop := sum + reS p t mp mt mf (a.toInt + 1).toNat = alG p t 11 q 1000000 (fun _ => true) ∧ (∀ i : Nat, (i : Int) ≤ a.toInt → 0 ≤ (mf i).toInt ∧ (mf i).toInt ≤ 1000000) ∧ (0 ≤ a.toInt → ∀ x, x < 10 → bt met x = onP mp a.toNatClampNeg x) ∧ 0 ≤ sum
theorem okT_rng {a met : Int32} {mp mt : Nat → Int32} (h : okT a met mp mt) (i : Nat) (hi : (i : Int) ≤ a.toInt) : 0 ≤ (mp i).toInt ∧ (mp i).toInt < 20 ∧ -1 ≤ (mt i).toInt ∧ (mt i).toInt ≤ 9 := by
  obtain ⟨g1, g2, g3, g4, g5, g6, g7⟩ := h
  have h7 := g7 i hi
  by_cases e : i = 0
  · rw [e] at h7 ⊢; omega
  · have h5 := g5 i (by omega) hi; omega
theorem df_sum {p : Nat → Nat → Int} (hp : okp p) {t q : Nat} {sum : Int} {a met : Int32} {mp mt : Nat → Int32} {mf : Nat → Int64} (hT : okT a met mp mt) (h : dfI p t q sum a met mp mt mf) (hq : q < 20) : 0 ≤ sum ∧ sum ≤ 100000000000000000 := by
  obtain ⟨h1, h2, h3, h4⟩ := h
  have h5 := reS_nn hp (t := t) (mp := mp) (mt := mt) (mf := mf) (a.toInt + 1).toNat (fun i hi => by
    have r := okT_rng hT i (by omega)
    have c := i_cl r.1
    have m := h2 i (by omega)
    exact ⟨by omega, m.1, r.2.2.2⟩)
  have h6 := (alG_bd hp t 11 q 1000000 (fun _ => true) hq (by decide)).2
  have h7 := big_bd (n := 11) (v := 1000000) (by omega) (by decide) (by decide)
  omega
theorem df_0 {p : Nat → Nat → Int} {t : Nat} {q : Int32} {mp mt : Nat → Int32} {mf : Nat → Int64} (h0 : 0 ≤ q.toInt) : dfI p t q.toNatClampNeg 0 0 0 (upd mp ((0 : Int32).toNatClampNeg) q) (upd mt ((0 : Int32).toNatClampNeg) (-1)) (vp_updL mf ((0 : Int32).toNatClampNeg) 1000000) := by
  have k0 : (0 : Int32).toInt = 0 := rfl
  have km : (-1 : Int32).toInt = -1 := rfl
  have kl : (1000000 : Int64).toInt = 1000000 := by decide
  have c0 : (0 : Int32).toNatClampNeg = 0 := rfl
  rw [c0]
  refine ⟨?_, fun i hi => ?_, fun _ x hx => ?_, Int.le_refl _⟩
  · rw [k0, show ((0 : Int) + 1).toNat = 0 + 1 from rfl, reS_s, upd_s, km, show ((-1 : Int) + 1).toNat = 0 from rfl]
    have e : gL p t (upd mp 0 q) (vp_updL mf 0 1000000) 0 = alT p t 10 q.toNatClampNeg 1000000 (fun _ => true) := by
      unfold gL
      rw [upd_s, pk_uLs, kl]
      rfl
    rw [e, alG_s]
    show 0 + (0 + (smC (alT p t 10 q.toNatClampNeg 1000000 (fun _ => true)) 10 - 0)) = _
    omega
  · have : i = 0 := by omega
    subst this
    rw [pk_uLs, kl]
    omega
  · rw [b_0, c0]; rfl
theorem df_stay {p : Nat → Nat → Int} {t q : Nat} {sum sum' : Int} {a met c t' : Int32} {mp mt : Nat → Int32} {mf : Nat → Int64} (hT : okT a met mp mt) (h : dfI p t q sum a met mp mt mf) (h0 : 0 ≤ a.toInt) (ht : t' = mt a.toNatClampNeg) (hc : c.toInt = t'.toInt + 1) (hs : sum' = sum + gL p t mp mf a.toNatClampNeg c.toNatClampNeg) (hs0 : 0 ≤ sum') : dfI p t q sum' a met mp (upd mt a.toNatClampNeg c) mf := by
  have ca := i_cl h0
  have r := okT_rng hT a.toNatClampNeg (by omega)
  rw [← ht] at r
  have cc := i_cl (x := c) (by omega)
  obtain ⟨h1, h2, h3, h4⟩ := h
  refine ⟨?_, h2, h3, hs0⟩
  have en : (a.toInt + 1).toNat = a.toNatClampNeg + 1 := by omega
  rw [en, reS_s] at h1 ⊢
  rw [← ht] at h1
  rw [reS_same (mt := mt) (mp := mp) (mf := mf) a.toNatClampNeg (fun _ _ => rfl) (fun j hj => upd_n _ _ (by omega)) (fun _ _ => rfl), upd_s, show (c.toInt + 1).toNat = c.toNatClampNeg + 1 by omega, smC_s _ c.toNatClampNeg]
  rw [show (t'.toInt + 1).toNat = c.toNatClampNeg by omega] at h1
  omega
theorem df_pop {p : Nat → Nat → Int} {t q : Nat} {sum : Int} {a b met met' c t' : Int32} {mp mt : Nat → Int32} {mf : Nat → Int64} (hT : okT a met mp mt) (h : dfI p t q sum a met mp mt mf) (h0 : 0 ≤ a.toInt) (ht : t' = mt a.toNatClampNeg) (hc : t'.toInt = 9) (hb : b.toInt = a.toInt - 1) (hm : 0 < a.toInt → ∀ i, i < 10 → bt met' i = (bt met i && !decide (i = ((mp a.toNatClampNeg).toInt - 10).toNat))) : dfI p t q sum b met' mp (upd mt a.toNatClampNeg c) mf := by
  have ca := i_cl h0
  obtain ⟨h1, h2, h3, h4⟩ := h
  refine ⟨?_, fun i hi => h2 i (by omega), fun hb0 x hx => ?_, h4⟩
  · have en : (a.toInt + 1).toNat = a.toNatClampNeg + 1 := by omega
    have eb : (b.toInt + 1).toNat = a.toNatClampNeg := by omega
    rw [en, reS_s, ← ht, hc, show ((9 : Int) + 1).toNat = 10 from rfl] at h1
    rw [eb, reS_same (mt := mt) (mp := mp) (mf := mf) a.toNatClampNeg (fun _ _ => rfl) (fun j hj => upd_n _ _ (by omega)) (fun _ _ => rfl)]
    omega
  · have cb := i_cl hb0
    have hm := hm (by omega) x hx
    have h3 := h3 h0 x hx
    have ea : a.toNatClampNeg = b.toNatClampNeg + 1 := by omega
    have g5 := hT.2.2.2.2.1 a.toNatClampNeg (by omega) (by omega)
    rw [hm, h3]
    rw [ea] at g5 ⊢
    rw [onP_s]
    by_cases e : x = ((mp (b.toNatClampNeg + 1)).toInt - 10).toNat
    · have hn : onP mp b.toNatClampNeg x = false := by
        cases q9 : onP mp b.toNatClampNeg x with
        | false => rfl
        | true =>
          obtain ⟨j, j1, j2, j3⟩ := (onP_iff mp b.toNatClampNeg x).mp q9
          exact absurd (by omega) (hT.2.2.2.2.2.1 j (b.toNatClampNeg + 1) j1 (by omega) (by omega))
      rw [hn, decide_eq_true e]
      cases decide ((mp (b.toNatClampNeg + 1)).toInt = (x : Int) + 10) <;> rfl
    · rw [decide_eq_false e, decide_eq_false (by omega), Bool.or_false]
      cases onP mp b.toNatClampNeg x <;> rfl
theorem df_push {p : Nat → Nat → Int} {t q : Nat} {sum : Int} {a b met met' c t' x : Int32} {v : Int64} {mp mt : Nat → Int32} {mf : Nat → Int64} (hT : okT a met mp mt) (h : dfI p t q sum a met mp mt mf) (h0 : 0 ≤ a.toInt) (ht : t' = mt a.toNatClampNeg) (hc : c.toInt = t'.toInt + 1) (h9 : c.toInt ≤ 9) (hb : b.toInt = a.toInt + 1) (h10 : b.toInt ≤ 10) (hf : bt met c.toNatClampNeg = false) (hm : ∀ i, i < 10 → bt met' i = (bt met i || decide (i = c.toNatClampNeg))) (hx : x.toInt = c.toInt + 10) (hpp : 0 < p (mp a.toNatClampNeg).toNatClampNeg c.toNatClampNeg) (hne : ¬ c.toNatClampNeg = t) (hv : v.toInt = (mf a.toNatClampNeg).toInt * p (mp a.toNatClampNeg).toNatClampNeg c.toNatClampNeg / 100) (hv0 : 0 ≤ v.toInt) (hv1 : v.toInt ≤ 1000000) : dfI p t q sum b met' (upd mp b.toNatClampNeg x) (upd (upd mt a.toNatClampNeg c) b.toNatClampNeg (-1)) (vp_updL mf b.toNatClampNeg v) := by
  have ca := i_cl h0
  have cb := i_cl (x := b) (by omega)
  have r := okT_rng hT a.toNatClampNeg (by omega)
  rw [← ht] at r
  have cc := i_cl (x := c) (by omega)
  have cx := i_cl (x := x) (by omega)
  have km : (-1 : Int32).toInt = -1 := rfl
  obtain ⟨h1, h2, h3, h4⟩ := h
  have h3 := h3 h0
  have eb9 : b.toNatClampNeg = a.toNatClampNeg + 1 := by omega
  have hon : onP mp a.toNatClampNeg c.toNatClampNeg = false := by rw [← h3 _ (by omega)]; exact hf
  refine ⟨?_, fun i hi => ?_, fun _ y hy => ?_, h4⟩
  · have en : (a.toInt + 1).toNat = a.toNatClampNeg + 1 := by omega
    have em : (b.toInt + 1).toNat = b.toNatClampNeg + 1 := by omega
    rw [en, reS_s, ← ht, show (t'.toInt + 1).toNat = c.toNatClampNeg by omega] at h1
    rw [em, reS_s, upd_s, km, show ((-1 : Int) + 1).toNat = 0 from rfl, eb9, reS_s, ← eb9]
    rw [reS_same (mp := mp) (mt := mt) (mf := mf) a.toNatClampNeg (fun j hj => upd_n _ _ (by omega)) (fun j hj => by rw [upd_n _ _ (by omega), upd_n _ _ (by omega)]) (fun j hj => pk_uLn (by omega))]
    rw [gL_same (mp := mp) (mf := mf) (i := a.toNatClampNeg) (fun j hj => upd_n _ _ (by omega)) (pk_uLn (by omega))]
    rw [upd_n (upd mt a.toNatClampNeg c) (-1) (show a.toNatClampNeg ≠ b.toNatClampNeg by omega), upd_s, show (c.toInt + 1).toNat = c.toNatClampNeg + 1 by omega, smC_s _ c.toNatClampNeg]
    have e2 : smC (gL p t (upd mp b.toNatClampNeg x) (vp_updL mf b.toNatClampNeg v) b.toNatClampNeg) 10 = gL p t mp mf a.toNatClampNeg c.toNatClampNeg := by
      have e3 : gL p t mp mf a.toNatClampNeg c.toNatClampNeg = alG p t (10 - a.toNatClampNeg) (10 + c.toNatClampNeg) ((mf a.toNatClampNeg).toInt * p (mp a.toNatClampNeg).toNatClampNeg c.toNatClampNeg / 100) (fun y => !onP mp a.toNatClampNeg y && !decide (y = c.toNatClampNeg)) := alT_n ⟨hpp, by rw [hon]; rfl⟩ hne
      rw [e3, ← hv, show 10 - a.toNatClampNeg = (10 - b.toNatClampNeg) + 1 by omega, alG_s]
      unfold gL
      rw [upd_s, pk_uLs, show x.toNatClampNeg = 10 + c.toNatClampNeg by omega]
      congr 2
      funext y
      have e5 : onP (upd mp b.toNatClampNeg x) b.toNatClampNeg y = (onP mp a.toNatClampNeg y || decide (y = c.toNatClampNeg)) := by
        rw [eb9, onP_s, ← eb9, upd_s, onP_same (mp := mp) a.toNatClampNeg (fun j hj => upd_n _ _ (by omega)) y]
        congr 1
        exact decide_eq_decide.mpr ⟨fun z => by omega, fun z => by omega⟩
      rw [e5]
      cases onP mp a.toNatClampNeg y <;> cases decide (y = c.toNatClampNeg) <;> rfl
    rw [e2]
    rw [show smC (gL p t (upd mp b.toNatClampNeg x) (vp_updL mf b.toNatClampNeg v) b.toNatClampNeg) 0 = 0 from rfl]
    omega
  · by_cases e : i = b.toNatClampNeg
    · rw [e, pk_uLs]; exact ⟨hv0, hv1⟩
    · rw [pk_uLn e]; exact h2 i (by omega)
  · rw [hm y hy, h3 y hy, eb9, onP_s, ← eb9, upd_s, onP_same (mp := mp) a.toNatClampNeg (fun j hj => upd_n _ _ (by omega)) y]
    congr 1
    exact decide_eq_decide.mpr ⟨fun z => by omega, fun z => by omega⟩
/-- a share, by the parts p: person q, owner o -/
def shF (p : Nat → Nat → Int) (q o : Nat) : Int := if o < 10 then (if o = q then 1000000 else 0) else (if 2000000000 < alG p (o - 10) 11 q 1000000 (fun _ => true) then 2000000000 else alG p (o - 10) 11 q 1000000 (fun _ => true))
theorem shF_c {p p' : Nat → Nat → Int} (hp : ∀ o c, o < 20 → c < 10 → p o c = p' o c) {q : Nat} (hq : q < 20) (o : Nat) : shF p q o = shF p' q o := by
  unfold shF
  rw [alG_c hp (o - 10) 11 q 1000000 (fun _ => true) (fun _ => true) hq (fun _ _ => rfl)]
theorem shF_bd {p : Nat → Nat → Int} (hp : okp p) {q : Nat} (hq : q < 20) (o : Nat) : 0 ≤ shF p q o ∧ shF p q o ≤ 2000000000 := by
  unfold shF
  have h1 := (alG_bd hp (o - 10) 11 q 1000000 (fun _ => true) hq (by decide)).1
  (repeat' split) <;> omega
/-- who has of whom: the bits are those of the parts, and parts are parts by 100 -/
def okA (pt ha : Nat → Int32) : Prop := (∀ o i : Nat, o < 20 → i < 32 → (bt (ha o) i = true ↔ i < 10 ∧ 0 < (pt (o * 10 + i)).toInt)) ∧ (∀ j : Nat, j < 200 → 0 ≤ (pt j).toInt ∧ (pt j).toInt ≤ 100)
def okL (pt ha re : Nat → Int32) : Prop := okA pt ha ∧ ∀ c i : Nat, c < 10 → i < 32 → bt (re c) i = wrV (fun c9 i9 => bt (ha (10 + c9)) i9) 10 c i
/-- the parts as a table -/
def ptF (pt : Nat → Int32) : Nat → Nat → Int := fun o c => (pt (o * 10 + c)).toInt
theorem okA_p {pt ha : Nat → Int32} (h : okA pt ha) : okp (ptF pt) := fun o c ho hc => h.2 _ (by omega)
/-- the holdings, one after the other, as bits -/
def whQ (pt ho hc ha : Nat → Int32) (n : Int) : Prop := ∀ o i : Nat, o < 20 → i < 32 → (bt (ha o) i = true ↔ i < 10 ∧ 0 < (pt (o * 10 + i)).toInt ∧ ∃ k : Nat, (k : Int) < n ∧ (ho k).toInt = (o : Int) ∧ (hc k).toInt = (i : Int) + 10)
theorem whQ_0 {pt ho hc : Nat → Int32} : whQ pt ho hc (fun _ => 0) ((0 : Int32).toInt) := by
  intro o i h1 h2
  have k0 : (0 : Int32).toInt = 0 := rfl
  rw [b_0]
  exact ⟨fun h => (by cases h), fun h => by obtain ⟨-, -, k, h3, -⟩ := h; omega⟩
theorem whQ_up {pt ho hc ha : Nat → Int32} {n m : Int} {k : Nat} {O s w : Int32} (h : whQ pt ho hc ha n) (hk : (k : Int) = n) (hm : m = n + 1) (e1 : (ho k).toInt = O.toInt) (o0 : 0 ≤ O.toInt) (o1 : O.toInt < 20) (e2 : (hc k).toInt = s.toInt + 10) (s0 : 0 ≤ s.toInt) (s1 : s.toInt < 10) (hp : 0 < (pt (O.toNatClampNeg * 10 + s.toNatClampNeg)).toInt) (hw : w = ha O.toNatClampNeg ||| ((1 : Int32) <<< (s &&& 31))) : whQ pt ho hc (upd ha O.toNatClampNeg w) m := by
  have cO := i_cl o0
  have cs := i_cl s0
  intro o i h1 h2
  have h9 := h o i h1 h2
  by_cases eo : o = O.toNatClampNeg
  · rw [eo] at h9 ⊢
    rw [upd_s, hw, bt_set s0 (by omega) h2, Bool.or_eq_true, h9, decide_eq_true_iff]
    constructor
    · rintro (⟨a1, a2, j, a3, a4, a5⟩ | e)
      · exact ⟨a1, a2, j, by omega, a4, a5⟩
      · rw [e]; exact ⟨by omega, hp, k, by omega, by omega, by omega⟩
    · rintro ⟨a1, a2, j, a3, a4, a5⟩
      by_cases ej : j = k
      · rw [ej] at a5; exact Or.inr (by omega)
      · exact Or.inl ⟨a1, a2, j, by omega, a4, a5⟩
  · rw [upd_n _ _ eo, h9]
    constructor
    · rintro ⟨a1, a2, j, a3, a4, a5⟩
      exact ⟨a1, a2, j, by omega, a4, a5⟩
    · rintro ⟨a1, a2, j, a3, a4, a5⟩
      by_cases ej : j = k
      · rw [ej] at a4; exact absurd (by omega) eo
      · exact ⟨a1, a2, j, by omega, a4, a5⟩
theorem whQ_no {pt ho hc ha : Nat → Int32} {n m : Int} {k a : Nat} (h : whQ pt ho hc ha n) (hk : (k : Int) = n) (hm : m = n + 1) (ha9 : (a : Int) = (ho k).toInt * 10 + (hc k).toInt - 10) (hp : (pt a).toInt ≤ 0) : whQ pt ho hc ha m := by
  intro o i h1 h2
  rw [h o i h1 h2]
  constructor
  · rintro ⟨a1, a2, j, a3, a4, a5⟩
    exact ⟨a1, a2, j, by omega, a4, a5⟩
  · rintro ⟨a1, a2, j, a3, a4, a5⟩
    by_cases ej : j = k
    · rw [ej] at a4 a5
      rw [show o * 10 + i = a by omega] at a2
      omega
    · exact ⟨a1, a2, j, by omega, a4, a5⟩
/-- the rows, as far as they are closed -/
def crQ (B : Nat → Nat → Bool) (re : Nat → Int32) (k j : Nat) : Prop := ∀ c i : Nat, c < 10 → i < 32 → bt (re c) i = if c < j then wrV B (k + 1) c i else wrV B k c i
theorem crQ_0 {ha re : Nat → Int32} {a b n : Int32} (ea : a.toNatClampNeg = 10) (eb : b.toNatClampNeg = 0) (en : n.toNatClampNeg = 10) : crQ (fun c9 i9 => bt (ha (10 + c9)) i9) (va_cpy ha re a.toNatClampNeg b.toNatClampNeg n.toNatClampNeg) 0 0 := by
  intro c i h1 h2
  rw [ea, eb, en, if_neg (by omega)]
  unfold va_cpy
  rw [if_pos (by omega), Nat.sub_zero]
  rfl
theorem crQ_nx {B : Nat → Nat → Bool} {re : Nat → Int32} {k : Nat} (h : crQ B re k 10) : crQ B re (k + 1) 0 := fun c i h1 h2 => by rw [h c i h1 h2, if_pos h1, if_neg (by omega)]
theorem wr_kk (B : Nat → Nat → Bool) (k i : Nat) : wrV B (k + 1) k i = wrV B k k i := by
  rw [wrV_s]
  cases wrV B k k i <;> cases wrV B k k k <;> rfl
theorem crQ_up {B : Nat → Nat → Bool} {re : Nat → Int32} {k j j' : Nat} {w : Int32} (h : crQ B re k j) (hk : k < 10) (hj : j < 10) (ej : j' = j + 1) (hb : bt (re j) k = true) (hw : w = re j ||| re k) : crQ B (upd re j w) k j' := by
  have hjk := h j k hj (by omega)
  rw [if_neg (by omega), hb] at hjk
  intro c i h1 h2
  by_cases e : c = j
  · have e1 := h j i hj h2
    rw [if_neg (by omega)] at e1
    have e2 : bt (re k) i = wrV B k k i := by
      rw [h k i hk h2]
      split
      · exact wr_kk B k i
      · rfl
    rw [e, upd_s, hw, b_or, e1, e2, if_pos (by omega), wrV_s, ← hjk]
    rfl
  · rw [upd_n _ _ e, h c i h1 h2]
    by_cases l : c < j
    · rw [if_pos l, if_pos (by omega)]
    · rw [if_neg l, if_neg (by omega)]
theorem crQ_no {B : Nat → Nat → Bool} {re : Nat → Int32} {k j j' : Nat} (h : crQ B re k j) (hk : k < 10) (hj : j < 10) (ej : j' = j + 1) (hb : bt (re j) k = false) : crQ B re k j' := by
  have hjk := h j k hj (by omega)
  rw [if_neg (by omega), hb] at hjk
  intro c i h1 h2
  rw [h c i h1 h2]
  by_cases e : c = j
  · rw [e, if_neg (by omega), if_pos (by omega), wrV_s, ← hjk]
    cases wrV B k j i <;> rfl
  · by_cases l : c < j
    · rw [if_pos l, if_pos (by omega)]
    · rw [if_neg l, if_neg (by omega)]
/-- companies from which a can be reached, and a -/
def ldQ (re : Nat → Int32) (a : Nat) (set : Int32) (n : Nat) : Prop := ∀ i : Nat, i < 32 → bt set i = (decide (i = a) || (decide (i < n) && bt (re i) a))
theorem ldQ_up {re : Nat → Int32} {a n m : Nat} {set w c : Int32} (h : ldQ re a set n) (hc : c.toInt = n) (hn : n < 10) (hm : m = n + 1) (hb : bt (re n) a = true) (hw : w = set ||| ((1 : Int32) <<< (c &&& 31))) : ldQ re a w m := by
  have cc := i_cl (x := c) (by omega)
  intro i hi
  rw [hw, bt_set (by omega) (by omega) hi, h i hi, hm, show c.toNatClampNeg = n by omega]
  by_cases e : i = n
  · rw [e, hb]; simp
  · by_cases l : i < n
    · simp [e, l, show i < n + 1 by omega]
    · simp [e, l, show ¬ i < n + 1 by omega]
theorem ldQ_no {re : Nat → Int32} {a n m : Nat} {set : Int32} (h : ldQ re a set n) (hm : m = n + 1) (hb : bt (re n) a = false) : ldQ re a set m := by
  intro i hi
  rw [h i hi, hm]
  by_cases e : i = n
  · rw [e, hb]; simp
  · by_cases l : i < n
    · simp [l, show i < n + 1 by omega]
    · simp [l, show ¬ i < n + 1 by omega]
theorem pc_pos {ho hc hp hs : Nat → Int32} {d o c : Int32} (n : Nat) (h : 0 < (pcV ho hc hp hs d o c n).1.toInt) : ∃ k, k < n ∧ (ho k).toInt = o.toInt ∧ (hc k).toInt = c.toInt := by
  induction n with
  | zero => exact absurd h (by show ¬ (0 : Int) < (0 : Int32).toInt; decide)
  | succ n ih =>
    rw [pcV_s] at h
    split at h
    · rename_i g
      exact ⟨n, by omega, g.1, g.2.1⟩
    · obtain ⟨k, h1, h2, h3⟩ := ih h
      exact ⟨k, by omega, h2, h3⟩
/-- the percentages of the holdings -/
def okV (hn : Int32) (hp : Nat → Int32) : Prop := ∀ j : Nat, (j : Int) < hn.toInt → 0 ≤ (hp j).toInt ∧ (hp j).toInt ≤ 100
theorem pc_bd {ho hc hp hs : Nat → Int32} {d o c : Int32} (n : Nat) (h : ∀ j, j < n → 0 ≤ (hp j).toInt ∧ (hp j).toInt ≤ 100) : 0 ≤ (pcV ho hc hp hs d o c n).1.toInt ∧ (pcV ho hc hp hs d o c n).1.toInt ≤ 100 := by
  induction n with
  | zero => exact ⟨by show (0 : Int) ≤ (0 : Int32).toInt; decide, by show (0 : Int32).toInt ≤ 100; decide⟩
  | succ n ih =>
    rw [pcV_s]
    split
    · exact h n (by omega)
    · exact ih (fun j hj => h j (by omega))
/-- the part that o has of company 10 + c on a day -/
def ppF (ho hc hp hs : Nat → Int32) (d : Int32) (n : Nat) : Nat → Nat → Int := fun o c => (pcV ho hc hp hs d (nI o) (nI (c + 10)) n).1.toInt
theorem pcOk_at {pt ps ho hc hp hs : Nat → Int32} {d : Int32} {n : Nat} (h : pcOk pt ps ho hc hp hs d n) {o c : Nat} (h1 : o < 20) (h2 : c < 10) : (pt (o * 10 + c)).toInt = ppF ho hc hp hs d n o c := by
  have a1 := nI_clamp (n := o) (by omega)
  have a2 := nI_toInt (n := o) (by omega)
  have a3 := nI_clamp (n := c + 10) (by omega)
  have a4 := nI_toInt (n := c + 10) (by omega)
  have h9 := h (nI o) (nI (c + 10)) (by omega) (by omega) (by omega) (by omega)
  rw [a1, a3] at h9
  unfold ppF
  rw [← h9, show o * 10 + (c + 10) - 10 = o * 10 + c by omega]
theorem okA_of {pt ps ho hc hp hs ha : Nat → Int32} {d hn : Int32} (h : pcOk pt ps ho hc hp hs d hn.toNatClampNeg) (hw : whQ pt ho hc ha hn.toInt) (hv : okV hn hp) (h0 : 0 ≤ hn.toInt) : okA pt ha := by
  have ch := i_cl h0
  constructor
  · intro o i h1 h2
    rw [hw o i h1 h2]
    constructor
    · rintro ⟨a1, a2, -⟩
      exact ⟨a1, a2⟩
    · rintro ⟨a1, a2⟩
      refine ⟨a1, a2, ?_⟩
      rw [pcOk_at h h1 a1] at a2
      obtain ⟨k, k1, k2, k3⟩ := pc_pos _ a2
      rw [nI_toInt (by omega)] at k2 k3
      exact ⟨k, by omega, k2, by omega⟩
  · intro j hj
    have e : j = (j / 10) * 10 + j % 10 := by omega
    have h9 := pc_bd (ho := ho) (hc := hc) (hp := hp) (hs := hs) (d := d) (o := nI (j / 10)) (c := nI (j % 10 + 10)) hn.toNatClampNeg (fun k hk => hv k (by omega))
    have e2 := pcOk_at h (o := j / 10) (c := j % 10) (by omega) (by omega)
    unfold ppF at e2
    rw [← e] at e2
    omega
/-- along: with the bits of those that lead to t, or with all -/
theorem lead_all {pt ha re : Nat → Int32} {t q : Nat} {set : Int32} (h : okL pt ha re) (ht : t < 10) (hl : ldQ re t set 10) (n : Nat) (v : Int) (hq : q < 20) : alG (ptF pt) t n q v (fun x => bt set x) = alG (ptF pt) t n q v (fun _ => true) := by
  have hcl : ∀ c c', c < 10 → c' < 10 → 0 < ptF pt (10 + c) c' → bt set c' = true → bt set c = true := by
    intro c c' h1 h2 h3 h4
    rw [hl c (by omega), Bool.or_eq_true, Bool.and_eq_true, decide_eq_true_iff, decide_eq_true_iff]
    rw [hl c' (by omega), Bool.or_eq_true, Bool.and_eq_true, decide_eq_true_iff, decide_eq_true_iff] at h4
    have hb : bt (ha (10 + c)) c' = true := (h.1.1 (10 + c) c' (by omega) (by omega)).mpr ⟨h2, h3⟩
    have hb' := wr_le (B := fun c9 i9 => bt (ha (10 + c9)) i9) 10 c c' hb
    refine Or.inr ⟨h1, ?_⟩
    rw [h.2 c t h1 (by omega)]
    rcases h4 with h4 | ⟨-, h4⟩
    · rw [← h4]; exact hb'
    · rw [h.2 c' t h2 (by omega)] at h4
      exact wr_trans 10 c c' t h2 hb' h4
  have ht9 : bt set t = true := by
    rw [hl t (by omega), decide_eq_true rfl]
    rfl
  rw [al_prune (p := ptF pt) (t := t) (lead := fun x => bt set x) hcl ht9 n q v (fun _ => true)]
  exact alG_c (fun _ _ _ _ => rfl) t n q v _ _ hq (fun x hx => by rw [Bool.true_and])
theorem hbb {x c : Int32} (h0 : 0 ≤ c.toInt) (h1 : c.toInt < 32) : hbP x c ↔ bt x c.toNatClampNeg = true := by
  have hc := i_cl h0
  have key : bt ((x.toUInt32 >>> (c.toUInt32 &&& Int32.toUInt32 31)).toInt32 &&& 1) 0 = bt x c.toNatClampNeg := by
    have e : c = nI c.toNatClampNeg := (i_nI h0).symm
    rw [show (x.toUInt32 >>> (c.toUInt32 &&& Int32.toUInt32 31)).toInt32 = (x.toUInt32 >>> ((nI c.toNatClampNeg).toUInt32 &&& Int32.toUInt32 31)).toInt32 by rw [← e], b_and, b_ushr c.toNatClampNeg (by omega), bt_1 0 (by omega)]
    simp
  unfold hbP
  constructor
  · intro h
    cases e : bt x c.toNatClampNeg with
    | true => rfl
    | false =>
      exfalso
      apply h
      apply b_ext
      intro i hi
      rw [b_0]
      by_cases e0 : i = 0
      · subst e0; rw [key, e]
      · rw [b_and, bt_1 i hi]; simp [e0]
  · intro h q
    rw [q, b_0] at key
    rw [h] at key
    cases key
theorem hbn {x c : Int32} (h0 : 0 ≤ c.toInt) (h1 : c.toInt < 32) (h : ¬ hbP x c) : bt x c.toNatClampNeg = false := Bool.eq_false_iff.mpr (fun h9 => h ((hbb h0 h1).mpr h9))
theorem ush_0 {nx c w : Int32} (h0 : 0 ≤ c.toInt) (h1 : c.toInt < 32) (e : w = (nx.toUInt32 >>> (c.toUInt32 &&& Int32.toUInt32 31)).toInt32) (h : w.toInt = 0) : ∀ x, c.toNatClampNeg ≤ x → bt nx x = false := by
  have hc := i_cl h0
  intro x hx
  have hw : w = 0 := i_of h
  have e2 : c = nI c.toNatClampNeg := (i_nI h0).symm
  have h3 : bt w (x - c.toNatClampNeg) = bt nx x := by
    rw [e, show (nx.toUInt32 >>> (c.toUInt32 &&& Int32.toUInt32 31)).toInt32 = (nx.toUInt32 >>> ((nI c.toNatClampNeg).toUInt32 &&& Int32.toUInt32 31)).toInt32 by rw [← e2], b_ushr c.toNatClampNeg (by omega)]
    congr 1
    omega
  rw [← h3, hw, b_0]
theorem al_none {pt ha : Nat → Int32} (h : okA pt ha) {q t n c : Nat} {v : Int} {nx f : Int32} (hq : q < 20) (e : nx = ha q &&& f) (hz : ∀ x, c ≤ x → bt nx x = false) : ∀ x, c ≤ x → x < 10 → alT (ptF pt) t n q v (fun x9 => bt f x9) x = 0 := by
  intro x h1 h2
  refine alT_0 (fun z => ?_)
  have h3 := hz x h1
  rw [e, b_and, (h.1 q x hq (by omega)).mpr ⟨h2, z.1⟩, z.2] at h3
  cases h3
theorem al_bit {pt ha : Nat → Int32} (h : okA pt ha) {q c : Nat} {nx f : Int32} (hq : q < 20) (hc : c < 10) (e : nx = ha q &&& f) (hb : bt nx c = true) : 0 < ptF pt q c ∧ bt f c = true := by
  rw [e, b_and, Bool.and_eq_true] at hb
  exact ⟨((h.1 q c hq (by omega)).mp hb.1).2, hb.2⟩
theorem al_nobit {pt ha : Nat → Int32} (h : okA pt ha) {q c : Nat} {nx f : Int32} (hq : q < 20) (hc : c < 10) (e : nx = ha q &&& f) (hb : bt nx c = false) : ¬ (0 < ptF pt q c ∧ bt f c = true) := by
  intro z
  rw [e, b_and, (h.1 q c hq (by omega)).mpr ⟨hc, z.1⟩, z.2] at hb
  cases hb
theorem mul_bd {v q : Int} (h0 : 0 ≤ v) (h1 : v ≤ 1000000) (h2 : 0 ≤ q) (h3 : q ≤ 100) : 0 ≤ v * q ∧ v * q ≤ 100000000 := by
  have a1 := Int.mul_nonneg h0 h2
  have a2 : v * q ≤ v * 100 := Int.mul_le_mul_of_nonneg_left h3 h0
  omega
theorem pdiv {v q w z : Int32} (e1 : w = v * q) (e2 : z = w / 100) (h0 : 0 ≤ v.toInt) (h1 : v.toInt ≤ 1000000) (h2 : 0 ≤ q.toInt) (h3 : q.toInt ≤ 100) : z.toInt = v.toInt * q.toInt / 100 := by
  have hb := mul_bd h0 h1 h2 h3
  have hw : w.toInt = v.toInt * q.toInt := by rw [e1]; exact i_mul (by omega) (by omega)
  have k100 : (100 : Int32).toInt = 100 := by decide
  rw [e2, Int32.toInt_div, k100, hw, Int.tdiv_eq_ediv_of_nonneg hb.1]
  exact i_bmod (by omega) (by omega)
theorem ldQ_0 {re : Nat → Int32} {a set : Int32} (e : set = (1 : Int32) <<< (a &&& 31)) (h0 : 0 ≤ a.toInt) (h1 : a.toInt < 32) : ldQ re a.toNatClampNeg set 0 := by
  intro i hi
  rw [e, bt_shl h0 h1 hi, decide_eq_false (show ¬ i < 0 by omega)]
  cases decide (i = a.toNatClampNeg) <;> rfl
theorem mn_l {x y z : Int64} (e : z = if y < x then y else x) : z.toInt = if y.toInt < x.toInt then y.toInt else x.toInt := by
  rw [e]
  by_cases h : y < x
  · rw [if_pos h, if_pos (Int64.lt_iff_toInt_lt.mp h)]
  · rw [if_neg h, if_neg (fun h9 => h (Int64.lt_iff_toInt_lt.mpr h9))]

set_option maxHeartbeats 4000000 in
set_option maxRecDepth 100000 in
theorem ct_X3_place (l : Launch) (D : va_G) (cI cY cJ cQ : ClassId) (sz : Nat) (o : Int32) (k : Int32)  (h1 : 0 ≤ o.toInt) (h2 : o.toInt < 20) (h3 : 10 ≤ k.toInt) (h4 : k.toInt < 20)  : Met l yX3_place wsX3_place ({ frames := 0, cells := 0, slots := 0, locals := 0 }) (cPre D (ty4 cI cY cJ cQ) [] sz [.int o, .int k]) (va_Qi (fun (r : Int32) (u : Unit) => r.toInt = o.toInt * 10 + k.toInt - 10) (cB D (ty4 cI cY cJ cQ) (fun (u : Unit) => []) (va_A [] sz)) (va_A [] sz)) 0 0 (va_A [] sz) := by
  refine Met.ofW (cc := cX3_place) (maxL := 2) (ret := (some .int)) (by decide) rfl ?_
  intro p e s m args below meth c s₁ B hml hv
  obtain ⟨rfl, hsz, hP, hK, hD0, hN⟩ := hv
  have hx := B.exec
  have hb := B.bytes
  have hr := B.returns
  have hts := atoms_spec (ws := wsX3_place) B.pre
  have hown : s.vm.findClass RX3 = some m.cls := findClass_of_methodNamed B.named
  have hlocks := B.notSynchronized
  subst hsz
  have hD := hD0.self (sz := s.heap.size)
  generalize hAe : va_A [] s.heap.size = A at hD ⊢
  have hA : ∀ q : Nat, s.heap.size ≤ q → A q := fun q h => by rw [← hAe]; exact Or.inr h
  have hS : va_S A s.heap s.heap [] := va_S.rf
  have hP : va_P D vwCl [] s.heap := hP
  have hl := lv_entry ([.int o, .int k]) (n := 2) (Nat.le_of_ble_eq_true rfl)
  rw [lg_entry_eq]
  generalize (lg_sl ([.int o, .int k]) ++ List.replicate (2 - (lg_sl ([.int o, .int k])).length) Slot.unset).toArray = ls at hl ⊢
  have hl : lv_has ls 2 [(0, .int o), (1, .int k)] := hl
  have k10 : (10 : Int32).toInt = 10 := by decide
  refine lv_iload_n hx hb dX3_place_0 rfl (lv_at hl 0 rfl) ?_
  refine lv_bipush (v := 10) hx hb dX3_place_1 (by decide) ?_
  refine lv_imul hx hb dX3_place_3 ?_
  refine lv_topi (fun v1 ev1 => ?_)
  try have tv1 : v1.toInt = o.toInt * 10 := by rw [ev1]; exact (i_mul (x := o) (y := (10 : Int32)) (by rw [k10]; omega) (by rw [k10]; omega)).trans (by rw [k10])
  refine lv_iload_n hx hb dX3_place_4 rfl (lv_at hl 1 rfl) ?_
  refine lv_iadd hx hb dX3_place_5 ?_
  refine lv_topi (fun v2 ev2 => ?_)
  try have tv2 : v2.toInt = v1.toInt + k.toInt := by rw [ev2]; exact (i_add (x := v1) (y := k) (by omega) (by omega))
  refine lv_bipush (v := 10) hx hb dX3_place_6 (by decide) ?_
  refine lv_isub hx hb dX3_place_8 ?_
  refine lv_topi (fun v3 ev3 => ?_)
  try have tv3 : v3.toInt = v2.toInt - 10 := by rw [ev3]; exact (i_sub (x := v2) (y := (10 : Int32)) (by rw [k10]; omega) (by rw [k10]; omega)).trans (by rw [k10])
  have hP9 := hP
  have hD9 := hD
  exact W.iret (v := v3) hx hb hr (fun t ht hW => ⟨⟨v3, (), rfl, (by omega), by rw [ht]; exact hP9, va_K.moved hW.alike hK, hD9⟩, hS.F ht⟩) hS.2.2 dX3_place_9

set_option maxHeartbeats 4000000 in
set_option maxRecDepth 100000 in
theorem ct_X3_gatherWhoHas (l : Launch) (D : va_G) (cI cY cJ cQ : ClassId) (sz : Nat) (ad : Nat → Nat) (hn : Int32) (ho hc hp hs pt ha : Nat → Int32)  (h1 : 0 ≤ hn.toInt) (h2 : hn.toInt ≤ 40) (h3 : okH hn ho hc)  : Met l yX3_gatherWhoHas wsX3_gatherWhoHas ({ frames := 1, cells := 0, slots := 0, locals := 23 }) (cPre D (ty4 cI cY cJ cQ) [(oC3 ad hn), (aI cI (ad 23) 40 ho), (aI cI (ad 24) 40 hc), (aI cI (ad 25) 40 hp), (aI cI (ad 26) 40 hs), (aI cI (ad 27) 200 pt), (aI cI (ad 29) 20 ha)] sz [.ref (ad 2)]) (va_Qv (fun (u : (Nat → Int32)) => whQ pt ho hc u hn.toInt) (cB D (ty4 cI cY cJ cQ) (fun (u : (Nat → Int32)) => [(oC3 ad hn), (aI cI (ad 23) 40 ho), (aI cI (ad 24) 40 hc), (aI cI (ad 25) 40 hp), (aI cI (ad 26) 40 hs), (aI cI (ad 27) 200 pt), (aI cI (ad 29) 20 u)]) (va_A [(oC3 ad hn), (aI cI (ad 23) 40 ho), (aI cI (ad 24) 40 hc), (aI cI (ad 25) 40 hp), (aI cI (ad 26) 40 hs), (aI cI (ad 27) 200 pt), (aI cI (ad 29) 20 ha)] sz)) (va_A [(oC3 ad hn), (aI cI (ad 23) 40 ho), (aI cI (ad 24) 40 hc), (aI cI (ad 25) 40 hp), (aI cI (ad 26) 40 hs), (aI cI (ad 27) 200 pt), (aI cI (ad 29) 20 ha)] sz)) 0 0 (va_A [(oC3 ad hn), (aI cI (ad 23) 40 ho), (aI cI (ad 24) 40 hc), (aI cI (ad 25) 40 hp), (aI cI (ad 26) 40 hs), (aI cI (ad 27) 200 pt), (aI cI (ad 29) 20 ha)] sz) := by
  refine Met.ofW (cc := cX3_gatherWhoHas) (maxL := 2) (ret := none) (by decide) rfl ?_
  intro p e s m args below meth c s₁ B hml hv
  obtain ⟨rfl, hsz, hP, hK, hD0, hN⟩ := hv
  have hx := B.exec
  have hb := B.bytes
  have hr := B.returns
  have hts := atoms_spec (ws := wsX3_gatherWhoHas) B.pre
  have hown : s.vm.findClass RX3 = some m.cls := findClass_of_methodNamed B.named
  have hlocks := B.notSynchronized
  subst hsz
  have hD := hD0.self (sz := s.heap.size)
  generalize hAe : va_A [(oC3 ad hn), (aI cI (ad 23) 40 ho), (aI cI (ad 24) 40 hc), (aI cI (ad 25) 40 hp), (aI cI (ad 26) 40 hs), (aI cI (ad 27) 200 pt), (aI cI (ad 29) 20 ha)] s.heap.size = A at hD ⊢
  have hA : ∀ q : Nat, s.heap.size ≤ q → A q := fun q h => by rw [← hAe]; exact Or.inr h
  have hS : va_S A s.heap s.heap [] := va_S.rf
  have hP : va_P D vwCl [(oC3 ad hn), (aI cI (ad 23) 40 ho), (aI cI (ad 24) 40 hc), (aI cI (ad 25) 40 hp), (aI cI (ad 26) 40 hs), (aI cI (ad 27) 200 pt), (aI cI (ad 29) 20 ha)] s.heap := hP
  have hl := lv_entry ([.ref (ad 2)]) (n := 2) (Nat.le_of_ble_eq_true rfl)
  rw [lg_entry_eq]
  generalize (lg_sl ([.ref (ad 2)]) ++ List.replicate (2 - (lg_sl ([.ref (ad 2)])).length) Slot.unset).toArray = ls at hl ⊢
  have hl : lv_has ls 2 [(0, .ref (ad 2))] := hl
  have k0 : (0 : Int32).toInt = 0 := by decide
  have k1 : (1 : Int32).toInt = 1 := by decide
  have k10 : (10 : Int32).toInt = 10 := by decide
  refine lv_aload_n hx hb dX3_gatherWhoHas_0 rfl (lv_at hl 0 rfl) ?_
  refine va_get (D := D) (ci := 3) (v := .ref (ad 29)) (C := RX3) (T := TX3) (N := 9) hx hb hts inX3_gatherWhoHas_X3 hown hK hP 0 rfl rfl 7 (by decide) (hts (Cond.fieldLink RX3 30 "PortRooms$Holdings" "has" "[I") (wm_t (wm_l (wm_i 0 rfl)))) (fun _ h9 => h9) rfl dX3_gatherWhoHas_1 ?_
  refine lv_iconst (v := 0) hx hb dX3_gatherWhoHas_4 (by decide) ?_
  refine st_v (wr := [(oC3 ad hn), (aI cI (ad 23) 40 ho), (aI cI (ad 24) 40 hc), (aI cI (ad 25) 40 hp), (aI cI (ad 26) 40 hs), (aI cI (ad 27) 200 pt)]) (va_runS (As := [.ref (ad 29), .int 0]) (rest := []) ⟨hx, hb, hml, hown, hts⟩ (cFill l D cI cY cJ cQ _ (ad 29) 20 ha (0 : Int32) (by decide)) (va_cwS 2 hts gX3_gatherWhoHas_J7_fill_53178 rfl rfl rfl cdJ7_fill_53178 ⟨Nat.le_of_ble_eq_true rfl, Nat.le_of_ble_eq_true rfl⟩) (cPreS (hP.sub [6] rfl) hK (hD.sub [6] (by decide +kernel) rfl) hN) rfl rfl hl.1 rfl (lv_room (Nat.le_of_ble_eq_true rfl)) dX3_gatherWhoHas_5 ⟨Nat.le_of_ble_eq_true rfl, Nat.le_of_ble_eq_true rfl⟩) hP hD hS hA [6] [0, 1, 2, 3, 4, 5] rfl rfl (by decide +kernel) (by decide +kernel) (fun u1 H locs hw2 => ?_)
  clear hP hD hS
  intro hP hD hS
  replace hP : va_P D vwCl [(oC3 ad hn), (aI cI (ad 23) 40 ho), (aI cI (ad 24) 40 hc), (aI cI (ad 25) 40 hp), (aI cI (ad 26) 40 hs), (aI cI (ad 27) 200 pt), (aI cI (ad 29) 20 (fun _ => 0))] H := hP
  replace hD : va_D A [(oC3 ad hn), (aI cI (ad 23) 40 ho), (aI cI (ad 24) 40 hc), (aI cI (ad 25) 40 hp), (aI cI (ad 26) 40 hs), (aI cI (ad 27) 200 pt), (aI cI (ad 29) 20 (fun _ => 0))] := hD
  refine lv_iconst (v := 0) hx hb dX3_gatherWhoHas_8 (by decide) ?_
  refine lv_istore_n (lv' := [(1, .int 0), (0, .ref (ad 2))]) hx hb dX3_gatherWhoHas_9 rfl hl (by decide) rfl (fun ls hl => ?_)
  refine st_loop 10 (fun _ => []) (fun (z : Int32 × (Nat → Int32)) (ls : Array Slot) (H : Heap) (locs : List Loc) => match z with | (q10_1, haq) => (0 ≤ q10_1.toInt) ∧ (q10_1.toInt ≤ hn.toInt) ∧ (whQ pt ho hc haq q10_1.toInt) ∧ lv_has ls 2 [(0, .ref (ad 2)), (1, .int q10_1)] ∧ va_P D vwCl [(oC3 ad hn), (aI cI (ad 23) 40 ho), (aI cI (ad 24) 40 hc), (aI cI (ad 25) 40 hp), (aI cI (ad 26) 40 hs), (aI cI (ad 27) 200 pt), (aI cI (ad 29) 20 haq)] H ∧ va_D A [(oC3 ad hn), (aI cI (ad 23) 40 ho), (aI cI (ad 24) 40 hc), (aI cI (ad 25) 40 hp), (aI cI (ad 26) 40 hs), (aI cI (ad 27) 200 pt), (aI cI (ad 29) 20 haq)] ∧ va_S A s.heap H locs) (fun (z : Int32 × (Nat → Int32)) => match z with | (q10_1, haq) => hn.toInt - q10_1.toInt) ?_ ?_ ((0 : Int32), (fun _ => 0)) ⟨(by omega), (by omega), (by exact whQ_0), lv_sub hl [1, 0] rfl, hP, hD, hS⟩
  · rintro ⟨q10_1, haq⟩ ls H locs ⟨g4, g5, g6, hl, hP, hD, hS⟩
    show (0 : Int) ≤ hn.toInt - q10_1.toInt
    omega
  · rintro n9 ih7 ⟨q10_1, haq⟩ ls H locs ⟨g4, g5, g6, hl, hP, hD, hS⟩ hm8
    have hm8 : hn.toInt - q10_1.toInt < (n9 : Int) + 1 := hm8
    replace hl : lv_has ls 2 [(0, .ref (ad 2)), (1, .int q10_1)] := hl
    replace hP : va_P D vwCl [(oC3 ad hn), (aI cI (ad 23) 40 ho), (aI cI (ad 24) 40 hc), (aI cI (ad 25) 40 hp), (aI cI (ad 26) 40 hs), (aI cI (ad 27) 200 pt), (aI cI (ad 29) 20 haq)] H := hP
    replace hD : va_D A [(oC3 ad hn), (aI cI (ad 23) 40 ho), (aI cI (ad 24) 40 hc), (aI cI (ad 25) 40 hp), (aI cI (ad 26) 40 hs), (aI cI (ad 27) 200 pt), (aI cI (ad 29) 20 haq)] := hD
    show W _ _ _ _ _ _ _ _ _ _ _ _ _ _ _ (F0 m 10 ls [])
    refine lv_iload_n hx hb dX3_gatherWhoHas_10 rfl (lv_at hl 1 rfl) ?_
    refine lv_aload_n hx hb dX3_gatherWhoHas_11 rfl (lv_at hl 0 rfl) ?_
    refine va_get (D := D) (ci := 3) (v := .int hn) (C := RX3) (T := TX3) (N := 9) hx hb hts inX3_gatherWhoHas_X3 hown hK hP 0 rfl rfl 4 (by decide) (hts (Cond.fieldLink RX3 36 "PortRooms$Holdings" "count" "I") (wm_t (wm_l (wm_i 1 rfl)))) (fun _ h9 => h9) rfl dX3_gatherWhoHas_12 ?_
    refine lv_icmp_ge (tgt := 72) hx hb dX3_gatherWhoHas_15 (by decide) (fun c10 => ?_) (fun c10 => ?_)
    · skip
      have f11 := i_le c10
      have hP9 := hP
      have hD9 := hD
      exact W.vret hx hb hr (fun t ht hW => ⟨⟨haq, rfl, (by have h9 := g6; rw [show q10_1.toInt = hn.toInt by omega] at h9; exact h9), by rw [ht]; exact hP9, va_K.moved hW.alike hK, hD9⟩, hS.F ht⟩) hS.2.2 dX3_gatherWhoHas_72
    · skip
      have f12 := i_nle c10
      refine lv_aload_n hx hb dX3_gatherWhoHas_18 rfl (lv_at hl 0 rfl) ?_
      refine va_get (D := D) (ci := 3) (v := .ref (ad 27)) (C := RX3) (T := TX3) (N := 9) hx hb hts inX3_gatherWhoHas_X3 hown hK hP 0 rfl rfl 5 (by decide) (hts (Cond.fieldLink RX3 24 "PortRooms$Holdings" "part" "[I") (wm_t (wm_l (wm_i 2 rfl)))) (fun _ h9 => h9) rfl dX3_gatherWhoHas_19 ?_
      refine lv_aload_n hx hb dX3_gatherWhoHas_22 rfl (lv_at hl 0 rfl) ?_
      refine va_get (D := D) (ci := 3) (v := .ref (ad 23)) (C := RX3) (T := TX3) (N := 9) hx hb hts inX3_gatherWhoHas_X3 hown hK hP 0 rfl rfl 0 (by decide) (hts (Cond.fieldLink RX3 9 "PortRooms$Holdings" "owner" "[I") (wm_t (wm_l (wm_i 3 rfl)))) (fun _ h9 => h9) rfl dX3_gatherWhoHas_23 ?_
      refine lv_iload_n hx hb dX3_gatherWhoHas_26 rfl (lv_at hl 1 rfl) ?_
      refine va_iald hx hb hK hP 1 0 rfl rfl (i_in (by omega) (by omega)) dX3_gatherWhoHas_27 ?_
      refine lv_topi (fun v13 ev13 => ?_)
      have tlv13 : v13.toInt = (ho q10_1.toNatClampNeg).toInt := by rw [ev13]
      have qv13 := okH_o h3 ev13 (by omega) (by omega)
      refine lv_aload_n hx hb dX3_gatherWhoHas_28 rfl (lv_at hl 0 rfl) ?_
      refine va_get (D := D) (ci := 3) (v := .ref (ad 24)) (C := RX3) (T := TX3) (N := 9) hx hb hts inX3_gatherWhoHas_X3 hown hK hP 0 rfl rfl 1 (by decide) (hts (Cond.fieldLink RX3 15 "PortRooms$Holdings" "company" "[I") (wm_t (wm_l (wm_i 4 rfl)))) (fun _ h9 => h9) rfl dX3_gatherWhoHas_29 ?_
      refine lv_iload_n hx hb dX3_gatherWhoHas_32 rfl (lv_at hl 1 rfl) ?_
      refine va_iald hx hb hK hP 2 0 rfl rfl (i_in (by omega) (by omega)) dX3_gatherWhoHas_33 ?_
      refine lv_topi (fun v14 ev14 => ?_)
      have tlv14 : v14.toInt = (hc q10_1.toNatClampNeg).toInt := by rw [ev14]
      have qv14 := okH_c h3 ev14 (by omega) (by omega)
      refine st_i1 (va_runS (As := [.int v13, .int v14]) (rest := [.ref (ad 27)]) ⟨hx, hb, hml, hown, hts⟩ (ct_X3_place l D cI cY cJ cQ _ v13 v14 (by omega) (by omega) (by omega) (by omega)) (va_cwS 2 hts gX3_gatherWhoHas_X3_place rfl rfl rfl cdX3_place ⟨Nat.le_of_ble_eq_true rfl, Nat.le_of_ble_eq_true rfl⟩) (cPreS (hP.sub [] rfl) hK (hD.sub [] (by decide +kernel) rfl) hN) rfl rfl hl.1 rfl (lv_room (Nat.le_of_ble_eq_true rfl)) dX3_gatherWhoHas_34 ⟨Nat.le_of_ble_eq_true rfl, Nat.le_of_ble_eq_true rfl⟩) hP hD hS hA [] rfl (fun _ => rfl) (fun r17 u15 H locs hw16 => ?_)
      clear hP hS
      intro hP hS
      replace hw16 : r17.toInt = v13.toInt * 10 + v14.toInt - 10 := hw16
      refine va_iald hx hb hK hP 5 0 rfl rfl (i_in (by omega) (by omega)) dX3_gatherWhoHas_37 ?_
      refine lv_topi (fun v18 ev18 => ?_)
      have tlv18 : v18.toInt = (pt r17.toNatClampNeg).toInt := by rw [ev18]
      refine lv_if_le (tgt := 66) hx hb dX3_gatherWhoHas_38 (by decide) (fun c19 => ?_) (fun c19 => ?_)
      · skip
        have f20 := i_le c19
        obtain ⟨v21, ev21⟩ : ∃ y : Int32, y = q10_1 + 1 := ⟨_, rfl⟩
        try have tv21 : v21.toInt = q10_1.toInt + 1 := by rw [ev21]; exact (i_add (x := q10_1) (y := (1 : Int32)) (by rw [k1]; omega) (by rw [k1]; omega)).trans (by rw [k1])
        refine lv_iinc (v := v21) (lv' := [(1, .int v21), (0, .ref (ad 2))]) hx hb dX3_gatherWhoHas_66 hl (k := 1) rfl (by rw [ev21]; rfl) (by decide) rfl (fun ls hl => ?_)
        refine lv_goto (tgt := 10) hx hb dX3_gatherWhoHas_69 (by decide) ?_
        have clc22 := i_cl (x := q10_1) (by omega)
        have clc23 := i_cl (x := v21) (by omega)
        have clc24 := i_cl (x := r17) (by omega)
        exact ih7 (v21, haq) ls H locs ⟨(by omega), (by omega), (by exact whQ_no (k := q10_1.toNatClampNeg) (a := r17.toNatClampNeg) g6 (by omega) (by omega) (by omega) (by omega)), lv_sub hl [1, 0] rfl, hP.sub [0, 1, 2, 3, 4, 5, 6] rfl, hD.sub [0, 1, 2, 3, 4, 5, 6] (by decide +kernel) rfl, hS⟩ (by show hn.toInt - v21.toInt < _; omega)
      · skip
        have f25 := i_nle c19
        refine lv_aload_n hx hb dX3_gatherWhoHas_41 rfl (lv_at hl 0 rfl) ?_
        refine va_get (D := D) (ci := 3) (v := .ref (ad 29)) (C := RX3) (T := TX3) (N := 9) hx hb hts inX3_gatherWhoHas_X3 hown hK hP 0 rfl rfl 7 (by decide) (hts (Cond.fieldLink RX3 30 "PortRooms$Holdings" "has" "[I") (wm_t (wm_l (wm_i 0 rfl)))) (fun _ h9 => h9) rfl dX3_gatherWhoHas_42 ?_
        refine lv_aload_n hx hb dX3_gatherWhoHas_45 rfl (lv_at hl 0 rfl) ?_
        refine va_get (D := D) (ci := 3) (v := .ref (ad 23)) (C := RX3) (T := TX3) (N := 9) hx hb hts inX3_gatherWhoHas_X3 hown hK hP 0 rfl rfl 0 (by decide) (hts (Cond.fieldLink RX3 9 "PortRooms$Holdings" "owner" "[I") (wm_t (wm_l (wm_i 3 rfl)))) (fun _ h9 => h9) rfl dX3_gatherWhoHas_46 ?_
        refine lv_iload_n hx hb dX3_gatherWhoHas_49 rfl (lv_at hl 1 rfl) ?_
        refine va_iald hx hb hK hP 1 0 rfl rfl (i_in (by omega) (by omega)) dX3_gatherWhoHas_50 ?_
        refine lv_topi (fun v26 ev26 => ?_)
        have tlv26 : v26.toInt = (ho q10_1.toNatClampNeg).toInt := by rw [ev26]
        have qv26 := okH_o h3 ev26 (by omega) (by omega)
        refine lv_dup2_11 hx hb dX3_gatherWhoHas_51 rfl rfl ?_
        refine va_iald hx hb hK hP 6 0 rfl rfl (i_in (by omega) (by omega)) dX3_gatherWhoHas_52 ?_
        refine lv_topi (fun v27 ev27 => ?_)
        have tlv27 : v27.toInt = (haq v26.toNatClampNeg).toInt := by rw [ev27]
        refine lv_iconst (v := 1) hx hb dX3_gatherWhoHas_53 (by decide) ?_
        refine lv_aload_n hx hb dX3_gatherWhoHas_54 rfl (lv_at hl 0 rfl) ?_
        refine va_get (D := D) (ci := 3) (v := .ref (ad 24)) (C := RX3) (T := TX3) (N := 9) hx hb hts inX3_gatherWhoHas_X3 hown hK hP 0 rfl rfl 1 (by decide) (hts (Cond.fieldLink RX3 15 "PortRooms$Holdings" "company" "[I") (wm_t (wm_l (wm_i 4 rfl)))) (fun _ h9 => h9) rfl dX3_gatherWhoHas_55 ?_
        refine lv_iload_n hx hb dX3_gatherWhoHas_58 rfl (lv_at hl 1 rfl) ?_
        refine va_iald hx hb hK hP 2 0 rfl rfl (i_in (by omega) (by omega)) dX3_gatherWhoHas_59 ?_
        refine lv_topi (fun v28 ev28 => ?_)
        have tlv28 : v28.toInt = (hc q10_1.toNatClampNeg).toInt := by rw [ev28]
        have qv28 := okH_c h3 ev28 (by omega) (by omega)
        refine lv_bipush (v := 10) hx hb dX3_gatherWhoHas_60 (by decide) ?_
        refine lv_isub hx hb dX3_gatherWhoHas_62 ?_
        refine lv_topi (fun v29 ev29 => ?_)
        try have tv29 : v29.toInt = v28.toInt - 10 := by rw [ev29]; exact (i_sub (x := v28) (y := (10 : Int32)) (by rw [k10]; omega) (by rw [k10]; omega)).trans (by rw [k10])
        refine lv_ishl hx hb dX3_gatherWhoHas_63 ?_
        refine lv_topi (fun v30 ev30 => ?_)
        refine lv_ior hx hb dX3_gatherWhoHas_64 ?_
        refine lv_topi (fun v31 ev31 => ?_)
        refine va_iast hx hb hK hP hD hS 6 0 rfl rfl (i_in (by omega) (by omega)) dX3_gatherWhoHas_65 (fun H locs => ?_)
        clear hP hD hS
        intro hP hD hS
        replace hP : va_P D vwCl [(oC3 ad hn), (aI cI (ad 23) 40 ho), (aI cI (ad 24) 40 hc), (aI cI (ad 25) 40 hp), (aI cI (ad 26) 40 hs), (aI cI (ad 27) 200 pt), (aI cI (ad 29) 20 (upd haq v26.toNatClampNeg v31))] H := hP
        replace hD : va_D A [(oC3 ad hn), (aI cI (ad 23) 40 ho), (aI cI (ad 24) 40 hc), (aI cI (ad 25) 40 hp), (aI cI (ad 26) 40 hs), (aI cI (ad 27) 200 pt), (aI cI (ad 29) 20 (upd haq v26.toNatClampNeg v31))] := hD
        obtain ⟨v32, ev32⟩ : ∃ y : Int32, y = q10_1 + 1 := ⟨_, rfl⟩
        try have tv32 : v32.toInt = q10_1.toInt + 1 := by rw [ev32]; exact (i_add (x := q10_1) (y := (1 : Int32)) (by rw [k1]; omega) (by rw [k1]; omega)).trans (by rw [k1])
        refine lv_iinc (v := v32) (lv' := [(1, .int v32), (0, .ref (ad 2))]) hx hb dX3_gatherWhoHas_66 hl (k := 1) rfl (by rw [ev32]; rfl) (by decide) rfl (fun ls hl => ?_)
        refine lv_goto (tgt := 10) hx hb dX3_gatherWhoHas_69 (by decide) ?_
        have clc33 := i_cl (x := q10_1) (by omega)
        have clc34 := i_cl (x := v32) (by omega)
        have clc35 := i_cl (x := r17) (by omega)
        have clc36 := i_cl (x := v26) (by omega)
        have clc37 := i_cl (x := v29) (by omega)
        exact ih7 (v32, upd haq v26.toNatClampNeg v31) ls H locs ⟨(by omega), (by omega), (by exact whQ_up (k := q10_1.toNatClampNeg) (O := v26) (s := v29) g6 (by omega) (by omega) (by omega) (by omega) (by omega) (by omega) (by omega) (by omega) (by rw [show v26.toNatClampNeg * 10 + v29.toNatClampNeg = r17.toNatClampNeg by omega]; omega) (by rw [ev31, ev30, ev27])), lv_sub hl [1, 0] rfl, hP.sub [0, 1, 2, 3, 4, 5, 6] rfl, hD.sub [0, 1, 2, 3, 4, 5, 6] (by decide +kernel) rfl, hS⟩ (by show hn.toInt - v32.toInt < _; omega)

set_option maxHeartbeats 4000000 in
set_option maxRecDepth 100000 in
theorem ct_X3_closeReach (l : Launch) (D : va_G) (cI cY cJ cQ : ClassId) (sz : Nat) (ad : Nat → Nat) (hn : Int32) (ha re : Nat → Int32)   : Met l yX3_closeReach wsX3_closeReach ({ frames := 1, cells := 0, slots := 0, locals := 40 }) (cPre D (ty4 cI cY cJ cQ) [(oC3 ad hn), (aI cI (ad 29) 20 ha), (aI cI (ad 30) 10 re)] sz [.ref (ad 2)]) (va_Qv (fun (u : (Nat → Int32)) => ∀ c i : Nat, c < 10 → i < 32 → bt (u c) i = wrV (fun c9 i9 => bt (ha (10 + c9)) i9) 10 c i) (cB D (ty4 cI cY cJ cQ) (fun (u : (Nat → Int32)) => [(oC3 ad hn), (aI cI (ad 29) 20 ha), (aI cI (ad 30) 10 u)]) (va_A [(oC3 ad hn), (aI cI (ad 29) 20 ha), (aI cI (ad 30) 10 re)] sz)) (va_A [(oC3 ad hn), (aI cI (ad 29) 20 ha), (aI cI (ad 30) 10 re)] sz)) 0 0 (va_A [(oC3 ad hn), (aI cI (ad 29) 20 ha), (aI cI (ad 30) 10 re)] sz) := by
  refine Met.ofW (cc := cX3_closeReach) (maxL := 3) (ret := none) (by decide) rfl ?_
  intro p e s m args below meth c s₁ B hml hv
  obtain ⟨rfl, hsz, hP, hK, hD0, hN⟩ := hv
  have hx := B.exec
  have hb := B.bytes
  have hr := B.returns
  have hts := atoms_spec (ws := wsX3_closeReach) B.pre
  have hown : s.vm.findClass RX3 = some m.cls := findClass_of_methodNamed B.named
  have hlocks := B.notSynchronized
  subst hsz
  have hD := hD0.self (sz := s.heap.size)
  generalize hAe : va_A [(oC3 ad hn), (aI cI (ad 29) 20 ha), (aI cI (ad 30) 10 re)] s.heap.size = A at hD ⊢
  have hA : ∀ q : Nat, s.heap.size ≤ q → A q := fun q h => by rw [← hAe]; exact Or.inr h
  have hS : va_S A s.heap s.heap [] := va_S.rf
  have hP : va_P D vwCl [(oC3 ad hn), (aI cI (ad 29) 20 ha), (aI cI (ad 30) 10 re)] s.heap := hP
  have hl := lv_entry ([.ref (ad 2)]) (n := 3) (Nat.le_of_ble_eq_true rfl)
  rw [lg_entry_eq]
  generalize (lg_sl ([.ref (ad 2)]) ++ List.replicate (3 - (lg_sl ([.ref (ad 2)])).length) Slot.unset).toArray = ls at hl ⊢
  have hl : lv_has ls 3 [(0, .ref (ad 2))] := hl
  have k0 : (0 : Int32).toInt = 0 := by decide
  have k1 : (1 : Int32).toInt = 1 := by decide
  have k10 : (10 : Int32).toInt = 10 := by decide
  refine lv_aload_n hx hb dX3_closeReach_0 rfl (lv_at hl 0 rfl) ?_
  refine va_get (D := D) (ci := 3) (v := .ref (ad 29)) (C := RX3) (T := TX3) (N := 9) hx hb hts inX3_closeReach_X3 hown hK hP 0 rfl rfl 7 (by decide) (hts (Cond.fieldLink RX3 30 "PortRooms$Holdings" "has" "[I") (wm_t (wm_l (wm_i 0 rfl)))) (fun _ h9 => h9) rfl dX3_closeReach_1 ?_
  refine lv_bipush (v := 10) hx hb dX3_closeReach_4 (by decide) ?_
  refine lv_aload_n hx hb dX3_closeReach_6 rfl (lv_at hl 0 rfl) ?_
  refine va_get (D := D) (ci := 3) (v := .ref (ad 30)) (C := RX3) (T := TX3) (N := 9) hx hb hts inX3_closeReach_X3 hown hK hP 0 rfl rfl 8 (by decide) (hts (Cond.fieldLink RX3 33 "PortRooms$Holdings" "reach" "[I") (wm_t (wm_l (wm_i 1 rfl)))) (fun _ h9 => h9) rfl dX3_closeReach_7 ?_
  refine lv_iconst (v := 0) hx hb dX3_closeReach_10 (by decide) ?_
  refine lv_bipush (v := 10) hx hb dX3_closeReach_11 (by decide) ?_
  refine va_copyi hx hb (hml.trans hl.1.symm) hown (hts (Cond.methodLink RX3 56 arraycopyName) (wm_t (wm_l (wm_i 2 rfl)))) (hts (Cond.native arraycopyName) (wm_t (wm_l (wm_i 3 rfl)))) (hts (Cond.static arraycopyName) (wm_t (wm_l (wm_i 4 rfl)))) (hts (Cond.initialized "java/lang/System") (wm_t (wm_l (wm_i 5 rfl)))) hK hP hD hS 1 2 0 0 rfl rfl rfl rfl rfl (by decide) (by decide) (by decide) (by decide +kernel) (by decide +kernel) (fun _ _ => rfl) (Nat.le_of_ble_eq_true rfl) (Nat.le_of_ble_eq_true rfl) dX3_closeReach_13 (fun H locs => ?_)
  clear hP hD hS
  intro hP hD hS
  replace hP : va_P D vwCl [(oC3 ad hn), (aI cI (ad 29) 20 ha), (aI cI (ad 30) 10 (va_cpy ha re ((10 : Int32).toNatClampNeg) ((0 : Int32).toNatClampNeg) ((10 : Int32).toNatClampNeg)))] H := hP
  replace hD : va_D A [(oC3 ad hn), (aI cI (ad 29) 20 ha), (aI cI (ad 30) 10 (va_cpy ha re ((10 : Int32).toNatClampNeg) ((0 : Int32).toNatClampNeg) ((10 : Int32).toNatClampNeg)))] := hD
  refine lv_iconst (v := 0) hx hb dX3_closeReach_16 (by decide) ?_
  refine lv_istore_n (lv' := [(1, .int 0), (0, .ref (ad 2))]) hx hb dX3_closeReach_17 rfl hl (by decide) rfl (fun ls hl => ?_)
  refine st_loop 18 (fun _ => []) (fun (z : Int32 × (Nat → Int32)) (ls : Array Slot) (H : Heap) (locs : List Loc) => match z with | (q18_1, rea) => (0 ≤ q18_1.toInt) ∧ (q18_1.toInt ≤ 10) ∧ (crQ (fun c9 i9 => bt (ha (10 + c9)) i9) rea q18_1.toNatClampNeg 0) ∧ lv_has ls 3 [(0, .ref (ad 2)), (1, .int q18_1)] ∧ va_P D vwCl [(oC3 ad hn), (aI cI (ad 29) 20 ha), (aI cI (ad 30) 10 rea)] H ∧ va_D A [(oC3 ad hn), (aI cI (ad 29) 20 ha), (aI cI (ad 30) 10 rea)] ∧ va_S A s.heap H locs) (fun (z : Int32 × (Nat → Int32)) => match z with | (q18_1, rea) => 10 - q18_1.toInt) ?_ ?_ ((0 : Int32), va_cpy ha re ((10 : Int32).toNatClampNeg) ((0 : Int32).toNatClampNeg) ((10 : Int32).toNatClampNeg)) ⟨(by omega), (by omega), (by exact crQ_0 rfl rfl rfl), lv_sub hl [1, 0] rfl, hP, hD, hS⟩
  · rintro ⟨q18_1, rea⟩ ls H locs ⟨g1, g2, g3, hl, hP, hD, hS⟩
    show (0 : Int) ≤ 10 - q18_1.toInt
    omega
  · rintro n6 ih4 ⟨q18_1, rea⟩ ls H locs ⟨g1, g2, g3, hl, hP, hD, hS⟩ hm5
    have hm5 : 10 - q18_1.toInt < (n6 : Int) + 1 := hm5
    replace hl : lv_has ls 3 [(0, .ref (ad 2)), (1, .int q18_1)] := hl
    replace hP : va_P D vwCl [(oC3 ad hn), (aI cI (ad 29) 20 ha), (aI cI (ad 30) 10 rea)] H := hP
    replace hD : va_D A [(oC3 ad hn), (aI cI (ad 29) 20 ha), (aI cI (ad 30) 10 rea)] := hD
    show W _ _ _ _ _ _ _ _ _ _ _ _ _ _ _ (F0 m 18 ls [])
    refine lv_iload_n hx hb dX3_closeReach_18 rfl (lv_at hl 1 rfl) ?_
    refine lv_bipush (v := 10) hx hb dX3_closeReach_19 (by decide) ?_
    refine lv_icmp_ge (tgt := 72) hx hb dX3_closeReach_21 (by decide) (fun c7 => ?_) (fun c7 => ?_)
    · skip
      have f8 := i_le c7
      have ce9 := i_cl (x := q18_1) (by omega)
      have hP9 := hP
      have hD9 := hD
      exact W.vret hx hb hr (fun t ht hW => ⟨⟨rea, rfl, (fun c i h1 h2 => by have h9 := g3 c i h1 h2; rw [if_neg (by omega), show q18_1.toNatClampNeg = 10 by omega] at h9; exact h9), by rw [ht]; exact hP9, va_K.moved hW.alike hK, hD9⟩, hS.F ht⟩) hS.2.2 dX3_closeReach_72
    · skip
      have f9 := i_nle c7
      refine lv_iconst (v := 0) hx hb dX3_closeReach_24 (by decide) ?_
      refine lv_istore_n (lv' := [(2, .int 0), (0, .ref (ad 2)), (1, .int q18_1)]) hx hb dX3_closeReach_25 rfl hl (by decide) rfl (fun ls hl => ?_)
      refine st_loop 26 (fun _ => []) (fun (z : Int32 × (Nat → Int32)) (ls : Array Slot) (H : Heap) (locs : List Loc) => match z with | (q26_2, reb) => (0 ≤ q26_2.toInt) ∧ (q26_2.toInt ≤ 10) ∧ (crQ (fun c9 i9 => bt (ha (10 + c9)) i9) reb q18_1.toNatClampNeg q26_2.toNatClampNeg) ∧ lv_has ls 3 [(0, .ref (ad 2)), (1, .int q18_1), (2, .int q26_2)] ∧ va_P D vwCl [(oC3 ad hn), (aI cI (ad 29) 20 ha), (aI cI (ad 30) 10 reb)] H ∧ va_D A [(oC3 ad hn), (aI cI (ad 29) 20 ha), (aI cI (ad 30) 10 reb)] ∧ va_S A s.heap H locs) (fun (z : Int32 × (Nat → Int32)) => match z with | (q26_2, reb) => 10 - q26_2.toInt) ?_ ?_ ((0 : Int32), rea) ⟨(by omega), (by omega), (by exact g3), lv_sub hl [1, 2, 0] rfl, hP, hD, hS⟩
      · rintro ⟨q26_2, reb⟩ ls H locs ⟨g10, g11, g12, hl, hP, hD, hS⟩
        show (0 : Int) ≤ 10 - q26_2.toInt
        omega
      · rintro n15 ih13 ⟨q26_2, reb⟩ ls H locs ⟨g10, g11, g12, hl, hP, hD, hS⟩ hm14
        have hm14 : 10 - q26_2.toInt < (n15 : Int) + 1 := hm14
        replace hl : lv_has ls 3 [(0, .ref (ad 2)), (1, .int q18_1), (2, .int q26_2)] := hl
        replace hP : va_P D vwCl [(oC3 ad hn), (aI cI (ad 29) 20 ha), (aI cI (ad 30) 10 reb)] H := hP
        replace hD : va_D A [(oC3 ad hn), (aI cI (ad 29) 20 ha), (aI cI (ad 30) 10 reb)] := hD
        show W _ _ _ _ _ _ _ _ _ _ _ _ _ _ _ (F0 m 26 ls [])
        refine lv_iload_n hx hb dX3_closeReach_26 rfl (lv_at hl 2 rfl) ?_
        refine lv_bipush (v := 10) hx hb dX3_closeReach_27 (by decide) ?_
        refine lv_icmp_ge (tgt := 66) hx hb dX3_closeReach_29 (by decide) (fun c16 => ?_) (fun c16 => ?_)
        · skip
          have f17 := i_le c16
          obtain ⟨v18, ev18⟩ : ∃ y : Int32, y = q18_1 + 1 := ⟨_, rfl⟩
          try have tv18 : v18.toInt = q18_1.toInt + 1 := by rw [ev18]; exact (i_add (x := q18_1) (y := (1 : Int32)) (by rw [k1]; omega) (by rw [k1]; omega)).trans (by rw [k1])
          refine lv_iinc (v := v18) (lv' := [(1, .int v18), (0, .ref (ad 2)), (2, .int q26_2)]) hx hb dX3_closeReach_66 hl (k := 1) rfl (by rw [ev18]; rfl) (by decide) rfl (fun ls hl => ?_)
          refine lv_goto (tgt := 18) hx hb dX3_closeReach_69 (by decide) ?_
          have clc19 := i_cl (x := q18_1) (by omega)
          have clc20 := i_cl (x := q26_2) (by omega)
          have clc21 := i_cl (x := v18) (by omega)
          exact ih4 (v18, reb) ls H locs ⟨(by omega), (by omega), (by rw [show v18.toNatClampNeg = q18_1.toNatClampNeg + 1 by omega]; exact crQ_nx (by have h9 := g12; rw [show q26_2.toNatClampNeg = 10 by omega] at h9; exact h9)), lv_sub hl [1, 0] rfl, hP.sub [0, 1, 2] rfl, hD.sub [0, 1, 2] (by decide +kernel) rfl, hS⟩ (by show 10 - v18.toInt < _; omega)
        · skip
          have f22 := i_nle c16
          refine lv_aload_n hx hb dX3_closeReach_32 rfl (lv_at hl 0 rfl) ?_
          refine va_get (D := D) (ci := 3) (v := .ref (ad 30)) (C := RX3) (T := TX3) (N := 9) hx hb hts inX3_closeReach_X3 hown hK hP 0 rfl rfl 8 (by decide) (hts (Cond.fieldLink RX3 33 "PortRooms$Holdings" "reach" "[I") (wm_t (wm_l (wm_i 1 rfl)))) (fun _ h9 => h9) rfl dX3_closeReach_33 ?_
          refine lv_iload_n hx hb dX3_closeReach_36 rfl (lv_at hl 2 rfl) ?_
          refine va_iald hx hb hK hP 2 0 rfl rfl (i_in (by omega) (by omega)) dX3_closeReach_37 ?_
          refine lv_topi (fun v23 ev23 => ?_)
          have tlv23 : v23.toInt = (reb q26_2.toNatClampNeg).toInt := by rw [ev23]
          refine lv_iload_n hx hb dX3_closeReach_38 rfl (lv_at hl 1 rfl) ?_
          refine st_i1 (va_runSN (As := [.int v23, .int q18_1]) (rest := []) ⟨hx, hb, hml, hown, hts⟩ (ct_X10_hasBit l D cI cY cJ cQ _ v23 q18_1) ⟨va_cnB 2 hts gX3_closeReach_X10_hasBit_n62 rfl rfl rfl (hN.1 (RX3, 62, yX10_hasBit, "PortRooms") (by decide +kernel)) (hts (Cond.initialized RX10) (wm_t (wm_l (wm_i 7 rfl)))) cdX10_hasBit ⟨Nat.le_of_ble_eq_true rfl, Nat.le_of_ble_eq_true rfl⟩, (hts (Cond.static yX10_hasBit) (wm_t (wm_l (wm_i 6 rfl)))), trivial⟩ (cPreS (hP.sub [] rfl) hK (hD.sub [] (by decide +kernel) rfl) hN) rfl rfl hl.1 rfl (lv_room (Nat.le_of_ble_eq_true rfl)) dX3_closeReach_39 ⟨Nat.le_of_ble_eq_true rfl, Nat.le_of_ble_eq_true rfl⟩) hP hD hS hA [] rfl (fun _ => rfl) (fun r26 u24 H locs hw25 => ?_)
          clear hP hS
          intro hP hS
          replace hw25 : r26 = if hbP v23 q18_1 then 1 else 0 := hw25
          refine lv_if_eq (tgt := 60) hx hb dX3_closeReach_42 (by decide) (fun c27 => ?_) (fun c27 => ?_)
          · skip
            have f28 := bo_f hw25 c27
            obtain ⟨v29, ev29⟩ : ∃ y : Int32, y = q26_2 + 1 := ⟨_, rfl⟩
            try have tv29 : v29.toInt = q26_2.toInt + 1 := by rw [ev29]; exact (i_add (x := q26_2) (y := (1 : Int32)) (by rw [k1]; omega) (by rw [k1]; omega)).trans (by rw [k1])
            refine lv_iinc (v := v29) (lv' := [(2, .int v29), (0, .ref (ad 2)), (1, .int q18_1)]) hx hb dX3_closeReach_60 hl (k := 2) rfl (by rw [ev29]; rfl) (by decide) rfl (fun ls hl => ?_)
            refine lv_goto (tgt := 26) hx hb dX3_closeReach_63 (by decide) ?_
            have clc30 := i_cl (x := q18_1) (by omega)
            have clc31 := i_cl (x := q26_2) (by omega)
            have clc32 := i_cl (x := v29) (by omega)
            exact ih13 (v29, reb) ls H locs ⟨(by omega), (by omega), (by exact crQ_no g12 (by omega) (by omega) (by omega) (by rw [← ev23]; exact hbn (by omega) (by omega) f28)), lv_sub hl [1, 2, 0] rfl, hP.sub [0, 1, 2] rfl, hD.sub [0, 1, 2] (by decide +kernel) rfl, hS⟩ (by show 10 - v29.toInt < _; omega)
          · skip
            have f33 := bo_t hw25 c27
            refine lv_aload_n hx hb dX3_closeReach_45 rfl (lv_at hl 0 rfl) ?_
            refine va_get (D := D) (ci := 3) (v := .ref (ad 30)) (C := RX3) (T := TX3) (N := 9) hx hb hts inX3_closeReach_X3 hown hK hP 0 rfl rfl 8 (by decide) (hts (Cond.fieldLink RX3 33 "PortRooms$Holdings" "reach" "[I") (wm_t (wm_l (wm_i 1 rfl)))) (fun _ h9 => h9) rfl dX3_closeReach_46 ?_
            refine lv_iload_n hx hb dX3_closeReach_49 rfl (lv_at hl 2 rfl) ?_
            refine lv_dup2_11 hx hb dX3_closeReach_50 rfl rfl ?_
            refine va_iald hx hb hK hP 2 0 rfl rfl (i_in (by omega) (by omega)) dX3_closeReach_51 ?_
            refine lv_topi (fun v34 ev34 => ?_)
            have tlv34 : v34.toInt = (reb q26_2.toNatClampNeg).toInt := by rw [ev34]
            refine lv_aload_n hx hb dX3_closeReach_52 rfl (lv_at hl 0 rfl) ?_
            refine va_get (D := D) (ci := 3) (v := .ref (ad 30)) (C := RX3) (T := TX3) (N := 9) hx hb hts inX3_closeReach_X3 hown hK hP 0 rfl rfl 8 (by decide) (hts (Cond.fieldLink RX3 33 "PortRooms$Holdings" "reach" "[I") (wm_t (wm_l (wm_i 1 rfl)))) (fun _ h9 => h9) rfl dX3_closeReach_53 ?_
            refine lv_iload_n hx hb dX3_closeReach_56 rfl (lv_at hl 1 rfl) ?_
            refine va_iald hx hb hK hP 2 0 rfl rfl (i_in (by omega) (by omega)) dX3_closeReach_57 ?_
            refine lv_topi (fun v35 ev35 => ?_)
            have tlv35 : v35.toInt = (reb q18_1.toNatClampNeg).toInt := by rw [ev35]
            refine lv_ior hx hb dX3_closeReach_58 ?_
            refine lv_topi (fun v36 ev36 => ?_)
            refine va_iast hx hb hK hP hD hS 2 0 rfl rfl (i_in (by omega) (by omega)) dX3_closeReach_59 (fun H locs => ?_)
            clear hP hD hS
            intro hP hD hS
            replace hP : va_P D vwCl [(oC3 ad hn), (aI cI (ad 29) 20 ha), (aI cI (ad 30) 10 (upd reb q26_2.toNatClampNeg v36))] H := hP
            replace hD : va_D A [(oC3 ad hn), (aI cI (ad 29) 20 ha), (aI cI (ad 30) 10 (upd reb q26_2.toNatClampNeg v36))] := hD
            obtain ⟨v37, ev37⟩ : ∃ y : Int32, y = q26_2 + 1 := ⟨_, rfl⟩
            try have tv37 : v37.toInt = q26_2.toInt + 1 := by rw [ev37]; exact (i_add (x := q26_2) (y := (1 : Int32)) (by rw [k1]; omega) (by rw [k1]; omega)).trans (by rw [k1])
            refine lv_iinc (v := v37) (lv' := [(2, .int v37), (0, .ref (ad 2)), (1, .int q18_1)]) hx hb dX3_closeReach_60 hl (k := 2) rfl (by rw [ev37]; rfl) (by decide) rfl (fun ls hl => ?_)
            refine lv_goto (tgt := 26) hx hb dX3_closeReach_63 (by decide) ?_
            have clc38 := i_cl (x := q18_1) (by omega)
            have clc39 := i_cl (x := q26_2) (by omega)
            have clc40 := i_cl (x := v37) (by omega)
            exact ih13 (v37, upd reb q26_2.toNatClampNeg v36) ls H locs ⟨(by omega), (by omega), (by exact crQ_up g12 (by omega) (by omega) (by omega) (by rw [← ev23]; exact (hbb (by omega) (by omega)).mp f33) (by rw [ev36, ev34, ev35])), lv_sub hl [1, 2, 0] rfl, hP.sub [0, 1, 2] rfl, hD.sub [0, 1, 2] (by decide +kernel) rfl, hS⟩ (by show 10 - v37.toInt < _; omega)

set_option maxHeartbeats 4000000 in
set_option maxRecDepth 100000 in
theorem ct_X3_lookAt (l : Launch) (D : va_G) (cI cY cJ cQ : ClassId) (sz : Nat) (ad : Nat → Nat) (hn : Int32) (ho hc hp hs pt ps ha re : Nat → Int32) (d : Int32)  (h1 : 0 ≤ hn.toInt) (h2 : hn.toInt ≤ 40) (h3 : okH hn ho hc) (h4 : okV hn hp)  : Met l yX3_lookAt wsX3_lookAt ({ frames := 2, cells := 0, slots := 0, locals := 62 }) (cPre D (ty4 cI cY cJ cQ) [(oC3 ad hn), (aI cI (ad 23) 40 ho), (aI cI (ad 24) 40 hc), (aI cI (ad 25) 40 hp), (aI cI (ad 26) 40 hs), (aI cI (ad 27) 200 pt), (aI cI (ad 28) 200 ps), (aI cI (ad 29) 20 ha), (aI cI (ad 30) 10 re)] sz [.ref (ad 2), .int d]) (va_Qv (fun (u : (Nat → Int32) × (Nat → Int32) × (Nat → Int32) × (Nat → Int32)) => pcOk u.1 u.2.1 ho hc hp hs d hn.toNatClampNeg ∧ okL u.1 u.2.2.1 u.2.2.2) (cB D (ty4 cI cY cJ cQ) (fun (u : (Nat → Int32) × (Nat → Int32) × (Nat → Int32) × (Nat → Int32)) => [(oC3 ad hn), (aI cI (ad 23) 40 ho), (aI cI (ad 24) 40 hc), (aI cI (ad 25) 40 hp), (aI cI (ad 26) 40 hs), (aI cI (ad 27) 200 u.1), (aI cI (ad 28) 200 u.2.1), (aI cI (ad 29) 20 u.2.2.1), (aI cI (ad 30) 10 u.2.2.2)]) (va_A [(oC3 ad hn), (aI cI (ad 23) 40 ho), (aI cI (ad 24) 40 hc), (aI cI (ad 25) 40 hp), (aI cI (ad 26) 40 hs), (aI cI (ad 27) 200 pt), (aI cI (ad 28) 200 ps), (aI cI (ad 29) 20 ha), (aI cI (ad 30) 10 re)] sz)) (va_A [(oC3 ad hn), (aI cI (ad 23) 40 ho), (aI cI (ad 24) 40 hc), (aI cI (ad 25) 40 hp), (aI cI (ad 26) 40 hs), (aI cI (ad 27) 200 pt), (aI cI (ad 28) 200 ps), (aI cI (ad 29) 20 ha), (aI cI (ad 30) 10 re)] sz)) 0 0 (va_A [(oC3 ad hn), (aI cI (ad 23) 40 ho), (aI cI (ad 24) 40 hc), (aI cI (ad 25) 40 hp), (aI cI (ad 26) 40 hs), (aI cI (ad 27) 200 pt), (aI cI (ad 28) 200 ps), (aI cI (ad 29) 20 ha), (aI cI (ad 30) 10 re)] sz) := by
  refine Met.ofW (cc := cX3_lookAt) (maxL := 4) (ret := none) (by decide) rfl ?_
  intro p e s m args below meth c s₁ B hml hv
  obtain ⟨rfl, hsz, hP, hK, hD0, hN⟩ := hv
  have hx := B.exec
  have hb := B.bytes
  have hr := B.returns
  have hts := atoms_spec (ws := wsX3_lookAt) B.pre
  have hown : s.vm.findClass RX3 = some m.cls := findClass_of_methodNamed B.named
  have hlocks := B.notSynchronized
  subst hsz
  have hD := hD0.self (sz := s.heap.size)
  generalize hAe : va_A [(oC3 ad hn), (aI cI (ad 23) 40 ho), (aI cI (ad 24) 40 hc), (aI cI (ad 25) 40 hp), (aI cI (ad 26) 40 hs), (aI cI (ad 27) 200 pt), (aI cI (ad 28) 200 ps), (aI cI (ad 29) 20 ha), (aI cI (ad 30) 10 re)] s.heap.size = A at hD ⊢
  have hA : ∀ q : Nat, s.heap.size ≤ q → A q := fun q h => by rw [← hAe]; exact Or.inr h
  have hS : va_S A s.heap s.heap [] := va_S.rf
  have hP : va_P D vwCl [(oC3 ad hn), (aI cI (ad 23) 40 ho), (aI cI (ad 24) 40 hc), (aI cI (ad 25) 40 hp), (aI cI (ad 26) 40 hs), (aI cI (ad 27) 200 pt), (aI cI (ad 28) 200 ps), (aI cI (ad 29) 20 ha), (aI cI (ad 30) 10 re)] s.heap := hP
  have hl := lv_entry ([.ref (ad 2), .int d]) (n := 4) (Nat.le_of_ble_eq_true rfl)
  rw [lg_entry_eq]
  generalize (lg_sl ([.ref (ad 2), .int d]) ++ List.replicate (4 - (lg_sl ([.ref (ad 2), .int d])).length) Slot.unset).toArray = ls at hl ⊢
  have hl : lv_has ls 4 [(0, .ref (ad 2)), (1, .int d)] := hl
  have k0 : (0 : Int32).toInt = 0 := by decide
  have k1 : (1 : Int32).toInt = 1 := by decide
  refine lv_aload_n hx hb dX3_lookAt_0 rfl (lv_at hl 0 rfl) ?_
  refine va_get (D := D) (ci := 3) (v := .ref (ad 27)) (C := RX3) (T := TX3) (N := 9) hx hb hts inX3_lookAt_X3 hown hK hP 0 rfl rfl 5 (by decide) (hts (Cond.fieldLink RX3 24 "PortRooms$Holdings" "part" "[I") (wm_t (wm_l (wm_i 0 rfl)))) (fun _ h9 => h9) rfl dX3_lookAt_1 ?_
  refine lv_iconst (v := 0) hx hb dX3_lookAt_4 (by decide) ?_
  refine st_v (wr := [(oC3 ad hn), (aI cI (ad 23) 40 ho), (aI cI (ad 24) 40 hc), (aI cI (ad 25) 40 hp), (aI cI (ad 26) 40 hs), (aI cI (ad 28) 200 ps), (aI cI (ad 29) 20 ha), (aI cI (ad 30) 10 re)]) (va_runS (As := [.ref (ad 27), .int 0]) (rest := []) ⟨hx, hb, hml, hown, hts⟩ (cFill l D cI cY cJ cQ _ (ad 27) 200 pt (0 : Int32) (by decide)) (va_cwS 2 hts gX3_lookAt_J7_fill_53178 rfl rfl rfl cdJ7_fill_53178 ⟨Nat.le_of_ble_eq_true rfl, Nat.le_of_ble_eq_true rfl⟩) (cPreS (hP.sub [5] rfl) hK (hD.sub [5] (by decide +kernel) rfl) hN) rfl rfl hl.1 rfl (lv_room (Nat.le_of_ble_eq_true rfl)) dX3_lookAt_5 ⟨Nat.le_of_ble_eq_true rfl, Nat.le_of_ble_eq_true rfl⟩) hP hD hS hA [5] [0, 1, 2, 3, 4, 6, 7, 8] rfl rfl (by decide +kernel) (by decide +kernel) (fun u1 H locs hw2 => ?_)
  clear hP hD hS
  intro hP hD hS
  replace hP : va_P D vwCl [(oC3 ad hn), (aI cI (ad 23) 40 ho), (aI cI (ad 24) 40 hc), (aI cI (ad 25) 40 hp), (aI cI (ad 26) 40 hs), (aI cI (ad 28) 200 ps), (aI cI (ad 29) 20 ha), (aI cI (ad 30) 10 re), (aI cI (ad 27) 200 (fun _ => 0))] H := hP
  replace hD : va_D A [(oC3 ad hn), (aI cI (ad 23) 40 ho), (aI cI (ad 24) 40 hc), (aI cI (ad 25) 40 hp), (aI cI (ad 26) 40 hs), (aI cI (ad 28) 200 ps), (aI cI (ad 29) 20 ha), (aI cI (ad 30) 10 re), (aI cI (ad 27) 200 (fun _ => 0))] := hD
  refine lv_aload_n hx hb dX3_lookAt_8 rfl (lv_at hl 0 rfl) ?_
  refine va_get (D := D) (ci := 3) (v := .ref (ad 28)) (C := RX3) (T := TX3) (N := 9) hx hb hts inX3_lookAt_X3 hown hK hP 0 rfl rfl 6 (by decide) (hts (Cond.fieldLink RX3 27 "PortRooms$Holdings" "partSince" "[I") (wm_t (wm_l (wm_i 1 rfl)))) (fun _ h9 => h9) rfl dX3_lookAt_9 ?_
  refine lv_iconst (v := 0) hx hb dX3_lookAt_12 (by decide) ?_
  refine st_v (wr := [(oC3 ad hn), (aI cI (ad 23) 40 ho), (aI cI (ad 24) 40 hc), (aI cI (ad 25) 40 hp), (aI cI (ad 26) 40 hs), (aI cI (ad 29) 20 ha), (aI cI (ad 30) 10 re), (aI cI (ad 27) 200 (fun _ => 0))]) (va_runS (As := [.ref (ad 28), .int 0]) (rest := []) ⟨hx, hb, hml, hown, hts⟩ (cFill l D cI cY cJ cQ _ (ad 28) 200 ps (0 : Int32) (by decide)) (va_cwS 2 hts gX3_lookAt_J7_fill_53178 rfl rfl rfl cdJ7_fill_53178 ⟨Nat.le_of_ble_eq_true rfl, Nat.le_of_ble_eq_true rfl⟩) (cPreS (hP.sub [5] rfl) hK (hD.sub [5] (by decide +kernel) rfl) hN) rfl rfl hl.1 rfl (lv_room (Nat.le_of_ble_eq_true rfl)) dX3_lookAt_13 ⟨Nat.le_of_ble_eq_true rfl, Nat.le_of_ble_eq_true rfl⟩) hP hD hS hA [5] [0, 1, 2, 3, 4, 6, 7, 8] rfl rfl (by decide +kernel) (by decide +kernel) (fun u4 H locs hw5 => ?_)
  clear hP hD hS
  intro hP hD hS
  replace hP : va_P D vwCl [(oC3 ad hn), (aI cI (ad 23) 40 ho), (aI cI (ad 24) 40 hc), (aI cI (ad 25) 40 hp), (aI cI (ad 26) 40 hs), (aI cI (ad 29) 20 ha), (aI cI (ad 30) 10 re), (aI cI (ad 27) 200 (fun _ => 0)), (aI cI (ad 28) 200 (fun _ => 0))] H := hP
  replace hD : va_D A [(oC3 ad hn), (aI cI (ad 23) 40 ho), (aI cI (ad 24) 40 hc), (aI cI (ad 25) 40 hp), (aI cI (ad 26) 40 hs), (aI cI (ad 29) 20 ha), (aI cI (ad 30) 10 re), (aI cI (ad 27) 200 (fun _ => 0)), (aI cI (ad 28) 200 (fun _ => 0))] := hD
  refine lv_iconst (v := 0) hx hb dX3_lookAt_16 (by decide) ?_
  refine lv_istore_n (lv' := [(2, .int 0), (0, .ref (ad 2)), (1, .int d)]) hx hb dX3_lookAt_17 rfl hl (by decide) rfl (fun ls hl => ?_)
  refine st_loop 18 (fun _ => []) (fun (z : Int32 × (Nat → Int32) × (Nat → Int32)) (ls : Array Slot) (H : Heap) (locs : List Loc) => match z with | (q18_2, ptq, psq) => (0 ≤ q18_2.toInt) ∧ (q18_2.toInt ≤ hn.toInt) ∧ (pcOk ptq psq ho hc hp hs d q18_2.toNatClampNeg) ∧ lv_has ls 4 [(0, .ref (ad 2)), (1, .int d), (2, .int q18_2)] ∧ va_P D vwCl [(oC3 ad hn), (aI cI (ad 23) 40 ho), (aI cI (ad 24) 40 hc), (aI cI (ad 25) 40 hp), (aI cI (ad 26) 40 hs), (aI cI (ad 29) 20 ha), (aI cI (ad 30) 10 re), (aI cI (ad 27) 200 ptq), (aI cI (ad 28) 200 psq)] H ∧ va_D A [(oC3 ad hn), (aI cI (ad 23) 40 ho), (aI cI (ad 24) 40 hc), (aI cI (ad 25) 40 hp), (aI cI (ad 26) 40 hs), (aI cI (ad 29) 20 ha), (aI cI (ad 30) 10 re), (aI cI (ad 27) 200 ptq), (aI cI (ad 28) 200 psq)] ∧ va_S A s.heap H locs) (fun (z : Int32 × (Nat → Int32) × (Nat → Int32)) => match z with | (q18_2, ptq, psq) => hn.toInt - q18_2.toInt) ?_ ?_ ((0 : Int32), (fun _ => 0), (fun _ => 0)) ⟨(by omega), (by omega), (by exact fun o9 c9 _ _ _ _ => rfl), lv_sub hl [1, 2, 0] rfl, hP, hD, hS⟩
  · rintro ⟨q18_2, ptq, psq⟩ ls H locs ⟨g7, g8, g9, hl, hP, hD, hS⟩
    show (0 : Int) ≤ hn.toInt - q18_2.toInt
    omega
  · rintro n12 ih10 ⟨q18_2, ptq, psq⟩ ls H locs ⟨g7, g8, g9, hl, hP, hD, hS⟩ hm11
    have hm11 : hn.toInt - q18_2.toInt < (n12 : Int) + 1 := hm11
    replace hl : lv_has ls 4 [(0, .ref (ad 2)), (1, .int d), (2, .int q18_2)] := hl
    replace hP : va_P D vwCl [(oC3 ad hn), (aI cI (ad 23) 40 ho), (aI cI (ad 24) 40 hc), (aI cI (ad 25) 40 hp), (aI cI (ad 26) 40 hs), (aI cI (ad 29) 20 ha), (aI cI (ad 30) 10 re), (aI cI (ad 27) 200 ptq), (aI cI (ad 28) 200 psq)] H := hP
    replace hD : va_D A [(oC3 ad hn), (aI cI (ad 23) 40 ho), (aI cI (ad 24) 40 hc), (aI cI (ad 25) 40 hp), (aI cI (ad 26) 40 hs), (aI cI (ad 29) 20 ha), (aI cI (ad 30) 10 re), (aI cI (ad 27) 200 ptq), (aI cI (ad 28) 200 psq)] := hD
    show W _ _ _ _ _ _ _ _ _ _ _ _ _ _ _ (F0 m 18 ls [])
    refine lv_iload_n hx hb dX3_lookAt_18 rfl (lv_at hl 2 rfl) ?_
    refine lv_aload_n hx hb dX3_lookAt_19 rfl (lv_at hl 0 rfl) ?_
    refine va_get (D := D) (ci := 3) (v := .int hn) (C := RX3) (T := TX3) (N := 9) hx hb hts inX3_lookAt_X3 hown hK hP 0 rfl rfl 4 (by decide) (hts (Cond.fieldLink RX3 36 "PortRooms$Holdings" "count" "I") (wm_t (wm_l (wm_i 2 rfl)))) (fun _ h9 => h9) rfl dX3_lookAt_20 ?_
    refine lv_icmp_ge (tgt := 97) hx hb dX3_lookAt_23 (by decide) (fun c13 => ?_) (fun c13 => ?_)
    · skip
      have f14 := i_le c13
      refine lv_aload_n hx hb dX3_lookAt_97 rfl (lv_at hl 0 rfl) ?_
      refine st_v (wr := [(aI cI (ad 30) 10 re), (aI cI (ad 28) 200 psq)]) (va_runV (C := RX3) (As := []) (rest := []) ⟨hx, hb, hml, hown, hts⟩ (ct_X3_gatherWhoHas l D cI cY cJ cQ _ ad hn ho hc hp hs ptq ha h1 h2 h3) (cwV 0 hts gX3_lookAt_X3_gatherWhoHas rfl rfl rfl ⟨rfl, cdX3_gatherWhoHas⟩ ⟨Nat.le_of_ble_eq_true rfl, Nat.le_of_ble_eq_true rfl⟩) (cPreV (hP.sub [0, 1, 2, 3, 4, 7, 5] rfl) hK (hD.sub [0, 1, 2, 3, 4, 7, 5] (by decide +kernel) rfl) hN (ci := 3) (q0 := 0) rfl rfl) rfl rfl hl.1 rfl (lv_room (Nat.le_of_ble_eq_true rfl)) dX3_lookAt_98 ⟨Nat.le_of_ble_eq_true rfl, Nat.le_of_ble_eq_true rfl⟩) hP hD hS hA [0, 1, 2, 3, 4, 7, 5] [6, 8] rfl rfl (by decide +kernel) (by decide +kernel) (fun u15 H locs hw16 => ?_)
      clear hP hD hS
      intro hP hD hS
      replace hw16 : whQ ptq ho hc u15 hn.toInt := hw16
      replace hP : va_P D vwCl [(aI cI (ad 30) 10 re), (aI cI (ad 28) 200 psq), (oC3 ad hn), (aI cI (ad 23) 40 ho), (aI cI (ad 24) 40 hc), (aI cI (ad 25) 40 hp), (aI cI (ad 26) 40 hs), (aI cI (ad 27) 200 ptq), (aI cI (ad 29) 20 u15)] H := hP
      replace hD : va_D A [(aI cI (ad 30) 10 re), (aI cI (ad 28) 200 psq), (oC3 ad hn), (aI cI (ad 23) 40 ho), (aI cI (ad 24) 40 hc), (aI cI (ad 25) 40 hp), (aI cI (ad 26) 40 hs), (aI cI (ad 27) 200 ptq), (aI cI (ad 29) 20 u15)] := hD
      refine lv_aload_n hx hb dX3_lookAt_101 rfl (lv_at hl 0 rfl) ?_
      refine st_v (wr := [(aI cI (ad 28) 200 psq), (aI cI (ad 23) 40 ho), (aI cI (ad 24) 40 hc), (aI cI (ad 25) 40 hp), (aI cI (ad 26) 40 hs), (aI cI (ad 27) 200 ptq)]) (va_runV (C := RX3) (As := []) (rest := []) ⟨hx, hb, hml, hown, hts⟩ (ct_X3_closeReach l D cI cY cJ cQ _ ad hn u15 re) (cwV 0 hts gX3_lookAt_X3_closeReach rfl rfl rfl ⟨rfl, cdX3_closeReach⟩ ⟨Nat.le_of_ble_eq_true rfl, Nat.le_of_ble_eq_true rfl⟩) (cPreV (hP.sub [2, 8, 0] rfl) hK (hD.sub [2, 8, 0] (by decide +kernel) rfl) hN (ci := 3) (q0 := 0) rfl rfl) rfl rfl hl.1 rfl (lv_room (Nat.le_of_ble_eq_true rfl)) dX3_lookAt_102 ⟨Nat.le_of_ble_eq_true rfl, Nat.le_of_ble_eq_true rfl⟩) hP hD hS hA [2, 8, 0] [1, 3, 4, 5, 6, 7] rfl rfl (by decide +kernel) (by decide +kernel) (fun u18 H locs hw19 => ?_)
      clear hP hD hS
      intro hP hD hS
      replace hw19 : ∀ c i : Nat, c < 10 → i < 32 → bt (u18 c) i = wrV (fun c9 i9 => bt (u15 (10 + c9)) i9) 10 c i := hw19
      replace hP : va_P D vwCl [(aI cI (ad 28) 200 psq), (aI cI (ad 23) 40 ho), (aI cI (ad 24) 40 hc), (aI cI (ad 25) 40 hp), (aI cI (ad 26) 40 hs), (aI cI (ad 27) 200 ptq), (oC3 ad hn), (aI cI (ad 29) 20 u15), (aI cI (ad 30) 10 u18)] H := hP
      replace hD : va_D A [(aI cI (ad 28) 200 psq), (aI cI (ad 23) 40 ho), (aI cI (ad 24) 40 hc), (aI cI (ad 25) 40 hp), (aI cI (ad 26) 40 hs), (aI cI (ad 27) 200 ptq), (oC3 ad hn), (aI cI (ad 29) 20 u15), (aI cI (ad 30) 10 u18)] := hD
      have ce8 := i_cl (x := q18_2) (by omega)
      have ce9 := i_cl (x := hn) (by omega)
      have ee9 : q18_2.toNatClampNeg = hn.toNatClampNeg := by omega
      have hz9 := g9
      rw [ee9] at hz9
      have hP9 := hP.sub (ws' := [(oC3 ad hn), (aI cI (ad 23) 40 ho), (aI cI (ad 24) 40 hc), (aI cI (ad 25) 40 hp), (aI cI (ad 26) 40 hs), (aI cI (ad 27) 200 ptq), (aI cI (ad 28) 200 psq), (aI cI (ad 29) 20 u15), (aI cI (ad 30) 10 u18)]) [6, 1, 2, 3, 4, 5, 0, 7, 8] rfl
      have hD9 := hD.sub (ws' := [(oC3 ad hn), (aI cI (ad 23) 40 ho), (aI cI (ad 24) 40 hc), (aI cI (ad 25) 40 hp), (aI cI (ad 26) 40 hs), (aI cI (ad 27) 200 ptq), (aI cI (ad 28) 200 psq), (aI cI (ad 29) 20 u15), (aI cI (ad 30) 10 u18)]) [6, 1, 2, 3, 4, 5, 0, 7, 8] (by decide +kernel) rfl
      exact W.vret hx hb hr (fun t ht hW => ⟨⟨(ptq, psq, u15, u18), rfl, ⟨hz9, ⟨okA_of hz9 hw16 h4 (by omega), hw19⟩⟩, by rw [ht]; exact hP9, va_K.moved hW.alike hK, hD9⟩, hS.F ht⟩) hS.2.2 dX3_lookAt_105
    · skip
      have f21 := i_nle c13
      refine lv_aload_n hx hb dX3_lookAt_26 rfl (lv_at hl 0 rfl) ?_
      refine va_get (D := D) (ci := 3) (v := .ref (ad 23)) (C := RX3) (T := TX3) (N := 9) hx hb hts inX3_lookAt_X3 hown hK hP 0 rfl rfl 0 (by decide) (hts (Cond.fieldLink RX3 9 "PortRooms$Holdings" "owner" "[I") (wm_t (wm_l (wm_i 3 rfl)))) (fun _ h9 => h9) rfl dX3_lookAt_27 ?_
      refine lv_iload_n hx hb dX3_lookAt_30 rfl (lv_at hl 2 rfl) ?_
      refine va_iald hx hb hK hP 1 0 rfl rfl (i_in (by omega) (by omega)) dX3_lookAt_31 ?_
      refine lv_topi (fun v22 ev22 => ?_)
      have tlv22 : v22.toInt = (ho q18_2.toNatClampNeg).toInt := by rw [ev22]
      have qv22 := okH_o h3 ev22 (by omega) (by omega)
      refine lv_aload_n hx hb dX3_lookAt_32 rfl (lv_at hl 0 rfl) ?_
      refine va_get (D := D) (ci := 3) (v := .ref (ad 24)) (C := RX3) (T := TX3) (N := 9) hx hb hts inX3_lookAt_X3 hown hK hP 0 rfl rfl 1 (by decide) (hts (Cond.fieldLink RX3 15 "PortRooms$Holdings" "company" "[I") (wm_t (wm_l (wm_i 4 rfl)))) (fun _ h9 => h9) rfl dX3_lookAt_33 ?_
      refine lv_iload_n hx hb dX3_lookAt_36 rfl (lv_at hl 2 rfl) ?_
      refine va_iald hx hb hK hP 2 0 rfl rfl (i_in (by omega) (by omega)) dX3_lookAt_37 ?_
      refine lv_topi (fun v23 ev23 => ?_)
      have tlv23 : v23.toInt = (hc q18_2.toNatClampNeg).toInt := by rw [ev23]
      have qv23 := okH_c h3 ev23 (by omega) (by omega)
      refine st_i1 (va_runS (As := [.int v22, .int v23]) (rest := []) ⟨hx, hb, hml, hown, hts⟩ (ct_X3_place l D cI cY cJ cQ _ v22 v23 (by omega) (by omega) (by omega) (by omega)) (va_cwS 2 hts gX3_lookAt_X3_place rfl rfl rfl cdX3_place ⟨Nat.le_of_ble_eq_true rfl, Nat.le_of_ble_eq_true rfl⟩) (cPreS (hP.sub [] rfl) hK (hD.sub [] (by decide +kernel) rfl) hN) rfl rfl hl.1 rfl (lv_room (Nat.le_of_ble_eq_true rfl)) dX3_lookAt_38 ⟨Nat.le_of_ble_eq_true rfl, Nat.le_of_ble_eq_true rfl⟩) hP hD hS hA [] rfl (fun _ => rfl) (fun r26 u24 H locs hw25 => ?_)
      clear hP hS
      intro hP hS
      replace hw25 : r26.toInt = v22.toInt * 10 + v23.toInt - 10 := hw25
      refine lv_istore_n (lv' := [(3, .int r26), (0, .ref (ad 2)), (1, .int d), (2, .int q18_2)]) hx hb dX3_lookAt_41 rfl hl (by decide) rfl (fun ls hl => ?_)
      refine lv_aload_n hx hb dX3_lookAt_42 rfl (lv_at hl 1 rfl) ?_
      refine va_get (D := D) (ci := 3) (v := .ref (ad 26)) (C := RX3) (T := TX3) (N := 9) hx hb hts inX3_lookAt_X3 hown hK hP 0 rfl rfl 3 (by decide) (hts (Cond.fieldLink RX3 21 "PortRooms$Holdings" "since" "[I") (wm_t (wm_l (wm_i 5 rfl)))) (fun _ h9 => h9) rfl dX3_lookAt_43 ?_
      refine lv_iload_n hx hb dX3_lookAt_46 rfl (lv_at hl 3 rfl) ?_
      refine va_iald hx hb hK hP 4 0 rfl rfl (i_in (by omega) (by omega)) dX3_lookAt_47 ?_
      refine lv_topi (fun v27 ev27 => ?_)
      have tlv27 : v27.toInt = (hs q18_2.toNatClampNeg).toInt := by rw [ev27]
      refine lv_iload_n hx hb dX3_lookAt_48 rfl (lv_at hl 2 rfl) ?_
      refine lv_icmp_gt (tgt := 91) hx hb dX3_lookAt_49 (by decide) (fun c28 => ?_) (fun c28 => ?_)
      · skip
        have f29 := i_lt c28
        obtain ⟨v30, ev30⟩ : ∃ y : Int32, y = q18_2 + 1 := ⟨_, rfl⟩
        try have tv30 : v30.toInt = q18_2.toInt + 1 := by rw [ev30]; exact (i_add (x := q18_2) (y := (1 : Int32)) (by rw [k1]; omega) (by rw [k1]; omega)).trans (by rw [k1])
        refine lv_iinc (v := v30) (lv' := [(2, .int v30), (3, .int r26), (0, .ref (ad 2)), (1, .int d)]) hx hb dX3_lookAt_91 hl (k := 3) rfl (by rw [ev30]; rfl) (by decide) rfl (fun ls hl => ?_)
        refine lv_goto (tgt := 18) hx hb dX3_lookAt_94 (by decide) ?_
        have clk8 := i_cl (x := q18_2) (by omega)
        have clk9 := i_cl (x := v30) (by omega)
        have clr9 := i_cl (x := r26) (by omega)
        exact ih10 (v30, ptq, psq) ls H locs ⟨(by omega), (by omega), (by exact pcOk_no (a := r26.toNatClampNeg) g9 (by omega) ⟨by omega, by omega⟩ ⟨by omega, by omega⟩ (by omega) (fun z9 => by omega)), lv_sub hl [2, 3, 0] rfl, hP.sub [0, 1, 2, 3, 4, 5, 6, 7, 8] rfl, hD.sub [0, 1, 2, 3, 4, 5, 6, 7, 8] (by decide +kernel) rfl, hS⟩ (by show hn.toInt - v30.toInt < _; omega)
      · skip
        have f31 := i_nlt c28
        refine lv_aload_n hx hb dX3_lookAt_52 rfl (lv_at hl 1 rfl) ?_
        refine va_get (D := D) (ci := 3) (v := .ref (ad 26)) (C := RX3) (T := TX3) (N := 9) hx hb hts inX3_lookAt_X3 hown hK hP 0 rfl rfl 3 (by decide) (hts (Cond.fieldLink RX3 21 "PortRooms$Holdings" "since" "[I") (wm_t (wm_l (wm_i 5 rfl)))) (fun _ h9 => h9) rfl dX3_lookAt_53 ?_
        refine lv_iload_n hx hb dX3_lookAt_56 rfl (lv_at hl 3 rfl) ?_
        refine va_iald hx hb hK hP 4 0 rfl rfl (i_in (by omega) (by omega)) dX3_lookAt_57 ?_
        refine lv_topi (fun v32 ev32 => ?_)
        have tlv32 : v32.toInt = (hs q18_2.toNatClampNeg).toInt := by rw [ev32]
        refine lv_aload_n hx hb dX3_lookAt_58 rfl (lv_at hl 1 rfl) ?_
        refine va_get (D := D) (ci := 3) (v := .ref (ad 28)) (C := RX3) (T := TX3) (N := 9) hx hb hts inX3_lookAt_X3 hown hK hP 0 rfl rfl 6 (by decide) (hts (Cond.fieldLink RX3 27 "PortRooms$Holdings" "partSince" "[I") (wm_t (wm_l (wm_i 1 rfl)))) (fun _ h9 => h9) rfl dX3_lookAt_59 ?_
        refine lv_iload_n hx hb dX3_lookAt_62 rfl (lv_at hl 0 rfl) ?_
        refine va_iald hx hb hK hP 8 0 rfl rfl (i_in (by omega) (by omega)) dX3_lookAt_63 ?_
        refine lv_topi (fun v33 ev33 => ?_)
        have tlv33 : v33.toInt = (psq r26.toNatClampNeg).toInt := by rw [ev33]
        refine lv_icmp_lt (tgt := 91) hx hb dX3_lookAt_64 (by decide) (fun c34 => ?_) (fun c34 => ?_)
        · skip
          have f35 := i_lt c34
          obtain ⟨v36, ev36⟩ : ∃ y : Int32, y = q18_2 + 1 := ⟨_, rfl⟩
          try have tv36 : v36.toInt = q18_2.toInt + 1 := by rw [ev36]; exact (i_add (x := q18_2) (y := (1 : Int32)) (by rw [k1]; omega) (by rw [k1]; omega)).trans (by rw [k1])
          refine lv_iinc (v := v36) (lv' := [(2, .int v36), (3, .int r26), (0, .ref (ad 2)), (1, .int d)]) hx hb dX3_lookAt_91 hl (k := 3) rfl (by rw [ev36]; rfl) (by decide) rfl (fun ls hl => ?_)
          refine lv_goto (tgt := 18) hx hb dX3_lookAt_94 (by decide) ?_
          have clk8 := i_cl (x := q18_2) (by omega)
          have clk9 := i_cl (x := v36) (by omega)
          have clr9 := i_cl (x := r26) (by omega)
          exact ih10 (v36, ptq, psq) ls H locs ⟨(by omega), (by omega), (by exact pcOk_no (a := r26.toNatClampNeg) g9 (by omega) ⟨by omega, by omega⟩ ⟨by omega, by omega⟩ (by omega) (fun z9 => by omega)), lv_sub hl [2, 3, 0] rfl, hP.sub [0, 1, 2, 3, 4, 5, 6, 7, 8] rfl, hD.sub [0, 1, 2, 3, 4, 5, 6, 7, 8] (by decide +kernel) rfl, hS⟩ (by show hn.toInt - v36.toInt < _; omega)
        · skip
          have f37 := i_nlt c34
          refine lv_aload_n hx hb dX3_lookAt_67 rfl (lv_at hl 1 rfl) ?_
          refine va_get (D := D) (ci := 3) (v := .ref (ad 27)) (C := RX3) (T := TX3) (N := 9) hx hb hts inX3_lookAt_X3 hown hK hP 0 rfl rfl 5 (by decide) (hts (Cond.fieldLink RX3 24 "PortRooms$Holdings" "part" "[I") (wm_t (wm_l (wm_i 0 rfl)))) (fun _ h9 => h9) rfl dX3_lookAt_68 ?_
          refine lv_iload_n hx hb dX3_lookAt_71 rfl (lv_at hl 0 rfl) ?_
          refine lv_aload_n hx hb dX3_lookAt_72 rfl (lv_at hl 1 rfl) ?_
          refine va_get (D := D) (ci := 3) (v := .ref (ad 25)) (C := RX3) (T := TX3) (N := 9) hx hb hts inX3_lookAt_X3 hown hK hP 0 rfl rfl 2 (by decide) (hts (Cond.fieldLink RX3 18 "PortRooms$Holdings" "percentage" "[I") (wm_t (wm_l (wm_i 6 rfl)))) (fun _ h9 => h9) rfl dX3_lookAt_73 ?_
          refine lv_iload_n hx hb dX3_lookAt_76 rfl (lv_at hl 3 rfl) ?_
          refine va_iald hx hb hK hP 3 0 rfl rfl (i_in (by omega) (by omega)) dX3_lookAt_77 ?_
          refine lv_topi (fun v38 ev38 => ?_)
          have tlv38 : v38.toInt = (hp q18_2.toNatClampNeg).toInt := by rw [ev38]
          refine va_iast hx hb hK hP hD hS 7 0 rfl rfl (i_in (by omega) (by omega)) dX3_lookAt_78 (fun H locs => ?_)
          clear hP hD hS
          intro hP hD hS
          replace hP : va_P D vwCl [(oC3 ad hn), (aI cI (ad 23) 40 ho), (aI cI (ad 24) 40 hc), (aI cI (ad 25) 40 hp), (aI cI (ad 26) 40 hs), (aI cI (ad 29) 20 ha), (aI cI (ad 30) 10 re), (aI cI (ad 27) 200 (upd ptq r26.toNatClampNeg v38)), (aI cI (ad 28) 200 psq)] H := hP
          replace hD : va_D A [(oC3 ad hn), (aI cI (ad 23) 40 ho), (aI cI (ad 24) 40 hc), (aI cI (ad 25) 40 hp), (aI cI (ad 26) 40 hs), (aI cI (ad 29) 20 ha), (aI cI (ad 30) 10 re), (aI cI (ad 27) 200 (upd ptq r26.toNatClampNeg v38)), (aI cI (ad 28) 200 psq)] := hD
          refine lv_aload_n hx hb dX3_lookAt_79 rfl (lv_at hl 1 rfl) ?_
          refine va_get (D := D) (ci := 3) (v := .ref (ad 28)) (C := RX3) (T := TX3) (N := 9) hx hb hts inX3_lookAt_X3 hown hK hP 0 rfl rfl 6 (by decide) (hts (Cond.fieldLink RX3 27 "PortRooms$Holdings" "partSince" "[I") (wm_t (wm_l (wm_i 1 rfl)))) (fun _ h9 => h9) rfl dX3_lookAt_80 ?_
          refine lv_iload_n hx hb dX3_lookAt_83 rfl (lv_at hl 0 rfl) ?_
          refine lv_aload_n hx hb dX3_lookAt_84 rfl (lv_at hl 1 rfl) ?_
          refine va_get (D := D) (ci := 3) (v := .ref (ad 26)) (C := RX3) (T := TX3) (N := 9) hx hb hts inX3_lookAt_X3 hown hK hP 0 rfl rfl 3 (by decide) (hts (Cond.fieldLink RX3 21 "PortRooms$Holdings" "since" "[I") (wm_t (wm_l (wm_i 5 rfl)))) (fun _ h9 => h9) rfl dX3_lookAt_85 ?_
          refine lv_iload_n hx hb dX3_lookAt_88 rfl (lv_at hl 3 rfl) ?_
          refine va_iald hx hb hK hP 4 0 rfl rfl (i_in (by omega) (by omega)) dX3_lookAt_89 ?_
          refine lv_topi (fun v39 ev39 => ?_)
          have tlv39 : v39.toInt = (hs q18_2.toNatClampNeg).toInt := by rw [ev39]
          refine va_iast hx hb hK hP hD hS 8 0 rfl rfl (i_in (by omega) (by omega)) dX3_lookAt_90 (fun H locs => ?_)
          clear hP hD hS
          intro hP hD hS
          replace hP : va_P D vwCl [(oC3 ad hn), (aI cI (ad 23) 40 ho), (aI cI (ad 24) 40 hc), (aI cI (ad 25) 40 hp), (aI cI (ad 26) 40 hs), (aI cI (ad 29) 20 ha), (aI cI (ad 30) 10 re), (aI cI (ad 27) 200 (upd ptq r26.toNatClampNeg v38)), (aI cI (ad 28) 200 (upd psq r26.toNatClampNeg v39))] H := hP
          replace hD : va_D A [(oC3 ad hn), (aI cI (ad 23) 40 ho), (aI cI (ad 24) 40 hc), (aI cI (ad 25) 40 hp), (aI cI (ad 26) 40 hs), (aI cI (ad 29) 20 ha), (aI cI (ad 30) 10 re), (aI cI (ad 27) 200 (upd ptq r26.toNatClampNeg v38)), (aI cI (ad 28) 200 (upd psq r26.toNatClampNeg v39))] := hD
          obtain ⟨v40, ev40⟩ : ∃ y : Int32, y = q18_2 + 1 := ⟨_, rfl⟩
          try have tv40 : v40.toInt = q18_2.toInt + 1 := by rw [ev40]; exact (i_add (x := q18_2) (y := (1 : Int32)) (by rw [k1]; omega) (by rw [k1]; omega)).trans (by rw [k1])
          refine lv_iinc (v := v40) (lv' := [(2, .int v40), (3, .int r26), (0, .ref (ad 2)), (1, .int d)]) hx hb dX3_lookAt_91 hl (k := 3) rfl (by rw [ev40]; rfl) (by decide) rfl (fun ls hl => ?_)
          refine lv_goto (tgt := 18) hx hb dX3_lookAt_94 (by decide) ?_
          have clk8 := i_cl (x := q18_2) (by omega)
          have clk9 := i_cl (x := v40) (by omega)
          have clr9 := i_cl (x := r26) (by omega)
          exact ih10 (v40, upd ptq r26.toNatClampNeg v38, upd psq r26.toNatClampNeg v39) ls H locs ⟨(by omega), (by omega), (by exact pcOk_up g9 (by omega) ⟨by omega, by omega⟩ ⟨by omega, by omega⟩ (by omega) (by omega) (by omega) (by assumption) (by assumption)), lv_sub hl [2, 3, 0] rfl, hP.sub [0, 1, 2, 3, 4, 5, 6, 7, 8] rfl, hD.sub [0, 1, 2, 3, 4, 5, 6, 7, 8] (by decide +kernel) rfl, hS⟩ (by show hn.toInt - v40.toInt < _; omega)

set_option maxHeartbeats 4000000 in
set_option maxRecDepth 100000 in
theorem ct_X3_partOf (l : Launch) (D : va_G) (cI cY cJ cQ : ClassId) (sz : Nat) (ad : Nat → Nat) (hn : Int32) (pt : Nat → Int32) (o : Int32) (k : Int32)  (h1 : 0 ≤ o.toInt) (h2 : o.toInt < 20) (h3 : 10 ≤ k.toInt) (h4 : k.toInt < 20)  : Met l yX3_partOf wsX3_partOf ({ frames := 1, cells := 0, slots := 0, locals := 21 }) (cPre D (ty4 cI cY cJ cQ) [(oC3 ad hn), (aI cI (ad 27) 200 pt)] sz [.ref (ad 2), .int o, .int k]) (va_Qi (fun (r : Int32) (u : Unit) => r = pt (o.toNatClampNeg * 10 + k.toNatClampNeg - 10)) (cB D (ty4 cI cY cJ cQ) (fun (u : Unit) => [(oC3 ad hn), (aI cI (ad 27) 200 pt)]) (va_A [(oC3 ad hn), (aI cI (ad 27) 200 pt)] sz)) (va_A [(oC3 ad hn), (aI cI (ad 27) 200 pt)] sz)) 0 0 (va_A [(oC3 ad hn), (aI cI (ad 27) 200 pt)] sz) := by
  refine Met.ofW (cc := cX3_partOf) (maxL := 3) (ret := (some .int)) (by decide) rfl ?_
  intro p e s m args below meth c s₁ B hml hv
  obtain ⟨rfl, hsz, hP, hK, hD0, hN⟩ := hv
  have hx := B.exec
  have hb := B.bytes
  have hr := B.returns
  have hts := atoms_spec (ws := wsX3_partOf) B.pre
  have hown : s.vm.findClass RX3 = some m.cls := findClass_of_methodNamed B.named
  have hlocks := B.notSynchronized
  subst hsz
  have hD := hD0.self (sz := s.heap.size)
  generalize hAe : va_A [(oC3 ad hn), (aI cI (ad 27) 200 pt)] s.heap.size = A at hD ⊢
  have hA : ∀ q : Nat, s.heap.size ≤ q → A q := fun q h => by rw [← hAe]; exact Or.inr h
  have hS : va_S A s.heap s.heap [] := va_S.rf
  have hP : va_P D vwCl [(oC3 ad hn), (aI cI (ad 27) 200 pt)] s.heap := hP
  have hl := lv_entry ([.ref (ad 2), .int o, .int k]) (n := 3) (Nat.le_of_ble_eq_true rfl)
  rw [lg_entry_eq]
  generalize (lg_sl ([.ref (ad 2), .int o, .int k]) ++ List.replicate (3 - (lg_sl ([.ref (ad 2), .int o, .int k])).length) Slot.unset).toArray = ls at hl ⊢
  have hl : lv_has ls 3 [(0, .ref (ad 2)), (1, .int o), (2, .int k)] := hl
  refine lv_aload_n hx hb dX3_partOf_0 rfl (lv_at hl 0 rfl) ?_
  refine va_get (D := D) (ci := 3) (v := .ref (ad 27)) (C := RX3) (T := TX3) (N := 9) hx hb hts inX3_partOf_X3 hown hK hP 0 rfl rfl 5 (by decide) (hts (Cond.fieldLink RX3 24 "PortRooms$Holdings" "part" "[I") (wm_t (wm_l (wm_i 0 rfl)))) (fun _ h9 => h9) rfl dX3_partOf_1 ?_
  refine lv_iload_n hx hb dX3_partOf_4 rfl (lv_at hl 1 rfl) ?_
  refine lv_iload_n hx hb dX3_partOf_5 rfl (lv_at hl 2 rfl) ?_
  refine st_i1 (va_runS (As := [.int o, .int k]) (rest := [.ref (ad 27)]) ⟨hx, hb, hml, hown, hts⟩ (ct_X3_place l D cI cY cJ cQ _ o k h1 h2 h3 h4) (va_cwS 2 hts gX3_partOf_X3_place rfl rfl rfl cdX3_place ⟨Nat.le_of_ble_eq_true rfl, Nat.le_of_ble_eq_true rfl⟩) (cPreS (hP.sub [] rfl) hK (hD.sub [] (by decide +kernel) rfl) hN) rfl rfl hl.1 rfl (lv_room (Nat.le_of_ble_eq_true rfl)) dX3_partOf_6 ⟨Nat.le_of_ble_eq_true rfl, Nat.le_of_ble_eq_true rfl⟩) hP hD hS hA [] rfl (fun _ => rfl) (fun r3 u1 H locs hw2 => ?_)
  clear hP hS
  intro hP hS
  replace hw2 : r3.toInt = o.toInt * 10 + k.toInt - 10 := hw2
  refine va_iald hx hb hK hP 1 0 rfl rfl (i_in (by omega) (by omega)) dX3_partOf_9 ?_
  refine lv_topi (fun v4 ev4 => ?_)
  have tlv4 : v4.toInt = (pt r3.toNatClampNeg).toInt := by rw [ev4]
  have clo := i_cl (x := o) (by omega)
  have clk := i_cl (x := k) (by omega)
  have clr3 := i_cl (x := r3) (by omega)
  have hP9 := hP
  have hD9 := hD
  exact W.iret (v := v4) hx hb hr (fun t ht hW => ⟨⟨v4, (), rfl, (ev4.trans (congrArg pt (by omega))), by rw [ht]; exact hP9, va_K.moved hW.alike hK, hD9⟩, hS.F ht⟩) hS.2.2 dX3_partOf_10

set_option maxHeartbeats 4000000 in
set_option maxRecDepth 100000 in
theorem ct_X10_percent (l : Launch) (D : va_G) (cI cY cJ cQ : ClassId) (sz : Nat) (ad : Nat → Nat) (tn td lf hn : Int32) (ho hc hp hs pt ps ha re : Nat → Int32) (o : Int32) (k : Int32) (d : Int32)  (h1 : 0 ≤ hn.toInt) (h2 : hn.toInt ≤ 40) (h3 : okH hn ho hc) (h4 : okV hn hp)  : Met l yX10_percent wsX10_percent ({ frames := 3, cells := 0, slots := 0, locals := 85 }) (cPre D (ty4 cI cY cJ cQ) [(oC10 ad tn td lf), (oC3 ad hn), (aI cI (ad 23) 40 ho), (aI cI (ad 24) 40 hc), (aI cI (ad 25) 40 hp), (aI cI (ad 26) 40 hs), (aI cI (ad 27) 200 pt), (aI cI (ad 28) 200 ps), (aI cI (ad 29) 20 ha), (aI cI (ad 30) 10 re)] sz [.ref (ad 0), .int o, .int k, .int d]) (va_Qi (fun (r : Int32) (u : (Nat → Int32) × (Nat → Int32) × (Nat → Int32) × (Nat → Int32)) => r = sp_percent hn ho hc hp hs o k d) (cB D (ty4 cI cY cJ cQ) (fun (u : (Nat → Int32) × (Nat → Int32) × (Nat → Int32) × (Nat → Int32)) => [(oC10 ad tn td lf), (oC3 ad hn), (aI cI (ad 23) 40 ho), (aI cI (ad 24) 40 hc), (aI cI (ad 25) 40 hp), (aI cI (ad 26) 40 hs), (aI cI (ad 27) 200 u.1), (aI cI (ad 28) 200 u.2.1), (aI cI (ad 29) 20 u.2.2.1), (aI cI (ad 30) 10 u.2.2.2)]) (va_A [(oC10 ad tn td lf), (oC3 ad hn), (aI cI (ad 23) 40 ho), (aI cI (ad 24) 40 hc), (aI cI (ad 25) 40 hp), (aI cI (ad 26) 40 hs), (aI cI (ad 27) 200 pt), (aI cI (ad 28) 200 ps), (aI cI (ad 29) 20 ha), (aI cI (ad 30) 10 re)] sz)) (va_A [(oC10 ad tn td lf), (oC3 ad hn), (aI cI (ad 23) 40 ho), (aI cI (ad 24) 40 hc), (aI cI (ad 25) 40 hp), (aI cI (ad 26) 40 hs), (aI cI (ad 27) 200 pt), (aI cI (ad 28) 200 ps), (aI cI (ad 29) 20 ha), (aI cI (ad 30) 10 re)] sz)) 0 0 (va_A [(oC10 ad tn td lf), (oC3 ad hn), (aI cI (ad 23) 40 ho), (aI cI (ad 24) 40 hc), (aI cI (ad 25) 40 hp), (aI cI (ad 26) 40 hs), (aI cI (ad 27) 200 pt), (aI cI (ad 28) 200 ps), (aI cI (ad 29) 20 ha), (aI cI (ad 30) 10 re)] sz) := by
  refine Met.ofW (cc := cX10_percent) (maxL := 4) (ret := (some .int)) (by decide) rfl ?_
  intro p e s m args below meth c s₁ B hml hv
  obtain ⟨rfl, hsz, hP, hK, hD0, hN⟩ := hv
  have hx := B.exec
  have hb := B.bytes
  have hr := B.returns
  have hts := atoms_spec (ws := wsX10_percent) B.pre
  have hown : s.vm.findClass RX10 = some m.cls := findClass_of_methodNamed B.named
  have hlocks := B.notSynchronized
  subst hsz
  have hD := hD0.self (sz := s.heap.size)
  generalize hAe : va_A [(oC10 ad tn td lf), (oC3 ad hn), (aI cI (ad 23) 40 ho), (aI cI (ad 24) 40 hc), (aI cI (ad 25) 40 hp), (aI cI (ad 26) 40 hs), (aI cI (ad 27) 200 pt), (aI cI (ad 28) 200 ps), (aI cI (ad 29) 20 ha), (aI cI (ad 30) 10 re)] s.heap.size = A at hD ⊢
  have hA : ∀ q : Nat, s.heap.size ≤ q → A q := fun q h => by rw [← hAe]; exact Or.inr h
  have hS : va_S A s.heap s.heap [] := va_S.rf
  have hP : va_P D vwCl [(oC10 ad tn td lf), (oC3 ad hn), (aI cI (ad 23) 40 ho), (aI cI (ad 24) 40 hc), (aI cI (ad 25) 40 hp), (aI cI (ad 26) 40 hs), (aI cI (ad 27) 200 pt), (aI cI (ad 28) 200 ps), (aI cI (ad 29) 20 ha), (aI cI (ad 30) 10 re)] s.heap := hP
  have hl := lv_entry ([.ref (ad 0), .int o, .int k, .int d]) (n := 4) (Nat.le_of_ble_eq_true rfl)
  rw [lg_entry_eq]
  generalize (lg_sl ([.ref (ad 0), .int o, .int k, .int d]) ++ List.replicate (4 - (lg_sl ([.ref (ad 0), .int o, .int k, .int d])).length) Slot.unset).toArray = ls at hl ⊢
  have hl : lv_has ls 4 [(0, .ref (ad 0)), (1, .int o), (2, .int k), (3, .int d)] := hl
  have k0 : (0 : Int32).toInt = 0 := by decide
  refine lv_iload_n hx hb dX10_percent_0 rfl (lv_at hl 1 rfl) ?_
  refine lv_iload_n hx hb dX10_percent_1 rfl (lv_at hl 2 rfl) ?_
  refine st_i1 (va_runS (As := [.int o, .int k]) (rest := []) ⟨hx, hb, hml, hown, hts⟩ (ct_X10_isPair l D cI cY cJ cQ _ o k) (va_cwS 2 hts gX10_percent_X10_isPair rfl rfl rfl cdX10_isPair ⟨Nat.le_of_ble_eq_true rfl, Nat.le_of_ble_eq_true rfl⟩) (cPreS (hP.sub [] rfl) hK (hD.sub [] (by decide +kernel) rfl) hN) rfl rfl hl.1 rfl (lv_room (Nat.le_of_ble_eq_true rfl)) dX10_percent_2 ⟨Nat.le_of_ble_eq_true rfl, Nat.le_of_ble_eq_true rfl⟩) hP hD hS hA [] rfl (fun _ => rfl) (fun r3 u1 H locs hw2 => ?_)
  clear hP hS
  intro hP hS
  replace hw2 : r3 = if 0 ≤ o.toInt ∧ o.toInt < 20 ∧ 10 ≤ k.toInt ∧ k.toInt < 20 ∧ ¬ o.toInt = k.toInt then 1 else 0 := hw2
  refine lv_if_eq (tgt := 15) hx hb dX10_percent_5 (by decide) (fun c4 => ?_) (fun c4 => ?_)
  · skip
    have f5 := bo_f hw2 c4
    refine lv_ldc hx hb hown (hts (Cond.constant RX10 89 (-1000001)) (wm_t (wm_l (wm_i 0 rfl)))) dX10_percent_15 ?_
    have hP9 := hP
    have hD9 := hD
    exact W.iret (v := (-1000001)) hx hb hr (fun t ht hW => ⟨⟨(-1000001), (pt, ps, ha, re), rfl, (by unfold sp_percent; rw [if_neg (by omega)]), by rw [ht]; exact hP9, va_K.moved hW.alike hK, hD9⟩, hS.F ht⟩) hS.2.2 dX10_percent_17
  · skip
    have f6 := bo_t hw2 c4
    refine lv_iload_n hx hb dX10_percent_8 rfl (lv_at hl 3 rfl) ?_
    refine st_i1 (va_runS (As := [.int d]) (rest := []) ⟨hx, hb, hml, hown, hts⟩ (ct_X10_isDay l D cI cY cJ cQ _ d) (va_cwS 1 hts gX10_percent_X10_isDay rfl rfl rfl cdX10_isDay ⟨Nat.le_of_ble_eq_true rfl, Nat.le_of_ble_eq_true rfl⟩) (cPreS (hP.sub [] rfl) hK (hD.sub [] (by decide +kernel) rfl) hN) rfl rfl hl.1 rfl (lv_room (Nat.le_of_ble_eq_true rfl)) dX10_percent_9 ⟨Nat.le_of_ble_eq_true rfl, Nat.le_of_ble_eq_true rfl⟩) hP hD hS hA [] rfl (fun _ => rfl) (fun r9 u7 H locs hw8 => ?_)
    clear hP hS
    intro hP hS
    replace hw8 : r9 = if 0 ≤ d.toInt ∧ d.toInt < 10000 then 1 else 0 := hw8
    refine lv_if_ne (tgt := 18) hx hb dX10_percent_12 (by decide) (fun c10 => ?_) (fun c10 => ?_)
    · skip
      have f11 := bo_t hw8 c10
      refine lv_aload_n hx hb dX10_percent_18 rfl (lv_at hl 0 rfl) ?_
      refine va_get (D := D) (ci := 10) (v := .ref (ad 2)) (C := RX10) (T := TX10) (N := 14) hx hb hts inX10_percent_X10 hown hK hP 0 rfl rfl 1 (by decide) (hts (Cond.fieldLink RX10 19 "PortRooms" "holdings" "LPortRooms$Holdings;") (wm_t (wm_l (wm_i 1 rfl)))) (fun _ h9 => h9) rfl dX10_percent_19 ?_
      refine lv_iload_n hx hb dX10_percent_22 rfl (lv_at hl 3 rfl) ?_
      refine st_v (wr := [(oC10 ad tn td lf)]) (va_runV (C := RX3) (As := [.int d]) (rest := []) ⟨hx, hb, hml, hown, hts⟩ (ct_X3_lookAt l D cI cY cJ cQ _ ad hn ho hc hp hs pt ps ha re d h1 h2 h3 h4) (cwV 1 hts gX10_percent_X3_lookAt rfl rfl rfl ⟨rfl, cdX3_lookAt⟩ ⟨Nat.le_of_ble_eq_true rfl, Nat.le_of_ble_eq_true rfl⟩) (cPreV (hP.sub [1, 2, 3, 4, 5, 6, 7, 8, 9] rfl) hK (hD.sub [1, 2, 3, 4, 5, 6, 7, 8, 9] (by decide +kernel) rfl) hN (ci := 3) (q0 := 0) rfl rfl) rfl rfl hl.1 rfl (lv_room (Nat.le_of_ble_eq_true rfl)) dX10_percent_23 ⟨Nat.le_of_ble_eq_true rfl, Nat.le_of_ble_eq_true rfl⟩) hP hD hS hA [1, 2, 3, 4, 5, 6, 7, 8, 9] [0] rfl rfl (by decide +kernel) (by decide +kernel) (fun u12 H locs hw13 => ?_)
      clear hP hD hS
      intro hP hD hS
      obtain ⟨pt_15, ps_16, ha_17, re_18⟩ := u12
      replace hw13 : pcOk pt_15 ps_16 ho hc hp hs d hn.toNatClampNeg ∧ okL pt_15 ha_17 re_18 := hw13
      replace hP : va_P D vwCl [(oC10 ad tn td lf), (oC3 ad hn), (aI cI (ad 23) 40 ho), (aI cI (ad 24) 40 hc), (aI cI (ad 25) 40 hp), (aI cI (ad 26) 40 hs), (aI cI (ad 27) 200 pt_15), (aI cI (ad 28) 200 ps_16), (aI cI (ad 29) 20 ha_17), (aI cI (ad 30) 10 re_18)] H := hP
      replace hD : va_D A [(oC10 ad tn td lf), (oC3 ad hn), (aI cI (ad 23) 40 ho), (aI cI (ad 24) 40 hc), (aI cI (ad 25) 40 hp), (aI cI (ad 26) 40 hs), (aI cI (ad 27) 200 pt_15), (aI cI (ad 28) 200 ps_16), (aI cI (ad 29) 20 ha_17), (aI cI (ad 30) 10 re_18)] := hD
      obtain ⟨hw13, hw13L⟩ := hw13
      refine lv_aload_n hx hb dX10_percent_26 rfl (lv_at hl 0 rfl) ?_
      refine va_get (D := D) (ci := 10) (v := .ref (ad 2)) (C := RX10) (T := TX10) (N := 14) hx hb hts inX10_percent_X10 hown hK hP 0 rfl rfl 1 (by decide) (hts (Cond.fieldLink RX10 19 "PortRooms" "holdings" "LPortRooms$Holdings;") (wm_t (wm_l (wm_i 1 rfl)))) (fun _ h9 => h9) rfl dX10_percent_27 ?_
      refine lv_iload_n hx hb dX10_percent_30 rfl (lv_at hl 1 rfl) ?_
      refine lv_iload_n hx hb dX10_percent_31 rfl (lv_at hl 2 rfl) ?_
      refine st_i1 (va_runV (C := RX3) (As := [.int o, .int k]) (rest := []) ⟨hx, hb, hml, hown, hts⟩ (ct_X3_partOf l D cI cY cJ cQ _ ad hn pt_15 o k (by omega) (by omega) (by omega) (by omega)) (cwV 2 hts gX10_percent_X3_partOf rfl rfl rfl ⟨rfl, cdX3_partOf⟩ ⟨Nat.le_of_ble_eq_true rfl, Nat.le_of_ble_eq_true rfl⟩) (cPreV (hP.sub [1, 6] rfl) hK (hD.sub [1, 6] (by decide +kernel) rfl) hN (ci := 3) (q0 := 0) rfl rfl) rfl rfl hl.1 rfl (lv_room (Nat.le_of_ble_eq_true rfl)) dX10_percent_32 ⟨Nat.le_of_ble_eq_true rfl, Nat.le_of_ble_eq_true rfl⟩) hP hD hS hA [1, 6] rfl (fun _ => rfl) (fun r21 u19 H locs hw20 => ?_)
      clear hP hS
      intro hP hS
      replace hw20 : r21 = pt_15 (o.toNatClampNeg * 10 + k.toNatClampNeg - 10) := hw20
      have hP9 := hP
      have hD9 := hD
      exact W.iret (v := r21) hx hb hr (fun t ht hW => ⟨⟨r21, (pt_15, ps_16, ha_17, re_18), rfl, (by unfold sp_percent; rw [if_pos (by omega)]; exact hw20.trans (congrArg Prod.fst (hw13 o k (by omega) (by omega) (by omega) (by omega)))), by rw [ht]; exact hP9, va_K.moved hW.alike hK, hD9⟩, hS.F ht⟩) hS.2.2 dX10_percent_35
    · skip
      have f22 := bo_f hw8 c10
      refine lv_ldc hx hb hown (hts (Cond.constant RX10 89 (-1000001)) (wm_t (wm_l (wm_i 0 rfl)))) dX10_percent_15 ?_
      have hP9 := hP
      have hD9 := hD
      exact W.iret (v := (-1000001)) hx hb hr (fun t ht hW => ⟨⟨(-1000001), (pt, ps, ha, re), rfl, (by unfold sp_percent; rw [if_neg (by omega)]), by rw [ht]; exact hP9, va_K.moved hW.alike hK, hD9⟩, hS.F ht⟩) hS.2.2 dX10_percent_17

set_option maxHeartbeats 4000000 in
set_option maxRecDepth 100000 in
theorem ct_X3_leadingTo (l : Launch) (D : va_G) (cI cY cJ cQ : ClassId) (sz : Nat) (ad : Nat → Nat) (hn : Int32) (re : Nat → Int32) (a : Int32)  (h1 : 0 ≤ a.toInt) (h2 : a.toInt < 10)  : Met l yX3_leadingTo wsX3_leadingTo ({ frames := 1, cells := 0, slots := 0, locals := 21 }) (cPre D (ty4 cI cY cJ cQ) [(oC3 ad hn), (aI cI (ad 30) 10 re)] sz [.ref (ad 2), .int a]) (va_Qi (fun (r : Int32) (u : Unit) => ldQ re a.toNatClampNeg r 10) (cB D (ty4 cI cY cJ cQ) (fun (u : Unit) => [(oC3 ad hn), (aI cI (ad 30) 10 re)]) (va_A [(oC3 ad hn), (aI cI (ad 30) 10 re)] sz)) (va_A [(oC3 ad hn), (aI cI (ad 30) 10 re)] sz)) 0 0 (va_A [(oC3 ad hn), (aI cI (ad 30) 10 re)] sz) := by
  refine Met.ofW (cc := cX3_leadingTo) (maxL := 4) (ret := (some .int)) (by decide) rfl ?_
  intro p e s m args below meth c s₁ B hml hv
  obtain ⟨rfl, hsz, hP, hK, hD0, hN⟩ := hv
  have hx := B.exec
  have hb := B.bytes
  have hr := B.returns
  have hts := atoms_spec (ws := wsX3_leadingTo) B.pre
  have hown : s.vm.findClass RX3 = some m.cls := findClass_of_methodNamed B.named
  have hlocks := B.notSynchronized
  subst hsz
  have hD := hD0.self (sz := s.heap.size)
  generalize hAe : va_A [(oC3 ad hn), (aI cI (ad 30) 10 re)] s.heap.size = A at hD ⊢
  have hA : ∀ q : Nat, s.heap.size ≤ q → A q := fun q h => by rw [← hAe]; exact Or.inr h
  have hS : va_S A s.heap s.heap [] := va_S.rf
  have hP : va_P D vwCl [(oC3 ad hn), (aI cI (ad 30) 10 re)] s.heap := hP
  have hl := lv_entry ([.ref (ad 2), .int a]) (n := 4) (Nat.le_of_ble_eq_true rfl)
  rw [lg_entry_eq]
  generalize (lg_sl ([.ref (ad 2), .int a]) ++ List.replicate (4 - (lg_sl ([.ref (ad 2), .int a])).length) Slot.unset).toArray = ls at hl ⊢
  have hl : lv_has ls 4 [(0, .ref (ad 2)), (1, .int a)] := hl
  have k0 : (0 : Int32).toInt = 0 := by decide
  have k1 : (1 : Int32).toInt = 1 := by decide
  have k10 : (10 : Int32).toInt = 10 := by decide
  refine lv_iconst (v := 1) hx hb dX3_leadingTo_0 (by decide) ?_
  refine lv_iload_n hx hb dX3_leadingTo_1 rfl (lv_at hl 1 rfl) ?_
  refine lv_ishl hx hb dX3_leadingTo_2 ?_
  refine lv_topi (fun v1 ev1 => ?_)
  refine lv_istore_n (lv' := [(2, .int v1), (0, .ref (ad 2)), (1, .int a)]) hx hb dX3_leadingTo_3 rfl hl (by decide) rfl (fun ls hl => ?_)
  refine lv_iconst (v := 0) hx hb dX3_leadingTo_4 (by decide) ?_
  refine lv_istore_n (lv' := [(3, .int 0), (2, .int v1), (0, .ref (ad 2)), (1, .int a)]) hx hb dX3_leadingTo_5 rfl hl (by decide) rfl (fun ls hl => ?_)
  refine st_loop 6 (fun _ => []) (fun (z : Int32 × Int32) (ls : Array Slot) (H : Heap) (locs : List Loc) => match z with | (q6_2, q6_3) => (0 ≤ q6_3.toInt) ∧ (q6_3.toInt ≤ 10) ∧ (ldQ re a.toNatClampNeg q6_2 q6_3.toNatClampNeg) ∧ lv_has ls 4 [(0, .ref (ad 2)), (1, .int a), (2, .int q6_2), (3, .int q6_3)] ∧ va_P D vwCl [(oC3 ad hn), (aI cI (ad 30) 10 re)] H ∧ va_D A [(oC3 ad hn), (aI cI (ad 30) 10 re)] ∧ va_S A s.heap H locs) (fun (z : Int32 × Int32) => match z with | (q6_2, q6_3) => 10 - q6_3.toInt) ?_ ?_ (v1, (0 : Int32)) ⟨(by omega), (by omega), (by exact ldQ_0 (by assumption) (by omega) (by omega)), lv_sub hl [2, 3, 1, 0] rfl, hP, hD, hS⟩
  · rintro ⟨q6_2, q6_3⟩ ls H locs ⟨g2, g3, g4, hl, hP, hD, hS⟩
    show (0 : Int) ≤ 10 - q6_3.toInt
    omega
  · rintro n7 ih5 ⟨q6_2, q6_3⟩ ls H locs ⟨g2, g3, g4, hl, hP, hD, hS⟩ hm6
    have hm6 : 10 - q6_3.toInt < (n7 : Int) + 1 := hm6
    replace hl : lv_has ls 4 [(0, .ref (ad 2)), (1, .int a), (2, .int q6_2), (3, .int q6_3)] := hl
    replace hP : va_P D vwCl [(oC3 ad hn), (aI cI (ad 30) 10 re)] H := hP
    replace hD : va_D A [(oC3 ad hn), (aI cI (ad 30) 10 re)] := hD
    show W _ _ _ _ _ _ _ _ _ _ _ _ _ _ _ (F0 m 6 ls [])
    refine lv_iload_n hx hb dX3_leadingTo_6 rfl (lv_at hl 3 rfl) ?_
    refine lv_bipush (v := 10) hx hb dX3_leadingTo_7 (by decide) ?_
    refine lv_icmp_ge (tgt := 37) hx hb dX3_leadingTo_9 (by decide) (fun c8 => ?_) (fun c8 => ?_)
    · skip
      have f9 := i_le c8
      refine lv_iload_n hx hb dX3_leadingTo_37 rfl (lv_at hl 2 rfl) ?_
      have ce9 := i_cl (x := q6_3) (by omega)
      have ee9 : q6_3.toNatClampNeg = 10 := by omega
      have hz9 := g4
      rw [ee9] at hz9
      have hP9 := hP
      have hD9 := hD
      exact W.iret (v := q6_2) hx hb hr (fun t ht hW => ⟨⟨q6_2, (), rfl, hz9, by rw [ht]; exact hP9, va_K.moved hW.alike hK, hD9⟩, hS.F ht⟩) hS.2.2 dX3_leadingTo_38
    · skip
      have f10 := i_nle c8
      refine lv_aload_n hx hb dX3_leadingTo_12 rfl (lv_at hl 0 rfl) ?_
      refine va_get (D := D) (ci := 3) (v := .ref (ad 30)) (C := RX3) (T := TX3) (N := 9) hx hb hts inX3_leadingTo_X3 hown hK hP 0 rfl rfl 8 (by decide) (hts (Cond.fieldLink RX3 33 "PortRooms$Holdings" "reach" "[I") (wm_t (wm_l (wm_i 0 rfl)))) (fun _ h9 => h9) rfl dX3_leadingTo_13 ?_
      refine lv_iload_n hx hb dX3_leadingTo_16 rfl (lv_at hl 3 rfl) ?_
      refine va_iald hx hb hK hP 1 0 rfl rfl (i_in (by omega) (by omega)) dX3_leadingTo_17 ?_
      refine lv_topi (fun v11 ev11 => ?_)
      have tlv11 : v11.toInt = (re q6_3.toNatClampNeg).toInt := by rw [ev11]
      refine lv_iload_n hx hb dX3_leadingTo_18 rfl (lv_at hl 1 rfl) ?_
      refine st_i1 (va_runSN (As := [.int v11, .int a]) (rest := []) ⟨hx, hb, hml, hown, hts⟩ (ct_X10_hasBit l D cI cY cJ cQ _ v11 a) ⟨va_cnB 2 hts gX3_leadingTo_X10_hasBit_n62 rfl rfl rfl (hN.1 (RX3, 62, yX10_hasBit, "PortRooms") (by decide +kernel)) (hts (Cond.initialized RX10) (wm_t (wm_l (wm_i 2 rfl)))) cdX10_hasBit ⟨Nat.le_of_ble_eq_true rfl, Nat.le_of_ble_eq_true rfl⟩, (hts (Cond.static yX10_hasBit) (wm_t (wm_l (wm_i 1 rfl)))), trivial⟩ (cPreS (hP.sub [] rfl) hK (hD.sub [] (by decide +kernel) rfl) hN) rfl rfl hl.1 rfl (lv_room (Nat.le_of_ble_eq_true rfl)) dX3_leadingTo_19 ⟨Nat.le_of_ble_eq_true rfl, Nat.le_of_ble_eq_true rfl⟩) hP hD hS hA [] rfl (fun _ => rfl) (fun r14 u12 H locs hw13 => ?_)
      clear hP hS
      intro hP hS
      replace hw13 : r14 = if hbP v11 a then 1 else 0 := hw13
      refine lv_if_eq (tgt := 31) hx hb dX3_leadingTo_22 (by decide) (fun c15 => ?_) (fun c15 => ?_)
      · skip
        have f16 := bo_f hw13 c15
        obtain ⟨v17, ev17⟩ : ∃ y : Int32, y = q6_3 + 1 := ⟨_, rfl⟩
        try have tv17 : v17.toInt = q6_3.toInt + 1 := by rw [ev17]; exact (i_add (x := q6_3) (y := (1 : Int32)) (by rw [k1]; omega) (by rw [k1]; omega)).trans (by rw [k1])
        refine lv_iinc (v := v17) (lv' := [(3, .int v17), (0, .ref (ad 2)), (1, .int a), (2, .int q6_2)]) hx hb dX3_leadingTo_31 hl (k := 3) rfl (by rw [ev17]; rfl) (by decide) rfl (fun ls hl => ?_)
        refine lv_goto (tgt := 6) hx hb dX3_leadingTo_34 (by decide) ?_
        have clc18 := i_cl (x := q6_3) (by omega)
        have clc19 := i_cl (x := v17) (by omega)
        exact ih5 (q6_2, v17) ls H locs ⟨(by omega), (by omega), (by exact ldQ_no g4 (by omega) (by rw [← ev11]; exact hbn (by omega) (by omega) f16)), lv_sub hl [1, 2, 3, 0] rfl, hP.sub [0, 1] rfl, hD.sub [0, 1] (by decide +kernel) rfl, hS⟩ (by show 10 - v17.toInt < _; omega)
      · skip
        have f20 := bo_t hw13 c15
        refine lv_iload_n hx hb dX3_leadingTo_25 rfl (lv_at hl 2 rfl) ?_
        refine lv_iconst (v := 1) hx hb dX3_leadingTo_26 (by decide) ?_
        refine lv_iload_n hx hb dX3_leadingTo_27 rfl (lv_at hl 3 rfl) ?_
        refine lv_ishl hx hb dX3_leadingTo_28 ?_
        refine lv_topi (fun v21 ev21 => ?_)
        refine lv_ior hx hb dX3_leadingTo_29 ?_
        refine lv_topi (fun v22 ev22 => ?_)
        refine lv_istore_n (lv' := [(2, .int v22), (0, .ref (ad 2)), (1, .int a), (3, .int q6_3)]) hx hb dX3_leadingTo_30 rfl hl (by decide) rfl (fun ls hl => ?_)
        obtain ⟨v23, ev23⟩ : ∃ y : Int32, y = q6_3 + 1 := ⟨_, rfl⟩
        try have tv23 : v23.toInt = q6_3.toInt + 1 := by rw [ev23]; exact (i_add (x := q6_3) (y := (1 : Int32)) (by rw [k1]; omega) (by rw [k1]; omega)).trans (by rw [k1])
        refine lv_iinc (v := v23) (lv' := [(3, .int v23), (2, .int v22), (0, .ref (ad 2)), (1, .int a)]) hx hb dX3_leadingTo_31 hl (k := 3) rfl (by rw [ev23]; rfl) (by decide) rfl (fun ls hl => ?_)
        refine lv_goto (tgt := 6) hx hb dX3_leadingTo_34 (by decide) ?_
        have clc24 := i_cl (x := q6_3) (by omega)
        have clc25 := i_cl (x := v23) (by omega)
        exact ih5 (v22, v23) ls H locs ⟨(by omega), (by omega), (by exact ldQ_up (c := q6_3) g4 (by omega) (by omega) (by omega) (by rw [← ev11]; exact (hbb (by omega) (by omega)).mp f20) (by rw [ev22, ev21])), lv_sub hl [2, 3, 1, 0] rfl, hP.sub [0, 1] rfl, hD.sub [0, 1] (by decide +kernel) rfl, hS⟩ (by show 10 - v23.toInt < _; omega)
end

section
theorem cdX3_along : yX3_along.cls ≠ "java/lang/invoke/MethodHandle" ∧ yX3_along.cls ≠ "java/lang/invoke/VarHandle" ∧ (parseMethodDescriptor yX3_along.desc).map (fun d => d.parameters.length) = some 6 := by decide +kernel
theorem Gd_X3_along : gdA wsX3_along := gd_cons (by decide +kernel) (gd_app (gd_all (ws := wsX3_along_o1) (by decide +kernel)) (gd_app (gd_app Gd_X30 Gd_X10_hasBit) Gd_X3_partOf))
theorem inX3_along_X3 : ∀ w ∈ u_ws RX3 TX3 9, w ∈ wsX3_along := fun _ h => (List.mem_cons_of_mem _ (List.mem_append_right _ (List.mem_append_left _ (List.mem_append_left _ h))))
theorem ggX3_along_X10_hasBit : GoodIn wsX3_along wsX10_hasBit := goodIn_s (fun _ h => wm_t (wm_r (wm_l (wm_r h)))) Gd_X10_hasBit
set_option maxRecDepth 20000 in
theorem gX3_along_X10_hasBit_n62 : GoodIn wsX3_along (wsX10_hasBit) := ggX3_along_X10_hasBit
theorem ggX3_along_X3_partOf : GoodIn wsX3_along wsX3_partOf := goodIn_s (fun _ h => wm_t (wm_r (wm_r h))) Gd_X3_partOf
theorem gX3_along_X3_partOf : GoodIn wsX3_along (wsV RX3 83 RX3 yX3_partOf wsX3_partOf) := goodIn_V (own := RX3) (idx := 83) (C := RX3) (y := yX3_partOf) (wm_t (wm_l (wm_i 3 rfl))) (wm_t (wm_l (wm_i 4 rfl))) (wm_t (wm_l (wm_i 5 rfl))) (wm_t (wm_l (wm_i 6 rfl))) ggX3_along_X3_partOf
theorem ggX3_along_X3_along : GoodIn wsX3_along wsX3_along := goodIn_s (fun _ h => h) Gd_X3_along
theorem gX3_along_X3_along : GoodIn wsX3_along (va_wsS RX3 71 yX3_along wsX3_along) := goodIn_S (own := RX3) (idx := 71) (y := yX3_along) (wm_t (wm_l (wm_i 7 rfl))) (wm_t (wm_l (wm_i 8 rfl))) (wm_t (wm_l (wm_i 6 rfl))) ggX3_along_X3_along
theorem dX3_along_all0 : decode cX3_along 0 = .ok (.aload_n 0, 1) ∧ decode cX3_along 1 = .ok (.getfield 30, 3) ∧ decode cX3_along 4 = .ok (.iload_n 1, 1) ∧ decode cX3_along 5 = .ok (.iaload, 1) ∧ decode cX3_along 6 = .ok (.iload 4, 2) ∧ decode cX3_along 8 = .ok (.iand, 1) ∧ decode cX3_along 9 = .ok (.istore 6, 2) ∧ decode cX3_along 11 = .ok (.iload 6, 2) ∧ decode cX3_along 13 = .ok (.ifCond .eq 14, 3) ∧ decode cX3_along 16 = .ok (.iload_n 3, 1) ∧ decode cX3_along 17 = .ok (.ifCond .eq 10, 3) ∧ decode cX3_along 20 = .ok (.iload 5, 2) := by decide +kernel
theorem dX3_along_0 : decode cX3_along 0 = .ok (.aload_n 0, 1) := dX3_along_all0.1
theorem dX3_along_1 : decode cX3_along 1 = .ok (.getfield 30, 3) := dX3_along_all0.2.1
theorem dX3_along_4 : decode cX3_along 4 = .ok (.iload_n 1, 1) := dX3_along_all0.2.2.1
theorem dX3_along_5 : decode cX3_along 5 = .ok (.iaload, 1) := dX3_along_all0.2.2.2.1
theorem dX3_along_6 : decode cX3_along 6 = .ok (.iload 4, 2) := dX3_along_all0.2.2.2.2.1
theorem dX3_along_8 : decode cX3_along 8 = .ok (.iand, 1) := dX3_along_all0.2.2.2.2.2.1
theorem dX3_along_9 : decode cX3_along 9 = .ok (.istore 6, 2) := dX3_along_all0.2.2.2.2.2.2.1
theorem dX3_along_11 : decode cX3_along 11 = .ok (.iload 6, 2) := dX3_along_all0.2.2.2.2.2.2.2.1
theorem dX3_along_13 : decode cX3_along 13 = .ok (.ifCond .eq 14, 3) := dX3_along_all0.2.2.2.2.2.2.2.2.1
theorem dX3_along_16 : decode cX3_along 16 = .ok (.iload_n 3, 1) := dX3_along_all0.2.2.2.2.2.2.2.2.2.1
theorem dX3_along_17 : decode cX3_along 17 = .ok (.ifCond .eq 10, 3) := dX3_along_all0.2.2.2.2.2.2.2.2.2.2.1
theorem dX3_along_20 : decode cX3_along 20 = .ok (.iload 5, 2) := dX3_along_all0.2.2.2.2.2.2.2.2.2.2.2
theorem dX3_along_all1 : decode cX3_along 22 = .ok (.bipush 10, 2) ∧ decode cX3_along 24 = .ok (.if_icmp .le 5, 3) ∧ decode cX3_along 27 = .ok (.lconst 0, 1) ∧ decode cX3_along 28 = .ok (.lreturn, 1) ∧ decode cX3_along 29 = .ok (.lconst 0, 1) ∧ decode cX3_along 30 = .ok (.lstore 7, 2) ∧ decode cX3_along 32 = .ok (.iconst 0, 1) ∧ decode cX3_along 33 = .ok (.istore 9, 2) ∧ decode cX3_along 35 = .ok (.iload 9, 2) ∧ decode cX3_along 37 = .ok (.bipush 10, 2) ∧ decode cX3_along 39 = .ok (.if_icmp .ge 86, 3) ∧ decode cX3_along 42 = .ok (.iload 6, 2) := by decide +kernel
theorem dX3_along_22 : decode cX3_along 22 = .ok (.bipush 10, 2) := dX3_along_all1.1
theorem dX3_along_24 : decode cX3_along 24 = .ok (.if_icmp .le 5, 3) := dX3_along_all1.2.1
theorem dX3_along_27 : decode cX3_along 27 = .ok (.lconst 0, 1) := dX3_along_all1.2.2.1
theorem dX3_along_28 : decode cX3_along 28 = .ok (.lreturn, 1) := dX3_along_all1.2.2.2.1
theorem dX3_along_29 : decode cX3_along 29 = .ok (.lconst 0, 1) := dX3_along_all1.2.2.2.2.1
theorem dX3_along_30 : decode cX3_along 30 = .ok (.lstore 7, 2) := dX3_along_all1.2.2.2.2.2.1
theorem dX3_along_32 : decode cX3_along 32 = .ok (.iconst 0, 1) := dX3_along_all1.2.2.2.2.2.2.1
theorem dX3_along_33 : decode cX3_along 33 = .ok (.istore 9, 2) := dX3_along_all1.2.2.2.2.2.2.2.1
theorem dX3_along_35 : decode cX3_along 35 = .ok (.iload 9, 2) := dX3_along_all1.2.2.2.2.2.2.2.2.1
theorem dX3_along_37 : decode cX3_along 37 = .ok (.bipush 10, 2) := dX3_along_all1.2.2.2.2.2.2.2.2.2.1
theorem dX3_along_39 : decode cX3_along 39 = .ok (.if_icmp .ge 86, 3) := dX3_along_all1.2.2.2.2.2.2.2.2.2.2.1
theorem dX3_along_42 : decode cX3_along 42 = .ok (.iload 6, 2) := dX3_along_all1.2.2.2.2.2.2.2.2.2.2.2
theorem dX3_along_all2 : decode cX3_along 44 = .ok (.iload 9, 2) ∧ decode cX3_along 46 = .ok (.iushr, 1) ∧ decode cX3_along 47 = .ok (.ifCond .eq 78, 3) ∧ decode cX3_along 50 = .ok (.iload 6, 2) ∧ decode cX3_along 52 = .ok (.iload 9, 2) ∧ decode cX3_along 54 = .ok (.invokestatic 62, 3) ∧ decode cX3_along 57 = .ok (.ifCond .eq 62, 3) ∧ decode cX3_along 60 = .ok (.iload_n 3, 1) ∧ decode cX3_along 61 = .ok (.aload_n 0, 1) ∧ decode cX3_along 62 = .ok (.iload_n 1, 1) ∧ decode cX3_along 63 = .ok (.bipush 10, 2) ∧ decode cX3_along 65 = .ok (.iload 9, 2) := by decide +kernel
theorem dX3_along_44 : decode cX3_along 44 = .ok (.iload 9, 2) := dX3_along_all2.1
theorem dX3_along_46 : decode cX3_along 46 = .ok (.iushr, 1) := dX3_along_all2.2.1
theorem dX3_along_47 : decode cX3_along 47 = .ok (.ifCond .eq 78, 3) := dX3_along_all2.2.2.1
theorem dX3_along_50 : decode cX3_along 50 = .ok (.iload 6, 2) := dX3_along_all2.2.2.2.1
theorem dX3_along_52 : decode cX3_along 52 = .ok (.iload 9, 2) := dX3_along_all2.2.2.2.2.1
theorem dX3_along_54 : decode cX3_along 54 = .ok (.invokestatic 62, 3) := dX3_along_all2.2.2.2.2.2.1
theorem dX3_along_57 : decode cX3_along 57 = .ok (.ifCond .eq 62, 3) := dX3_along_all2.2.2.2.2.2.2.1
theorem dX3_along_60 : decode cX3_along 60 = .ok (.iload_n 3, 1) := dX3_along_all2.2.2.2.2.2.2.2.1
theorem dX3_along_61 : decode cX3_along 61 = .ok (.aload_n 0, 1) := dX3_along_all2.2.2.2.2.2.2.2.2.1
theorem dX3_along_62 : decode cX3_along 62 = .ok (.iload_n 1, 1) := dX3_along_all2.2.2.2.2.2.2.2.2.2.1
theorem dX3_along_63 : decode cX3_along 63 = .ok (.bipush 10, 2) := dX3_along_all2.2.2.2.2.2.2.2.2.2.2.1
theorem dX3_along_65 : decode cX3_along 65 = .ok (.iload 9, 2) := dX3_along_all2.2.2.2.2.2.2.2.2.2.2.2
theorem dX3_along_all3 : decode cX3_along 67 = .ok (.iadd, 1) ∧ decode cX3_along 68 = .ok (.invokevirtual 83, 3) ∧ decode cX3_along 71 = .ok (.imul, 1) ∧ decode cX3_along 72 = .ok (.bipush 100, 2) ∧ decode cX3_along 74 = .ok (.idiv, 1) ∧ decode cX3_along 75 = .ok (.istore 10, 2) ∧ decode cX3_along 77 = .ok (.lload 7, 2) ∧ decode cX3_along 79 = .ok (.iload 9, 2) ∧ decode cX3_along 81 = .ok (.iload_n 2, 1) ∧ decode cX3_along 82 = .ok (.if_icmp .ne 9, 3) ∧ decode cX3_along 85 = .ok (.iload 10, 2) ∧ decode cX3_along 87 = .ok (.i2l, 1) := by decide +kernel
theorem dX3_along_67 : decode cX3_along 67 = .ok (.iadd, 1) := dX3_along_all3.1
theorem dX3_along_68 : decode cX3_along 68 = .ok (.invokevirtual 83, 3) := dX3_along_all3.2.1
theorem dX3_along_71 : decode cX3_along 71 = .ok (.imul, 1) := dX3_along_all3.2.2.1
theorem dX3_along_72 : decode cX3_along 72 = .ok (.bipush 100, 2) := dX3_along_all3.2.2.2.1
theorem dX3_along_74 : decode cX3_along 74 = .ok (.idiv, 1) := dX3_along_all3.2.2.2.2.1
theorem dX3_along_75 : decode cX3_along 75 = .ok (.istore 10, 2) := dX3_along_all3.2.2.2.2.2.1
theorem dX3_along_77 : decode cX3_along 77 = .ok (.lload 7, 2) := dX3_along_all3.2.2.2.2.2.2.1
theorem dX3_along_79 : decode cX3_along 79 = .ok (.iload 9, 2) := dX3_along_all3.2.2.2.2.2.2.2.1
theorem dX3_along_81 : decode cX3_along 81 = .ok (.iload_n 2, 1) := dX3_along_all3.2.2.2.2.2.2.2.2.1
theorem dX3_along_82 : decode cX3_along 82 = .ok (.if_icmp .ne 9, 3) := dX3_along_all3.2.2.2.2.2.2.2.2.2.1
theorem dX3_along_85 : decode cX3_along 85 = .ok (.iload 10, 2) := dX3_along_all3.2.2.2.2.2.2.2.2.2.2.1
theorem dX3_along_87 : decode cX3_along 87 = .ok (.i2l, 1) := dX3_along_all3.2.2.2.2.2.2.2.2.2.2.2
theorem dX3_along_all4 : decode cX3_along 88 = .ok (.goto 28, 3) ∧ decode cX3_along 91 = .ok (.aload_n 0, 1) ∧ decode cX3_along 92 = .ok (.bipush 10, 2) ∧ decode cX3_along 94 = .ok (.iload 9, 2) ∧ decode cX3_along 96 = .ok (.iadd, 1) ∧ decode cX3_along 97 = .ok (.iload_n 2, 1) ∧ decode cX3_along 98 = .ok (.iload 10, 2) ∧ decode cX3_along 100 = .ok (.iload 4, 2) ∧ decode cX3_along 102 = .ok (.iconst 1, 1) ∧ decode cX3_along 103 = .ok (.iload 9, 2) ∧ decode cX3_along 105 = .ok (.ishl, 1) ∧ decode cX3_along 106 = .ok (.iconst (-1), 1) := by decide +kernel
theorem dX3_along_88 : decode cX3_along 88 = .ok (.goto 28, 3) := dX3_along_all4.1
theorem dX3_along_91 : decode cX3_along 91 = .ok (.aload_n 0, 1) := dX3_along_all4.2.1
theorem dX3_along_92 : decode cX3_along 92 = .ok (.bipush 10, 2) := dX3_along_all4.2.2.1
theorem dX3_along_94 : decode cX3_along 94 = .ok (.iload 9, 2) := dX3_along_all4.2.2.2.1
theorem dX3_along_96 : decode cX3_along 96 = .ok (.iadd, 1) := dX3_along_all4.2.2.2.2.1
theorem dX3_along_97 : decode cX3_along 97 = .ok (.iload_n 2, 1) := dX3_along_all4.2.2.2.2.2.1
theorem dX3_along_98 : decode cX3_along 98 = .ok (.iload 10, 2) := dX3_along_all4.2.2.2.2.2.2.1
theorem dX3_along_100 : decode cX3_along 100 = .ok (.iload 4, 2) := dX3_along_all4.2.2.2.2.2.2.2.1
theorem dX3_along_102 : decode cX3_along 102 = .ok (.iconst 1, 1) := dX3_along_all4.2.2.2.2.2.2.2.2.1
theorem dX3_along_103 : decode cX3_along 103 = .ok (.iload 9, 2) := dX3_along_all4.2.2.2.2.2.2.2.2.2.1
theorem dX3_along_105 : decode cX3_along 105 = .ok (.ishl, 1) := dX3_along_all4.2.2.2.2.2.2.2.2.2.2.1
theorem dX3_along_106 : decode cX3_along 106 = .ok (.iconst (-1), 1) := dX3_along_all4.2.2.2.2.2.2.2.2.2.2.2
theorem dX3_along_all5 : decode cX3_along 107 = .ok (.ixor, 1) ∧ decode cX3_along 108 = .ok (.iand, 1) ∧ decode cX3_along 109 = .ok (.iload 5, 2) ∧ decode cX3_along 111 = .ok (.iconst 1, 1) ∧ decode cX3_along 112 = .ok (.iadd, 1) ∧ decode cX3_along 113 = .ok (.invokestatic 71, 3) ∧ decode cX3_along 116 = .ok (.ladd, 1) ∧ decode cX3_along 117 = .ok (.lstore 7, 2) ∧ decode cX3_along 119 = .ok (.iinc 9 1, 3) ∧ decode cX3_along 122 = .ok (.goto (-87), 3) ∧ decode cX3_along 125 = .ok (.lload 7, 2) ∧ decode cX3_along 127 = .ok (.lreturn, 1) := by decide +kernel
theorem dX3_along_107 : decode cX3_along 107 = .ok (.ixor, 1) := dX3_along_all5.1
theorem dX3_along_108 : decode cX3_along 108 = .ok (.iand, 1) := dX3_along_all5.2.1
theorem dX3_along_109 : decode cX3_along 109 = .ok (.iload 5, 2) := dX3_along_all5.2.2.1
theorem dX3_along_111 : decode cX3_along 111 = .ok (.iconst 1, 1) := dX3_along_all5.2.2.2.1
theorem dX3_along_112 : decode cX3_along 112 = .ok (.iadd, 1) := dX3_along_all5.2.2.2.2.1
theorem dX3_along_113 : decode cX3_along 113 = .ok (.invokestatic 71, 3) := dX3_along_all5.2.2.2.2.2.1
theorem dX3_along_116 : decode cX3_along 116 = .ok (.ladd, 1) := dX3_along_all5.2.2.2.2.2.2.1
theorem dX3_along_117 : decode cX3_along 117 = .ok (.lstore 7, 2) := dX3_along_all5.2.2.2.2.2.2.2.1
theorem dX3_along_119 : decode cX3_along 119 = .ok (.iinc 9 1, 3) := dX3_along_all5.2.2.2.2.2.2.2.2.1
theorem dX3_along_122 : decode cX3_along 122 = .ok (.goto (-87), 3) := dX3_along_all5.2.2.2.2.2.2.2.2.2.1
theorem dX3_along_125 : decode cX3_along 125 = .ok (.lload 7, 2) := dX3_along_all5.2.2.2.2.2.2.2.2.2.2.1
theorem dX3_along_127 : decode cX3_along 127 = .ok (.lreturn, 1) := dX3_along_all5.2.2.2.2.2.2.2.2.2.2.2
set_option maxHeartbeats 4000000 in
set_option maxRecDepth 100000 in
theorem ct_X3_along_0 (l : Launch) (D : va_G) (cI cY cJ cQ : ClassId) (sz : Nat) (ad : Nat → Nat) (hn : Int32) (pt ha : Nat → Int32) (q o v f d : Int32)  (h1 : 0 ≤ q.toInt) (h2 : q.toInt < 20) (h3 : d.toInt = 11 - ((0 : Nat) : Int)) (h4 : okA pt ha) (h5 : 0 ≤ v.toInt) (h6 : v.toInt ≤ 1000000) (h7 : 0 ≤ o.toInt) (h8 : (0 : Nat) ≤ 11) : Met l yX3_along wsX3_along ({ frames := 0 + 2, cells := 0, slots := 0, locals := 30 * 0 + 60 }) (cPre D (ty4 cI cY cJ cQ) [(oC3 ad hn), (aI cI (ad 27) 200 pt), (aI cI (ad 29) 20 ha)] sz [.ref (ad 2), .int q, .int o, .int v, .int f, .int d]) (va_Ql (fun (r : Int64) (u : Unit) => r.toInt = alG (ptF pt) o.toNatClampNeg 0 q.toNatClampNeg v.toInt (fun x9 => bt f x9)) (cB D (ty4 cI cY cJ cQ) (fun (u : Unit) => [(oC3 ad hn), (aI cI (ad 27) 200 pt), (aI cI (ad 29) 20 ha)]) (va_A [(oC3 ad hn), (aI cI (ad 27) 200 pt), (aI cI (ad 29) 20 ha)] sz)) (va_A [(oC3 ad hn), (aI cI (ad 27) 200 pt), (aI cI (ad 29) 20 ha)] sz)) 0 0 (va_A [(oC3 ad hn), (aI cI (ad 27) 200 pt), (aI cI (ad 29) 20 ha)] sz) := by
  refine Met.ofW (cc := cX3_along) (maxL := 11) (ret := (some .long)) (by decide) rfl ?_
  intro p e s m args below meth c s₁ B hml hv
  obtain ⟨rfl, hsz, hP, hK, hD0, hN⟩ := hv
  have hx := B.exec
  have hb := B.bytes
  have hr := B.returns
  have hts := atoms_spec (ws := wsX3_along) B.pre
  have hown : s.vm.findClass RX3 = some m.cls := findClass_of_methodNamed B.named
  have hlocks := B.notSynchronized
  subst hsz
  have hD := hD0.self (sz := s.heap.size)
  generalize hAe : va_A [(oC3 ad hn), (aI cI (ad 27) 200 pt), (aI cI (ad 29) 20 ha)] s.heap.size = A at hD ⊢
  have hA : ∀ q : Nat, s.heap.size ≤ q → A q := fun q h => by rw [← hAe]; exact Or.inr h
  have hS : va_S A s.heap s.heap [] := va_S.rf
  have hP : va_P D vwCl [(oC3 ad hn), (aI cI (ad 27) 200 pt), (aI cI (ad 29) 20 ha)] s.heap := hP
  have hl := lv_entry ([.ref (ad 2), .int q, .int o, .int v, .int f, .int d]) (n := 11) (Nat.le_of_ble_eq_true rfl)
  rw [lg_entry_eq]
  generalize (lg_sl ([.ref (ad 2), .int q, .int o, .int v, .int f, .int d]) ++ List.replicate (11 - (lg_sl ([.ref (ad 2), .int q, .int o, .int v, .int f, .int d])).length) Slot.unset).toArray = ls at hl ⊢
  have hl : lv_has ls 11 [(0, .ref (ad 2)), (1, .int q), (2, .int o), (3, .int v), (4, .int f), (5, .int d)] := hl
  have k0 : (0 : Int32).toInt = 0 := by decide
  have k10 : (10 : Int32).toInt = 10 := by decide
  have hd9 := i_rng d
  refine lv_aload_n hx hb dX3_along_0 rfl (lv_at hl 0 rfl) ?_
  refine va_get (D := D) (ci := 3) (v := .ref (ad 29)) (C := RX3) (T := TX3) (N := 9) hx hb hts inX3_along_X3 hown hK hP 0 rfl rfl 7 (by decide) (hts (Cond.fieldLink RX3 30 "PortRooms$Holdings" "has" "[I") (wm_t (wm_l (wm_i 0 rfl)))) (fun _ h9 => h9) rfl dX3_along_1 ?_
  refine lv_iload_n hx hb dX3_along_4 rfl (lv_at hl 1 rfl) ?_
  refine va_iald hx hb hK hP 2 0 rfl rfl (i_in (by omega) (by omega)) dX3_along_5 ?_
  refine lv_topi (fun v1 ev1 => ?_)
  have tlv1 : v1.toInt = (ha q.toNatClampNeg).toInt := by rw [ev1]
  refine lv_iload hx hb dX3_along_6 (lv_at hl 4 rfl) ?_
  refine lv_iand hx hb dX3_along_8 ?_
  refine lv_topi (fun v2 ev2 => ?_)
  refine lv_istore (lv' := [(6, .int v2), (0, .ref (ad 2)), (1, .int q), (2, .int o), (3, .int v), (4, .int f), (5, .int d)]) hx hb dX3_along_9 hl (by decide) rfl (fun ls hl => ?_)
  refine lv_iload hx hb dX3_along_11 (lv_at hl 0 rfl) ?_
  refine lv_if_eq (tgt := 27) hx hb dX3_along_13 (by decide) (fun c3 => ?_) (fun c3 => ?_)
  · skip
    have f4 := i_eq c3
    refine lv_lconst (v := 0) hx hb dX3_along_27 (by decide) ?_
    have hP9 := hP
    have hD9 := hD
    exact W.lret (v := 0) hx hb hr (fun t ht hW => ⟨⟨0, (), rfl, (by rw [alG_z]; decide), by rw [ht]; exact hP9, va_K.moved hW.alike hK, hD9⟩, hS.F ht⟩) hS.2.2 dX3_along_28
  · skip
    have f5 := i_ne c3
    refine lv_iload_n hx hb dX3_along_16 rfl (lv_at hl 4 rfl) ?_
    refine lv_if_eq (tgt := 27) hx hb dX3_along_17 (by decide) (fun c6 => ?_) (fun c6 => ?_)
    · skip
      have f7 := i_eq c6
      refine lv_lconst (v := 0) hx hb dX3_along_27 (by decide) ?_
      have hP9 := hP
      have hD9 := hD
      exact W.lret (v := 0) hx hb hr (fun t ht hW => ⟨⟨0, (), rfl, (by rw [alG_z]; decide), by rw [ht]; exact hP9, va_K.moved hW.alike hK, hD9⟩, hS.F ht⟩) hS.2.2 dX3_along_28
    · skip
      have f8 := i_ne c6
      refine lv_iload hx hb dX3_along_20 (lv_at hl 6 rfl) ?_
      refine lv_bipush (v := 10) hx hb dX3_along_22 (by decide) ?_
      refine lv_icmp_le (tgt := 29) hx hb dX3_along_24 (by decide) (fun c9 => by exfalso; have := i_le c9; omega) (fun _ => ?_)
      refine lv_lconst (v := 0) hx hb dX3_along_27 (by decide) ?_
      have hP9 := hP
      have hD9 := hD
      exact W.lret (v := 0) hx hb hr (fun t ht hW => ⟨⟨0, (), rfl, (by rw [alG_z]; decide), by rw [ht]; exact hP9, va_K.moved hW.alike hK, hD9⟩, hS.F ht⟩) hS.2.2 dX3_along_28

set_option maxHeartbeats 4000000 in
set_option maxRecDepth 100000 in
theorem ct_X3_along_s (l : Launch) (D : va_G) (cI cY cJ cQ : ClassId) (sz : Nat) (n : Nat) (ad : Nat → Nat) (hn : Int32) (pt ha : Nat → Int32) (q o v f d : Int32)  (h1 : 0 ≤ q.toInt) (h2 : q.toInt < 20) (h3 : d.toInt = 11 - (((n + 1) : Nat) : Int)) (h4 : okA pt ha) (h5 : 0 ≤ v.toInt) (h6 : v.toInt ≤ 1000000) (h7 : 0 ≤ o.toInt) (h8 : ((n + 1) : Nat) ≤ 11) (ih : ∀ (l : Launch) (D : va_G) (cI cY cJ cQ : ClassId) (sz : Nat) (ad : Nat → Nat) (hn : Int32) (pt ha : Nat → Int32) (q o v f d : Int32) (h1 : 0 ≤ q.toInt) (h2 : q.toInt < 20) (h3 : d.toInt = 11 - (n : Int)) (h4 : okA pt ha) (h5 : 0 ≤ v.toInt) (h6 : v.toInt ≤ 1000000) (h7 : 0 ≤ o.toInt) (h8 : n ≤ 11), Met l yX3_along wsX3_along ({ frames := n + 2, cells := 0, slots := 0, locals := 30 * n + 60 }) (cPre D (ty4 cI cY cJ cQ) [(oC3 ad hn), (aI cI (ad 27) 200 pt), (aI cI (ad 29) 20 ha)] sz [.ref (ad 2), .int q, .int o, .int v, .int f, .int d]) (va_Ql (fun (r : Int64) (u : Unit) => r.toInt = alG (ptF pt) o.toNatClampNeg n q.toNatClampNeg v.toInt (fun x9 => bt f x9)) (cB D (ty4 cI cY cJ cQ) (fun (u : Unit) => [(oC3 ad hn), (aI cI (ad 27) 200 pt), (aI cI (ad 29) 20 ha)]) (va_A [(oC3 ad hn), (aI cI (ad 27) 200 pt), (aI cI (ad 29) 20 ha)] sz)) (va_A [(oC3 ad hn), (aI cI (ad 27) 200 pt), (aI cI (ad 29) 20 ha)] sz)) 0 0 (va_A [(oC3 ad hn), (aI cI (ad 27) 200 pt), (aI cI (ad 29) 20 ha)] sz)) : Met l yX3_along wsX3_along ({ frames := (n + 1) + 2, cells := 0, slots := 0, locals := 30 * (n + 1) + 60 }) (cPre D (ty4 cI cY cJ cQ) [(oC3 ad hn), (aI cI (ad 27) 200 pt), (aI cI (ad 29) 20 ha)] sz [.ref (ad 2), .int q, .int o, .int v, .int f, .int d]) (va_Ql (fun (r : Int64) (u : Unit) => r.toInt = alG (ptF pt) o.toNatClampNeg (n + 1) q.toNatClampNeg v.toInt (fun x9 => bt f x9)) (cB D (ty4 cI cY cJ cQ) (fun (u : Unit) => [(oC3 ad hn), (aI cI (ad 27) 200 pt), (aI cI (ad 29) 20 ha)]) (va_A [(oC3 ad hn), (aI cI (ad 27) 200 pt), (aI cI (ad 29) 20 ha)] sz)) (va_A [(oC3 ad hn), (aI cI (ad 27) 200 pt), (aI cI (ad 29) 20 ha)] sz)) 0 0 (va_A [(oC3 ad hn), (aI cI (ad 27) 200 pt), (aI cI (ad 29) 20 ha)] sz) := by
  refine Met.ofW (cc := cX3_along) (maxL := 11) (ret := (some .long)) (by decide) rfl ?_
  intro p e s m args below meth c s₁ B hml hv
  obtain ⟨rfl, hsz, hP, hK, hD0, hN⟩ := hv
  have hx := B.exec
  have hb := B.bytes
  have hr := B.returns
  have hts := atoms_spec (ws := wsX3_along) B.pre
  have hown : s.vm.findClass RX3 = some m.cls := findClass_of_methodNamed B.named
  have hlocks := B.notSynchronized
  subst hsz
  have hD := hD0.self (sz := s.heap.size)
  generalize hAe : va_A [(oC3 ad hn), (aI cI (ad 27) 200 pt), (aI cI (ad 29) 20 ha)] s.heap.size = A at hD ⊢
  have hA : ∀ q : Nat, s.heap.size ≤ q → A q := fun q h => by rw [← hAe]; exact Or.inr h
  have hS : va_S A s.heap s.heap [] := va_S.rf
  have hP : va_P D vwCl [(oC3 ad hn), (aI cI (ad 27) 200 pt), (aI cI (ad 29) 20 ha)] s.heap := hP
  have hl := lv_entry ([.ref (ad 2), .int q, .int o, .int v, .int f, .int d]) (n := 11) (Nat.le_of_ble_eq_true rfl)
  rw [lg_entry_eq]
  generalize (lg_sl ([.ref (ad 2), .int q, .int o, .int v, .int f, .int d]) ++ List.replicate (11 - (lg_sl ([.ref (ad 2), .int q, .int o, .int v, .int f, .int d])).length) Slot.unset).toArray = ls at hl ⊢
  have hl : lv_has ls 11 [(0, .ref (ad 2)), (1, .int q), (2, .int o), (3, .int v), (4, .int f), (5, .int d)] := hl
  have km1 : (-1 : Int32).toInt = -1 := by decide
  have k0 : (0 : Int32).toInt = 0 := by decide
  have k1 : (1 : Int32).toInt = 1 := by decide
  have k10 : (10 : Int32).toInt = 10 := by decide
  have kl0 : (0 : Int64).toInt = 0 := by decide
  have hd9 := i_rng d
  refine lv_aload_n hx hb dX3_along_0 rfl (lv_at hl 0 rfl) ?_
  refine va_get (D := D) (ci := 3) (v := .ref (ad 29)) (C := RX3) (T := TX3) (N := 9) hx hb hts inX3_along_X3 hown hK hP 0 rfl rfl 7 (by decide) (hts (Cond.fieldLink RX3 30 "PortRooms$Holdings" "has" "[I") (wm_t (wm_l (wm_i 0 rfl)))) (fun _ h9 => h9) rfl dX3_along_1 ?_
  refine lv_iload_n hx hb dX3_along_4 rfl (lv_at hl 1 rfl) ?_
  refine va_iald hx hb hK hP 2 0 rfl rfl (i_in (by omega) (by omega)) dX3_along_5 ?_
  refine lv_topi (fun v1 ev1 => ?_)
  have tlv1 : v1.toInt = (ha q.toNatClampNeg).toInt := by rw [ev1]
  refine lv_iload hx hb dX3_along_6 (lv_at hl 4 rfl) ?_
  refine lv_iand hx hb dX3_along_8 ?_
  refine lv_topi (fun v2 ev2 => ?_)
  refine lv_istore (lv' := [(6, .int v2), (0, .ref (ad 2)), (1, .int q), (2, .int o), (3, .int v), (4, .int f), (5, .int d)]) hx hb dX3_along_9 hl (by decide) rfl (fun ls hl => ?_)
  refine lv_iload hx hb dX3_along_11 (lv_at hl 0 rfl) ?_
  refine lv_if_eq (tgt := 27) hx hb dX3_along_13 (by decide) (fun c3 => ?_) (fun c3 => ?_)
  · skip
    have f4 := i_eq c3
    refine lv_lconst (v := 0) hx hb dX3_along_27 (by decide) ?_
    have clq7 := i_cl (x := q) (by omega)
    have z0 : (0 : Int64).toInt = 0 := by decide
    have hP9 := hP
    have hD9 := hD
    exact W.lret (v := 0) hx hb hr (fun t ht hW => ⟨⟨0, (), rfl, (by first | (exfalso; omega) | (show (0 : Int64).toInt = alG (ptF pt) o.toNatClampNeg (n + 1) q.toNatClampNeg v.toInt (fun x9 => bt f x9); rw [z0, alG_s]; exact (smC_0 10 (fun c hc => al_none (c := 0) (nx := v2) (f := f) (q := q.toNatClampNeg) h4 (by omega) (by rw [ev2, ev1]) (fun x _ => by rw [show v2 = 0 from i_of (by omega), b_0]) c (by omega) hc)).symm) | (show (0 : Int64).toInt = alG (ptF pt) o.toNatClampNeg (n + 1) q.toNatClampNeg v.toInt (fun x9 => bt f x9); rw [z0, show v.toInt = 0 by omega]; exact (alG_v0 _ _ _ _ _).symm)), by rw [ht]; exact hP9, va_K.moved hW.alike hK, hD9⟩, hS.F ht⟩) hS.2.2 dX3_along_28
  · skip
    have f5 := i_ne c3
    refine lv_iload_n hx hb dX3_along_16 rfl (lv_at hl 4 rfl) ?_
    refine lv_if_eq (tgt := 27) hx hb dX3_along_17 (by decide) (fun c6 => ?_) (fun c6 => ?_)
    · skip
      have f7 := i_eq c6
      refine lv_lconst (v := 0) hx hb dX3_along_27 (by decide) ?_
      have clq7 := i_cl (x := q) (by omega)
      have z0 : (0 : Int64).toInt = 0 := by decide
      have hP9 := hP
      have hD9 := hD
      exact W.lret (v := 0) hx hb hr (fun t ht hW => ⟨⟨0, (), rfl, (by first | (exfalso; omega) | (show (0 : Int64).toInt = alG (ptF pt) o.toNatClampNeg (n + 1) q.toNatClampNeg v.toInt (fun x9 => bt f x9); rw [z0, alG_s]; exact (smC_0 10 (fun c hc => al_none (c := 0) (nx := v2) (f := f) (q := q.toNatClampNeg) h4 (by omega) (by rw [ev2, ev1]) (fun x _ => by rw [show v2 = 0 from i_of (by omega), b_0]) c (by omega) hc)).symm) | (show (0 : Int64).toInt = alG (ptF pt) o.toNatClampNeg (n + 1) q.toNatClampNeg v.toInt (fun x9 => bt f x9); rw [z0, show v.toInt = 0 by omega]; exact (alG_v0 _ _ _ _ _).symm)), by rw [ht]; exact hP9, va_K.moved hW.alike hK, hD9⟩, hS.F ht⟩) hS.2.2 dX3_along_28
    · skip
      have f8 := i_ne c6
      refine lv_iload hx hb dX3_along_20 (lv_at hl 6 rfl) ?_
      refine lv_bipush (v := 10) hx hb dX3_along_22 (by decide) ?_
      refine lv_icmp_le (tgt := 29) hx hb dX3_along_24 (by decide) (fun c9 => ?_) (fun c9 => ?_)
      · skip
        have f10 := i_le c9
        refine lv_lconst (v := 0) hx hb dX3_along_29 (by decide) ?_
        refine lv_lstore (lv' := [(7, .long 0), (6, .int v2), (0, .ref (ad 2)), (1, .int q), (2, .int o), (3, .int v), (4, .int f), (5, .int d)]) hx hb dX3_along_30 hl (by decide) rfl (fun ls hl => ?_)
        refine lv_iconst (v := 0) hx hb dX3_along_32 (by decide) ?_
        refine lv_istore (lv' := [(9, .int 0), (7, .long 0), (6, .int v2), (0, .ref (ad 2)), (1, .int q), (2, .int o), (3, .int v), (4, .int f), (5, .int d)]) hx hb dX3_along_33 hl (by decide) rfl (fun ls hl => ?_)
        refine st_loop 35 (fun _ => []) (fun (z : Int32 × Int64) (ls : Array Slot) (H : Heap) (locs : List Loc) => match z with | (q35_9, q35_7) => (0 ≤ q35_9.toInt) ∧ (q35_9.toInt ≤ 10) ∧ (q35_7.toInt = smC (alT (ptF pt) o.toNatClampNeg n q.toNatClampNeg v.toInt (fun x9 => bt f x9)) q35_9.toNatClampNeg) ∧ lv_has ls 11 [(0, .ref (ad 2)), (1, .int q), (2, .int o), (3, .int v), (4, .int f), (5, .int d), (6, .int v2), (7, .long q35_7), (9, .int q35_9)] ∧ va_P D vwCl [(oC3 ad hn), (aI cI (ad 27) 200 pt), (aI cI (ad 29) 20 ha)] H ∧ va_D A [(oC3 ad hn), (aI cI (ad 27) 200 pt), (aI cI (ad 29) 20 ha)] ∧ va_S A s.heap H locs) (fun (z : Int32 × Int64) => match z with | (q35_9, q35_7) => 10 - q35_9.toInt) ?_ ?_ ((0 : Int32), (0 : Int64)) ⟨(by omega), (by omega), (by rfl), lv_sub hl [3, 4, 5, 6, 7, 8, 2, 1, 0] rfl, hP, hD, hS⟩
        · rintro ⟨q35_9, q35_7⟩ ls H locs ⟨g11, g12, g13, hl, hP, hD, hS⟩
          show (0 : Int) ≤ 10 - q35_9.toInt
          omega
        · rintro n16 ih14 ⟨q35_9, q35_7⟩ ls H locs ⟨g11, g12, g13, hl, hP, hD, hS⟩ hm15
          have hm15 : 10 - q35_9.toInt < (n16 : Int) + 1 := hm15
          replace hl : lv_has ls 11 [(0, .ref (ad 2)), (1, .int q), (2, .int o), (3, .int v), (4, .int f), (5, .int d), (6, .int v2), (7, .long q35_7), (9, .int q35_9)] := hl
          replace hP : va_P D vwCl [(oC3 ad hn), (aI cI (ad 27) 200 pt), (aI cI (ad 29) 20 ha)] H := hP
          replace hD : va_D A [(oC3 ad hn), (aI cI (ad 27) 200 pt), (aI cI (ad 29) 20 ha)] := hD
          show W _ _ _ _ _ _ _ _ _ _ _ _ _ _ _ (F0 m 35 ls [])
          refine lv_iload hx hb dX3_along_35 (lv_at hl 8 rfl) ?_
          refine lv_bipush (v := 10) hx hb dX3_along_37 (by decide) ?_
          refine lv_icmp_ge (tgt := 125) hx hb dX3_along_39 (by decide) (fun c17 => ?_) (fun c17 => ?_)
          · skip
            have f18 := i_le c17
            refine lv_lload hx hb dX3_along_125 (lv_at hl 7 rfl) ?_
            have clq7 := i_cl (x := q) (by omega)
            have cle7 := i_cl (x := q35_9) (by omega)
            have hP9 := hP
            have hD9 := hD
            exact W.lret (v := q35_7) hx hb hr (fun t ht hW => ⟨⟨q35_7, (), rfl, (by first | (show q35_7.toInt = alG (ptF pt) o.toNatClampNeg (n + 1) q.toNatClampNeg v.toInt (fun x9 => bt f x9); rw [alG_s]; have h9 := g13; rw [show q35_9.toNatClampNeg = 10 by omega] at h9; exact h9) | (show q35_7.toInt = alG (ptF pt) o.toNatClampNeg (n + 1) q.toNatClampNeg v.toInt (fun x9 => bt f x9); rw [alG_s, smC_tail 10 (c := q35_9.toNatClampNeg) (by omega) (al_none h4 (by omega) (by rw [ev2, ev1]) (ush_0 (by omega) (by omega) ev20 (by omega)))]; exact g13)), by rw [ht]; exact hP9, va_K.moved hW.alike hK, hD9⟩, hS.F ht⟩) hS.2.2 dX3_along_127
          · skip
            have f19 := i_nle c17
            refine lv_iload hx hb dX3_along_42 (lv_at hl 6 rfl) ?_
            refine lv_iload hx hb dX3_along_44 (lv_at hl 8 rfl) ?_
            obtain ⟨v20, ev20⟩ : ∃ q : Int32, q = (v2.toUInt32 >>> (q35_9.toUInt32 &&& Int32.toUInt32 31)).toInt32 := ⟨_, rfl⟩
            refine lv_iushr (v := v20) hx hb dX3_along_46 ev20.symm ?_
            refine lv_if_eq (tgt := 125) hx hb dX3_along_47 (by decide) (fun c21 => ?_) (fun c21 => ?_)
            · skip
              have f22 := i_eq c21
              refine lv_lload hx hb dX3_along_125 (lv_at hl 7 rfl) ?_
              have clq7 := i_cl (x := q) (by omega)
              have cle7 := i_cl (x := q35_9) (by omega)
              have hP9 := hP
              have hD9 := hD
              exact W.lret (v := q35_7) hx hb hr (fun t ht hW => ⟨⟨q35_7, (), rfl, (by first | (show q35_7.toInt = alG (ptF pt) o.toNatClampNeg (n + 1) q.toNatClampNeg v.toInt (fun x9 => bt f x9); rw [alG_s]; have h9 := g13; rw [show q35_9.toNatClampNeg = 10 by omega] at h9; exact h9) | (show q35_7.toInt = alG (ptF pt) o.toNatClampNeg (n + 1) q.toNatClampNeg v.toInt (fun x9 => bt f x9); rw [alG_s, smC_tail 10 (c := q35_9.toNatClampNeg) (by omega) (al_none h4 (by omega) (by rw [ev2, ev1]) (ush_0 (by omega) (by omega) ev20 (by omega)))]; exact g13)), by rw [ht]; exact hP9, va_K.moved hW.alike hK, hD9⟩, hS.F ht⟩) hS.2.2 dX3_along_127
            · skip
              have f23 := i_ne c21
              have clc24 := i_cl (x := q) (by omega)
              have clc25 := i_cl (x := q35_9) (by omega)
              have hB9 := smT_bd (okA_p h4) (t := o.toNatClampNeg) (n := n) (o := q.toNatClampNeg) (c := q35_9.toNatClampNeg) (v := v.toInt) (fr := (fun x9 => bt f x9)) (by omega) (by omega) (by omega) (by omega) (by omega)
              rw [← g13] at hB9
              refine lv_iload hx hb dX3_along_50 (lv_at hl 6 rfl) ?_
              refine lv_iload hx hb dX3_along_52 (lv_at hl 8 rfl) ?_
              refine st_i1 (va_runSN (As := [.int v2, .int q35_9]) (rest := []) ⟨hx, hb, hml, hown, hts⟩ (ct_X10_hasBit l D cI cY cJ cQ _ v2 q35_9) ⟨va_cnB 2 hts gX3_along_X10_hasBit_n62 rfl rfl rfl (hN.1 (RX3, 62, yX10_hasBit, "PortRooms") (by decide +kernel)) (hts (Cond.initialized RX10) (wm_t (wm_l (wm_i 2 rfl)))) cdX10_hasBit ⟨(by first | (simp only [headSpec]; omega) | omega), (by first | (simp only [headSpec]; omega) | omega)⟩, (hts (Cond.static yX10_hasBit) (wm_t (wm_l (wm_i 1 rfl)))), trivial⟩ (cPreS (hP.sub [] rfl) hK (hD.sub [] (by decide +kernel) rfl) hN) rfl rfl hl.1 rfl (lv_room (Nat.le_of_ble_eq_true rfl)) dX3_along_54 ⟨(by first | (simp only [headSpec]; omega) | omega), (by first | (simp only [headSpec]; omega) | omega)⟩) hP hD hS hA [] rfl (fun _ => rfl) (fun r28 u26 H locs hw27 => ?_)
              clear hP hS
              intro hP hS
              replace hw27 : r28 = if hbP v2 q35_9 then 1 else 0 := hw27
              refine lv_if_eq (tgt := 119) hx hb dX3_along_57 (by decide) (fun c29 => ?_) (fun c29 => ?_)
              · skip
                have f30 := bo_f hw27 c29
                obtain ⟨v31, ev31⟩ : ∃ y : Int32, y = q35_9 + 1 := ⟨_, rfl⟩
                try have tv31 : v31.toInt = q35_9.toInt + 1 := by rw [ev31]; exact (i_add (x := q35_9) (y := (1 : Int32)) (by rw [k1]; omega) (by rw [k1]; omega)).trans (by rw [k1])
                refine lv_iinc (v := v31) (lv' := [(9, .int v31), (0, .ref (ad 2)), (1, .int q), (2, .int o), (3, .int v), (4, .int f), (5, .int d), (6, .int v2), (7, .long q35_7)]) hx hb dX3_along_119 hl (k := 8) rfl (by rw [ev31]; rfl) (by decide) rfl (fun ls hl => ?_)
                refine lv_goto (tgt := 35) hx hb dX3_along_122 (by decide) ?_
                have cla8 := i_cl (x := q35_9) (by omega)
                have clq8 := i_cl (x := q) (by omega)
                have clo8 := i_cl (x := o) (by omega)
                have cla9 := i_cl (x := v31) (by omega)
                have ek9 : v31.toNatClampNeg = q35_9.toNatClampNeg + 1 := by omega
                exact ih14 (v31, q35_7) ls H locs ⟨(by omega), (by omega), (by rw [ek9, smC_s, ← g13, alT_0 (al_nobit h4 (by omega) (by omega) (by rw [ev2, ev1]) (hbn (by omega) (by omega) f30)), Int.add_zero]), lv_sub hl [1, 2, 3, 4, 5, 6, 7, 8, 0] rfl, hP.sub [0, 1, 2] rfl, hD.sub [0, 1, 2] (by decide +kernel) rfl, hS⟩ (by show 10 - v31.toInt < _; omega)
              · skip
                have f32 := bo_t hw27 c29
                refine lv_iload_n hx hb dX3_along_60 rfl (lv_at hl 3 rfl) ?_
                refine lv_aload_n hx hb dX3_along_61 rfl (lv_at hl 0 rfl) ?_
                refine lv_iload_n hx hb dX3_along_62 rfl (lv_at hl 1 rfl) ?_
                refine lv_bipush (v := 10) hx hb dX3_along_63 (by decide) ?_
                refine lv_iload hx hb dX3_along_65 (lv_at hl 8 rfl) ?_
                refine lv_iadd hx hb dX3_along_67 ?_
                refine lv_topi (fun v33 ev33 => ?_)
                try have tv33 : v33.toInt = 10 + q35_9.toInt := by rw [ev33]; exact (i_add (x := (10 : Int32)) (y := q35_9) (by rw [k10]; omega) (by rw [k10]; omega)).trans (by rw [k10])
                refine st_i1 (va_runV (C := RX3) (As := [.int q, .int v33]) (rest := [.int v]) ⟨hx, hb, hml, hown, hts⟩ (ct_X3_partOf l D cI cY cJ cQ _ ad hn pt q v33 (by omega) (by omega) (by omega) (by omega)) (cwV 2 hts gX3_along_X3_partOf rfl rfl rfl ⟨rfl, cdX3_partOf⟩ ⟨(by first | (simp only [headSpec]; omega) | omega), (by first | (simp only [headSpec]; omega) | omega)⟩) (cPreV (hP.sub [0, 1] rfl) hK (hD.sub [0, 1] (by decide +kernel) rfl) hN (ci := 3) (q0 := 0) rfl rfl) rfl rfl hl.1 rfl (lv_room (Nat.le_of_ble_eq_true rfl)) dX3_along_68 ⟨(by first | (simp only [headSpec]; omega) | omega), (by first | (simp only [headSpec]; omega) | omega)⟩) hP hD hS hA [0, 1] rfl (fun _ => rfl) (fun r36 u34 H locs hw35 => ?_)
                clear hP hS
                intro hP hS
                replace hw35 : r36 = pt (q.toNatClampNeg * 10 + v33.toNatClampNeg - 10) := hw35
                have clc37 := i_cl (x := q) (by omega)
                have clc38 := i_cl (x := q35_9) (by omega)
                have clc39 := i_cl (x := v33) (by omega)
                rw [show q.toNatClampNeg * 10 + v33.toNatClampNeg - 10 = q.toNatClampNeg * 10 + q35_9.toNatClampNeg by omega] at hw35
                have hp9 : r36.toInt = ptF pt q.toNatClampNeg q35_9.toNatClampNeg := by rw [hw35]; rfl
                have hq9 := okA_p h4 q.toNatClampNeg q35_9.toNatClampNeg (by omega) (by omega)
                refine lv_imul hx hb dX3_along_71 ?_
                refine lv_topi (fun v40 ev40 => ?_)
                refine lv_bipush (v := 100) hx hb dX3_along_72 (by decide) ?_
                refine lv_idiv hx hb dX3_along_74 (by decide) ?_
                refine lv_topi (fun v41 ev41 => ?_)
                have hv9 := pdiv ev40 ev41 (by omega) (by omega) (by omega) (by omega)
                rw [hp9] at hv9
                have hd9 := pd_bd (v := v.toInt) (q := ptF pt q.toNatClampNeg q35_9.toNatClampNeg) (by omega) (by omega) (by omega)
                refine lv_istore (lv' := [(10, .int v41), (0, .ref (ad 2)), (1, .int q), (2, .int o), (3, .int v), (4, .int f), (5, .int d), (6, .int v2), (7, .long q35_7), (9, .int q35_9)]) hx hb dX3_along_75 hl (by decide) rfl (fun ls hl => ?_)
                refine lv_lload hx hb dX3_along_77 (lv_at hl 8 rfl) ?_
                refine lv_iload hx hb dX3_along_79 (lv_at hl 9 rfl) ?_
                refine lv_iload_n hx hb dX3_along_81 rfl (lv_at hl 3 rfl) ?_
                refine lv_icmp_ne (tgt := 91) hx hb dX3_along_82 (by decide) (fun c42 => ?_) (fun c42 => ?_)
                · skip
                  have f43 := i_ne c42
                  refine lv_aload_n hx hb dX3_along_91 rfl (lv_at hl 1 rfl) ?_
                  refine lv_bipush (v := 10) hx hb dX3_along_92 (by decide) ?_
                  refine lv_iload hx hb dX3_along_94 (lv_at hl 9 rfl) ?_
                  refine lv_iadd hx hb dX3_along_96 ?_
                  refine lv_topi (fun v44 ev44 => ?_)
                  try have tv44 : v44.toInt = 10 + q35_9.toInt := by rw [ev44]; exact (i_add (x := (10 : Int32)) (y := q35_9) (by rw [k10]; omega) (by rw [k10]; omega)).trans (by rw [k10])
                  refine lv_iload_n hx hb dX3_along_97 rfl (lv_at hl 3 rfl) ?_
                  refine lv_iload hx hb dX3_along_98 (lv_at hl 0 rfl) ?_
                  refine lv_iload hx hb dX3_along_100 (lv_at hl 5 rfl) ?_
                  refine lv_iconst (v := 1) hx hb dX3_along_102 (by decide) ?_
                  refine lv_iload hx hb dX3_along_103 (lv_at hl 9 rfl) ?_
                  refine lv_ishl hx hb dX3_along_105 ?_
                  refine lv_topi (fun v45 ev45 => ?_)
                  refine lv_iconst (v := (-1)) hx hb dX3_along_106 (by decide) ?_
                  refine lv_ixor hx hb dX3_along_107 ?_
                  refine lv_topi (fun v46 ev46 => ?_)
                  refine lv_iand hx hb dX3_along_108 ?_
                  refine lv_topi (fun v47 ev47 => ?_)
                  refine lv_iload hx hb dX3_along_109 (lv_at hl 6 rfl) ?_
                  refine lv_iconst (v := 1) hx hb dX3_along_111 (by decide) ?_
                  refine lv_iadd hx hb dX3_along_112 ?_
                  refine lv_topi (fun v48 ev48 => ?_)
                  try have tv48 : v48.toInt = d.toInt + 1 := by rw [ev48]; exact (i_add (x := d) (y := (1 : Int32)) (by rw [k1]; omega) (by rw [k1]; omega)).trans (by rw [k1])
                  refine st_l (wr := []) (va_runS (As := [.ref (ad 2), .int v44, .int o, .int v41, .int v47, .int v48]) (rest := [.long q35_7]) ⟨hx, hb, hml, hown, hts⟩ (ih l D cI cY cJ cQ _ ad hn pt ha v44 o v41 v47 v48 (by omega) (by omega) (by omega) h4 (by omega) (by omega) (by omega) (by omega)) (va_cwS 6 hts gX3_along_X3_along rfl rfl rfl cdX3_along ⟨(by first | (simp only [headSpec]; omega) | omega), (by first | (simp only [headSpec]; omega) | omega)⟩) (cPreS (hP.sub [0, 1, 2] rfl) hK (hD.sub [0, 1, 2] (by decide +kernel) rfl) hN) rfl rfl hl.1 rfl (lv_room (Nat.le_of_ble_eq_true rfl)) dX3_along_113 ⟨(by first | (simp only [headSpec]; omega) | omega), (by first | (simp only [headSpec]; omega) | omega)⟩) hP hD hS hA [0, 1, 2] [] rfl rfl (by decide +kernel) (by decide +kernel) (fun r51 u49 H locs hw50 => ?_)
                  clear hP hD hS
                  intro hP hD hS
                  replace hw50 : r51.toInt = alG (ptF pt) o.toNatClampNeg n v44.toNatClampNeg v41.toInt (fun x9 => bt v47 x9) := hw50
                  replace hP : va_P D vwCl [(oC3 ad hn), (aI cI (ad 27) 200 pt), (aI cI (ad 29) 20 ha)] H := hP
                  replace hD : va_D A [(oC3 ad hn), (aI cI (ad 27) 200 pt), (aI cI (ad 29) 20 ha)] := hD
                  have clc52 := i_cl (x := v44) (by omega)
                  have hr9 : r51.toInt = alG (ptF pt) o.toNatClampNeg n (10 + q35_9.toNatClampNeg) (v.toInt * ptF pt q.toNatClampNeg q35_9.toNatClampNeg / 100) (fun x9 => bt f x9 && !decide (x9 = q35_9.toNatClampNeg)) := hw50.trans (by rw [show v44.toNatClampNeg = 10 + q35_9.toNatClampNeg by omega, hv9]; exact alG_c (fun _ _ _ _ => rfl) _ n _ _ _ _ (by omega) (fun x hx => by rw [ev47, ev46, ev45]; exact bt_clr (by omega) (by omega) (by omega)))
                  have hs9 := alG_bd (okA_p h4) o.toNatClampNeg n (10 + q35_9.toNatClampNeg) (v.toInt * ptF pt q.toNatClampNeg q35_9.toNatClampNeg / 100) (fun x9 => bt f x9 && !decide (x9 = q35_9.toNatClampNeg)) (by omega) (by omega)
                  have hs8 := big_bd (n := n) (v := v.toInt * ptF pt q.toNatClampNeg q35_9.toNatClampNeg / 100) (by omega) (by omega) (by omega)
                  rw [← hr9] at hs9
                  refine lv_ladd hx hb dX3_along_116 ?_
                  refine lv_topl (fun z53 ez53 => ?_)
                  have tz53 : z53.toInt = q35_7.toInt + r51.toInt := by rw [ez53]; exact l_add (by omega) (by omega)
                  refine lv_lstore (lv' := [(7, .long z53), (10, .int v41), (0, .ref (ad 2)), (1, .int q), (2, .int o), (3, .int v), (4, .int f), (5, .int d), (6, .int v2), (9, .int q35_9)]) hx hb dX3_along_117 hl (by decide) rfl (fun ls hl => ?_)
                  obtain ⟨v54, ev54⟩ : ∃ y : Int32, y = q35_9 + 1 := ⟨_, rfl⟩
                  try have tv54 : v54.toInt = q35_9.toInt + 1 := by rw [ev54]; exact (i_add (x := q35_9) (y := (1 : Int32)) (by rw [k1]; omega) (by rw [k1]; omega)).trans (by rw [k1])
                  refine lv_iinc (v := v54) (lv' := [(9, .int v54), (7, .long z53), (10, .int v41), (0, .ref (ad 2)), (1, .int q), (2, .int o), (3, .int v), (4, .int f), (5, .int d), (6, .int v2)]) hx hb dX3_along_119 hl (k := 9) rfl (by rw [ev54]; rfl) (by decide) rfl (fun ls hl => ?_)
                  refine lv_goto (tgt := 35) hx hb dX3_along_122 (by decide) ?_
                  have cla8 := i_cl (x := q35_9) (by omega)
                  have clq8 := i_cl (x := q) (by omega)
                  have clo8 := i_cl (x := o) (by omega)
                  have cla9 := i_cl (x := v54) (by omega)
                  have ek9 : v54.toNatClampNeg = q35_9.toNatClampNeg + 1 := by omega
                  have hbit9 := al_bit (c := q35_9.toNatClampNeg) h4 (q := q.toNatClampNeg) (by omega) (by omega) (by rw [ev2, ev1]) ((hbb (by omega) (by omega)).mp f32)
                  exact ih14 (v54, z53) ls H locs ⟨(by omega), (by omega), (by rw [ek9, smC_s, ← g13, alT_n hbit9 (by omega), ← hr9]; omega), lv_sub hl [3, 4, 5, 6, 7, 8, 9, 1, 0] rfl, hP.sub [0, 1, 2] rfl, hD.sub [0, 1, 2] (by decide +kernel) rfl, hS⟩ (by show 10 - v54.toInt < _; omega)
                · skip
                  have f55 := i_eq c42
                  refine lv_iload hx hb dX3_along_85 (lv_at hl 0 rfl) ?_
                  refine lv_i2l hx hb dX3_along_87 rfl ?_
                  have w56 := i_w v41
                  have w57 := i_rng v41
                  refine lv_goto (tgt := 116) hx hb dX3_along_88 (by decide) ?_
                  refine lv_ladd hx hb dX3_along_116 ?_
                  refine lv_topl (fun z58 ez58 => ?_)
                  have tz58 : z58.toInt = q35_7.toInt + v41.toInt64.toInt := by rw [ez58]; exact l_add (by omega) (by omega)
                  refine lv_lstore (lv' := [(7, .long z58), (10, .int v41), (0, .ref (ad 2)), (1, .int q), (2, .int o), (3, .int v), (4, .int f), (5, .int d), (6, .int v2), (9, .int q35_9)]) hx hb dX3_along_117 hl (by decide) rfl (fun ls hl => ?_)
                  obtain ⟨v59, ev59⟩ : ∃ y : Int32, y = q35_9 + 1 := ⟨_, rfl⟩
                  try have tv59 : v59.toInt = q35_9.toInt + 1 := by rw [ev59]; exact (i_add (x := q35_9) (y := (1 : Int32)) (by rw [k1]; omega) (by rw [k1]; omega)).trans (by rw [k1])
                  refine lv_iinc (v := v59) (lv' := [(9, .int v59), (7, .long z58), (10, .int v41), (0, .ref (ad 2)), (1, .int q), (2, .int o), (3, .int v), (4, .int f), (5, .int d), (6, .int v2)]) hx hb dX3_along_119 hl (k := 9) rfl (by rw [ev59]; rfl) (by decide) rfl (fun ls hl => ?_)
                  refine lv_goto (tgt := 35) hx hb dX3_along_122 (by decide) ?_
                  have cla8 := i_cl (x := q35_9) (by omega)
                  have clq8 := i_cl (x := q) (by omega)
                  have clo8 := i_cl (x := o) (by omega)
                  have cla9 := i_cl (x := v59) (by omega)
                  have ek9 : v59.toNatClampNeg = q35_9.toNatClampNeg + 1 := by omega
                  have hbit9 := al_bit (c := q35_9.toNatClampNeg) h4 (q := q.toNatClampNeg) (by omega) (by omega) (by rw [ev2, ev1]) ((hbb (by omega) (by omega)).mp f32)
                  exact ih14 (v59, z58) ls H locs ⟨(by omega), (by omega), (by rw [ek9, smC_s, ← g13, alT_t hbit9 (by omega)]; omega), lv_sub hl [3, 4, 5, 6, 7, 8, 9, 1, 0] rfl, hP.sub [0, 1, 2] rfl, hD.sub [0, 1, 2] (by decide +kernel) rfl, hS⟩ (by show 10 - v59.toInt < _; omega)
      · skip
        have f60 := i_nle c9
        refine lv_lconst (v := 0) hx hb dX3_along_27 (by decide) ?_
        have clq7 := i_cl (x := q) (by omega)
        have z0 : (0 : Int64).toInt = 0 := by decide
        have hP9 := hP
        have hD9 := hD
        exact W.lret (v := 0) hx hb hr (fun t ht hW => ⟨⟨0, (), rfl, (by first | (exfalso; omega) | (show (0 : Int64).toInt = alG (ptF pt) o.toNatClampNeg (n + 1) q.toNatClampNeg v.toInt (fun x9 => bt f x9); rw [z0, alG_s]; exact (smC_0 10 (fun c hc => al_none (c := 0) (nx := v2) (f := f) (q := q.toNatClampNeg) h4 (by omega) (by rw [ev2, ev1]) (fun x _ => by rw [show v2 = 0 from i_of (by omega), b_0]) c (by omega) hc)).symm) | (show (0 : Int64).toInt = alG (ptF pt) o.toNatClampNeg (n + 1) q.toNatClampNeg v.toInt (fun x9 => bt f x9); rw [z0, show v.toInt = 0 by omega]; exact (alG_v0 _ _ _ _ _).symm)), by rw [ht]; exact hP9, va_K.moved hW.alike hK, hD9⟩, hS.F ht⟩) hS.2.2 dX3_along_28

theorem ct_X3_along (n : Nat) : ∀ (l : Launch) (D : va_G) (cI cY cJ cQ : ClassId) (sz : Nat) (ad : Nat → Nat) (hn : Int32) (pt ha : Nat → Int32) (q o v f d : Int32) (h1 : 0 ≤ q.toInt) (h2 : q.toInt < 20) (h3 : d.toInt = 11 - (n : Int)) (h4 : okA pt ha) (h5 : 0 ≤ v.toInt) (h6 : v.toInt ≤ 1000000) (h7 : 0 ≤ o.toInt) (h8 : n ≤ 11), Met l yX3_along wsX3_along ({ frames := n + 2, cells := 0, slots := 0, locals := 30 * n + 60 }) (cPre D (ty4 cI cY cJ cQ) [(oC3 ad hn), (aI cI (ad 27) 200 pt), (aI cI (ad 29) 20 ha)] sz [.ref (ad 2), .int q, .int o, .int v, .int f, .int d]) (va_Ql (fun (r : Int64) (u : Unit) => r.toInt = alG (ptF pt) o.toNatClampNeg n q.toNatClampNeg v.toInt (fun x9 => bt f x9)) (cB D (ty4 cI cY cJ cQ) (fun (u : Unit) => [(oC3 ad hn), (aI cI (ad 27) 200 pt), (aI cI (ad 29) 20 ha)]) (va_A [(oC3 ad hn), (aI cI (ad 27) 200 pt), (aI cI (ad 29) 20 ha)] sz)) (va_A [(oC3 ad hn), (aI cI (ad 27) 200 pt), (aI cI (ad 29) 20 ha)] sz)) 0 0 (va_A [(oC3 ad hn), (aI cI (ad 27) 200 pt), (aI cI (ad 29) 20 ha)] sz) := by
  induction n with
  | zero => exact fun l D cI cY cJ cQ sz ad hn pt ha q o v f d h1 h2 h3 h4 h5 h6 h7 h8 => ct_X3_along_0 l D cI cY cJ cQ sz ad hn pt ha q o v f d h1 h2 h3 h4 h5 h6 h7 h8
  | succ n ih => exact fun l D cI cY cJ cQ sz ad hn pt ha q o v f d h1 h2 h3 h4 h5 h6 h7 h8 => ct_X3_along_s l D cI cY cJ cQ sz n ad hn pt ha q o v f d h1 h2 h3 h4 h5 h6 h7 h8 ih
end

section
theorem cdX3_shareOf : yX3_shareOf.cls ≠ "java/lang/invoke/MethodHandle" ∧ yX3_shareOf.cls ≠ "java/lang/invoke/VarHandle" ∧ (parseMethodDescriptor yX3_shareOf.desc).map (fun d => d.parameters.length) = some 2 := by decide +kernel
theorem cdX3_leadingTo : yX3_leadingTo.cls ≠ "java/lang/invoke/MethodHandle" ∧ yX3_leadingTo.cls ≠ "java/lang/invoke/VarHandle" ∧ (parseMethodDescriptor yX3_leadingTo.desc).map (fun d => d.parameters.length) = some 1 := by decide +kernel
theorem Gd_X3_leadingTo : gdA wsX3_leadingTo := gd_cons (by decide +kernel) (gd_app (gd_all (ws := wsX3_leadingTo_o1) (by decide +kernel)) (gd_app Gd_X30 Gd_X10_hasBit))
theorem Gd_X3_shareOf : gdA wsX3_shareOf := gd_cons (by decide +kernel) (gd_app (gd_all (ws := wsX3_shareOf_o1) (by decide +kernel)) (gd_app (gd_app Gd_X30 Gd_X3_leadingTo) Gd_X3_along))
theorem inX10_share_X10 : ∀ w ∈ u_ws RX10 TX10 14, w ∈ wsX10_share := fun _ h => (List.mem_cons_of_mem _ (List.mem_append_right _ (List.mem_append_left _ (List.mem_append_left _ (List.mem_append_left _ h)))))
theorem inX10_truly_X10 : ∀ w ∈ u_ws RX10 TX10 14, w ∈ wsX10_truly := fun _ h => (List.mem_cons_of_mem _ (List.mem_append_right _ (List.mem_append_left _ (List.mem_append_left _ (List.mem_append_left _ h)))))
theorem inX10_rings_X10 : ∀ w ∈ u_ws RX10 TX10 14, w ∈ wsX10_rings := fun _ h => (List.mem_cons_of_mem _ (List.mem_append_right _ (List.mem_append_left _ (List.mem_append_left _ (List.mem_append_left _ h)))))
theorem inX10_rings_X3 : ∀ w ∈ u_ws RX3 TX3 9, w ∈ wsX10_rings := fun _ h => (List.mem_cons_of_mem _ (List.mem_append_right _ (List.mem_append_left _ (List.mem_append_left _ (List.mem_append_right _ h)))))
theorem ggX3_shareOf_X3_leadingTo : GoodIn wsX3_shareOf wsX3_leadingTo := goodIn_s (fun _ h => wm_t (wm_r (wm_l (wm_r h)))) Gd_X3_leadingTo
theorem gX3_shareOf_X3_leadingTo : GoodIn wsX3_shareOf (wsV RX3 67 RX3 yX3_leadingTo wsX3_leadingTo) := goodIn_V (own := RX3) (idx := 67) (C := RX3) (y := yX3_leadingTo) (wm_t (wm_l (wm_i 6 rfl))) (wm_t (wm_l (wm_i 7 rfl))) (wm_t (wm_l (wm_i 8 rfl))) (wm_t (wm_l (wm_i 9 rfl))) ggX3_shareOf_X3_leadingTo
theorem ggX3_shareOf_X3_along : GoodIn wsX3_shareOf wsX3_along := goodIn_s (fun _ h => wm_t (wm_r (wm_r h))) Gd_X3_along
theorem gX3_shareOf_X3_along : GoodIn wsX3_shareOf (va_wsS RX3 71 yX3_along wsX3_along) := goodIn_S (own := RX3) (idx := 71) (y := yX3_along) (wm_t (wm_l (wm_i 10 rfl))) (wm_t (wm_l (wm_i 11 rfl))) (wm_t (wm_l (wm_i 9 rfl))) ggX3_shareOf_X3_along
theorem dX3_shareOf_all0 : decode cX3_shareOf 0 = .ok (.iload_n 2, 1) ∧ decode cX3_shareOf 1 = .ok (.bipush 10, 2) ∧ decode cX3_shareOf 3 = .ok (.if_icmp .ge 15, 3) ∧ decode cX3_shareOf 6 = .ok (.iload_n 2, 1) ∧ decode cX3_shareOf 7 = .ok (.iload_n 1, 1) ∧ decode cX3_shareOf 8 = .ok (.if_icmp .ne 8, 3) ∧ decode cX3_shareOf 11 = .ok (.ldc 66, 2) ∧ decode cX3_shareOf 13 = .ok (.goto 4, 3) ∧ decode cX3_shareOf 16 = .ok (.iconst 0, 1) ∧ decode cX3_shareOf 17 = .ok (.ireturn, 1) ∧ decode cX3_shareOf 18 = .ok (.iload_n 2, 1) ∧ decode cX3_shareOf 19 = .ok (.bipush 10, 2) := by decide +kernel
theorem dX3_shareOf_0 : decode cX3_shareOf 0 = .ok (.iload_n 2, 1) := dX3_shareOf_all0.1
theorem dX3_shareOf_1 : decode cX3_shareOf 1 = .ok (.bipush 10, 2) := dX3_shareOf_all0.2.1
theorem dX3_shareOf_3 : decode cX3_shareOf 3 = .ok (.if_icmp .ge 15, 3) := dX3_shareOf_all0.2.2.1
theorem dX3_shareOf_6 : decode cX3_shareOf 6 = .ok (.iload_n 2, 1) := dX3_shareOf_all0.2.2.2.1
theorem dX3_shareOf_7 : decode cX3_shareOf 7 = .ok (.iload_n 1, 1) := dX3_shareOf_all0.2.2.2.2.1
theorem dX3_shareOf_8 : decode cX3_shareOf 8 = .ok (.if_icmp .ne 8, 3) := dX3_shareOf_all0.2.2.2.2.2.1
theorem dX3_shareOf_11 : decode cX3_shareOf 11 = .ok (.ldc 66, 2) := dX3_shareOf_all0.2.2.2.2.2.2.1
theorem dX3_shareOf_13 : decode cX3_shareOf 13 = .ok (.goto 4, 3) := dX3_shareOf_all0.2.2.2.2.2.2.2.1
theorem dX3_shareOf_16 : decode cX3_shareOf 16 = .ok (.iconst 0, 1) := dX3_shareOf_all0.2.2.2.2.2.2.2.2.1
theorem dX3_shareOf_17 : decode cX3_shareOf 17 = .ok (.ireturn, 1) := dX3_shareOf_all0.2.2.2.2.2.2.2.2.2.1
theorem dX3_shareOf_18 : decode cX3_shareOf 18 = .ok (.iload_n 2, 1) := dX3_shareOf_all0.2.2.2.2.2.2.2.2.2.2.1
theorem dX3_shareOf_19 : decode cX3_shareOf 19 = .ok (.bipush 10, 2) := dX3_shareOf_all0.2.2.2.2.2.2.2.2.2.2.2
theorem dX3_shareOf_all1 : decode cX3_shareOf 21 = .ok (.isub, 1) ∧ decode cX3_shareOf 22 = .ok (.istore_n 3, 1) ∧ decode cX3_shareOf 23 = .ok (.aload_n 0, 1) ∧ decode cX3_shareOf 24 = .ok (.iload_n 1, 1) ∧ decode cX3_shareOf 25 = .ok (.iload_n 3, 1) ∧ decode cX3_shareOf 26 = .ok (.ldc 66, 2) ∧ decode cX3_shareOf 28 = .ok (.aload_n 0, 1) ∧ decode cX3_shareOf 29 = .ok (.iload_n 3, 1) ∧ decode cX3_shareOf 30 = .ok (.invokevirtual 67, 3) ∧ decode cX3_shareOf 33 = .ok (.iconst 0, 1) ∧ decode cX3_shareOf 34 = .ok (.invokestatic 71, 3) ∧ decode cX3_shareOf 37 = .ok (.lstore 4, 2) := by decide +kernel
theorem dX3_shareOf_21 : decode cX3_shareOf 21 = .ok (.isub, 1) := dX3_shareOf_all1.1
theorem dX3_shareOf_22 : decode cX3_shareOf 22 = .ok (.istore_n 3, 1) := dX3_shareOf_all1.2.1
theorem dX3_shareOf_23 : decode cX3_shareOf 23 = .ok (.aload_n 0, 1) := dX3_shareOf_all1.2.2.1
theorem dX3_shareOf_24 : decode cX3_shareOf 24 = .ok (.iload_n 1, 1) := dX3_shareOf_all1.2.2.2.1
theorem dX3_shareOf_25 : decode cX3_shareOf 25 = .ok (.iload_n 3, 1) := dX3_shareOf_all1.2.2.2.2.1
theorem dX3_shareOf_26 : decode cX3_shareOf 26 = .ok (.ldc 66, 2) := dX3_shareOf_all1.2.2.2.2.2.1
theorem dX3_shareOf_28 : decode cX3_shareOf 28 = .ok (.aload_n 0, 1) := dX3_shareOf_all1.2.2.2.2.2.2.1
theorem dX3_shareOf_29 : decode cX3_shareOf 29 = .ok (.iload_n 3, 1) := dX3_shareOf_all1.2.2.2.2.2.2.2.1
theorem dX3_shareOf_30 : decode cX3_shareOf 30 = .ok (.invokevirtual 67, 3) := dX3_shareOf_all1.2.2.2.2.2.2.2.2.1
theorem dX3_shareOf_33 : decode cX3_shareOf 33 = .ok (.iconst 0, 1) := dX3_shareOf_all1.2.2.2.2.2.2.2.2.2.1
theorem dX3_shareOf_34 : decode cX3_shareOf 34 = .ok (.invokestatic 71, 3) := dX3_shareOf_all1.2.2.2.2.2.2.2.2.2.2.1
theorem dX3_shareOf_37 : decode cX3_shareOf 37 = .ok (.lstore 4, 2) := dX3_shareOf_all1.2.2.2.2.2.2.2.2.2.2.2
theorem dX3_shareOf_all2 : decode cX3_shareOf 39 = .ok (.lload 4, 2) ∧ decode cX3_shareOf 41 = .ok (.ldc2_w 75, 3) ∧ decode cX3_shareOf 44 = .ok (.invokestatic 77, 3) ∧ decode cX3_shareOf 47 = .ok (.l2i, 1) ∧ decode cX3_shareOf 48 = .ok (.ireturn, 1) := by decide +kernel
theorem dX3_shareOf_39 : decode cX3_shareOf 39 = .ok (.lload 4, 2) := dX3_shareOf_all2.1
theorem dX3_shareOf_41 : decode cX3_shareOf 41 = .ok (.ldc2_w 75, 3) := dX3_shareOf_all2.2.1
theorem dX3_shareOf_44 : decode cX3_shareOf 44 = .ok (.invokestatic 77, 3) := dX3_shareOf_all2.2.2.1
theorem dX3_shareOf_47 : decode cX3_shareOf 47 = .ok (.l2i, 1) := dX3_shareOf_all2.2.2.2.1
theorem dX3_shareOf_48 : decode cX3_shareOf 48 = .ok (.ireturn, 1) := dX3_shareOf_all2.2.2.2.2
theorem ggX10_share_X10_isPerson : GoodIn wsX10_share wsX10_isPerson := goodIn_s (fun _ h => wm_t (wm_r (wm_l (wm_r (wm_l h))))) Gd_X10_isPerson
theorem gX10_share_X10_isPerson : GoodIn wsX10_share (va_wsS RX10 160 yX10_isPerson wsX10_isPerson) := goodIn_S (own := RX10) (idx := 160) (y := yX10_isPerson) (wm_t (wm_l (wm_i 2 rfl))) (wm_t (wm_l (wm_i 3 rfl))) (wm_t (wm_l (wm_i 4 rfl))) ggX10_share_X10_isPerson
theorem ggX10_share_X10_isOwner : GoodIn wsX10_share wsX10_isOwner := goodIn_s (fun _ h => wm_t (wm_r (wm_l (wm_r (wm_r h))))) Gd_X10_isOwner
theorem gX10_share_X10_isOwner : GoodIn wsX10_share (va_wsS RX10 163 yX10_isOwner wsX10_isOwner) := goodIn_S (own := RX10) (idx := 163) (y := yX10_isOwner) (wm_t (wm_l (wm_i 5 rfl))) (wm_t (wm_l (wm_i 6 rfl))) (wm_t (wm_l (wm_i 4 rfl))) ggX10_share_X10_isOwner
theorem ggX10_share_X10_isDay : GoodIn wsX10_share wsX10_isDay := goodIn_s (fun _ h => wm_t (wm_r (wm_r (wm_l (wm_l h))))) Gd_X10_isDay
theorem gX10_share_X10_isDay : GoodIn wsX10_share (va_wsS RX10 138 yX10_isDay wsX10_isDay) := goodIn_S (own := RX10) (idx := 138) (y := yX10_isDay) (wm_t (wm_l (wm_i 7 rfl))) (wm_t (wm_l (wm_i 8 rfl))) (wm_t (wm_l (wm_i 4 rfl))) ggX10_share_X10_isDay
theorem ggX10_share_X3_lookAt : GoodIn wsX10_share wsX3_lookAt := goodIn_s (fun _ h => wm_t (wm_r (wm_r (wm_l (wm_r h))))) Gd_X3_lookAt
theorem gX10_share_X3_lookAt : GoodIn wsX10_share (wsV RX10 153 RX3 yX3_lookAt wsX3_lookAt) := goodIn_V (own := RX10) (idx := 153) (C := RX3) (y := yX3_lookAt) (wm_t (wm_l (wm_i 9 rfl))) (wm_t (wm_l (wm_i 10 rfl))) (wm_t (wm_l (wm_i 11 rfl))) (wm_t (wm_l (wm_i 12 rfl))) ggX10_share_X3_lookAt
theorem ggX10_share_X3_shareOf : GoodIn wsX10_share wsX3_shareOf := goodIn_s (fun _ h => wm_t (wm_r (wm_r (wm_r h)))) Gd_X3_shareOf
theorem gX10_share_X3_shareOf : GoodIn wsX10_share (wsV RX10 166 RX3 yX3_shareOf wsX3_shareOf) := goodIn_V (own := RX10) (idx := 166) (C := RX3) (y := yX3_shareOf) (wm_t (wm_l (wm_i 13 rfl))) (wm_t (wm_l (wm_i 14 rfl))) (wm_t (wm_l (wm_i 15 rfl))) (wm_t (wm_l (wm_i 12 rfl))) ggX10_share_X3_shareOf
theorem dX10_share_all0 : decode cX10_share 0 = .ok (.iload_n 1, 1) ∧ decode cX10_share 1 = .ok (.invokestatic 160, 3) ∧ decode cX10_share 4 = .ok (.ifCond .eq 17, 3) ∧ decode cX10_share 7 = .ok (.iload_n 2, 1) ∧ decode cX10_share 8 = .ok (.invokestatic 163, 3) ∧ decode cX10_share 11 = .ok (.ifCond .eq 10, 3) ∧ decode cX10_share 14 = .ok (.iload_n 3, 1) ∧ decode cX10_share 15 = .ok (.invokestatic 138, 3) ∧ decode cX10_share 18 = .ok (.ifCond .ne 6, 3) ∧ decode cX10_share 21 = .ok (.ldc 89, 2) ∧ decode cX10_share 23 = .ok (.ireturn, 1) ∧ decode cX10_share 24 = .ok (.aload_n 0, 1) := by decide +kernel
theorem dX10_share_0 : decode cX10_share 0 = .ok (.iload_n 1, 1) := dX10_share_all0.1
theorem dX10_share_1 : decode cX10_share 1 = .ok (.invokestatic 160, 3) := dX10_share_all0.2.1
theorem dX10_share_4 : decode cX10_share 4 = .ok (.ifCond .eq 17, 3) := dX10_share_all0.2.2.1
theorem dX10_share_7 : decode cX10_share 7 = .ok (.iload_n 2, 1) := dX10_share_all0.2.2.2.1
theorem dX10_share_8 : decode cX10_share 8 = .ok (.invokestatic 163, 3) := dX10_share_all0.2.2.2.2.1
theorem dX10_share_11 : decode cX10_share 11 = .ok (.ifCond .eq 10, 3) := dX10_share_all0.2.2.2.2.2.1
theorem dX10_share_14 : decode cX10_share 14 = .ok (.iload_n 3, 1) := dX10_share_all0.2.2.2.2.2.2.1
theorem dX10_share_15 : decode cX10_share 15 = .ok (.invokestatic 138, 3) := dX10_share_all0.2.2.2.2.2.2.2.1
theorem dX10_share_18 : decode cX10_share 18 = .ok (.ifCond .ne 6, 3) := dX10_share_all0.2.2.2.2.2.2.2.2.1
theorem dX10_share_21 : decode cX10_share 21 = .ok (.ldc 89, 2) := dX10_share_all0.2.2.2.2.2.2.2.2.2.1
theorem dX10_share_23 : decode cX10_share 23 = .ok (.ireturn, 1) := dX10_share_all0.2.2.2.2.2.2.2.2.2.2.1
theorem dX10_share_24 : decode cX10_share 24 = .ok (.aload_n 0, 1) := dX10_share_all0.2.2.2.2.2.2.2.2.2.2.2
theorem dX10_share_all1 : decode cX10_share 25 = .ok (.getfield 19, 3) ∧ decode cX10_share 28 = .ok (.iload_n 3, 1) ∧ decode cX10_share 29 = .ok (.invokevirtual 153, 3) ∧ decode cX10_share 32 = .ok (.aload_n 0, 1) ∧ decode cX10_share 33 = .ok (.getfield 19, 3) ∧ decode cX10_share 36 = .ok (.iload_n 1, 1) ∧ decode cX10_share 37 = .ok (.iload_n 2, 1) ∧ decode cX10_share 38 = .ok (.invokevirtual 166, 3) ∧ decode cX10_share 41 = .ok (.ireturn, 1) := by decide +kernel
theorem dX10_share_25 : decode cX10_share 25 = .ok (.getfield 19, 3) := dX10_share_all1.1
theorem dX10_share_28 : decode cX10_share 28 = .ok (.iload_n 3, 1) := dX10_share_all1.2.1
theorem dX10_share_29 : decode cX10_share 29 = .ok (.invokevirtual 153, 3) := dX10_share_all1.2.2.1
theorem dX10_share_32 : decode cX10_share 32 = .ok (.aload_n 0, 1) := dX10_share_all1.2.2.2.1
theorem dX10_share_33 : decode cX10_share 33 = .ok (.getfield 19, 3) := dX10_share_all1.2.2.2.2.1
theorem dX10_share_36 : decode cX10_share 36 = .ok (.iload_n 1, 1) := dX10_share_all1.2.2.2.2.2.1
theorem dX10_share_37 : decode cX10_share 37 = .ok (.iload_n 2, 1) := dX10_share_all1.2.2.2.2.2.2.1
theorem dX10_share_38 : decode cX10_share 38 = .ok (.invokevirtual 166, 3) := dX10_share_all1.2.2.2.2.2.2.2.1
theorem dX10_share_41 : decode cX10_share 41 = .ok (.ireturn, 1) := dX10_share_all1.2.2.2.2.2.2.2.2
theorem ggX10_truly_X10_isOwner : GoodIn wsX10_truly wsX10_isOwner := goodIn_s (fun _ h => wm_t (wm_r (wm_l (wm_r h)))) Gd_X10_isOwner
theorem gX10_truly_X10_isOwner : GoodIn wsX10_truly (va_wsS RX10 163 yX10_isOwner wsX10_isOwner) := goodIn_S (own := RX10) (idx := 163) (y := yX10_isOwner) (wm_t (wm_l (wm_i 3 rfl))) (wm_t (wm_l (wm_i 4 rfl))) (wm_t (wm_l (wm_i 5 rfl))) ggX10_truly_X10_isOwner
theorem ggX10_truly_X10_isDay : GoodIn wsX10_truly wsX10_isDay := goodIn_s (fun _ h => wm_t (wm_r (wm_r (wm_l (wm_l h))))) Gd_X10_isDay
theorem gX10_truly_X10_isDay : GoodIn wsX10_truly (va_wsS RX10 138 yX10_isDay wsX10_isDay) := goodIn_S (own := RX10) (idx := 138) (y := yX10_isDay) (wm_t (wm_l (wm_i 6 rfl))) (wm_t (wm_l (wm_i 7 rfl))) (wm_t (wm_l (wm_i 5 rfl))) ggX10_truly_X10_isDay
theorem ggX10_truly_X3_lookAt : GoodIn wsX10_truly wsX3_lookAt := goodIn_s (fun _ h => wm_t (wm_r (wm_r (wm_l (wm_r h))))) Gd_X3_lookAt
theorem gX10_truly_X3_lookAt : GoodIn wsX10_truly (wsV RX10 153 RX3 yX3_lookAt wsX3_lookAt) := goodIn_V (own := RX10) (idx := 153) (C := RX3) (y := yX3_lookAt) (wm_t (wm_l (wm_i 8 rfl))) (wm_t (wm_l (wm_i 9 rfl))) (wm_t (wm_l (wm_i 10 rfl))) (wm_t (wm_l (wm_i 11 rfl))) ggX10_truly_X3_lookAt
theorem ggX10_truly_X3_shareOf : GoodIn wsX10_truly wsX3_shareOf := goodIn_s (fun _ h => wm_t (wm_r (wm_r (wm_r h)))) Gd_X3_shareOf
theorem gX10_truly_X3_shareOf : GoodIn wsX10_truly (wsV RX10 166 RX3 yX3_shareOf wsX3_shareOf) := goodIn_V (own := RX10) (idx := 166) (C := RX3) (y := yX3_shareOf) (wm_t (wm_l (wm_i 12 rfl))) (wm_t (wm_l (wm_i 13 rfl))) (wm_t (wm_l (wm_i 14 rfl))) (wm_t (wm_l (wm_i 11 rfl))) ggX10_truly_X3_shareOf
theorem dX10_truly_all0 : decode cX10_truly 0 = .ok (.iload_n 1, 1) ∧ decode cX10_truly 1 = .ok (.invokestatic 163, 3) ∧ decode cX10_truly 4 = .ok (.ifCond .eq 10, 3) ∧ decode cX10_truly 7 = .ok (.iload_n 2, 1) ∧ decode cX10_truly 8 = .ok (.invokestatic 138, 3) ∧ decode cX10_truly 11 = .ok (.ifCond .ne 6, 3) ∧ decode cX10_truly 14 = .ok (.ldc 89, 2) ∧ decode cX10_truly 16 = .ok (.ireturn, 1) ∧ decode cX10_truly 17 = .ok (.aload_n 0, 1) ∧ decode cX10_truly 18 = .ok (.getfield 19, 3) ∧ decode cX10_truly 21 = .ok (.iload_n 2, 1) ∧ decode cX10_truly 22 = .ok (.invokevirtual 153, 3) := by decide +kernel
theorem dX10_truly_0 : decode cX10_truly 0 = .ok (.iload_n 1, 1) := dX10_truly_all0.1
theorem dX10_truly_1 : decode cX10_truly 1 = .ok (.invokestatic 163, 3) := dX10_truly_all0.2.1
theorem dX10_truly_4 : decode cX10_truly 4 = .ok (.ifCond .eq 10, 3) := dX10_truly_all0.2.2.1
theorem dX10_truly_7 : decode cX10_truly 7 = .ok (.iload_n 2, 1) := dX10_truly_all0.2.2.2.1
theorem dX10_truly_8 : decode cX10_truly 8 = .ok (.invokestatic 138, 3) := dX10_truly_all0.2.2.2.2.1
theorem dX10_truly_11 : decode cX10_truly 11 = .ok (.ifCond .ne 6, 3) := dX10_truly_all0.2.2.2.2.2.1
theorem dX10_truly_14 : decode cX10_truly 14 = .ok (.ldc 89, 2) := dX10_truly_all0.2.2.2.2.2.2.1
theorem dX10_truly_16 : decode cX10_truly 16 = .ok (.ireturn, 1) := dX10_truly_all0.2.2.2.2.2.2.2.1
theorem dX10_truly_17 : decode cX10_truly 17 = .ok (.aload_n 0, 1) := dX10_truly_all0.2.2.2.2.2.2.2.2.1
theorem dX10_truly_18 : decode cX10_truly 18 = .ok (.getfield 19, 3) := dX10_truly_all0.2.2.2.2.2.2.2.2.2.1
theorem dX10_truly_21 : decode cX10_truly 21 = .ok (.iload_n 2, 1) := dX10_truly_all0.2.2.2.2.2.2.2.2.2.2.1
theorem dX10_truly_22 : decode cX10_truly 22 = .ok (.invokevirtual 153, 3) := dX10_truly_all0.2.2.2.2.2.2.2.2.2.2.2
theorem dX10_truly_all1 : decode cX10_truly 25 = .ok (.ldc 169, 2) ∧ decode cX10_truly 27 = .ok (.istore_n 3, 1) ∧ decode cX10_truly 28 = .ok (.iconst 0, 1) ∧ decode cX10_truly 29 = .ok (.istore 4, 2) ∧ decode cX10_truly 31 = .ok (.iconst 0, 1) ∧ decode cX10_truly 32 = .ok (.istore 5, 2) ∧ decode cX10_truly 34 = .ok (.iload 5, 2) ∧ decode cX10_truly 36 = .ok (.bipush 10, 2) ∧ decode cX10_truly 38 = .ok (.if_icmp .ge 35, 3) ∧ decode cX10_truly 41 = .ok (.aload_n 0, 1) ∧ decode cX10_truly 42 = .ok (.getfield 19, 3) ∧ decode cX10_truly 45 = .ok (.iload 5, 2) := by decide +kernel
theorem dX10_truly_25 : decode cX10_truly 25 = .ok (.ldc 169, 2) := dX10_truly_all1.1
theorem dX10_truly_27 : decode cX10_truly 27 = .ok (.istore_n 3, 1) := dX10_truly_all1.2.1
theorem dX10_truly_28 : decode cX10_truly 28 = .ok (.iconst 0, 1) := dX10_truly_all1.2.2.1
theorem dX10_truly_29 : decode cX10_truly 29 = .ok (.istore 4, 2) := dX10_truly_all1.2.2.2.1
theorem dX10_truly_31 : decode cX10_truly 31 = .ok (.iconst 0, 1) := dX10_truly_all1.2.2.2.2.1
theorem dX10_truly_32 : decode cX10_truly 32 = .ok (.istore 5, 2) := dX10_truly_all1.2.2.2.2.2.1
theorem dX10_truly_34 : decode cX10_truly 34 = .ok (.iload 5, 2) := dX10_truly_all1.2.2.2.2.2.2.1
theorem dX10_truly_36 : decode cX10_truly 36 = .ok (.bipush 10, 2) := dX10_truly_all1.2.2.2.2.2.2.2.1
theorem dX10_truly_38 : decode cX10_truly 38 = .ok (.if_icmp .ge 35, 3) := dX10_truly_all1.2.2.2.2.2.2.2.2.1
theorem dX10_truly_41 : decode cX10_truly 41 = .ok (.aload_n 0, 1) := dX10_truly_all1.2.2.2.2.2.2.2.2.2.1
theorem dX10_truly_42 : decode cX10_truly 42 = .ok (.getfield 19, 3) := dX10_truly_all1.2.2.2.2.2.2.2.2.2.2.1
theorem dX10_truly_45 : decode cX10_truly 45 = .ok (.iload 5, 2) := dX10_truly_all1.2.2.2.2.2.2.2.2.2.2.2
theorem dX10_truly_all2 : decode cX10_truly 47 = .ok (.iload_n 1, 1) ∧ decode cX10_truly 48 = .ok (.invokevirtual 166, 3) ∧ decode cX10_truly 51 = .ok (.istore 6, 2) ∧ decode cX10_truly 53 = .ok (.iload 6, 2) ∧ decode cX10_truly 55 = .ok (.iload 4, 2) ∧ decode cX10_truly 57 = .ok (.if_icmp .le 10, 3) ∧ decode cX10_truly 60 = .ok (.iload 6, 2) ∧ decode cX10_truly 62 = .ok (.istore 4, 2) ∧ decode cX10_truly 64 = .ok (.iload 5, 2) ∧ decode cX10_truly 66 = .ok (.istore_n 3, 1) ∧ decode cX10_truly 67 = .ok (.iinc 5 1, 3) ∧ decode cX10_truly 70 = .ok (.goto (-36), 3) := by decide +kernel
theorem dX10_truly_47 : decode cX10_truly 47 = .ok (.iload_n 1, 1) := dX10_truly_all2.1
theorem dX10_truly_48 : decode cX10_truly 48 = .ok (.invokevirtual 166, 3) := dX10_truly_all2.2.1
theorem dX10_truly_51 : decode cX10_truly 51 = .ok (.istore 6, 2) := dX10_truly_all2.2.2.1
theorem dX10_truly_53 : decode cX10_truly 53 = .ok (.iload 6, 2) := dX10_truly_all2.2.2.2.1
theorem dX10_truly_55 : decode cX10_truly 55 = .ok (.iload 4, 2) := dX10_truly_all2.2.2.2.2.1
theorem dX10_truly_57 : decode cX10_truly 57 = .ok (.if_icmp .le 10, 3) := dX10_truly_all2.2.2.2.2.2.1
theorem dX10_truly_60 : decode cX10_truly 60 = .ok (.iload 6, 2) := dX10_truly_all2.2.2.2.2.2.2.1
theorem dX10_truly_62 : decode cX10_truly 62 = .ok (.istore 4, 2) := dX10_truly_all2.2.2.2.2.2.2.2.1
theorem dX10_truly_64 : decode cX10_truly 64 = .ok (.iload 5, 2) := dX10_truly_all2.2.2.2.2.2.2.2.2.1
theorem dX10_truly_66 : decode cX10_truly 66 = .ok (.istore_n 3, 1) := dX10_truly_all2.2.2.2.2.2.2.2.2.2.1
theorem dX10_truly_67 : decode cX10_truly 67 = .ok (.iinc 5 1, 3) := dX10_truly_all2.2.2.2.2.2.2.2.2.2.2.1
theorem dX10_truly_70 : decode cX10_truly 70 = .ok (.goto (-36), 3) := dX10_truly_all2.2.2.2.2.2.2.2.2.2.2.2
theorem dX10_truly_all3 : decode cX10_truly 73 = .ok (.iload_n 3, 1) ∧ decode cX10_truly 74 = .ok (.ireturn, 1) := by decide +kernel
theorem dX10_truly_73 : decode cX10_truly 73 = .ok (.iload_n 3, 1) := dX10_truly_all3.1
theorem dX10_truly_74 : decode cX10_truly 74 = .ok (.ireturn, 1) := dX10_truly_all3.2
theorem ggX10_rings_X10_isDay : GoodIn wsX10_rings wsX10_isDay := goodIn_s (fun _ h => wm_t (wm_r (wm_l (wm_r h)))) Gd_X10_isDay
theorem gX10_rings_X10_isDay : GoodIn wsX10_rings (va_wsS RX10 138 yX10_isDay wsX10_isDay) := goodIn_S (own := RX10) (idx := 138) (y := yX10_isDay) (wm_t (wm_l (wm_i 3 rfl))) (wm_t (wm_l (wm_i 4 rfl))) (wm_t (wm_l (wm_i 5 rfl))) ggX10_rings_X10_isDay
theorem ggX10_rings_X3_lookAt : GoodIn wsX10_rings wsX3_lookAt := goodIn_s (fun _ h => wm_t (wm_r (wm_r (wm_l h)))) Gd_X3_lookAt
theorem gX10_rings_X3_lookAt : GoodIn wsX10_rings (wsV RX10 153 RX3 yX3_lookAt wsX3_lookAt) := goodIn_V (own := RX10) (idx := 153) (C := RX3) (y := yX3_lookAt) (wm_t (wm_l (wm_i 6 rfl))) (wm_t (wm_l (wm_i 7 rfl))) (wm_t (wm_l (wm_i 8 rfl))) (wm_t (wm_l (wm_i 9 rfl))) ggX10_rings_X3_lookAt
theorem ggX10_rings_X10_hasBit : GoodIn wsX10_rings wsX10_hasBit := goodIn_s (fun _ h => wm_t (wm_r (wm_r (wm_r h)))) Gd_X10_hasBit
theorem gX10_rings_X10_hasBit : GoodIn wsX10_rings (va_wsS RX10 173 yX10_hasBit wsX10_hasBit) := goodIn_S (own := RX10) (idx := 173) (y := yX10_hasBit) (wm_t (wm_l (wm_i 11 rfl))) (wm_t (wm_l (wm_i 10 rfl))) (wm_t (wm_l (wm_i 5 rfl))) ggX10_rings_X10_hasBit
theorem dX10_rings_all0 : decode cX10_rings 0 = .ok (.iload_n 1, 1) ∧ decode cX10_rings 1 = .ok (.invokestatic 138, 3) ∧ decode cX10_rings 4 = .ok (.ifCond .ne 6, 3) ∧ decode cX10_rings 7 = .ok (.ldc 89, 2) ∧ decode cX10_rings 9 = .ok (.ireturn, 1) ∧ decode cX10_rings 10 = .ok (.aload_n 0, 1) ∧ decode cX10_rings 11 = .ok (.getfield 19, 3) ∧ decode cX10_rings 14 = .ok (.iload_n 1, 1) ∧ decode cX10_rings 15 = .ok (.invokevirtual 153, 3) ∧ decode cX10_rings 18 = .ok (.iconst 0, 1) ∧ decode cX10_rings 19 = .ok (.istore_n 2, 1) ∧ decode cX10_rings 20 = .ok (.iconst 0, 1) := by decide +kernel
theorem dX10_rings_0 : decode cX10_rings 0 = .ok (.iload_n 1, 1) := dX10_rings_all0.1
theorem dX10_rings_1 : decode cX10_rings 1 = .ok (.invokestatic 138, 3) := dX10_rings_all0.2.1
theorem dX10_rings_4 : decode cX10_rings 4 = .ok (.ifCond .ne 6, 3) := dX10_rings_all0.2.2.1
theorem dX10_rings_7 : decode cX10_rings 7 = .ok (.ldc 89, 2) := dX10_rings_all0.2.2.2.1
theorem dX10_rings_9 : decode cX10_rings 9 = .ok (.ireturn, 1) := dX10_rings_all0.2.2.2.2.1
theorem dX10_rings_10 : decode cX10_rings 10 = .ok (.aload_n 0, 1) := dX10_rings_all0.2.2.2.2.2.1
theorem dX10_rings_11 : decode cX10_rings 11 = .ok (.getfield 19, 3) := dX10_rings_all0.2.2.2.2.2.2.1
theorem dX10_rings_14 : decode cX10_rings 14 = .ok (.iload_n 1, 1) := dX10_rings_all0.2.2.2.2.2.2.2.1
theorem dX10_rings_15 : decode cX10_rings 15 = .ok (.invokevirtual 153, 3) := dX10_rings_all0.2.2.2.2.2.2.2.2.1
theorem dX10_rings_18 : decode cX10_rings 18 = .ok (.iconst 0, 1) := dX10_rings_all0.2.2.2.2.2.2.2.2.2.1
theorem dX10_rings_19 : decode cX10_rings 19 = .ok (.istore_n 2, 1) := dX10_rings_all0.2.2.2.2.2.2.2.2.2.2.1
theorem dX10_rings_20 : decode cX10_rings 20 = .ok (.iconst 0, 1) := dX10_rings_all0.2.2.2.2.2.2.2.2.2.2.2
theorem dX10_rings_all1 : decode cX10_rings 21 = .ok (.istore_n 3, 1) ∧ decode cX10_rings 22 = .ok (.iload_n 3, 1) ∧ decode cX10_rings 23 = .ok (.bipush 10, 2) ∧ decode cX10_rings 25 = .ok (.if_icmp .ge 31, 3) ∧ decode cX10_rings 28 = .ok (.aload_n 0, 1) ∧ decode cX10_rings 29 = .ok (.getfield 19, 3) ∧ decode cX10_rings 32 = .ok (.getfield 170, 3) ∧ decode cX10_rings 35 = .ok (.iload_n 3, 1) ∧ decode cX10_rings 36 = .ok (.iaload, 1) ∧ decode cX10_rings 37 = .ok (.iload_n 3, 1) ∧ decode cX10_rings 38 = .ok (.invokestatic 173, 3) ∧ decode cX10_rings 41 = .ok (.ifCond .eq 9, 3) := by decide +kernel
theorem dX10_rings_21 : decode cX10_rings 21 = .ok (.istore_n 3, 1) := dX10_rings_all1.1
theorem dX10_rings_22 : decode cX10_rings 22 = .ok (.iload_n 3, 1) := dX10_rings_all1.2.1
theorem dX10_rings_23 : decode cX10_rings 23 = .ok (.bipush 10, 2) := dX10_rings_all1.2.2.1
theorem dX10_rings_25 : decode cX10_rings 25 = .ok (.if_icmp .ge 31, 3) := dX10_rings_all1.2.2.2.1
theorem dX10_rings_28 : decode cX10_rings 28 = .ok (.aload_n 0, 1) := dX10_rings_all1.2.2.2.2.1
theorem dX10_rings_29 : decode cX10_rings 29 = .ok (.getfield 19, 3) := dX10_rings_all1.2.2.2.2.2.1
theorem dX10_rings_32 : decode cX10_rings 32 = .ok (.getfield 170, 3) := dX10_rings_all1.2.2.2.2.2.2.1
theorem dX10_rings_35 : decode cX10_rings 35 = .ok (.iload_n 3, 1) := dX10_rings_all1.2.2.2.2.2.2.2.1
theorem dX10_rings_36 : decode cX10_rings 36 = .ok (.iaload, 1) := dX10_rings_all1.2.2.2.2.2.2.2.2.1
theorem dX10_rings_37 : decode cX10_rings 37 = .ok (.iload_n 3, 1) := dX10_rings_all1.2.2.2.2.2.2.2.2.2.1
theorem dX10_rings_38 : decode cX10_rings 38 = .ok (.invokestatic 173, 3) := dX10_rings_all1.2.2.2.2.2.2.2.2.2.2.1
theorem dX10_rings_41 : decode cX10_rings 41 = .ok (.ifCond .eq 9, 3) := dX10_rings_all1.2.2.2.2.2.2.2.2.2.2.2
theorem dX10_rings_all2 : decode cX10_rings 44 = .ok (.iload_n 2, 1) ∧ decode cX10_rings 45 = .ok (.iconst 1, 1) ∧ decode cX10_rings 46 = .ok (.iload_n 3, 1) ∧ decode cX10_rings 47 = .ok (.ishl, 1) ∧ decode cX10_rings 48 = .ok (.ior, 1) ∧ decode cX10_rings 49 = .ok (.istore_n 2, 1) ∧ decode cX10_rings 50 = .ok (.iinc 3 1, 3) ∧ decode cX10_rings 53 = .ok (.goto (-31), 3) ∧ decode cX10_rings 56 = .ok (.iload_n 2, 1) ∧ decode cX10_rings 57 = .ok (.ireturn, 1) := by decide +kernel
theorem dX10_rings_44 : decode cX10_rings 44 = .ok (.iload_n 2, 1) := dX10_rings_all2.1
theorem dX10_rings_45 : decode cX10_rings 45 = .ok (.iconst 1, 1) := dX10_rings_all2.2.1
theorem dX10_rings_46 : decode cX10_rings 46 = .ok (.iload_n 3, 1) := dX10_rings_all2.2.2.1
theorem dX10_rings_47 : decode cX10_rings 47 = .ok (.ishl, 1) := dX10_rings_all2.2.2.2.1
theorem dX10_rings_48 : decode cX10_rings 48 = .ok (.ior, 1) := dX10_rings_all2.2.2.2.2.1
theorem dX10_rings_49 : decode cX10_rings 49 = .ok (.istore_n 2, 1) := dX10_rings_all2.2.2.2.2.2.1
theorem dX10_rings_50 : decode cX10_rings 50 = .ok (.iinc 3 1, 3) := dX10_rings_all2.2.2.2.2.2.2.1
theorem dX10_rings_53 : decode cX10_rings 53 = .ok (.goto (-31), 3) := dX10_rings_all2.2.2.2.2.2.2.2.1
theorem dX10_rings_56 : decode cX10_rings 56 = .ok (.iload_n 2, 1) := dX10_rings_all2.2.2.2.2.2.2.2.2.1
theorem dX10_rings_57 : decode cX10_rings 57 = .ok (.ireturn, 1) := dX10_rings_all2.2.2.2.2.2.2.2.2.2
set_option maxHeartbeats 4000000 in
set_option maxRecDepth 100000 in
theorem ct_X3_shareOf (l : Launch) (D : va_G) (cI cY cJ cQ : ClassId) (sz : Nat) (ad : Nat → Nat) (hn : Int32) (pt ha re : Nat → Int32) (q : Int32) (o : Int32)  (h1 : 0 ≤ q.toInt) (h2 : q.toInt < 10) (h3 : 0 ≤ o.toInt) (h4 : o.toInt < 20) (h5 : okL pt ha re)  : Met l yX3_shareOf wsX3_shareOf ({ frames := 14, cells := 0, slots := 0, locals := 420 }) (cPre D (ty4 cI cY cJ cQ) [(oC3 ad hn), (aI cI (ad 27) 200 pt), (aI cI (ad 29) 20 ha), (aI cI (ad 30) 10 re)] sz [.ref (ad 2), .int q, .int o]) (va_Qi (fun (r : Int32) (u : Unit) => r.toInt = shF (ptF pt) q.toNatClampNeg o.toNatClampNeg) (cB D (ty4 cI cY cJ cQ) (fun (u : Unit) => [(oC3 ad hn), (aI cI (ad 27) 200 pt), (aI cI (ad 29) 20 ha), (aI cI (ad 30) 10 re)]) (va_A [(oC3 ad hn), (aI cI (ad 27) 200 pt), (aI cI (ad 29) 20 ha), (aI cI (ad 30) 10 re)] sz)) (va_A [(oC3 ad hn), (aI cI (ad 27) 200 pt), (aI cI (ad 29) 20 ha), (aI cI (ad 30) 10 re)] sz)) 0 0 (va_A [(oC3 ad hn), (aI cI (ad 27) 200 pt), (aI cI (ad 29) 20 ha), (aI cI (ad 30) 10 re)] sz) := by
  refine Met.ofW (cc := cX3_shareOf) (maxL := 6) (ret := (some .int)) (by decide) rfl ?_
  intro p e s m args below meth c s₁ B hml hv
  obtain ⟨rfl, hsz, hP, hK, hD0, hN⟩ := hv
  have hx := B.exec
  have hb := B.bytes
  have hr := B.returns
  have hts := atoms_spec (ws := wsX3_shareOf) B.pre
  have hown : s.vm.findClass RX3 = some m.cls := findClass_of_methodNamed B.named
  have hlocks := B.notSynchronized
  subst hsz
  have hD := hD0.self (sz := s.heap.size)
  generalize hAe : va_A [(oC3 ad hn), (aI cI (ad 27) 200 pt), (aI cI (ad 29) 20 ha), (aI cI (ad 30) 10 re)] s.heap.size = A at hD ⊢
  have hA : ∀ q : Nat, s.heap.size ≤ q → A q := fun q h => by rw [← hAe]; exact Or.inr h
  have hS : va_S A s.heap s.heap [] := va_S.rf
  have hP : va_P D vwCl [(oC3 ad hn), (aI cI (ad 27) 200 pt), (aI cI (ad 29) 20 ha), (aI cI (ad 30) 10 re)] s.heap := hP
  have hl := lv_entry ([.ref (ad 2), .int q, .int o]) (n := 6) (Nat.le_of_ble_eq_true rfl)
  rw [lg_entry_eq]
  generalize (lg_sl ([.ref (ad 2), .int q, .int o]) ++ List.replicate (6 - (lg_sl ([.ref (ad 2), .int q, .int o])).length) Slot.unset).toArray = ls at hl ⊢
  have hl : lv_has ls 6 [(0, .ref (ad 2)), (1, .int q), (2, .int o)] := hl
  have k0 : (0 : Int32).toInt = 0 := by decide
  have k10 : (10 : Int32).toInt = 10 := by decide
  have k1000000 : (1000000 : Int32).toInt = 1000000 := by decide
  refine lv_iload_n hx hb dX3_shareOf_0 rfl (lv_at hl 2 rfl) ?_
  refine lv_bipush (v := 10) hx hb dX3_shareOf_1 (by decide) ?_
  refine lv_icmp_ge (tgt := 18) hx hb dX3_shareOf_3 (by decide) (fun c1 => ?_) (fun c1 => ?_)
  · skip
    have f2 := i_le c1
    refine lv_iload_n hx hb dX3_shareOf_18 rfl (lv_at hl 2 rfl) ?_
    refine lv_bipush (v := 10) hx hb dX3_shareOf_19 (by decide) ?_
    refine lv_isub hx hb dX3_shareOf_21 ?_
    refine lv_topi (fun v3 ev3 => ?_)
    try have tv3 : v3.toInt = o.toInt - 10 := by rw [ev3]; exact (i_sub (x := o) (y := (10 : Int32)) (by rw [k10]; omega) (by rw [k10]; omega)).trans (by rw [k10])
    refine lv_istore_n (lv' := [(3, .int v3), (0, .ref (ad 2)), (1, .int q), (2, .int o)]) hx hb dX3_shareOf_22 rfl hl (by decide) rfl (fun ls hl => ?_)
    refine lv_aload_n hx hb dX3_shareOf_23 rfl (lv_at hl 1 rfl) ?_
    refine lv_iload_n hx hb dX3_shareOf_24 rfl (lv_at hl 2 rfl) ?_
    refine lv_iload_n hx hb dX3_shareOf_25 rfl (lv_at hl 0 rfl) ?_
    refine lv_ldc hx hb hown (hts (Cond.constant RX3 66 (1000000)) (wm_t (wm_l (wm_i 0 rfl)))) dX3_shareOf_26 ?_
    refine lv_aload_n hx hb dX3_shareOf_28 rfl (lv_at hl 1 rfl) ?_
    refine lv_iload_n hx hb dX3_shareOf_29 rfl (lv_at hl 0 rfl) ?_
    refine st_i1 (va_runV (C := RX3) (As := [.int v3]) (rest := [.int 1000000, .int v3, .int q, .ref (ad 2)]) ⟨hx, hb, hml, hown, hts⟩ (ct_X3_leadingTo l D cI cY cJ cQ _ ad hn re v3 (by omega) (by omega)) (cwV 1 hts gX3_shareOf_X3_leadingTo rfl rfl rfl ⟨rfl, cdX3_leadingTo⟩ ⟨Nat.le_of_ble_eq_true rfl, Nat.le_of_ble_eq_true rfl⟩) (cPreV (hP.sub [0, 3] rfl) hK (hD.sub [0, 3] (by decide +kernel) rfl) hN (ci := 3) (q0 := 0) rfl rfl) rfl rfl hl.1 rfl (lv_room (Nat.le_of_ble_eq_true rfl)) dX3_shareOf_30 ⟨Nat.le_of_ble_eq_true rfl, Nat.le_of_ble_eq_true rfl⟩) hP hD hS hA [0, 3] rfl (fun _ => rfl) (fun r6 u4 H locs hw5 => ?_)
    clear hP hS
    intro hP hS
    replace hw5 : ldQ re v3.toNatClampNeg r6 10 := hw5
    refine lv_iconst (v := 0) hx hb dX3_shareOf_33 (by decide) ?_
    refine st_l (wr := [(aI cI (ad 30) 10 re)]) (va_runS (As := [.ref (ad 2), .int q, .int v3, .int 1000000, .int r6, .int 0]) (rest := []) ⟨hx, hb, hml, hown, hts⟩ (ct_X3_along 11 l D cI cY cJ cQ _ ad hn pt ha q v3 (1000000 : Int32) r6 (0 : Int32) (by omega) (by omega) (by decide) (by first | assumption | exact h5.1) (by decide) (by decide) (by omega) (by decide)) (va_cwS 6 hts gX3_shareOf_X3_along rfl rfl rfl cdX3_along ⟨Nat.le_of_ble_eq_true rfl, Nat.le_of_ble_eq_true rfl⟩) (cPreS (hP.sub [0, 1, 2] rfl) hK (hD.sub [0, 1, 2] (by decide +kernel) rfl) hN) rfl rfl hl.1 rfl (lv_room (Nat.le_of_ble_eq_true rfl)) dX3_shareOf_34 ⟨Nat.le_of_ble_eq_true rfl, Nat.le_of_ble_eq_true rfl⟩) hP hD hS hA [0, 1, 2] [3] rfl rfl (by decide +kernel) (by decide +kernel) (fun r9 u7 H locs hw8 => ?_)
    clear hP hD hS
    intro hP hD hS
    replace hw8 : r9.toInt = alG (ptF pt) v3.toNatClampNeg 11 q.toNatClampNeg (1000000 : Int32).toInt (fun x9 => bt r6 x9) := hw8
    replace hP : va_P D vwCl [(aI cI (ad 30) 10 re), (oC3 ad hn), (aI cI (ad 27) 200 pt), (aI cI (ad 29) 20 ha)] H := hP
    replace hD : va_D A [(aI cI (ad 30) 10 re), (oC3 ad hn), (aI cI (ad 27) 200 pt), (aI cI (ad 29) 20 ha)] := hD
    refine lv_lstore (lv' := [(4, .long r9), (3, .int v3), (0, .ref (ad 2)), (1, .int q), (2, .int o)]) hx hb dX3_shareOf_37 hl (by decide) rfl (fun ls hl => ?_)
    refine lv_lload hx hb dX3_shareOf_39 (lv_at hl 0 rfl) ?_
    refine lv_ldc2 hx hb hown (hts (Cond.constantLong RX3 75 (2000000000)) (wm_t (wm_l (wm_i 1 rfl)))) dX3_shareOf_41 ?_
    refine va_mmin_long hx hb (hml.trans hl.1.symm) hown (hts (Cond.methodLink RX3 77 Lib.MathLoose.min_long.x) (wm_t (wm_l (wm_i 2 rfl)))) (hts (Cond.static Lib.MathLoose.min_long.x) (wm_t (wm_l (wm_i 3 rfl)))) (hts (Cond.initialized "java/lang/Math") (wm_t (wm_l (wm_i 4 rfl)))) (hts (Cond.code Lib.MathLoose.min_long.x Lib.MathLoose.min_long.code 4 (some .long)) (wm_t (wm_l (wm_i 5 rfl)))) (Nat.le_of_ble_eq_true rfl) (Nat.le_of_ble_eq_true rfl) (Nat.le_of_ble_eq_true rfl) (Nat.le_of_ble_eq_true rfl) dX3_shareOf_44 ?_
    refine lv_topl (fun z10 ez10 => ?_)
    refine lv_l2i hx hb dX3_shareOf_47 rfl ?_
    refine lv_topi (fun v11 ev11 => ?_)
    have clc12 := i_cl (x := q) (by omega)
    have clc13 := i_cl (x := o) (by omega)
    have clc14 := i_cl (x := v3) (by omega)
    rw [show v3.toNatClampNeg = o.toNatClampNeg - 10 by omega] at hw8 hw5
    rw [lead_all h5 (by omega) hw5 11 _ (by omega)] at hw8
    have kM9 : (1000000 : Int32).toInt = 1000000 := by decide
    rw [kM9] at hw8
    have kT9 : (2000000000 : Int64).toInt = 2000000000 := by decide
    have hz9 := mn_l ez10
    rw [kT9, hw8] at hz9
    have hb9 := (alG_bd (okA_p h5.1) (o.toNatClampNeg - 10) 11 q.toNatClampNeg 1000000 (fun _ => true) (by omega) (by decide)).1
    have hs9 : z10.toInt = shF (ptF pt) q.toNatClampNeg o.toNatClampNeg := by unfold shF; rw [if_neg (by omega)]; exact hz9
    have hn9 := shF_bd (okA_p h5.1) (q := q.toNatClampNeg) (by omega) o.toNatClampNeg
    have hP9 := hP.sub (ws' := [(oC3 ad hn), (aI cI (ad 27) 200 pt), (aI cI (ad 29) 20 ha), (aI cI (ad 30) 10 re)]) [1, 2, 3, 0] rfl
    have hD9 := hD.sub (ws' := [(oC3 ad hn), (aI cI (ad 27) 200 pt), (aI cI (ad 29) 20 ha), (aI cI (ad 30) 10 re)]) [1, 2, 3, 0] (by decide +kernel) rfl
    exact W.iret (v := v11) hx hb hr (fun t ht hW => ⟨⟨v11, (), rfl, (by show v11.toInt = shF (ptF pt) q.toNatClampNeg o.toNatClampNeg; rw [ev11, Int64.toInt_toInt32, hs9]; exact i_bmod (by omega) (by omega)), by rw [ht]; exact hP9, va_K.moved hW.alike hK, hD9⟩, hS.F ht⟩) hS.2.2 dX3_shareOf_48
  · skip
    have f15 := i_nle c1
    refine lv_iload_n hx hb dX3_shareOf_6 rfl (lv_at hl 2 rfl) ?_
    refine lv_iload_n hx hb dX3_shareOf_7 rfl (lv_at hl 1 rfl) ?_
    refine lv_icmp_ne (tgt := 16) hx hb dX3_shareOf_8 (by decide) (fun c16 => ?_) (fun c16 => ?_)
    · skip
      have f17 := i_ne c16
      refine lv_iconst (v := 0) hx hb dX3_shareOf_16 (by decide) ?_
      have clc18 := i_cl (x := q) (by omega)
      have clc19 := i_cl (x := o) (by omega)
      have hP9 := hP
      have hD9 := hD
      exact W.iret (v := 0) hx hb hr (fun t ht hW => ⟨⟨0, (), rfl, (by unfold shF; rw [if_pos (by omega), if_neg (by omega)]; decide), by rw [ht]; exact hP9, va_K.moved hW.alike hK, hD9⟩, hS.F ht⟩) hS.2.2 dX3_shareOf_17
    · skip
      have f20 := i_eq c16
      refine lv_ldc hx hb hown (hts (Cond.constant RX3 66 (1000000)) (wm_t (wm_l (wm_i 0 rfl)))) dX3_shareOf_11 ?_
      refine lv_goto (tgt := 17) hx hb dX3_shareOf_13 (by decide) ?_
      have clc21 := i_cl (x := q) (by omega)
      have clc22 := i_cl (x := o) (by omega)
      have hP9 := hP
      have hD9 := hD
      exact W.iret (v := 1000000) hx hb hr (fun t ht hW => ⟨⟨1000000, (), rfl, (by unfold shF; rw [if_pos (by omega), if_pos (by omega)]; decide), by rw [ht]; exact hP9, va_K.moved hW.alike hK, hD9⟩, hS.F ht⟩) hS.2.2 dX3_shareOf_17


def sp_share (hn : Int32) (ho hc hp hs : Nat → Int32) (q o d : Int32) : Int := if 0 ≤ q.toInt ∧ q.toInt < 10 ∧ 0 ≤ o.toInt ∧ o.toInt < 20 ∧ 0 ≤ d.toInt ∧ d.toInt < 10000 then shF (ppF ho hc hp hs d hn.toNatClampNeg) q.toNatClampNeg o.toNatClampNeg else -1000001
/-- the person who has most, and how much that is -/
def trV (p : Nat → Nat → Int) (o : Nat) : Nat → Int × Int
  | 0 => (-1000000, 0)
  | n + 1 => if (trV p o n).2 < shF p n o then ((n : Int), shF p n o) else trV p o n
theorem trV_s (p : Nat → Nat → Int) (o n : Nat) : trV p o (n + 1) = if (trV p o n).2 < shF p n o then ((n : Int), shF p n o) else trV p o n := rfl
def sp_truly (hn : Int32) (ho hc hp hs : Nat → Int32) (o d : Int32) : Int := if 0 ≤ o.toInt ∧ o.toInt < 20 ∧ 0 ≤ d.toInt ∧ d.toInt < 10000 then (trV (ppF ho hc hp hs d hn.toNatClampNeg) o.toNatClampNeg 10).1 else -1000001
theorem ptF_pp {pt ps ho hc hp hs : Nat → Int32} {d : Int32} {n : Nat} (h : pcOk pt ps ho hc hp hs d n) : ∀ o c, o < 20 → c < 10 → ptF pt o c = ppF ho hc hp hs d n o c := fun o c h1 h2 => pcOk_at h h1 h2

set_option maxHeartbeats 4000000 in
set_option maxRecDepth 100000 in
theorem ct_X10_share (l : Launch) (D : va_G) (cI cY cJ cQ : ClassId) (sz : Nat) (ad : Nat → Nat) (tn td lf hn : Int32) (ho hc hp hs pt ps ha re : Nat → Int32) (q : Int32) (o : Int32) (d : Int32)  (h1 : 0 ≤ hn.toInt) (h2 : hn.toInt ≤ 40) (h3 : okH hn ho hc) (h4 : okV hn hp)  : Met l yX10_share wsX10_share ({ frames := 15, cells := 0, slots := 0, locals := 445 }) (cPre D (ty4 cI cY cJ cQ) [(oC10 ad tn td lf), (oC3 ad hn), (aI cI (ad 23) 40 ho), (aI cI (ad 24) 40 hc), (aI cI (ad 25) 40 hp), (aI cI (ad 26) 40 hs), (aI cI (ad 27) 200 pt), (aI cI (ad 28) 200 ps), (aI cI (ad 29) 20 ha), (aI cI (ad 30) 10 re)] sz [.ref (ad 0), .int q, .int o, .int d]) (va_Qi (fun (r : Int32) (u : (Nat → Int32) × (Nat → Int32) × (Nat → Int32) × (Nat → Int32)) => r.toInt = sp_share hn ho hc hp hs q o d) (cB D (ty4 cI cY cJ cQ) (fun (u : (Nat → Int32) × (Nat → Int32) × (Nat → Int32) × (Nat → Int32)) => [(oC10 ad tn td lf), (oC3 ad hn), (aI cI (ad 23) 40 ho), (aI cI (ad 24) 40 hc), (aI cI (ad 25) 40 hp), (aI cI (ad 26) 40 hs), (aI cI (ad 27) 200 u.1), (aI cI (ad 28) 200 u.2.1), (aI cI (ad 29) 20 u.2.2.1), (aI cI (ad 30) 10 u.2.2.2)]) (va_A [(oC10 ad tn td lf), (oC3 ad hn), (aI cI (ad 23) 40 ho), (aI cI (ad 24) 40 hc), (aI cI (ad 25) 40 hp), (aI cI (ad 26) 40 hs), (aI cI (ad 27) 200 pt), (aI cI (ad 28) 200 ps), (aI cI (ad 29) 20 ha), (aI cI (ad 30) 10 re)] sz)) (va_A [(oC10 ad tn td lf), (oC3 ad hn), (aI cI (ad 23) 40 ho), (aI cI (ad 24) 40 hc), (aI cI (ad 25) 40 hp), (aI cI (ad 26) 40 hs), (aI cI (ad 27) 200 pt), (aI cI (ad 28) 200 ps), (aI cI (ad 29) 20 ha), (aI cI (ad 30) 10 re)] sz)) 0 0 (va_A [(oC10 ad tn td lf), (oC3 ad hn), (aI cI (ad 23) 40 ho), (aI cI (ad 24) 40 hc), (aI cI (ad 25) 40 hp), (aI cI (ad 26) 40 hs), (aI cI (ad 27) 200 pt), (aI cI (ad 28) 200 ps), (aI cI (ad 29) 20 ha), (aI cI (ad 30) 10 re)] sz) := by
  refine Met.ofW (cc := cX10_share) (maxL := 4) (ret := (some .int)) (by decide) rfl ?_
  intro p e s m args below meth c s₁ B hml hv
  obtain ⟨rfl, hsz, hP, hK, hD0, hN⟩ := hv
  have hx := B.exec
  have hb := B.bytes
  have hr := B.returns
  have hts := atoms_spec (ws := wsX10_share) B.pre
  have hown : s.vm.findClass RX10 = some m.cls := findClass_of_methodNamed B.named
  have hlocks := B.notSynchronized
  subst hsz
  have hD := hD0.self (sz := s.heap.size)
  generalize hAe : va_A [(oC10 ad tn td lf), (oC3 ad hn), (aI cI (ad 23) 40 ho), (aI cI (ad 24) 40 hc), (aI cI (ad 25) 40 hp), (aI cI (ad 26) 40 hs), (aI cI (ad 27) 200 pt), (aI cI (ad 28) 200 ps), (aI cI (ad 29) 20 ha), (aI cI (ad 30) 10 re)] s.heap.size = A at hD ⊢
  have hA : ∀ q : Nat, s.heap.size ≤ q → A q := fun q h => by rw [← hAe]; exact Or.inr h
  have hS : va_S A s.heap s.heap [] := va_S.rf
  have hP : va_P D vwCl [(oC10 ad tn td lf), (oC3 ad hn), (aI cI (ad 23) 40 ho), (aI cI (ad 24) 40 hc), (aI cI (ad 25) 40 hp), (aI cI (ad 26) 40 hs), (aI cI (ad 27) 200 pt), (aI cI (ad 28) 200 ps), (aI cI (ad 29) 20 ha), (aI cI (ad 30) 10 re)] s.heap := hP
  have hl := lv_entry ([.ref (ad 0), .int q, .int o, .int d]) (n := 4) (Nat.le_of_ble_eq_true rfl)
  rw [lg_entry_eq]
  generalize (lg_sl ([.ref (ad 0), .int q, .int o, .int d]) ++ List.replicate (4 - (lg_sl ([.ref (ad 0), .int q, .int o, .int d])).length) Slot.unset).toArray = ls at hl ⊢
  have hl : lv_has ls 4 [(0, .ref (ad 0)), (1, .int q), (2, .int o), (3, .int d)] := hl
  have km1000001 : (-1000001 : Int32).toInt = -1000001 := by decide
  have k0 : (0 : Int32).toInt = 0 := by decide
  refine lv_iload_n hx hb dX10_share_0 rfl (lv_at hl 1 rfl) ?_
  refine st_i1 (va_runS (As := [.int q]) (rest := []) ⟨hx, hb, hml, hown, hts⟩ (ct_X10_isPerson l D cI cY cJ cQ _ q) (va_cwS 1 hts gX10_share_X10_isPerson rfl rfl rfl cdX10_isPerson ⟨Nat.le_of_ble_eq_true rfl, Nat.le_of_ble_eq_true rfl⟩) (cPreS (hP.sub [] rfl) hK (hD.sub [] (by decide +kernel) rfl) hN) rfl rfl hl.1 rfl (lv_room (Nat.le_of_ble_eq_true rfl)) dX10_share_1 ⟨Nat.le_of_ble_eq_true rfl, Nat.le_of_ble_eq_true rfl⟩) hP hD hS hA [] rfl (fun _ => rfl) (fun r3 u1 H locs hw2 => ?_)
  clear hP hS
  intro hP hS
  replace hw2 : r3 = if 0 ≤ q.toInt ∧ q.toInt < 10 then 1 else 0 := hw2
  refine lv_if_eq (tgt := 21) hx hb dX10_share_4 (by decide) (fun c4 => ?_) (fun c4 => ?_)
  · skip
    have f5 := bo_f hw2 c4
    refine lv_ldc hx hb hown (hts (Cond.constant RX10 89 (-1000001)) (wm_t (wm_l (wm_i 0 rfl)))) dX10_share_21 ?_
    have hP9 := hP
    have hD9 := hD
    exact W.iret (v := (-1000001)) hx hb hr (fun t ht hW => ⟨⟨(-1000001), (pt, ps, ha, re), rfl, (by unfold sp_share; rw [if_neg (by omega)]; omega), by rw [ht]; exact hP9, va_K.moved hW.alike hK, hD9⟩, hS.F ht⟩) hS.2.2 dX10_share_23
  · skip
    have f6 := bo_t hw2 c4
    refine lv_iload_n hx hb dX10_share_7 rfl (lv_at hl 2 rfl) ?_
    refine st_i1 (va_runS (As := [.int o]) (rest := []) ⟨hx, hb, hml, hown, hts⟩ (ct_X10_isOwner l D cI cY cJ cQ _ o) (va_cwS 1 hts gX10_share_X10_isOwner rfl rfl rfl cdX10_isOwner ⟨Nat.le_of_ble_eq_true rfl, Nat.le_of_ble_eq_true rfl⟩) (cPreS (hP.sub [] rfl) hK (hD.sub [] (by decide +kernel) rfl) hN) rfl rfl hl.1 rfl (lv_room (Nat.le_of_ble_eq_true rfl)) dX10_share_8 ⟨Nat.le_of_ble_eq_true rfl, Nat.le_of_ble_eq_true rfl⟩) hP hD hS hA [] rfl (fun _ => rfl) (fun r9 u7 H locs hw8 => ?_)
    clear hP hS
    intro hP hS
    replace hw8 : r9 = if 0 ≤ o.toInt ∧ o.toInt < 20 then 1 else 0 := hw8
    refine lv_if_eq (tgt := 21) hx hb dX10_share_11 (by decide) (fun c10 => ?_) (fun c10 => ?_)
    · skip
      have f11 := bo_f hw8 c10
      refine lv_ldc hx hb hown (hts (Cond.constant RX10 89 (-1000001)) (wm_t (wm_l (wm_i 0 rfl)))) dX10_share_21 ?_
      have hP9 := hP
      have hD9 := hD
      exact W.iret (v := (-1000001)) hx hb hr (fun t ht hW => ⟨⟨(-1000001), (pt, ps, ha, re), rfl, (by unfold sp_share; rw [if_neg (by omega)]; omega), by rw [ht]; exact hP9, va_K.moved hW.alike hK, hD9⟩, hS.F ht⟩) hS.2.2 dX10_share_23
    · skip
      have f12 := bo_t hw8 c10
      refine lv_iload_n hx hb dX10_share_14 rfl (lv_at hl 3 rfl) ?_
      refine st_i1 (va_runS (As := [.int d]) (rest := []) ⟨hx, hb, hml, hown, hts⟩ (ct_X10_isDay l D cI cY cJ cQ _ d) (va_cwS 1 hts gX10_share_X10_isDay rfl rfl rfl cdX10_isDay ⟨Nat.le_of_ble_eq_true rfl, Nat.le_of_ble_eq_true rfl⟩) (cPreS (hP.sub [] rfl) hK (hD.sub [] (by decide +kernel) rfl) hN) rfl rfl hl.1 rfl (lv_room (Nat.le_of_ble_eq_true rfl)) dX10_share_15 ⟨Nat.le_of_ble_eq_true rfl, Nat.le_of_ble_eq_true rfl⟩) hP hD hS hA [] rfl (fun _ => rfl) (fun r15 u13 H locs hw14 => ?_)
      clear hP hS
      intro hP hS
      replace hw14 : r15 = if 0 ≤ d.toInt ∧ d.toInt < 10000 then 1 else 0 := hw14
      refine lv_if_ne (tgt := 24) hx hb dX10_share_18 (by decide) (fun c16 => ?_) (fun c16 => ?_)
      · skip
        have f17 := bo_t hw14 c16
        refine lv_aload_n hx hb dX10_share_24 rfl (lv_at hl 0 rfl) ?_
        refine va_get (D := D) (ci := 10) (v := .ref (ad 2)) (C := RX10) (T := TX10) (N := 14) hx hb hts inX10_share_X10 hown hK hP 0 rfl rfl 1 (by decide) (hts (Cond.fieldLink RX10 19 "PortRooms" "holdings" "LPortRooms$Holdings;") (wm_t (wm_l (wm_i 1 rfl)))) (fun _ h9 => h9) rfl dX10_share_25 ?_
        refine lv_iload_n hx hb dX10_share_28 rfl (lv_at hl 3 rfl) ?_
        refine st_v (wr := [(oC10 ad tn td lf)]) (va_runV (C := RX3) (As := [.int d]) (rest := []) ⟨hx, hb, hml, hown, hts⟩ (ct_X3_lookAt l D cI cY cJ cQ _ ad hn ho hc hp hs pt ps ha re d h1 h2 h3 h4) (cwV 1 hts gX10_share_X3_lookAt rfl rfl rfl ⟨rfl, cdX3_lookAt⟩ ⟨Nat.le_of_ble_eq_true rfl, Nat.le_of_ble_eq_true rfl⟩) (cPreV (hP.sub [1, 2, 3, 4, 5, 6, 7, 8, 9] rfl) hK (hD.sub [1, 2, 3, 4, 5, 6, 7, 8, 9] (by decide +kernel) rfl) hN (ci := 3) (q0 := 0) rfl rfl) rfl rfl hl.1 rfl (lv_room (Nat.le_of_ble_eq_true rfl)) dX10_share_29 ⟨Nat.le_of_ble_eq_true rfl, Nat.le_of_ble_eq_true rfl⟩) hP hD hS hA [1, 2, 3, 4, 5, 6, 7, 8, 9] [0] rfl rfl (by decide +kernel) (by decide +kernel) (fun u18 H locs hw19 => ?_)
        clear hP hD hS
        intro hP hD hS
        obtain ⟨pt_21, ps_22, ha_23, re_24⟩ := u18
        replace hw19 : pcOk pt_21 ps_22 ho hc hp hs d hn.toNatClampNeg ∧ okL pt_21 ha_23 re_24 := hw19
        replace hP : va_P D vwCl [(oC10 ad tn td lf), (oC3 ad hn), (aI cI (ad 23) 40 ho), (aI cI (ad 24) 40 hc), (aI cI (ad 25) 40 hp), (aI cI (ad 26) 40 hs), (aI cI (ad 27) 200 pt_21), (aI cI (ad 28) 200 ps_22), (aI cI (ad 29) 20 ha_23), (aI cI (ad 30) 10 re_24)] H := hP
        replace hD : va_D A [(oC10 ad tn td lf), (oC3 ad hn), (aI cI (ad 23) 40 ho), (aI cI (ad 24) 40 hc), (aI cI (ad 25) 40 hp), (aI cI (ad 26) 40 hs), (aI cI (ad 27) 200 pt_21), (aI cI (ad 28) 200 ps_22), (aI cI (ad 29) 20 ha_23), (aI cI (ad 30) 10 re_24)] := hD
        obtain ⟨hw19, hw19L⟩ := hw19
        refine lv_aload_n hx hb dX10_share_32 rfl (lv_at hl 0 rfl) ?_
        refine va_get (D := D) (ci := 10) (v := .ref (ad 2)) (C := RX10) (T := TX10) (N := 14) hx hb hts inX10_share_X10 hown hK hP 0 rfl rfl 1 (by decide) (hts (Cond.fieldLink RX10 19 "PortRooms" "holdings" "LPortRooms$Holdings;") (wm_t (wm_l (wm_i 1 rfl)))) (fun _ h9 => h9) rfl dX10_share_33 ?_
        refine lv_iload_n hx hb dX10_share_36 rfl (lv_at hl 1 rfl) ?_
        refine lv_iload_n hx hb dX10_share_37 rfl (lv_at hl 2 rfl) ?_
        refine st_i1 (va_runV (C := RX3) (As := [.int q, .int o]) (rest := []) ⟨hx, hb, hml, hown, hts⟩ (ct_X3_shareOf l D cI cY cJ cQ _ ad hn pt_21 ha_23 re_24 q o (by omega) (by omega) (by omega) (by omega) (by assumption)) (cwV 2 hts gX10_share_X3_shareOf rfl rfl rfl ⟨rfl, cdX3_shareOf⟩ ⟨Nat.le_of_ble_eq_true rfl, Nat.le_of_ble_eq_true rfl⟩) (cPreV (hP.sub [1, 6, 8, 9] rfl) hK (hD.sub [1, 6, 8, 9] (by decide +kernel) rfl) hN (ci := 3) (q0 := 0) rfl rfl) rfl rfl hl.1 rfl (lv_room (Nat.le_of_ble_eq_true rfl)) dX10_share_38 ⟨Nat.le_of_ble_eq_true rfl, Nat.le_of_ble_eq_true rfl⟩) hP hD hS hA [1, 6, 8, 9] rfl (fun _ => rfl) (fun r27 u25 H locs hw26 => ?_)
        clear hP hS
        intro hP hS
        replace hw26 : r27.toInt = shF (ptF pt_21) q.toNatClampNeg o.toNatClampNeg := hw26
        have hP9 := hP
        have hD9 := hD
        exact W.iret (v := r27) hx hb hr (fun t ht hW => ⟨⟨r27, (pt_21, ps_22, ha_23, re_24), rfl, (by show r27.toInt = sp_share hn ho hc hp hs q o d; unfold sp_share; rw [if_pos (by omega), hw26]; exact shF_c (ptF_pp hw19) (by have := i_cl (x := q) (by omega); omega) _), by rw [ht]; exact hP9, va_K.moved hW.alike hK, hD9⟩, hS.F ht⟩) hS.2.2 dX10_share_41
      · skip
        have f28 := bo_f hw14 c16
        refine lv_ldc hx hb hown (hts (Cond.constant RX10 89 (-1000001)) (wm_t (wm_l (wm_i 0 rfl)))) dX10_share_21 ?_
        have hP9 := hP
        have hD9 := hD
        exact W.iret (v := (-1000001)) hx hb hr (fun t ht hW => ⟨⟨(-1000001), (pt, ps, ha, re), rfl, (by unfold sp_share; rw [if_neg (by omega)]; omega), by rw [ht]; exact hP9, va_K.moved hW.alike hK, hD9⟩, hS.F ht⟩) hS.2.2 dX10_share_23

set_option maxHeartbeats 4000000 in
set_option maxRecDepth 100000 in
theorem ct_X10_truly (l : Launch) (D : va_G) (cI cY cJ cQ : ClassId) (sz : Nat) (ad : Nat → Nat) (tn td lf hn : Int32) (ho hc hp hs pt ps ha re : Nat → Int32) (o : Int32) (d : Int32)  (h1 : 0 ≤ hn.toInt) (h2 : hn.toInt ≤ 40) (h3 : okH hn ho hc) (h4 : okV hn hp)  : Met l yX10_truly wsX10_truly ({ frames := 15, cells := 0, slots := 0, locals := 445 }) (cPre D (ty4 cI cY cJ cQ) [(oC10 ad tn td lf), (oC3 ad hn), (aI cI (ad 23) 40 ho), (aI cI (ad 24) 40 hc), (aI cI (ad 25) 40 hp), (aI cI (ad 26) 40 hs), (aI cI (ad 27) 200 pt), (aI cI (ad 28) 200 ps), (aI cI (ad 29) 20 ha), (aI cI (ad 30) 10 re)] sz [.ref (ad 0), .int o, .int d]) (va_Qi (fun (r : Int32) (u : (Nat → Int32) × (Nat → Int32) × (Nat → Int32) × (Nat → Int32)) => r.toInt = sp_truly hn ho hc hp hs o d) (cB D (ty4 cI cY cJ cQ) (fun (u : (Nat → Int32) × (Nat → Int32) × (Nat → Int32) × (Nat → Int32)) => [(oC10 ad tn td lf), (oC3 ad hn), (aI cI (ad 23) 40 ho), (aI cI (ad 24) 40 hc), (aI cI (ad 25) 40 hp), (aI cI (ad 26) 40 hs), (aI cI (ad 27) 200 u.1), (aI cI (ad 28) 200 u.2.1), (aI cI (ad 29) 20 u.2.2.1), (aI cI (ad 30) 10 u.2.2.2)]) (va_A [(oC10 ad tn td lf), (oC3 ad hn), (aI cI (ad 23) 40 ho), (aI cI (ad 24) 40 hc), (aI cI (ad 25) 40 hp), (aI cI (ad 26) 40 hs), (aI cI (ad 27) 200 pt), (aI cI (ad 28) 200 ps), (aI cI (ad 29) 20 ha), (aI cI (ad 30) 10 re)] sz)) (va_A [(oC10 ad tn td lf), (oC3 ad hn), (aI cI (ad 23) 40 ho), (aI cI (ad 24) 40 hc), (aI cI (ad 25) 40 hp), (aI cI (ad 26) 40 hs), (aI cI (ad 27) 200 pt), (aI cI (ad 28) 200 ps), (aI cI (ad 29) 20 ha), (aI cI (ad 30) 10 re)] sz)) 0 0 (va_A [(oC10 ad tn td lf), (oC3 ad hn), (aI cI (ad 23) 40 ho), (aI cI (ad 24) 40 hc), (aI cI (ad 25) 40 hp), (aI cI (ad 26) 40 hs), (aI cI (ad 27) 200 pt), (aI cI (ad 28) 200 ps), (aI cI (ad 29) 20 ha), (aI cI (ad 30) 10 re)] sz) := by
  refine Met.ofW (cc := cX10_truly) (maxL := 7) (ret := (some .int)) (by decide) rfl ?_
  intro p e s m args below meth c s₁ B hml hv
  obtain ⟨rfl, hsz, hP, hK, hD0, hN⟩ := hv
  have hx := B.exec
  have hb := B.bytes
  have hr := B.returns
  have hts := atoms_spec (ws := wsX10_truly) B.pre
  have hown : s.vm.findClass RX10 = some m.cls := findClass_of_methodNamed B.named
  have hlocks := B.notSynchronized
  subst hsz
  have hD := hD0.self (sz := s.heap.size)
  generalize hAe : va_A [(oC10 ad tn td lf), (oC3 ad hn), (aI cI (ad 23) 40 ho), (aI cI (ad 24) 40 hc), (aI cI (ad 25) 40 hp), (aI cI (ad 26) 40 hs), (aI cI (ad 27) 200 pt), (aI cI (ad 28) 200 ps), (aI cI (ad 29) 20 ha), (aI cI (ad 30) 10 re)] s.heap.size = A at hD ⊢
  have hA : ∀ q : Nat, s.heap.size ≤ q → A q := fun q h => by rw [← hAe]; exact Or.inr h
  have hS : va_S A s.heap s.heap [] := va_S.rf
  have hP : va_P D vwCl [(oC10 ad tn td lf), (oC3 ad hn), (aI cI (ad 23) 40 ho), (aI cI (ad 24) 40 hc), (aI cI (ad 25) 40 hp), (aI cI (ad 26) 40 hs), (aI cI (ad 27) 200 pt), (aI cI (ad 28) 200 ps), (aI cI (ad 29) 20 ha), (aI cI (ad 30) 10 re)] s.heap := hP
  have hl := lv_entry ([.ref (ad 0), .int o, .int d]) (n := 7) (Nat.le_of_ble_eq_true rfl)
  rw [lg_entry_eq]
  generalize (lg_sl ([.ref (ad 0), .int o, .int d]) ++ List.replicate (7 - (lg_sl ([.ref (ad 0), .int o, .int d])).length) Slot.unset).toArray = ls at hl ⊢
  have hl : lv_has ls 7 [(0, .ref (ad 0)), (1, .int o), (2, .int d)] := hl
  have km1000001 : (-1000001 : Int32).toInt = -1000001 := by decide
  have km1000000 : (-1000000 : Int32).toInt = -1000000 := by decide
  have k0 : (0 : Int32).toInt = 0 := by decide
  have k1 : (1 : Int32).toInt = 1 := by decide
  have k10 : (10 : Int32).toInt = 10 := by decide
  refine lv_iload_n hx hb dX10_truly_0 rfl (lv_at hl 1 rfl) ?_
  refine st_i1 (va_runS (As := [.int o]) (rest := []) ⟨hx, hb, hml, hown, hts⟩ (ct_X10_isOwner l D cI cY cJ cQ _ o) (va_cwS 1 hts gX10_truly_X10_isOwner rfl rfl rfl cdX10_isOwner ⟨Nat.le_of_ble_eq_true rfl, Nat.le_of_ble_eq_true rfl⟩) (cPreS (hP.sub [] rfl) hK (hD.sub [] (by decide +kernel) rfl) hN) rfl rfl hl.1 rfl (lv_room (Nat.le_of_ble_eq_true rfl)) dX10_truly_1 ⟨Nat.le_of_ble_eq_true rfl, Nat.le_of_ble_eq_true rfl⟩) hP hD hS hA [] rfl (fun _ => rfl) (fun r3 u1 H locs hw2 => ?_)
  clear hP hS
  intro hP hS
  replace hw2 : r3 = if 0 ≤ o.toInt ∧ o.toInt < 20 then 1 else 0 := hw2
  refine lv_if_eq (tgt := 14) hx hb dX10_truly_4 (by decide) (fun c4 => ?_) (fun c4 => ?_)
  · skip
    have f5 := bo_f hw2 c4
    refine lv_ldc hx hb hown (hts (Cond.constant RX10 89 (-1000001)) (wm_t (wm_l (wm_i 0 rfl)))) dX10_truly_14 ?_
    have hP9 := hP
    have hD9 := hD
    exact W.iret (v := (-1000001)) hx hb hr (fun t ht hW => ⟨⟨(-1000001), (pt, ps, ha, re), rfl, (by unfold sp_truly; rw [if_neg (by omega)]; omega), by rw [ht]; exact hP9, va_K.moved hW.alike hK, hD9⟩, hS.F ht⟩) hS.2.2 dX10_truly_16
  · skip
    have f6 := bo_t hw2 c4
    refine lv_iload_n hx hb dX10_truly_7 rfl (lv_at hl 2 rfl) ?_
    refine st_i1 (va_runS (As := [.int d]) (rest := []) ⟨hx, hb, hml, hown, hts⟩ (ct_X10_isDay l D cI cY cJ cQ _ d) (va_cwS 1 hts gX10_truly_X10_isDay rfl rfl rfl cdX10_isDay ⟨Nat.le_of_ble_eq_true rfl, Nat.le_of_ble_eq_true rfl⟩) (cPreS (hP.sub [] rfl) hK (hD.sub [] (by decide +kernel) rfl) hN) rfl rfl hl.1 rfl (lv_room (Nat.le_of_ble_eq_true rfl)) dX10_truly_8 ⟨Nat.le_of_ble_eq_true rfl, Nat.le_of_ble_eq_true rfl⟩) hP hD hS hA [] rfl (fun _ => rfl) (fun r9 u7 H locs hw8 => ?_)
    clear hP hS
    intro hP hS
    replace hw8 : r9 = if 0 ≤ d.toInt ∧ d.toInt < 10000 then 1 else 0 := hw8
    refine lv_if_ne (tgt := 17) hx hb dX10_truly_11 (by decide) (fun c10 => ?_) (fun c10 => ?_)
    · skip
      have f11 := bo_t hw8 c10
      refine lv_aload_n hx hb dX10_truly_17 rfl (lv_at hl 0 rfl) ?_
      refine va_get (D := D) (ci := 10) (v := .ref (ad 2)) (C := RX10) (T := TX10) (N := 14) hx hb hts inX10_truly_X10 hown hK hP 0 rfl rfl 1 (by decide) (hts (Cond.fieldLink RX10 19 "PortRooms" "holdings" "LPortRooms$Holdings;") (wm_t (wm_l (wm_i 1 rfl)))) (fun _ h9 => h9) rfl dX10_truly_18 ?_
      refine lv_iload_n hx hb dX10_truly_21 rfl (lv_at hl 2 rfl) ?_
      refine st_v (wr := [(oC10 ad tn td lf)]) (va_runV (C := RX3) (As := [.int d]) (rest := []) ⟨hx, hb, hml, hown, hts⟩ (ct_X3_lookAt l D cI cY cJ cQ _ ad hn ho hc hp hs pt ps ha re d h1 h2 h3 h4) (cwV 1 hts gX10_truly_X3_lookAt rfl rfl rfl ⟨rfl, cdX3_lookAt⟩ ⟨Nat.le_of_ble_eq_true rfl, Nat.le_of_ble_eq_true rfl⟩) (cPreV (hP.sub [1, 2, 3, 4, 5, 6, 7, 8, 9] rfl) hK (hD.sub [1, 2, 3, 4, 5, 6, 7, 8, 9] (by decide +kernel) rfl) hN (ci := 3) (q0 := 0) rfl rfl) rfl rfl hl.1 rfl (lv_room (Nat.le_of_ble_eq_true rfl)) dX10_truly_22 ⟨Nat.le_of_ble_eq_true rfl, Nat.le_of_ble_eq_true rfl⟩) hP hD hS hA [1, 2, 3, 4, 5, 6, 7, 8, 9] [0] rfl rfl (by decide +kernel) (by decide +kernel) (fun u12 H locs hw13 => ?_)
      clear hP hD hS
      intro hP hD hS
      obtain ⟨pt_15, ps_16, ha_17, re_18⟩ := u12
      replace hw13 : pcOk pt_15 ps_16 ho hc hp hs d hn.toNatClampNeg ∧ okL pt_15 ha_17 re_18 := hw13
      replace hP : va_P D vwCl [(oC10 ad tn td lf), (oC3 ad hn), (aI cI (ad 23) 40 ho), (aI cI (ad 24) 40 hc), (aI cI (ad 25) 40 hp), (aI cI (ad 26) 40 hs), (aI cI (ad 27) 200 pt_15), (aI cI (ad 28) 200 ps_16), (aI cI (ad 29) 20 ha_17), (aI cI (ad 30) 10 re_18)] H := hP
      replace hD : va_D A [(oC10 ad tn td lf), (oC3 ad hn), (aI cI (ad 23) 40 ho), (aI cI (ad 24) 40 hc), (aI cI (ad 25) 40 hp), (aI cI (ad 26) 40 hs), (aI cI (ad 27) 200 pt_15), (aI cI (ad 28) 200 ps_16), (aI cI (ad 29) 20 ha_17), (aI cI (ad 30) 10 re_18)] := hD
      obtain ⟨hw13, hw13L⟩ := hw13
      refine lv_ldc hx hb hown (hts (Cond.constant RX10 169 (-1000000)) (wm_t (wm_l (wm_i 2 rfl)))) dX10_truly_25 ?_
      refine lv_istore_n (lv' := [(3, .int (-1000000)), (0, .ref (ad 0)), (1, .int o), (2, .int d)]) hx hb dX10_truly_27 rfl hl (by decide) rfl (fun ls hl => ?_)
      refine lv_iconst (v := 0) hx hb dX10_truly_28 (by decide) ?_
      refine lv_istore (lv' := [(4, .int 0), (3, .int (-1000000)), (0, .ref (ad 0)), (1, .int o), (2, .int d)]) hx hb dX10_truly_29 hl (by decide) rfl (fun ls hl => ?_)
      refine lv_iconst (v := 0) hx hb dX10_truly_31 (by decide) ?_
      refine lv_istore (lv' := [(5, .int 0), (4, .int 0), (3, .int (-1000000)), (0, .ref (ad 0)), (1, .int o), (2, .int d)]) hx hb dX10_truly_32 hl (by decide) rfl (fun ls hl => ?_)
      refine st_loop 34 (fun _ => []) (fun (z : Int32 × Int32 × Int32) (ls : Array Slot) (H : Heap) (locs : List Loc) => match z with | (q34_3, q34_4, q34_5) => (0 ≤ q34_5.toInt) ∧ (q34_5.toInt ≤ 10) ∧ ((q34_3.toInt, q34_4.toInt) = trV (ppF ho hc hp hs d hn.toNatClampNeg) o.toNatClampNeg q34_5.toNatClampNeg) ∧ lv_has ls 7 [(0, .ref (ad 0)), (1, .int o), (2, .int d), (3, .int q34_3), (4, .int q34_4), (5, .int q34_5)] ∧ va_P D vwCl [(oC10 ad tn td lf), (oC3 ad hn), (aI cI (ad 23) 40 ho), (aI cI (ad 24) 40 hc), (aI cI (ad 25) 40 hp), (aI cI (ad 26) 40 hs), (aI cI (ad 27) 200 pt_15), (aI cI (ad 28) 200 ps_16), (aI cI (ad 29) 20 ha_17), (aI cI (ad 30) 10 re_18)] H ∧ va_D A [(oC10 ad tn td lf), (oC3 ad hn), (aI cI (ad 23) 40 ho), (aI cI (ad 24) 40 hc), (aI cI (ad 25) 40 hp), (aI cI (ad 26) 40 hs), (aI cI (ad 27) 200 pt_15), (aI cI (ad 28) 200 ps_16), (aI cI (ad 29) 20 ha_17), (aI cI (ad 30) 10 re_18)] ∧ va_S A s.heap H locs) (fun (z : Int32 × Int32 × Int32) => match z with | (q34_3, q34_4, q34_5) => 10 - q34_5.toInt) ?_ ?_ (((-1000000) : Int32), (0 : Int32), (0 : Int32)) ⟨(by omega), (by omega), (by rfl), lv_sub hl [3, 4, 5, 2, 1, 0] rfl, hP, hD, hS⟩
      · rintro ⟨q34_3, q34_4, q34_5⟩ ls H locs ⟨g19, g20, g21, hl, hP, hD, hS⟩
        show (0 : Int) ≤ 10 - q34_5.toInt
        omega
      · rintro n24 ih22 ⟨q34_3, q34_4, q34_5⟩ ls H locs ⟨g19, g20, g21, hl, hP, hD, hS⟩ hm23
        have hm23 : 10 - q34_5.toInt < (n24 : Int) + 1 := hm23
        replace hl : lv_has ls 7 [(0, .ref (ad 0)), (1, .int o), (2, .int d), (3, .int q34_3), (4, .int q34_4), (5, .int q34_5)] := hl
        replace hP : va_P D vwCl [(oC10 ad tn td lf), (oC3 ad hn), (aI cI (ad 23) 40 ho), (aI cI (ad 24) 40 hc), (aI cI (ad 25) 40 hp), (aI cI (ad 26) 40 hs), (aI cI (ad 27) 200 pt_15), (aI cI (ad 28) 200 ps_16), (aI cI (ad 29) 20 ha_17), (aI cI (ad 30) 10 re_18)] H := hP
        replace hD : va_D A [(oC10 ad tn td lf), (oC3 ad hn), (aI cI (ad 23) 40 ho), (aI cI (ad 24) 40 hc), (aI cI (ad 25) 40 hp), (aI cI (ad 26) 40 hs), (aI cI (ad 27) 200 pt_15), (aI cI (ad 28) 200 ps_16), (aI cI (ad 29) 20 ha_17), (aI cI (ad 30) 10 re_18)] := hD
        show W _ _ _ _ _ _ _ _ _ _ _ _ _ _ _ (F0 m 34 ls [])
        refine lv_iload hx hb dX10_truly_34 (lv_at hl 5 rfl) ?_
        refine lv_bipush (v := 10) hx hb dX10_truly_36 (by decide) ?_
        refine lv_icmp_ge (tgt := 73) hx hb dX10_truly_38 (by decide) (fun c25 => ?_) (fun c25 => ?_)
        · skip
          have f26 := i_le c25
          refine lv_iload_n hx hb dX10_truly_73 rfl (lv_at hl 3 rfl) ?_
          have ce9 := i_cl (x := q34_5) (by omega)
          have hz9 := g21
          rw [show q34_5.toNatClampNeg = 10 by omega] at hz9
          have hP9 := hP
          have hD9 := hD
          exact W.iret (v := q34_3) hx hb hr (fun t ht hW => ⟨⟨q34_3, (pt_15, ps_16, ha_17, re_18), rfl, (by unfold sp_truly; rw [if_pos (by omega), ← hz9]), by rw [ht]; exact hP9, va_K.moved hW.alike hK, hD9⟩, hS.F ht⟩) hS.2.2 dX10_truly_74
        · skip
          have f27 := i_nle c25
          refine lv_aload_n hx hb dX10_truly_41 rfl (lv_at hl 0 rfl) ?_
          refine va_get (D := D) (ci := 10) (v := .ref (ad 2)) (C := RX10) (T := TX10) (N := 14) hx hb hts inX10_truly_X10 hown hK hP 0 rfl rfl 1 (by decide) (hts (Cond.fieldLink RX10 19 "PortRooms" "holdings" "LPortRooms$Holdings;") (wm_t (wm_l (wm_i 1 rfl)))) (fun _ h9 => h9) rfl dX10_truly_42 ?_
          refine lv_iload hx hb dX10_truly_45 (lv_at hl 5 rfl) ?_
          refine lv_iload_n hx hb dX10_truly_47 rfl (lv_at hl 1 rfl) ?_
          refine st_i1 (va_runV (C := RX3) (As := [.int q34_5, .int o]) (rest := []) ⟨hx, hb, hml, hown, hts⟩ (ct_X3_shareOf l D cI cY cJ cQ _ ad hn pt_15 ha_17 re_18 q34_5 o (by omega) (by omega) (by omega) (by omega) (by assumption)) (cwV 2 hts gX10_truly_X3_shareOf rfl rfl rfl ⟨rfl, cdX3_shareOf⟩ ⟨Nat.le_of_ble_eq_true rfl, Nat.le_of_ble_eq_true rfl⟩) (cPreV (hP.sub [1, 6, 8, 9] rfl) hK (hD.sub [1, 6, 8, 9] (by decide +kernel) rfl) hN (ci := 3) (q0 := 0) rfl rfl) rfl rfl hl.1 rfl (lv_room (Nat.le_of_ble_eq_true rfl)) dX10_truly_48 ⟨Nat.le_of_ble_eq_true rfl, Nat.le_of_ble_eq_true rfl⟩) hP hD hS hA [1, 6, 8, 9] rfl (fun _ => rfl) (fun r30 u28 H locs hw29 => ?_)
          clear hP hS
          intro hP hS
          replace hw29 : r30.toInt = shF (ptF pt_15) q34_5.toNatClampNeg o.toNatClampNeg := hw29
          refine lv_istore (lv' := [(6, .int r30), (0, .ref (ad 0)), (1, .int o), (2, .int d), (3, .int q34_3), (4, .int q34_4), (5, .int q34_5)]) hx hb dX10_truly_51 hl (by decide) rfl (fun ls hl => ?_)
          refine lv_iload hx hb dX10_truly_53 (lv_at hl 0 rfl) ?_
          refine lv_iload hx hb dX10_truly_55 (lv_at hl 5 rfl) ?_
          refine lv_icmp_le (tgt := 67) hx hb dX10_truly_57 (by decide) (fun c31 => ?_) (fun c31 => ?_)
          · skip
            have f32 := i_le c31
            obtain ⟨v33, ev33⟩ : ∃ y : Int32, y = q34_5 + 1 := ⟨_, rfl⟩
            try have tv33 : v33.toInt = q34_5.toInt + 1 := by rw [ev33]; exact (i_add (x := q34_5) (y := (1 : Int32)) (by rw [k1]; omega) (by rw [k1]; omega)).trans (by rw [k1])
            refine lv_iinc (v := v33) (lv' := [(5, .int v33), (6, .int r30), (0, .ref (ad 0)), (1, .int o), (2, .int d), (3, .int q34_3), (4, .int q34_4)]) hx hb dX10_truly_67 hl (k := 6) rfl (by rw [ev33]; rfl) (by decide) rfl (fun ls hl => ?_)
            refine lv_goto (tgt := 34) hx hb dX10_truly_70 (by decide) ?_
            have clc34 := i_cl (x := q34_5) (by omega)
            have clc35 := i_cl (x := v33) (by omega)
            rw [shF_c (ptF_pp hw13) (by omega) o.toNatClampNeg] at hw29
            have hg2 := congrArg Prod.snd g21
            dsimp only at hg2
            exact ih22 (q34_3, q34_4, v33) ls H locs ⟨(by omega), (by omega), (by rw [show v33.toNatClampNeg = q34_5.toNatClampNeg + 1 by omega, trV_s, if_neg (by omega)]; exact g21), lv_sub hl [2, 3, 4, 5, 6, 0] rfl, hP.sub [0, 1, 2, 3, 4, 5, 6, 7, 8, 9] rfl, hD.sub [0, 1, 2, 3, 4, 5, 6, 7, 8, 9] (by decide +kernel) rfl, hS⟩ (by show 10 - v33.toInt < _; omega)
          · skip
            have f36 := i_nle c31
            refine lv_iload hx hb dX10_truly_60 (lv_at hl 0 rfl) ?_
            refine lv_istore (lv' := [(4, .int r30), (6, .int r30), (0, .ref (ad 0)), (1, .int o), (2, .int d), (3, .int q34_3), (5, .int q34_5)]) hx hb dX10_truly_62 hl (by decide) rfl (fun ls hl => ?_)
            refine lv_iload hx hb dX10_truly_64 (lv_at hl 6 rfl) ?_
            refine lv_istore_n (lv' := [(3, .int q34_5), (4, .int r30), (6, .int r30), (0, .ref (ad 0)), (1, .int o), (2, .int d), (5, .int q34_5)]) hx hb dX10_truly_66 rfl hl (by decide) rfl (fun ls hl => ?_)
            obtain ⟨v37, ev37⟩ : ∃ y : Int32, y = q34_5 + 1 := ⟨_, rfl⟩
            try have tv37 : v37.toInt = q34_5.toInt + 1 := by rw [ev37]; exact (i_add (x := q34_5) (y := (1 : Int32)) (by rw [k1]; omega) (by rw [k1]; omega)).trans (by rw [k1])
            refine lv_iinc (v := v37) (lv' := [(5, .int v37), (3, .int q34_5), (4, .int r30), (6, .int r30), (0, .ref (ad 0)), (1, .int o), (2, .int d)]) hx hb dX10_truly_67 hl (k := 6) rfl (by rw [ev37]; rfl) (by decide) rfl (fun ls hl => ?_)
            refine lv_goto (tgt := 34) hx hb dX10_truly_70 (by decide) ?_
            have clc38 := i_cl (x := q34_5) (by omega)
            have clc39 := i_cl (x := v37) (by omega)
            rw [shF_c (ptF_pp hw13) (by omega) o.toNatClampNeg] at hw29
            have hg2 := congrArg Prod.snd g21
            dsimp only at hg2
            exact ih22 (q34_5, r30, v37) ls H locs ⟨(by omega), (by omega), (by rw [show v37.toNatClampNeg = q34_5.toNatClampNeg + 1 by omega, trV_s, if_pos (by omega), ← hw29]; congr 1; omega), lv_sub hl [4, 5, 6, 1, 2, 0] rfl, hP.sub [0, 1, 2, 3, 4, 5, 6, 7, 8, 9] rfl, hD.sub [0, 1, 2, 3, 4, 5, 6, 7, 8, 9] (by decide +kernel) rfl, hS⟩ (by show 10 - v37.toInt < _; omega)
    · skip
      have f40 := bo_f hw8 c10
      refine lv_ldc hx hb hown (hts (Cond.constant RX10 89 (-1000001)) (wm_t (wm_l (wm_i 0 rfl)))) dX10_truly_14 ?_
      have hP9 := hP
      have hD9 := hD
      exact W.iret (v := (-1000001)) hx hb hr (fun t ht hW => ⟨⟨(-1000001), (pt, ps, ha, re), rfl, (by unfold sp_truly; rw [if_neg (by omega)]; omega), by rw [ht]; exact hP9, va_K.moved hW.alike hK, hD9⟩, hS.F ht⟩) hS.2.2 dX10_truly_16


/-- the companies in a ring, as bits -/
def rgQ (B : Nat → Nat → Bool) (r : Int32) (n : Nat) : Prop := ∀ i : Nat, i < 32 → bt r i = (decide (i < n) && wrV B 10 i i)
def ppB (p : Nat → Nat → Int) : Nat → Nat → Bool := fun c d => decide (d < 10 ∧ 0 < p (10 + c) d)
theorem wr_c {B B' : Nat → Nat → Bool} (h : ∀ c d, c < 10 → d < 32 → B c d = B' c d) (k : Nat) (hk : k ≤ 10) : ∀ c d, c < 10 → d < 32 → wrV B k c d = wrV B' k c d := by
  induction k with
  | zero => exact h
  | succ k ih =>
    intro c d h1 h2
    rw [wrV_s, wrV_s, ih (by omega) c d h1 h2, ih (by omega) c k h1 (by omega), ih (by omega) k d (by omega) h2]
def sp_rings (hn : Int32) (ho hc hp hs : Nat → Int32) (d r : Int32) : Prop := if 0 ≤ d.toInt ∧ d.toInt < 10000 then rgQ (ppB (ppF ho hc hp hs d hn.toNatClampNeg)) r 10 else r.toInt = -1000001
theorem re_pp {pt ps ho hc hp hs ha re : Nat → Int32} {d : Int32} {n : Nat} (h : pcOk pt ps ho hc hp hs d n) (hL : okL pt ha re) {c i : Nat} (h1 : c < 10) (h2 : i < 32) : bt (re c) i = wrV (ppB (ppF ho hc hp hs d n)) 10 c i := by
  rw [hL.2 c i h1 h2]
  refine wr_c (fun c9 d9 a1 a2 => ?_) 10 (Nat.le_refl _) c i h1 h2
  unfold ppB
  apply Bool.eq_iff_iff.mpr
  rw [hL.1.1 (10 + c9) d9 (by omega) a2, decide_eq_true_iff]
  constructor
  · rintro ⟨b1, b2⟩
    rw [pcOk_at h (by omega) b1] at b2
    exact ⟨b1, b2⟩
  · rintro ⟨b1, b2⟩
    rw [← pcOk_at h (by omega) b1] at b2
    exact ⟨b1, b2⟩
theorem rgQ_up {B : Nat → Nat → Bool} {r w c : Int32} {n m : Nat} (h : rgQ B r n) (hc : c.toInt = n) (hn : n < 10) (hm : m = n + 1) (hb : wrV B 10 n n = true) (hw : w = r ||| ((1 : Int32) <<< (c &&& 31))) : rgQ B w m := by
  have cc := i_cl (x := c) (by omega)
  intro i hi
  rw [hw, bt_set (by omega) (by omega) hi, h i hi, hm, show c.toNatClampNeg = n by omega]
  by_cases e : i = n
  · rw [e, hb]; simp
  · by_cases l : i < n
    · simp [e, l, show i < n + 1 by omega]
    · simp [e, l, show ¬ i < n + 1 by omega]
theorem rgQ_no {B : Nat → Nat → Bool} {r : Int32} {n m : Nat} (h : rgQ B r n) (hm : m = n + 1) (hb : wrV B 10 n n = false) : rgQ B r m := by
  intro i hi
  rw [h i hi, hm]
  by_cases e : i = n
  · rw [e, hb]; simp
  · by_cases l : i < n
    · simp [l, show i < n + 1 by omega]
    · simp [l, show ¬ i < n + 1 by omega]
theorem rgQ_0 {B : Nat → Nat → Bool} : rgQ B 0 0 := fun i hi => by rw [b_0, decide_eq_false (by omega)]; rfl

set_option maxHeartbeats 4000000 in
set_option maxRecDepth 100000 in
theorem ct_X10_rings (l : Launch) (D : va_G) (cI cY cJ cQ : ClassId) (sz : Nat) (ad : Nat → Nat) (tn td lf hn : Int32) (ho hc hp hs pt ps ha re : Nat → Int32) (d : Int32)  (h1 : 0 ≤ hn.toInt) (h2 : hn.toInt ≤ 40) (h3 : okH hn ho hc) (h4 : okV hn hp)  : Met l yX10_rings wsX10_rings ({ frames := 3, cells := 0, slots := 0, locals := 85 }) (cPre D (ty4 cI cY cJ cQ) [(oC10 ad tn td lf), (oC3 ad hn), (aI cI (ad 23) 40 ho), (aI cI (ad 24) 40 hc), (aI cI (ad 25) 40 hp), (aI cI (ad 26) 40 hs), (aI cI (ad 27) 200 pt), (aI cI (ad 28) 200 ps), (aI cI (ad 29) 20 ha), (aI cI (ad 30) 10 re)] sz [.ref (ad 0), .int d]) (va_Qi (fun (r : Int32) (u : (Nat → Int32) × (Nat → Int32) × (Nat → Int32) × (Nat → Int32)) => sp_rings hn ho hc hp hs d r) (cB D (ty4 cI cY cJ cQ) (fun (u : (Nat → Int32) × (Nat → Int32) × (Nat → Int32) × (Nat → Int32)) => [(oC10 ad tn td lf), (oC3 ad hn), (aI cI (ad 23) 40 ho), (aI cI (ad 24) 40 hc), (aI cI (ad 25) 40 hp), (aI cI (ad 26) 40 hs), (aI cI (ad 27) 200 u.1), (aI cI (ad 28) 200 u.2.1), (aI cI (ad 29) 20 u.2.2.1), (aI cI (ad 30) 10 u.2.2.2)]) (va_A [(oC10 ad tn td lf), (oC3 ad hn), (aI cI (ad 23) 40 ho), (aI cI (ad 24) 40 hc), (aI cI (ad 25) 40 hp), (aI cI (ad 26) 40 hs), (aI cI (ad 27) 200 pt), (aI cI (ad 28) 200 ps), (aI cI (ad 29) 20 ha), (aI cI (ad 30) 10 re)] sz)) (va_A [(oC10 ad tn td lf), (oC3 ad hn), (aI cI (ad 23) 40 ho), (aI cI (ad 24) 40 hc), (aI cI (ad 25) 40 hp), (aI cI (ad 26) 40 hs), (aI cI (ad 27) 200 pt), (aI cI (ad 28) 200 ps), (aI cI (ad 29) 20 ha), (aI cI (ad 30) 10 re)] sz)) 0 0 (va_A [(oC10 ad tn td lf), (oC3 ad hn), (aI cI (ad 23) 40 ho), (aI cI (ad 24) 40 hc), (aI cI (ad 25) 40 hp), (aI cI (ad 26) 40 hs), (aI cI (ad 27) 200 pt), (aI cI (ad 28) 200 ps), (aI cI (ad 29) 20 ha), (aI cI (ad 30) 10 re)] sz) := by
  refine Met.ofW (cc := cX10_rings) (maxL := 4) (ret := (some .int)) (by decide) rfl ?_
  intro p e s m args below meth c s₁ B hml hv
  obtain ⟨rfl, hsz, hP, hK, hD0, hN⟩ := hv
  have hx := B.exec
  have hb := B.bytes
  have hr := B.returns
  have hts := atoms_spec (ws := wsX10_rings) B.pre
  have hown : s.vm.findClass RX10 = some m.cls := findClass_of_methodNamed B.named
  have hlocks := B.notSynchronized
  subst hsz
  have hD := hD0.self (sz := s.heap.size)
  generalize hAe : va_A [(oC10 ad tn td lf), (oC3 ad hn), (aI cI (ad 23) 40 ho), (aI cI (ad 24) 40 hc), (aI cI (ad 25) 40 hp), (aI cI (ad 26) 40 hs), (aI cI (ad 27) 200 pt), (aI cI (ad 28) 200 ps), (aI cI (ad 29) 20 ha), (aI cI (ad 30) 10 re)] s.heap.size = A at hD ⊢
  have hA : ∀ q : Nat, s.heap.size ≤ q → A q := fun q h => by rw [← hAe]; exact Or.inr h
  have hS : va_S A s.heap s.heap [] := va_S.rf
  have hP : va_P D vwCl [(oC10 ad tn td lf), (oC3 ad hn), (aI cI (ad 23) 40 ho), (aI cI (ad 24) 40 hc), (aI cI (ad 25) 40 hp), (aI cI (ad 26) 40 hs), (aI cI (ad 27) 200 pt), (aI cI (ad 28) 200 ps), (aI cI (ad 29) 20 ha), (aI cI (ad 30) 10 re)] s.heap := hP
  have hl := lv_entry ([.ref (ad 0), .int d]) (n := 4) (Nat.le_of_ble_eq_true rfl)
  rw [lg_entry_eq]
  generalize (lg_sl ([.ref (ad 0), .int d]) ++ List.replicate (4 - (lg_sl ([.ref (ad 0), .int d])).length) Slot.unset).toArray = ls at hl ⊢
  have hl : lv_has ls 4 [(0, .ref (ad 0)), (1, .int d)] := hl
  have km1000001 : (-1000001 : Int32).toInt = -1000001 := by decide
  have k0 : (0 : Int32).toInt = 0 := by decide
  have k1 : (1 : Int32).toInt = 1 := by decide
  have k10 : (10 : Int32).toInt = 10 := by decide
  refine lv_iload_n hx hb dX10_rings_0 rfl (lv_at hl 1 rfl) ?_
  refine st_i1 (va_runS (As := [.int d]) (rest := []) ⟨hx, hb, hml, hown, hts⟩ (ct_X10_isDay l D cI cY cJ cQ _ d) (va_cwS 1 hts gX10_rings_X10_isDay rfl rfl rfl cdX10_isDay ⟨Nat.le_of_ble_eq_true rfl, Nat.le_of_ble_eq_true rfl⟩) (cPreS (hP.sub [] rfl) hK (hD.sub [] (by decide +kernel) rfl) hN) rfl rfl hl.1 rfl (lv_room (Nat.le_of_ble_eq_true rfl)) dX10_rings_1 ⟨Nat.le_of_ble_eq_true rfl, Nat.le_of_ble_eq_true rfl⟩) hP hD hS hA [] rfl (fun _ => rfl) (fun r3 u1 H locs hw2 => ?_)
  clear hP hS
  intro hP hS
  replace hw2 : r3 = if 0 ≤ d.toInt ∧ d.toInt < 10000 then 1 else 0 := hw2
  refine lv_if_ne (tgt := 10) hx hb dX10_rings_4 (by decide) (fun c4 => ?_) (fun c4 => ?_)
  · skip
    have f5 := bo_t hw2 c4
    refine lv_aload_n hx hb dX10_rings_10 rfl (lv_at hl 0 rfl) ?_
    refine va_get (D := D) (ci := 10) (v := .ref (ad 2)) (C := RX10) (T := TX10) (N := 14) hx hb hts inX10_rings_X10 hown hK hP 0 rfl rfl 1 (by decide) (hts (Cond.fieldLink RX10 19 "PortRooms" "holdings" "LPortRooms$Holdings;") (wm_t (wm_l (wm_i 1 rfl)))) (fun _ h9 => h9) rfl dX10_rings_11 ?_
    refine lv_iload_n hx hb dX10_rings_14 rfl (lv_at hl 1 rfl) ?_
    refine st_v (wr := [(oC10 ad tn td lf)]) (va_runV (C := RX3) (As := [.int d]) (rest := []) ⟨hx, hb, hml, hown, hts⟩ (ct_X3_lookAt l D cI cY cJ cQ _ ad hn ho hc hp hs pt ps ha re d h1 h2 h3 h4) (cwV 1 hts gX10_rings_X3_lookAt rfl rfl rfl ⟨rfl, cdX3_lookAt⟩ ⟨Nat.le_of_ble_eq_true rfl, Nat.le_of_ble_eq_true rfl⟩) (cPreV (hP.sub [1, 2, 3, 4, 5, 6, 7, 8, 9] rfl) hK (hD.sub [1, 2, 3, 4, 5, 6, 7, 8, 9] (by decide +kernel) rfl) hN (ci := 3) (q0 := 0) rfl rfl) rfl rfl hl.1 rfl (lv_room (Nat.le_of_ble_eq_true rfl)) dX10_rings_15 ⟨Nat.le_of_ble_eq_true rfl, Nat.le_of_ble_eq_true rfl⟩) hP hD hS hA [1, 2, 3, 4, 5, 6, 7, 8, 9] [0] rfl rfl (by decide +kernel) (by decide +kernel) (fun u6 H locs hw7 => ?_)
    clear hP hD hS
    intro hP hD hS
    obtain ⟨pt_9, ps_10, ha_11, re_12⟩ := u6
    replace hw7 : pcOk pt_9 ps_10 ho hc hp hs d hn.toNatClampNeg ∧ okL pt_9 ha_11 re_12 := hw7
    replace hP : va_P D vwCl [(oC10 ad tn td lf), (oC3 ad hn), (aI cI (ad 23) 40 ho), (aI cI (ad 24) 40 hc), (aI cI (ad 25) 40 hp), (aI cI (ad 26) 40 hs), (aI cI (ad 27) 200 pt_9), (aI cI (ad 28) 200 ps_10), (aI cI (ad 29) 20 ha_11), (aI cI (ad 30) 10 re_12)] H := hP
    replace hD : va_D A [(oC10 ad tn td lf), (oC3 ad hn), (aI cI (ad 23) 40 ho), (aI cI (ad 24) 40 hc), (aI cI (ad 25) 40 hp), (aI cI (ad 26) 40 hs), (aI cI (ad 27) 200 pt_9), (aI cI (ad 28) 200 ps_10), (aI cI (ad 29) 20 ha_11), (aI cI (ad 30) 10 re_12)] := hD
    obtain ⟨hw7, hw7L⟩ := hw7
    refine lv_iconst (v := 0) hx hb dX10_rings_18 (by decide) ?_
    refine lv_istore_n (lv' := [(2, .int 0), (0, .ref (ad 0)), (1, .int d)]) hx hb dX10_rings_19 rfl hl (by decide) rfl (fun ls hl => ?_)
    refine lv_iconst (v := 0) hx hb dX10_rings_20 (by decide) ?_
    refine lv_istore_n (lv' := [(3, .int 0), (2, .int 0), (0, .ref (ad 0)), (1, .int d)]) hx hb dX10_rings_21 rfl hl (by decide) rfl (fun ls hl => ?_)
    refine st_loop 22 (fun _ => []) (fun (z : Int32 × Int32) (ls : Array Slot) (H : Heap) (locs : List Loc) => match z with | (q22_2, q22_3) => (0 ≤ q22_3.toInt) ∧ (q22_3.toInt ≤ 10) ∧ (rgQ (ppB (ppF ho hc hp hs d hn.toNatClampNeg)) q22_2 q22_3.toNatClampNeg) ∧ lv_has ls 4 [(0, .ref (ad 0)), (1, .int d), (2, .int q22_2), (3, .int q22_3)] ∧ va_P D vwCl [(oC10 ad tn td lf), (oC3 ad hn), (aI cI (ad 23) 40 ho), (aI cI (ad 24) 40 hc), (aI cI (ad 25) 40 hp), (aI cI (ad 26) 40 hs), (aI cI (ad 27) 200 pt_9), (aI cI (ad 28) 200 ps_10), (aI cI (ad 29) 20 ha_11), (aI cI (ad 30) 10 re_12)] H ∧ va_D A [(oC10 ad tn td lf), (oC3 ad hn), (aI cI (ad 23) 40 ho), (aI cI (ad 24) 40 hc), (aI cI (ad 25) 40 hp), (aI cI (ad 26) 40 hs), (aI cI (ad 27) 200 pt_9), (aI cI (ad 28) 200 ps_10), (aI cI (ad 29) 20 ha_11), (aI cI (ad 30) 10 re_12)] ∧ va_S A s.heap H locs) (fun (z : Int32 × Int32) => match z with | (q22_2, q22_3) => 10 - q22_3.toInt) ?_ ?_ ((0 : Int32), (0 : Int32)) ⟨(by omega), (by omega), (by exact rgQ_0), lv_sub hl [2, 3, 1, 0] rfl, hP, hD, hS⟩
    · rintro ⟨q22_2, q22_3⟩ ls H locs ⟨g13, g14, g15, hl, hP, hD, hS⟩
      show (0 : Int) ≤ 10 - q22_3.toInt
      omega
    · rintro n18 ih16 ⟨q22_2, q22_3⟩ ls H locs ⟨g13, g14, g15, hl, hP, hD, hS⟩ hm17
      have hm17 : 10 - q22_3.toInt < (n18 : Int) + 1 := hm17
      replace hl : lv_has ls 4 [(0, .ref (ad 0)), (1, .int d), (2, .int q22_2), (3, .int q22_3)] := hl
      replace hP : va_P D vwCl [(oC10 ad tn td lf), (oC3 ad hn), (aI cI (ad 23) 40 ho), (aI cI (ad 24) 40 hc), (aI cI (ad 25) 40 hp), (aI cI (ad 26) 40 hs), (aI cI (ad 27) 200 pt_9), (aI cI (ad 28) 200 ps_10), (aI cI (ad 29) 20 ha_11), (aI cI (ad 30) 10 re_12)] H := hP
      replace hD : va_D A [(oC10 ad tn td lf), (oC3 ad hn), (aI cI (ad 23) 40 ho), (aI cI (ad 24) 40 hc), (aI cI (ad 25) 40 hp), (aI cI (ad 26) 40 hs), (aI cI (ad 27) 200 pt_9), (aI cI (ad 28) 200 ps_10), (aI cI (ad 29) 20 ha_11), (aI cI (ad 30) 10 re_12)] := hD
      show W _ _ _ _ _ _ _ _ _ _ _ _ _ _ _ (F0 m 22 ls [])
      refine lv_iload_n hx hb dX10_rings_22 rfl (lv_at hl 3 rfl) ?_
      refine lv_bipush (v := 10) hx hb dX10_rings_23 (by decide) ?_
      refine lv_icmp_ge (tgt := 56) hx hb dX10_rings_25 (by decide) (fun c19 => ?_) (fun c19 => ?_)
      · skip
        have f20 := i_le c19
        refine lv_iload_n hx hb dX10_rings_56 rfl (lv_at hl 2 rfl) ?_
        have ce9 := i_cl (x := q22_3) (by omega)
        have hz9 := g15
        rw [show q22_3.toNatClampNeg = 10 by omega] at hz9
        have hP9 := hP
        have hD9 := hD
        exact W.iret (v := q22_2) hx hb hr (fun t ht hW => ⟨⟨q22_2, (pt_9, ps_10, ha_11, re_12), rfl, (by show sp_rings hn ho hc hp hs d q22_2; unfold sp_rings; rw [if_pos (by omega)]; exact hz9), by rw [ht]; exact hP9, va_K.moved hW.alike hK, hD9⟩, hS.F ht⟩) hS.2.2 dX10_rings_57
      · skip
        have f21 := i_nle c19
        refine lv_aload_n hx hb dX10_rings_28 rfl (lv_at hl 0 rfl) ?_
        refine va_get (D := D) (ci := 10) (v := .ref (ad 2)) (C := RX10) (T := TX10) (N := 14) hx hb hts inX10_rings_X10 hown hK hP 0 rfl rfl 1 (by decide) (hts (Cond.fieldLink RX10 19 "PortRooms" "holdings" "LPortRooms$Holdings;") (wm_t (wm_l (wm_i 1 rfl)))) (fun _ h9 => h9) rfl dX10_rings_29 ?_
        refine va_get (D := D) (ci := 3) (v := .ref (ad 30)) (C := RX3) (T := TX3) (N := 9) hx hb hts inX10_rings_X3 hown hK hP 1 rfl rfl 8 (by decide) (hts (Cond.fieldLink RX10 170 "PortRooms$Holdings" "reach" "[I") (wm_t (wm_l (wm_i 2 rfl)))) (fun _ h9 => h9) rfl dX10_rings_32 ?_
        refine lv_iload_n hx hb dX10_rings_35 rfl (lv_at hl 3 rfl) ?_
        refine va_iald hx hb hK hP 9 0 rfl rfl (i_in (by omega) (by omega)) dX10_rings_36 ?_
        refine lv_topi (fun v22 ev22 => ?_)
        have tlv22 : v22.toInt = (re_12 q22_3.toNatClampNeg).toInt := by rw [ev22]
        refine lv_iload_n hx hb dX10_rings_37 rfl (lv_at hl 3 rfl) ?_
        refine st_i1 (va_runS (As := [.int v22, .int q22_3]) (rest := []) ⟨hx, hb, hml, hown, hts⟩ (ct_X10_hasBit l D cI cY cJ cQ _ v22 q22_3) (va_cwS 2 hts gX10_rings_X10_hasBit rfl rfl rfl cdX10_hasBit ⟨Nat.le_of_ble_eq_true rfl, Nat.le_of_ble_eq_true rfl⟩) (cPreS (hP.sub [] rfl) hK (hD.sub [] (by decide +kernel) rfl) hN) rfl rfl hl.1 rfl (lv_room (Nat.le_of_ble_eq_true rfl)) dX10_rings_38 ⟨Nat.le_of_ble_eq_true rfl, Nat.le_of_ble_eq_true rfl⟩) hP hD hS hA [] rfl (fun _ => rfl) (fun r25 u23 H locs hw24 => ?_)
        clear hP hS
        intro hP hS
        replace hw24 : r25 = if hbP v22 q22_3 then 1 else 0 := hw24
        refine lv_if_eq (tgt := 50) hx hb dX10_rings_41 (by decide) (fun c26 => ?_) (fun c26 => ?_)
        · skip
          have f27 := bo_f hw24 c26
          obtain ⟨v28, ev28⟩ : ∃ y : Int32, y = q22_3 + 1 := ⟨_, rfl⟩
          try have tv28 : v28.toInt = q22_3.toInt + 1 := by rw [ev28]; exact (i_add (x := q22_3) (y := (1 : Int32)) (by rw [k1]; omega) (by rw [k1]; omega)).trans (by rw [k1])
          refine lv_iinc (v := v28) (lv' := [(3, .int v28), (0, .ref (ad 0)), (1, .int d), (2, .int q22_2)]) hx hb dX10_rings_50 hl (k := 3) rfl (by rw [ev28]; rfl) (by decide) rfl (fun ls hl => ?_)
          refine lv_goto (tgt := 22) hx hb dX10_rings_53 (by decide) ?_
          have clc29 := i_cl (x := q22_3) (by omega)
          have clc30 := i_cl (x := v28) (by omega)
          exact ih16 (q22_2, v28) ls H locs ⟨(by omega), (by omega), (by exact rgQ_no g15 (by omega) (by rw [← re_pp hw7 hw7L (by omega) (by omega), ← ev22]; exact hbn (by omega) (by omega) f27)), lv_sub hl [1, 2, 3, 0] rfl, hP.sub [0, 1, 2, 3, 4, 5, 6, 7, 8, 9] rfl, hD.sub [0, 1, 2, 3, 4, 5, 6, 7, 8, 9] (by decide +kernel) rfl, hS⟩ (by show 10 - v28.toInt < _; omega)
        · skip
          have f31 := bo_t hw24 c26
          refine lv_iload_n hx hb dX10_rings_44 rfl (lv_at hl 2 rfl) ?_
          refine lv_iconst (v := 1) hx hb dX10_rings_45 (by decide) ?_
          refine lv_iload_n hx hb dX10_rings_46 rfl (lv_at hl 3 rfl) ?_
          refine lv_ishl hx hb dX10_rings_47 ?_
          refine lv_topi (fun v32 ev32 => ?_)
          refine lv_ior hx hb dX10_rings_48 ?_
          refine lv_topi (fun v33 ev33 => ?_)
          refine lv_istore_n (lv' := [(2, .int v33), (0, .ref (ad 0)), (1, .int d), (3, .int q22_3)]) hx hb dX10_rings_49 rfl hl (by decide) rfl (fun ls hl => ?_)
          obtain ⟨v34, ev34⟩ : ∃ y : Int32, y = q22_3 + 1 := ⟨_, rfl⟩
          try have tv34 : v34.toInt = q22_3.toInt + 1 := by rw [ev34]; exact (i_add (x := q22_3) (y := (1 : Int32)) (by rw [k1]; omega) (by rw [k1]; omega)).trans (by rw [k1])
          refine lv_iinc (v := v34) (lv' := [(3, .int v34), (2, .int v33), (0, .ref (ad 0)), (1, .int d)]) hx hb dX10_rings_50 hl (k := 3) rfl (by rw [ev34]; rfl) (by decide) rfl (fun ls hl => ?_)
          refine lv_goto (tgt := 22) hx hb dX10_rings_53 (by decide) ?_
          have clc35 := i_cl (x := q22_3) (by omega)
          have clc36 := i_cl (x := v34) (by omega)
          exact ih16 (v33, v34) ls H locs ⟨(by omega), (by omega), (by exact rgQ_up (c := q22_3) g15 (by omega) (by omega) (by omega) (by rw [← re_pp hw7 hw7L (by omega) (by omega), ← ev22]; exact (hbb (by omega) (by omega)).mp f31) (by rw [ev33, ev32])), lv_sub hl [2, 3, 1, 0] rfl, hP.sub [0, 1, 2, 3, 4, 5, 6, 7, 8, 9] rfl, hD.sub [0, 1, 2, 3, 4, 5, 6, 7, 8, 9] (by decide +kernel) rfl, hS⟩ (by show 10 - v34.toInt < _; omega)
  · skip
    have f37 := bo_f hw2 c4
    refine lv_ldc hx hb hown (hts (Cond.constant RX10 89 (-1000001)) (wm_t (wm_l (wm_i 0 rfl)))) dX10_rings_7 ?_
    have hP9 := hP
    have hD9 := hD
    exact W.iret (v := (-1000001)) hx hb hr (fun t ht hW => ⟨⟨(-1000001), (pt, ps, ha, re), rfl, (by show sp_rings hn ho hc hp hs d ((-1000001) : Int32); unfold sp_rings; rw [if_neg (by omega)]; omega), by rw [ht]; exact hP9, va_K.moved hW.alike hK, hD9⟩, hS.F ht⟩) hS.2.2 dX10_rings_9
end
