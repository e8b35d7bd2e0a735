theorem cdX3_place : yX3_place.cls ≠ "java/lang/invoke/MethodHandle" ∧ yX3_place.cls ≠ "java/lang/invoke/VarHandle" ∧ (parseMethodDescriptor yX3_place.desc).map (fun d => d.parameters.length) = some 2 := by decide +kernel
theorem cdX3_lookAt : yX3_lookAt.cls ≠ "java/lang/invoke/MethodHandle" ∧ yX3_lookAt.cls ≠ "java/lang/invoke/VarHandle" ∧ (parseMethodDescriptor yX3_lookAt.desc).map (fun d => d.parameters.length) = some 1 := by decide +kernel
theorem cdX3_gatherWhoHas : yX3_gatherWhoHas.cls ≠ "java/lang/invoke/MethodHandle" ∧ yX3_gatherWhoHas.cls ≠ "java/lang/invoke/VarHandle" ∧ (parseMethodDescriptor yX3_gatherWhoHas.desc).map (fun d => d.parameters.length) = some 0 := by decide +kernel
theorem cdX3_closeReach : yX3_closeReach.cls ≠ "java/lang/invoke/MethodHandle" ∧ yX3_closeReach.cls ≠ "java/lang/invoke/VarHandle" ∧ (parseMethodDescriptor yX3_closeReach.desc).map (fun d => d.parameters.length) = some 0 := by decide +kernel
theorem cdX3_partOf : yX3_partOf.cls ≠ "java/lang/invoke/MethodHandle" ∧ yX3_partOf.cls ≠ "java/lang/invoke/VarHandle" ∧ (parseMethodDescriptor yX3_partOf.desc).map (fun d => d.parameters.length) = some 2 := by decide +kernel
theorem cdX10_hasBit : yX10_hasBit.cls ≠ "java/lang/invoke/MethodHandle" ∧ yX10_hasBit.cls ≠ "java/lang/invoke/VarHandle" ∧ (parseMethodDescriptor yX10_hasBit.desc).map (fun d => d.parameters.length) = some 2 := by decide +kernel
theorem cdJ7_fill_53178 : yJ7_fill_53178.cls ≠ "java/lang/invoke/MethodHandle" ∧ yJ7_fill_53178.cls ≠ "java/lang/invoke/VarHandle" ∧ (parseMethodDescriptor yJ7_fill_53178.desc).map (fun d => d.parameters.length) = some 2 := by decide +kernel
theorem inX3_gatherWhoHas_X3 : ∀ w ∈ u_ws RX3 TX3 9, w ∈ wsX3_gatherWhoHas := fun _ h => (List.mem_cons_of_mem _ (List.mem_append_right _ h))
theorem inX3_closeReach_X3 : ∀ w ∈ u_ws RX3 TX3 9, w ∈ wsX3_closeReach := fun _ h => (List.mem_cons_of_mem _ (List.mem_append_right _ h))
theorem inX3_lookAt_X3 : ∀ w ∈ u_ws RX3 TX3 9, w ∈ wsX3_lookAt := fun _ h => (List.mem_cons_of_mem _ (List.mem_append_right _ h))
theorem inX3_partOf_X3 : ∀ w ∈ u_ws RX3 TX3 9, w ∈ wsX3_partOf := fun _ h => (List.mem_cons_of_mem _ (List.mem_append_right _ h))
theorem inX3_leadingTo_X3 : ∀ w ∈ u_ws RX3 TX3 9, w ∈ wsX3_leadingTo := fun _ h => (List.mem_cons_of_mem _ (List.mem_append_right _ h))
theorem inX10_percent_X10 : ∀ w ∈ u_ws RX10 TX10 14, w ∈ wsX10_percent := fun _ h => (List.mem_cons_of_mem _ (List.mem_append_left _ (List.mem_append_right _ h)))
theorem dX3_place_all0 : decode cX3_place 0 = .ok (.iload_n 0, 1) ∧ decode cX3_place 1 = .ok (.bipush 10, 2) ∧ decode cX3_place 3 = .ok (.imul, 1) ∧ decode cX3_place 4 = .ok (.iload_n 1, 1) ∧ decode cX3_place 5 = .ok (.iadd, 1) ∧ decode cX3_place 6 = .ok (.bipush 10, 2) ∧ decode cX3_place 8 = .ok (.isub, 1) ∧ decode cX3_place 9 = .ok (.ireturn, 1) := by decide +kernel
theorem dX3_place_0 : decode cX3_place 0 = .ok (.iload_n 0, 1) := dX3_place_all0.1
theorem dX3_place_1 : decode cX3_place 1 = .ok (.bipush 10, 2) := dX3_place_all0.2.1
theorem dX3_place_3 : decode cX3_place 3 = .ok (.imul, 1) := dX3_place_all0.2.2.1
theorem dX3_place_4 : decode cX3_place 4 = .ok (.iload_n 1, 1) := dX3_place_all0.2.2.2.1
theorem dX3_place_5 : decode cX3_place 5 = .ok (.iadd, 1) := dX3_place_all0.2.2.2.2.1
theorem dX3_place_6 : decode cX3_place 6 = .ok (.bipush 10, 2) := dX3_place_all0.2.2.2.2.2.1
theorem dX3_place_8 : decode cX3_place 8 = .ok (.isub, 1) := dX3_place_all0.2.2.2.2.2.2.1
theorem dX3_place_9 : decode cX3_place 9 = .ok (.ireturn, 1) := dX3_place_all0.2.2.2.2.2.2.2
set_option maxRecDepth 20000 in
theorem ggX3_lookAt_J7_fill_53178 : GoodIn wsX3_lookAt wsJ7_fill_53178 := goodIn_n _ [(11, 1)] rfl (by decide +kernel)
set_option maxRecDepth 20000 in
theorem gX3_lookAt_J7_fill_53178 : GoodIn wsX3_lookAt (va_wsS RX3 40 yJ7_fill_53178 wsJ7_fill_53178) := goodIn_app (goodIn_n _ [(8, 3)] rfl (by decide +kernel)) ggX3_lookAt_J7_fill_53178
set_option maxRecDepth 20000 in
theorem ggX3_lookAt_X3_place : GoodIn wsX3_lookAt wsX3_place := goodIn_n _ [(15, 1)] rfl (by decide +kernel)
set_option maxRecDepth 20000 in
theorem gX3_lookAt_X3_place : GoodIn wsX3_lookAt (va_wsS RX3 46 yX3_place wsX3_place) := goodIn_app (goodIn_n _ [(12, 3)] rfl (by decide +kernel)) ggX3_lookAt_X3_place
set_option maxRecDepth 20000 in
theorem ggX3_lookAt_X3_gatherWhoHas : GoodIn wsX3_lookAt wsX3_gatherWhoHas := goodIn_n _ [(19, 2), (3, 1), (1, 1), (4, 2), (8, 8), (33, 9)] rfl (by decide +kernel)
set_option maxRecDepth 20000 in
theorem gX3_lookAt_X3_gatherWhoHas : GoodIn wsX3_lookAt (wsV RX3 50 RX3 yX3_gatherWhoHas wsX3_gatherWhoHas) := goodIn_app (goodIn_n _ [(16, 3), (14, 1)] rfl (by decide +kernel)) ggX3_lookAt_X3_gatherWhoHas
set_option maxRecDepth 20000 in
theorem ggX3_lookAt_X3_closeReach : GoodIn wsX3_lookAt wsX3_closeReach := goodIn_n _ [(24, 1), (20, 1), (25, 17)] rfl (by decide +kernel)
set_option maxRecDepth 20000 in
theorem gX3_lookAt_X3_closeReach : GoodIn wsX3_lookAt (wsV RX3 53 RX3 yX3_closeReach wsX3_closeReach) := goodIn_app (goodIn_n _ [(21, 3), (14, 1)] rfl (by decide +kernel)) ggX3_lookAt_X3_closeReach
theorem dX3_lookAt_all0 : decode cX3_lookAt 0 = .ok (.aload_n 0, 1) ∧ decode cX3_lookAt 1 = .ok (.getfield 24, 3) ∧ decode cX3_lookAt 4 = .ok (.iconst 0, 1) ∧ decode cX3_lookAt 5 = .ok (.invokestatic 40, 3) ∧ decode cX3_lookAt 8 = .ok (.aload_n 0, 1) ∧ decode cX3_lookAt 9 = .ok (.getfield 27, 3) ∧ decode cX3_lookAt 12 = .ok (.iconst 0, 1) ∧ decode cX3_lookAt 13 = .ok (.invokestatic 40, 3) ∧ decode cX3_lookAt 16 = .ok (.iconst 0, 1) ∧ decode cX3_lookAt 17 = .ok (.istore_n 2, 1) ∧ decode cX3_lookAt 18 = .ok (.iload_n 2, 1) ∧ decode cX3_lookAt 19 = .ok (.aload_n 0, 1) := by decide +kernel
theorem dX3_lookAt_0 : decode cX3_lookAt 0 = .ok (.aload_n 0, 1) := dX3_lookAt_all0.1
theorem dX3_lookAt_1 : decode cX3_lookAt 1 = .ok (.getfield 24, 3) := dX3_lookAt_all0.2.1
theorem dX3_lookAt_4 : decode cX3_lookAt 4 = .ok (.iconst 0, 1) := dX3_lookAt_all0.2.2.1
theorem dX3_lookAt_5 : decode cX3_lookAt 5 = .ok (.invokestatic 40, 3) := dX3_lookAt_all0.2.2.2.1
theorem dX3_lookAt_8 : decode cX3_lookAt 8 = .ok (.aload_n 0, 1) := dX3_lookAt_all0.2.2.2.2.1
theorem dX3_lookAt_9 : decode cX3_lookAt 9 = .ok (.getfield 27, 3) := dX3_lookAt_all0.2.2.2.2.2.1
theorem dX3_lookAt_12 : decode cX3_lookAt 12 = .ok (.iconst 0, 1) := dX3_lookAt_all0.2.2.2.2.2.2.1
theorem dX3_lookAt_13 : decode cX3_lookAt 13 = .ok (.invokestatic 40, 3) := dX3_lookAt_all0.2.2.2.2.2.2.2.1
theorem dX3_lookAt_16 : decode cX3_lookAt 16 = .ok (.iconst 0, 1) := dX3_lookAt_all0.2.2.2.2.2.2.2.2.1
theorem dX3_lookAt_17 : decode cX3_lookAt 17 = .ok (.istore_n 2, 1) := dX3_lookAt_all0.2.2.2.2.2.2.2.2.2.1
theorem dX3_lookAt_18 : decode cX3_lookAt 18 = .ok (.iload_n 2, 1) := dX3_lookAt_all0.2.2.2.2.2.2.2.2.2.2.1
theorem dX3_lookAt_19 : decode cX3_lookAt 19 = .ok (.aload_n 0, 1) := dX3_lookAt_all0.2.2.2.2.2.2.2.2.2.2.2
theorem dX3_lookAt_all1 : decode cX3_lookAt 20 = .ok (.getfield 36, 3) ∧ decode cX3_lookAt 23 = .ok (.if_icmp .ge 74, 3) ∧ decode cX3_lookAt 26 = .ok (.aload_n 0, 1) ∧ decode cX3_lookAt 27 = .ok (.getfield 9, 3) ∧ decode cX3_lookAt 30 = .ok (.iload_n 2, 1) ∧ decode cX3_lookAt 31 = .ok (.iaload, 1) ∧ decode cX3_lookAt 32 = .ok (.aload_n 0, 1) ∧ decode cX3_lookAt 33 = .ok (.getfield 15, 3) ∧ decode cX3_lookAt 36 = .ok (.iload_n 2, 1) ∧ decode cX3_lookAt 37 = .ok (.iaload, 1) ∧ decode cX3_lookAt 38 = .ok (.invokestatic 46, 3) ∧ decode cX3_lookAt 41 = .ok (.istore_n 3, 1) := by decide +kernel
theorem dX3_lookAt_20 : decode cX3_lookAt 20 = .ok (.getfield 36, 3) := dX3_lookAt_all1.1
theorem dX3_lookAt_23 : decode cX3_lookAt 23 = .ok (.if_icmp .ge 74, 3) := dX3_lookAt_all1.2.1
theorem dX3_lookAt_26 : decode cX3_lookAt 26 = .ok (.aload_n 0, 1) := dX3_lookAt_all1.2.2.1
theorem dX3_lookAt_27 : decode cX3_lookAt 27 = .ok (.getfield 9, 3) := dX3_lookAt_all1.2.2.2.1
theorem dX3_lookAt_30 : decode cX3_lookAt 30 = .ok (.iload_n 2, 1) := dX3_lookAt_all1.2.2.2.2.1
theorem dX3_lookAt_31 : decode cX3_lookAt 31 = .ok (.iaload, 1) := dX3_lookAt_all1.2.2.2.2.2.1
theorem dX3_lookAt_32 : decode cX3_lookAt 32 = .ok (.aload_n 0, 1) := dX3_lookAt_all1.2.2.2.2.2.2.1
theorem dX3_lookAt_33 : decode cX3_lookAt 33 = .ok (.getfield 15, 3) := dX3_lookAt_all1.2.2.2.2.2.2.2.1
theorem dX3_lookAt_36 : decode cX3_lookAt 36 = .ok (.iload_n 2, 1) := dX3_lookAt_all1.2.2.2.2.2.2.2.2.1
theorem dX3_lookAt_37 : decode cX3_lookAt 37 = .ok (.iaload, 1) := dX3_lookAt_all1.2.2.2.2.2.2.2.2.2.1
theorem dX3_lookAt_38 : decode cX3_lookAt 38 = .ok (.invokestatic 46, 3) := dX3_lookAt_all1.2.2.2.2.2.2.2.2.2.2.1
theorem dX3_lookAt_41 : decode cX3_lookAt 41 = .ok (.istore_n 3, 1) := dX3_lookAt_all1.2.2.2.2.2.2.2.2.2.2.2
theorem dX3_lookAt_all2 : decode cX3_lookAt 42 = .ok (.aload_n 0, 1) ∧ decode cX3_lookAt 43 = .ok (.getfield 21, 3) ∧ decode cX3_lookAt 46 = .ok (.iload_n 2, 1) ∧ decode cX3_lookAt 47 = .ok (.iaload, 1) ∧ decode cX3_lookAt 48 = .ok (.iload_n 1, 1) ∧ decode cX3_lookAt 49 = .ok (.if_icmp .gt 42, 3) ∧ decode cX3_lookAt 52 = .ok (.aload_n 0, 1) ∧ decode cX3_lookAt 53 = .ok (.getfield 21, 3) ∧ decode cX3_lookAt 56 = .ok (.iload_n 2, 1) ∧ decode cX3_lookAt 57 = .ok (.iaload, 1) ∧ decode cX3_lookAt 58 = .ok (.aload_n 0, 1) ∧ decode cX3_lookAt 59 = .ok (.getfield 27, 3) := by decide +kernel
theorem dX3_lookAt_42 : decode cX3_lookAt 42 = .ok (.aload_n 0, 1) := dX3_lookAt_all2.1
theorem dX3_lookAt_43 : decode cX3_lookAt 43 = .ok (.getfield 21, 3) := dX3_lookAt_all2.2.1
theorem dX3_lookAt_46 : decode cX3_lookAt 46 = .ok (.iload_n 2, 1) := dX3_lookAt_all2.2.2.1
theorem dX3_lookAt_47 : decode cX3_lookAt 47 = .ok (.iaload, 1) := dX3_lookAt_all2.2.2.2.1
theorem dX3_lookAt_48 : decode cX3_lookAt 48 = .ok (.iload_n 1, 1) := dX3_lookAt_all2.2.2.2.2.1
theorem dX3_lookAt_49 : decode cX3_lookAt 49 = .ok (.if_icmp .gt 42, 3) := dX3_lookAt_all2.2.2.2.2.2.1
theorem dX3_lookAt_52 : decode cX3_lookAt 52 = .ok (.aload_n 0, 1) := dX3_lookAt_all2.2.2.2.2.2.2.1
theorem dX3_lookAt_53 : decode cX3_lookAt 53 = .ok (.getfield 21, 3) := dX3_lookAt_all2.2.2.2.2.2.2.2.1
theorem dX3_lookAt_56 : decode cX3_lookAt 56 = .ok (.iload_n 2, 1) := dX3_lookAt_all2.2.2.2.2.2.2.2.2.1
theorem dX3_lookAt_57 : decode cX3_lookAt 57 = .ok (.iaload, 1) := dX3_lookAt_all2.2.2.2.2.2.2.2.2.2.1
theorem dX3_lookAt_58 : decode cX3_lookAt 58 = .ok (.aload_n 0, 1) := dX3_lookAt_all2.2.2.2.2.2.2.2.2.2.2.1
theorem dX3_lookAt_59 : decode cX3_lookAt 59 = .ok (.getfield 27, 3) := dX3_lookAt_all2.2.2.2.2.2.2.2.2.2.2.2
theorem dX3_lookAt_all3 : decode cX3_lookAt 62 = .ok (.iload_n 3, 1) ∧ decode cX3_lookAt 63 = .ok (.iaload, 1) ∧ decode cX3_lookAt 64 = .ok (.if_icmp .lt 27, 3) ∧ decode cX3_lookAt 67 = .ok (.aload_n 0, 1) ∧ decode cX3_lookAt 68 = .ok (.getfield 24, 3) ∧ decode cX3_lookAt 71 = .ok (.iload_n 3, 1) ∧ decode cX3_lookAt 72 = .ok (.aload_n 0, 1) ∧ decode cX3_lookAt 73 = .ok (.getfield 18, 3) ∧ decode cX3_lookAt 76 = .ok (.iload_n 2, 1) ∧ decode cX3_lookAt 77 = .ok (.iaload, 1) ∧ decode cX3_lookAt 78 = .ok (.iastore, 1) ∧ decode cX3_lookAt 79 = .ok (.aload_n 0, 1) := by decide +kernel
theorem dX3_lookAt_62 : decode cX3_lookAt 62 = .ok (.iload_n 3, 1) := dX3_lookAt_all3.1
theorem dX3_lookAt_63 : decode cX3_lookAt 63 = .ok (.iaload, 1) := dX3_lookAt_all3.2.1
theorem dX3_lookAt_64 : decode cX3_lookAt 64 = .ok (.if_icmp .lt 27, 3) := dX3_lookAt_all3.2.2.1
theorem dX3_lookAt_67 : decode cX3_lookAt 67 = .ok (.aload_n 0, 1) := dX3_lookAt_all3.2.2.2.1
theorem dX3_lookAt_68 : decode cX3_lookAt 68 = .ok (.getfield 24, 3) := dX3_lookAt_all3.2.2.2.2.1
theorem dX3_lookAt_71 : decode cX3_lookAt 71 = .ok (.iload_n 3, 1) := dX3_lookAt_all3.2.2.2.2.2.1
theorem dX3_lookAt_72 : decode cX3_lookAt 72 = .ok (.aload_n 0, 1) := dX3_lookAt_all3.2.2.2.2.2.2.1
theorem dX3_lookAt_73 : decode cX3_lookAt 73 = .ok (.getfield 18, 3) := dX3_lookAt_all3.2.2.2.2.2.2.2.1
theorem dX3_lookAt_76 : decode cX3_lookAt 76 = .ok (.iload_n 2, 1) := dX3_lookAt_all3.2.2.2.2.2.2.2.2.1
theorem dX3_lookAt_77 : decode cX3_lookAt 77 = .ok (.iaload, 1) := dX3_lookAt_all3.2.2.2.2.2.2.2.2.2.1
theorem dX3_lookAt_78 : decode cX3_lookAt 78 = .ok (.iastore, 1) := dX3_lookAt_all3.2.2.2.2.2.2.2.2.2.2.1
theorem dX3_lookAt_79 : decode cX3_lookAt 79 = .ok (.aload_n 0, 1) := dX3_lookAt_all3.2.2.2.2.2.2.2.2.2.2.2
theorem dX3_lookAt_all4 : decode cX3_lookAt 80 = .ok (.getfield 27, 3) ∧ decode cX3_lookAt 83 = .ok (.iload_n 3, 1) ∧ decode cX3_lookAt 84 = .ok (.aload_n 0, 1) ∧ decode cX3_lookAt 85 = .ok (.getfield 21, 3) ∧ decode cX3_lookAt 88 = .ok (.iload_n 2, 1) ∧ decode cX3_lookAt 89 = .ok (.iaload, 1) ∧ decode cX3_lookAt 90 = .ok (.iastore, 1) ∧ decode cX3_lookAt 91 = .ok (.iinc 2 1, 3) ∧ decode cX3_lookAt 94 = .ok (.goto (-76), 3) ∧ decode cX3_lookAt 97 = .ok (.aload_n 0, 1) ∧ decode cX3_lookAt 98 = .ok (.invokevirtual 50, 3) ∧ decode cX3_lookAt 101 = .ok (.aload_n 0, 1) := by decide +kernel
theorem dX3_lookAt_80 : decode cX3_lookAt 80 = .ok (.getfield 27, 3) := dX3_lookAt_all4.1
theorem dX3_lookAt_83 : decode cX3_lookAt 83 = .ok (.iload_n 3, 1) := dX3_lookAt_all4.2.1
theorem dX3_lookAt_84 : decode cX3_lookAt 84 = .ok (.aload_n 0, 1) := dX3_lookAt_all4.2.2.1
theorem dX3_lookAt_85 : decode cX3_lookAt 85 = .ok (.getfield 21, 3) := dX3_lookAt_all4.2.2.2.1
theorem dX3_lookAt_88 : decode cX3_lookAt 88 = .ok (.iload_n 2, 1) := dX3_lookAt_all4.2.2.2.2.1
theorem dX3_lookAt_89 : decode cX3_lookAt 89 = .ok (.iaload, 1) := dX3_lookAt_all4.2.2.2.2.2.1
theorem dX3_lookAt_90 : decode cX3_lookAt 90 = .ok (.iastore, 1) := dX3_lookAt_all4.2.2.2.2.2.2.1
theorem dX3_lookAt_91 : decode cX3_lookAt 91 = .ok (.iinc 2 1, 3) := dX3_lookAt_all4.2.2.2.2.2.2.2.1
theorem dX3_lookAt_94 : decode cX3_lookAt 94 = .ok (.goto (-76), 3) := dX3_lookAt_all4.2.2.2.2.2.2.2.2.1
theorem dX3_lookAt_97 : decode cX3_lookAt 97 = .ok (.aload_n 0, 1) := dX3_lookAt_all4.2.2.2.2.2.2.2.2.2.1
theorem dX3_lookAt_98 : decode cX3_lookAt 98 = .ok (.invokevirtual 50, 3) := dX3_lookAt_all4.2.2.2.2.2.2.2.2.2.2.1
theorem dX3_lookAt_101 : decode cX3_lookAt 101 = .ok (.aload_n 0, 1) := dX3_lookAt_all4.2.2.2.2.2.2.2.2.2.2.2
theorem dX3_lookAt_all5 : decode cX3_lookAt 102 = .ok (.invokevirtual 53, 3) ∧ decode cX3_lookAt 105 = .ok (.return_, 1) := by decide +kernel
theorem dX3_lookAt_102 : decode cX3_lookAt 102 = .ok (.invokevirtual 53, 3) := dX3_lookAt_all5.1
theorem dX3_lookAt_105 : decode cX3_lookAt 105 = .ok (.return_, 1) := dX3_lookAt_all5.2
set_option maxRecDepth 20000 in
theorem ggX3_gatherWhoHas_J7_fill_53178 : GoodIn wsX3_gatherWhoHas wsJ7_fill_53178 := goodIn_n _ [(9, 1)] rfl (by decide +kernel)
set_option maxRecDepth 20000 in
theorem gX3_gatherWhoHas_J7_fill_53178 : GoodIn wsX3_gatherWhoHas (va_wsS RX3 40 yJ7_fill_53178 wsJ7_fill_53178) := goodIn_app (goodIn_n _ [(6, 3)] rfl (by decide +kernel)) ggX3_gatherWhoHas_J7_fill_53178
set_option maxRecDepth 20000 in
theorem ggX3_gatherWhoHas_X3_place : GoodIn wsX3_gatherWhoHas wsX3_place := goodIn_n _ [(13, 1)] rfl (by decide +kernel)
set_option maxRecDepth 20000 in
theorem gX3_gatherWhoHas_X3_place : GoodIn wsX3_gatherWhoHas (va_wsS RX3 46 yX3_place wsX3_place) := goodIn_app (goodIn_n _ [(10, 3)] rfl (by decide +kernel)) ggX3_gatherWhoHas_X3_place
theorem dX3_gatherWhoHas_all0 : decode cX3_gatherWhoHas 0 = .ok (.aload_n 0, 1) ∧ decode cX3_gatherWhoHas 1 = .ok (.getfield 30, 3) ∧ decode cX3_gatherWhoHas 4 = .ok (.iconst 0, 1) ∧ decode cX3_gatherWhoHas 5 = .ok (.invokestatic 40, 3) ∧ decode cX3_gatherWhoHas 8 = .ok (.iconst 0, 1) ∧ decode cX3_gatherWhoHas 9 = .ok (.istore_n 1, 1) ∧ decode cX3_gatherWhoHas 10 = .ok (.iload_n 1, 1) ∧ decode cX3_gatherWhoHas 11 = .ok (.aload_n 0, 1) ∧ decode cX3_gatherWhoHas 12 = .ok (.getfield 36, 3) ∧ decode cX3_gatherWhoHas 15 = .ok (.if_icmp .ge 57, 3) ∧ decode cX3_gatherWhoHas 18 = .ok (.aload_n 0, 1) ∧ decode cX3_gatherWhoHas 19 = .ok (.getfield 24, 3) := by decide +kernel
theorem dX3_gatherWhoHas_0 : decode cX3_gatherWhoHas 0 = .ok (.aload_n 0, 1) := dX3_gatherWhoHas_all0.1
theorem dX3_gatherWhoHas_1 : decode cX3_gatherWhoHas 1 = .ok (.getfield 30, 3) := dX3_gatherWhoHas_all0.2.1
theorem dX3_gatherWhoHas_4 : decode cX3_gatherWhoHas 4 = .ok (.iconst 0, 1) := dX3_gatherWhoHas_all0.2.2.1
theorem dX3_gatherWhoHas_5 : decode cX3_gatherWhoHas 5 = .ok (.invokestatic 40, 3) := dX3_gatherWhoHas_all0.2.2.2.1
theorem dX3_gatherWhoHas_8 : decode cX3_gatherWhoHas 8 = .ok (.iconst 0, 1) := dX3_gatherWhoHas_all0.2.2.2.2.1
theorem dX3_gatherWhoHas_9 : decode cX3_gatherWhoHas 9 = .ok (.istore_n 1, 1) := dX3_gatherWhoHas_all0.2.2.2.2.2.1
theorem dX3_gatherWhoHas_10 : decode cX3_gatherWhoHas 10 = .ok (.iload_n 1, 1) := dX3_gatherWhoHas_all0.2.2.2.2.2.2.1
theorem dX3_gatherWhoHas_11 : decode cX3_gatherWhoHas 11 = .ok (.aload_n 0, 1) := dX3_gatherWhoHas_all0.2.2.2.2.2.2.2.1
theorem dX3_gatherWhoHas_12 : decode cX3_gatherWhoHas 12 = .ok (.getfield 36, 3) := dX3_gatherWhoHas_all0.2.2.2.2.2.2.2.2.1
theorem dX3_gatherWhoHas_15 : decode cX3_gatherWhoHas 15 = .ok (.if_icmp .ge 57, 3) := dX3_gatherWhoHas_all0.2.2.2.2.2.2.2.2.2.1
theorem dX3_gatherWhoHas_18 : decode cX3_gatherWhoHas 18 = .ok (.aload_n 0, 1) := dX3_gatherWhoHas_all0.2.2.2.2.2.2.2.2.2.2.1
theorem dX3_gatherWhoHas_19 : decode cX3_gatherWhoHas 19 = .ok (.getfield 24, 3) := dX3_gatherWhoHas_all0.2.2.2.2.2.2.2.2.2.2.2
theorem dX3_gatherWhoHas_all1 : decode cX3_gatherWhoHas 22 = .ok (.aload_n 0, 1) ∧ decode cX3_gatherWhoHas 23 = .ok (.getfield 9, 3) ∧ decode cX3_gatherWhoHas 26 = .ok (.iload_n 1, 1) ∧ decode cX3_gatherWhoHas 27 = .ok (.iaload, 1) ∧ decode cX3_gatherWhoHas 28 = .ok (.aload_n 0, 1) ∧ decode cX3_gatherWhoHas 29 = .ok (.getfield 15, 3) ∧ decode cX3_gatherWhoHas 32 = .ok (.iload_n 1, 1) ∧ decode cX3_gatherWhoHas 33 = .ok (.iaload, 1) ∧ decode cX3_gatherWhoHas 34 = .ok (.invokestatic 46, 3) ∧ decode cX3_gatherWhoHas 37 = .ok (.iaload, 1) ∧ decode cX3_gatherWhoHas 38 = .ok (.ifCond .le 28, 3) ∧ decode cX3_gatherWhoHas 41 = .ok (.aload_n 0, 1) := by decide +kernel
theorem dX3_gatherWhoHas_22 : decode cX3_gatherWhoHas 22 = .ok (.aload_n 0, 1) := dX3_gatherWhoHas_all1.1
theorem dX3_gatherWhoHas_23 : decode cX3_gatherWhoHas 23 = .ok (.getfield 9, 3) := dX3_gatherWhoHas_all1.2.1
theorem dX3_gatherWhoHas_26 : decode cX3_gatherWhoHas 26 = .ok (.iload_n 1, 1) := dX3_gatherWhoHas_all1.2.2.1
theorem dX3_gatherWhoHas_27 : decode cX3_gatherWhoHas 27 = .ok (.iaload, 1) := dX3_gatherWhoHas_all1.2.2.2.1
theorem dX3_gatherWhoHas_28 : decode cX3_gatherWhoHas 28 = .ok (.aload_n 0, 1) := dX3_gatherWhoHas_all1.2.2.2.2.1
theorem dX3_gatherWhoHas_29 : decode cX3_gatherWhoHas 29 = .ok (.getfield 15, 3) := dX3_gatherWhoHas_all1.2.2.2.2.2.1
theorem dX3_gatherWhoHas_32 : decode cX3_gatherWhoHas 32 = .ok (.iload_n 1, 1) := dX3_gatherWhoHas_all1.2.2.2.2.2.2.1
theorem dX3_gatherWhoHas_33 : decode cX3_gatherWhoHas 33 = .ok (.iaload, 1) := dX3_gatherWhoHas_all1.2.2.2.2.2.2.2.1
theorem dX3_gatherWhoHas_34 : decode cX3_gatherWhoHas 34 = .ok (.invokestatic 46, 3) := dX3_gatherWhoHas_all1.2.2.2.2.2.2.2.2.1
theorem dX3_gatherWhoHas_37 : decode cX3_gatherWhoHas 37 = .ok (.iaload, 1) := dX3_gatherWhoHas_all1.2.2.2.2.2.2.2.2.2.1
theorem dX3_gatherWhoHas_38 : decode cX3_gatherWhoHas 38 = .ok (.ifCond .le 28, 3) := dX3_gatherWhoHas_all1.2.2.2.2.2.2.2.2.2.2.1
theorem dX3_gatherWhoHas_41 : decode cX3_gatherWhoHas 41 = .ok (.aload_n 0, 1) := dX3_gatherWhoHas_all1.2.2.2.2.2.2.2.2.2.2.2
theorem dX3_gatherWhoHas_all2 : decode cX3_gatherWhoHas 42 = .ok (.getfield 30, 3) ∧ decode cX3_gatherWhoHas 45 = .ok (.aload_n 0, 1) ∧ decode cX3_gatherWhoHas 46 = .ok (.getfield 9, 3) ∧ decode cX3_gatherWhoHas 49 = .ok (.iload_n 1, 1) ∧ decode cX3_gatherWhoHas 50 = .ok (.iaload, 1) ∧ decode cX3_gatherWhoHas 51 = .ok (.dup2, 1) ∧ decode cX3_gatherWhoHas 52 = .ok (.iaload, 1) ∧ decode cX3_gatherWhoHas 53 = .ok (.iconst 1, 1) ∧ decode cX3_gatherWhoHas 54 = .ok (.aload_n 0, 1) ∧ decode cX3_gatherWhoHas 55 = .ok (.getfield 15, 3) ∧ decode cX3_gatherWhoHas 58 = .ok (.iload_n 1, 1) ∧ decode cX3_gatherWhoHas 59 = .ok (.iaload, 1) := by decide +kernel
theorem dX3_gatherWhoHas_42 : decode cX3_gatherWhoHas 42 = .ok (.getfield 30, 3) := dX3_gatherWhoHas_all2.1
theorem dX3_gatherWhoHas_45 : decode cX3_gatherWhoHas 45 = .ok (.aload_n 0, 1) := dX3_gatherWhoHas_all2.2.1
theorem dX3_gatherWhoHas_46 : decode cX3_gatherWhoHas 46 = .ok (.getfield 9, 3) := dX3_gatherWhoHas_all2.2.2.1
theorem dX3_gatherWhoHas_49 : decode cX3_gatherWhoHas 49 = .ok (.iload_n 1, 1) := dX3_gatherWhoHas_all2.2.2.2.1
theorem dX3_gatherWhoHas_50 : decode cX3_gatherWhoHas 50 = .ok (.iaload, 1) := dX3_gatherWhoHas_all2.2.2.2.2.1
theorem dX3_gatherWhoHas_51 : decode cX3_gatherWhoHas 51 = .ok (.dup2, 1) := dX3_gatherWhoHas_all2.2.2.2.2.2.1
theorem dX3_gatherWhoHas_52 : decode cX3_gatherWhoHas 52 = .ok (.iaload, 1) := dX3_gatherWhoHas_all2.2.2.2.2.2.2.1
theorem dX3_gatherWhoHas_53 : decode cX3_gatherWhoHas 53 = .ok (.iconst 1, 1) := dX3_gatherWhoHas_all2.2.2.2.2.2.2.2.1
theorem dX3_gatherWhoHas_54 : decode cX3_gatherWhoHas 54 = .ok (.aload_n 0, 1) := dX3_gatherWhoHas_all2.2.2.2.2.2.2.2.2.1
theorem dX3_gatherWhoHas_55 : decode cX3_gatherWhoHas 55 = .ok (.getfield 15, 3) := dX3_gatherWhoHas_all2.2.2.2.2.2.2.2.2.2.1
theorem dX3_gatherWhoHas_58 : decode cX3_gatherWhoHas 58 = .ok (.iload_n 1, 1) := dX3_gatherWhoHas_all2.2.2.2.2.2.2.2.2.2.2.1
theorem dX3_gatherWhoHas_59 : decode cX3_gatherWhoHas 59 = .ok (.iaload, 1) := dX3_gatherWhoHas_all2.2.2.2.2.2.2.2.2.2.2.2
theorem dX3_gatherWhoHas_all3 : decode cX3_gatherWhoHas 60 = .ok (.bipush 10, 2) ∧ decode cX3_gatherWhoHas 62 = .ok (.isub, 1) ∧ decode cX3_gatherWhoHas 63 = .ok (.ishl, 1) ∧ decode cX3_gatherWhoHas 64 = .ok (.ior, 1) ∧ decode cX3_gatherWhoHas 65 = .ok (.iastore, 1) ∧ decode cX3_gatherWhoHas 66 = .ok (.iinc 1 1, 3) ∧ decode cX3_gatherWhoHas 69 = .ok (.goto (-59), 3) ∧ decode cX3_gatherWhoHas 72 = .ok (.return_, 1) := by decide +kernel
theorem dX3_gatherWhoHas_60 : decode cX3_gatherWhoHas 60 = .ok (.bipush 10, 2) := dX3_gatherWhoHas_all3.1
theorem dX3_gatherWhoHas_62 : decode cX3_gatherWhoHas 62 = .ok (.isub, 1) := dX3_gatherWhoHas_all3.2.1
theorem dX3_gatherWhoHas_63 : decode cX3_gatherWhoHas 63 = .ok (.ishl, 1) := dX3_gatherWhoHas_all3.2.2.1
theorem dX3_gatherWhoHas_64 : decode cX3_gatherWhoHas 64 = .ok (.ior, 1) := dX3_gatherWhoHas_all3.2.2.2.1
theorem dX3_gatherWhoHas_65 : decode cX3_gatherWhoHas 65 = .ok (.iastore, 1) := dX3_gatherWhoHas_all3.2.2.2.2.1
theorem dX3_gatherWhoHas_66 : decode cX3_gatherWhoHas 66 = .ok (.iinc 1 1, 3) := dX3_gatherWhoHas_all3.2.2.2.2.2.1
theorem dX3_gatherWhoHas_69 : decode cX3_gatherWhoHas 69 = .ok (.goto (-59), 3) := dX3_gatherWhoHas_all3.2.2.2.2.2.2.1
theorem dX3_gatherWhoHas_72 : decode cX3_gatherWhoHas 72 = .ok (.return_, 1) := dX3_gatherWhoHas_all3.2.2.2.2.2.2.2
set_option maxRecDepth 20000 in
theorem ggX3_closeReach_X10_hasBit : GoodIn wsX3_closeReach wsX10_hasBit := goodIn_n _ [(9, 1)] rfl (by decide +kernel)
set_option maxRecDepth 20000 in
theorem gX3_closeReach_X10_hasBit_n62 : GoodIn wsX3_closeReach (wsX10_hasBit) := ggX3_closeReach_X10_hasBit
theorem dX3_closeReach_all0 : decode cX3_closeReach 0 = .ok (.aload_n 0, 1) ∧ decode cX3_closeReach 1 = .ok (.getfield 30, 3) ∧ decode cX3_closeReach 4 = .ok (.bipush 10, 2) ∧ decode cX3_closeReach 6 = .ok (.aload_n 0, 1) ∧ decode cX3_closeReach 7 = .ok (.getfield 33, 3) ∧ decode cX3_closeReach 10 = .ok (.iconst 0, 1) ∧ decode cX3_closeReach 11 = .ok (.bipush 10, 2) ∧ decode cX3_closeReach 13 = .ok (.invokestatic 56, 3) ∧ decode cX3_closeReach 16 = .ok (.iconst 0, 1) ∧ decode cX3_closeReach 17 = .ok (.istore_n 1, 1) ∧ decode cX3_closeReach 18 = .ok (.iload_n 1, 1) ∧ decode cX3_closeReach 19 = .ok (.bipush 10, 2) := by decide +kernel
theorem dX3_closeReach_0 : decode cX3_closeReach 0 = .ok (.aload_n 0, 1) := dX3_closeReach_all0.1
theorem dX3_closeReach_1 : decode cX3_closeReach 1 = .ok (.getfield 30, 3) := dX3_closeReach_all0.2.1
theorem dX3_closeReach_4 : decode cX3_closeReach 4 = .ok (.bipush 10, 2) := dX3_closeReach_all0.2.2.1
theorem dX3_closeReach_6 : decode cX3_closeReach 6 = .ok (.aload_n 0, 1) := dX3_closeReach_all0.2.2.2.1
theorem dX3_closeReach_7 : decode cX3_closeReach 7 = .ok (.getfield 33, 3) := dX3_closeReach_all0.2.2.2.2.1
theorem dX3_closeReach_10 : decode cX3_closeReach 10 = .ok (.iconst 0, 1) := dX3_closeReach_all0.2.2.2.2.2.1
theorem dX3_closeReach_11 : decode cX3_closeReach 11 = .ok (.bipush 10, 2) := dX3_closeReach_all0.2.2.2.2.2.2.1
theorem dX3_closeReach_13 : decode cX3_closeReach 13 = .ok (.invokestatic 56, 3) := dX3_closeReach_all0.2.2.2.2.2.2.2.1
theorem dX3_closeReach_16 : decode cX3_closeReach 16 = .ok (.iconst 0, 1) := dX3_closeReach_all0.2.2.2.2.2.2.2.2.1
theorem dX3_closeReach_17 : decode cX3_closeReach 17 = .ok (.istore_n 1, 1) := dX3_closeReach_all0.2.2.2.2.2.2.2.2.2.1
theorem dX3_closeReach_18 : decode cX3_closeReach 18 = .ok (.iload_n 1, 1) := dX3_closeReach_all0.2.2.2.2.2.2.2.2.2.2.1
theorem dX3_closeReach_19 : decode cX3_closeReach 19 = .ok (.bipush 10, 2) := dX3_closeReach_all0.2.2.2.2.2.2.2.2.2.2.2
theorem dX3_closeReach_all1 : decode cX3_closeReach 21 = .ok (.if_icmp .ge 51, 3) ∧ decode cX3_closeReach 24 = .ok (.iconst 0, 1) ∧ decode cX3_closeReach 25 = .ok (.istore_n 2, 1) ∧ decode cX3_closeReach 26 = .ok (.iload_n 2, 1) ∧ decode cX3_closeReach 27 = .ok (.bipush 10, 2) ∧ decode cX3_closeReach 29 = .ok (.if_icmp .ge 37, 3) ∧ decode cX3_closeReach 32 = .ok (.aload_n 0, 1) ∧ decode cX3_closeReach 33 = .ok (.getfield 33, 3) ∧ decode cX3_closeReach 36 = .ok (.iload_n 2, 1) ∧ decode cX3_closeReach 37 = .ok (.iaload, 1) ∧ decode cX3_closeReach 38 = .ok (.iload_n 1, 1) ∧ decode cX3_closeReach 39 = .ok (.invokestatic 62, 3) := by decide +kernel
theorem dX3_closeReach_21 : decode cX3_closeReach 21 = .ok (.if_icmp .ge 51, 3) := dX3_closeReach_all1.1
theorem dX3_closeReach_24 : decode cX3_closeReach 24 = .ok (.iconst 0, 1) := dX3_closeReach_all1.2.1
theorem dX3_closeReach_25 : decode cX3_closeReach 25 = .ok (.istore_n 2, 1) := dX3_closeReach_all1.2.2.1
theorem dX3_closeReach_26 : decode cX3_closeReach 26 = .ok (.iload_n 2, 1) := dX3_closeReach_all1.2.2.2.1
theorem dX3_closeReach_27 : decode cX3_closeReach 27 = .ok (.bipush 10, 2) := dX3_closeReach_all1.2.2.2.2.1
theorem dX3_closeReach_29 : decode cX3_closeReach 29 = .ok (.if_icmp .ge 37, 3) := dX3_closeReach_all1.2.2.2.2.2.1
theorem dX3_closeReach_32 : decode cX3_closeReach 32 = .ok (.aload_n 0, 1) := dX3_closeReach_all1.2.2.2.2.2.2.1
theorem dX3_closeReach_33 : decode cX3_closeReach 33 = .ok (.getfield 33, 3) := dX3_closeReach_all1.2.2.2.2.2.2.2.1
theorem dX3_closeReach_36 : decode cX3_closeReach 36 = .ok (.iload_n 2, 1) := dX3_closeReach_all1.2.2.2.2.2.2.2.2.1
theorem dX3_closeReach_37 : decode cX3_closeReach 37 = .ok (.iaload, 1) := dX3_closeReach_all1.2.2.2.2.2.2.2.2.2.1
theorem dX3_closeReach_38 : decode cX3_closeReach 38 = .ok (.iload_n 1, 1) := dX3_closeReach_all1.2.2.2.2.2.2.2.2.2.2.1
theorem dX3_closeReach_39 : decode cX3_closeReach 39 = .ok (.invokestatic 62, 3) := dX3_closeReach_all1.2.2.2.2.2.2.2.2.2.2.2
theorem dX3_closeReach_all2 : decode cX3_closeReach 42 = .ok (.ifCond .eq 18, 3) ∧ decode cX3_closeReach 45 = .ok (.aload_n 0, 1) ∧ decode cX3_closeReach 46 = .ok (.getfield 33, 3) ∧ decode cX3_closeReach 49 = .ok (.iload_n 2, 1) ∧ decode cX3_closeReach 50 = .ok (.dup2, 1) ∧ decode cX3_closeReach 51 = .ok (.iaload, 1) ∧ decode cX3_closeReach 52 = .ok (.aload_n 0, 1) ∧ decode cX3_closeReach 53 = .ok (.getfield 33, 3) ∧ decode cX3_closeReach 56 = .ok (.iload_n 1, 1) ∧ decode cX3_closeReach 57 = .ok (.iaload, 1) ∧ decode cX3_closeReach 58 = .ok (.ior, 1) ∧ decode cX3_closeReach 59 = .ok (.iastore, 1) := by decide +kernel
theorem dX3_closeReach_42 : decode cX3_closeReach 42 = .ok (.ifCond .eq 18, 3) := dX3_closeReach_all2.1
theorem dX3_closeReach_45 : decode cX3_closeReach 45 = .ok (.aload_n 0, 1) := dX3_closeReach_all2.2.1
theorem dX3_closeReach_46 : decode cX3_closeReach 46 = .ok (.getfield 33, 3) := dX3_closeReach_all2.2.2.1
theorem dX3_closeReach_49 : decode cX3_closeReach 49 = .ok (.iload_n 2, 1) := dX3_closeReach_all2.2.2.2.1
theorem dX3_closeReach_50 : decode cX3_closeReach 50 = .ok (.dup2, 1) := dX3_closeReach_all2.2.2.2.2.1
theorem dX3_closeReach_51 : decode cX3_closeReach 51 = .ok (.iaload, 1) := dX3_closeReach_all2.2.2.2.2.2.1
theorem dX3_closeReach_52 : decode cX3_closeReach 52 = .ok (.aload_n 0, 1) := dX3_closeReach_all2.2.2.2.2.2.2.1
theorem dX3_closeReach_53 : decode cX3_closeReach 53 = .ok (.getfield 33, 3) := dX3_closeReach_all2.2.2.2.2.2.2.2.1
theorem dX3_closeReach_56 : decode cX3_closeReach 56 = .ok (.iload_n 1, 1) := dX3_closeReach_all2.2.2.2.2.2.2.2.2.1
theorem dX3_closeReach_57 : decode cX3_closeReach 57 = .ok (.iaload, 1) := dX3_closeReach_all2.2.2.2.2.2.2.2.2.2.1
theorem dX3_closeReach_58 : decode cX3_closeReach 58 = .ok (.ior, 1) := dX3_closeReach_all2.2.2.2.2.2.2.2.2.2.2.1
theorem dX3_closeReach_59 : decode cX3_closeReach 59 = .ok (.iastore, 1) := dX3_closeReach_all2.2.2.2.2.2.2.2.2.2.2.2
theorem dX3_closeReach_all3 : decode cX3_closeReach 60 = .ok (.iinc 2 1, 3) ∧ decode cX3_closeReach 63 = .ok (.goto (-37), 3) ∧ decode cX3_closeReach 66 = .ok (.iinc 1 1, 3) ∧ decode cX3_closeReach 69 = .ok (.goto (-51), 3) ∧ decode cX3_closeReach 72 = .ok (.return_, 1) := by decide +kernel
theorem dX3_closeReach_60 : decode cX3_closeReach 60 = .ok (.iinc 2 1, 3) := dX3_closeReach_all3.1
theorem dX3_closeReach_63 : decode cX3_closeReach 63 = .ok (.goto (-37), 3) := dX3_closeReach_all3.2.1
theorem dX3_closeReach_66 : decode cX3_closeReach 66 = .ok (.iinc 1 1, 3) := dX3_closeReach_all3.2.2.1
theorem dX3_closeReach_69 : decode cX3_closeReach 69 = .ok (.goto (-51), 3) := dX3_closeReach_all3.2.2.2.1
theorem dX3_closeReach_72 : decode cX3_closeReach 72 = .ok (.return_, 1) := dX3_closeReach_all3.2.2.2.2
set_option maxRecDepth 20000 in
theorem ggX3_partOf_X3_place : GoodIn wsX3_partOf wsX3_place := goodIn_n _ [(5, 1)] rfl (by decide +kernel)
set_option maxRecDepth 20000 in
theorem gX3_partOf_X3_place : GoodIn wsX3_partOf (va_wsS RX3 46 yX3_place wsX3_place) := goodIn_app (goodIn_n _ [(2, 3)] rfl (by decide +kernel)) ggX3_partOf_X3_place
theorem dX3_partOf_all0 : decode cX3_partOf 0 = .ok (.aload_n 0, 1) ∧ decode cX3_partOf 1 = .ok (.getfield 24, 3) ∧ decode cX3_partOf 4 = .ok (.iload_n 1, 1) ∧ decode cX3_partOf 5 = .ok (.iload_n 2, 1) ∧ decode cX3_partOf 6 = .ok (.invokestatic 46, 3) ∧ decode cX3_partOf 9 = .ok (.iaload, 1) ∧ decode cX3_partOf 10 = .ok (.ireturn, 1) := by decide +kernel
theorem dX3_partOf_0 : decode cX3_partOf 0 = .ok (.aload_n 0, 1) := dX3_partOf_all0.1
theorem dX3_partOf_1 : decode cX3_partOf 1 = .ok (.getfield 24, 3) := dX3_partOf_all0.2.1
theorem dX3_partOf_4 : decode cX3_partOf 4 = .ok (.iload_n 1, 1) := dX3_partOf_all0.2.2.1
theorem dX3_partOf_5 : decode cX3_partOf 5 = .ok (.iload_n 2, 1) := dX3_partOf_all0.2.2.2.1
theorem dX3_partOf_6 : decode cX3_partOf 6 = .ok (.invokestatic 46, 3) := dX3_partOf_all0.2.2.2.2.1
theorem dX3_partOf_9 : decode cX3_partOf 9 = .ok (.iaload, 1) := dX3_partOf_all0.2.2.2.2.2.1
theorem dX3_partOf_10 : decode cX3_partOf 10 = .ok (.ireturn, 1) := dX3_partOf_all0.2.2.2.2.2.2
set_option maxRecDepth 20000 in
theorem ggX3_leadingTo_X10_hasBit : GoodIn wsX3_leadingTo wsX10_hasBit := goodIn_n _ [(4, 1)] rfl (by decide +kernel)
set_option maxRecDepth 20000 in
theorem gX3_leadingTo_X10_hasBit_n62 : GoodIn wsX3_leadingTo (wsX10_hasBit) := ggX3_leadingTo_X10_hasBit
theorem dX3_leadingTo_all0 : decode cX3_leadingTo 0 = .ok (.iconst 1, 1) ∧ decode cX3_leadingTo 1 = .ok (.iload_n 1, 1) ∧ decode cX3_leadingTo 2 = .ok (.ishl, 1) ∧ decode cX3_leadingTo 3 = .ok (.istore_n 2, 1) ∧ decode cX3_leadingTo 4 = .ok (.iconst 0, 1) ∧ decode cX3_leadingTo 5 = .ok (.istore_n 3, 1) ∧ decode cX3_leadingTo 6 = .ok (.iload_n 3, 1) ∧ decode cX3_leadingTo 7 = .ok (.bipush 10, 2) ∧ decode cX3_leadingTo 9 = .ok (.if_icmp .ge 28, 3) ∧ decode cX3_leadingTo 12 = .ok (.aload_n 0, 1) ∧ decode cX3_leadingTo 13 = .ok (.getfield 33, 3) ∧ decode cX3_leadingTo 16 = .ok (.iload_n 3, 1) := by decide +kernel
theorem dX3_leadingTo_0 : decode cX3_leadingTo 0 = .ok (.iconst 1, 1) := dX3_leadingTo_all0.1
theorem dX3_leadingTo_1 : decode cX3_leadingTo 1 = .ok (.iload_n 1, 1) := dX3_leadingTo_all0.2.1
theorem dX3_leadingTo_2 : decode cX3_leadingTo 2 = .ok (.ishl, 1) := dX3_leadingTo_all0.2.2.1
theorem dX3_leadingTo_3 : decode cX3_leadingTo 3 = .ok (.istore_n 2, 1) := dX3_leadingTo_all0.2.2.2.1
theorem dX3_leadingTo_4 : decode cX3_leadingTo 4 = .ok (.iconst 0, 1) := dX3_leadingTo_all0.2.2.2.2.1
theorem dX3_leadingTo_5 : decode cX3_leadingTo 5 = .ok (.istore_n 3, 1) := dX3_leadingTo_all0.2.2.2.2.2.1
theorem dX3_leadingTo_6 : decode cX3_leadingTo 6 = .ok (.iload_n 3, 1) := dX3_leadingTo_all0.2.2.2.2.2.2.1
theorem dX3_leadingTo_7 : decode cX3_leadingTo 7 = .ok (.bipush 10, 2) := dX3_leadingTo_all0.2.2.2.2.2.2.2.1
theorem dX3_leadingTo_9 : decode cX3_leadingTo 9 = .ok (.if_icmp .ge 28, 3) := dX3_leadingTo_all0.2.2.2.2.2.2.2.2.1
theorem dX3_leadingTo_12 : decode cX3_leadingTo 12 = .ok (.aload_n 0, 1) := dX3_leadingTo_all0.2.2.2.2.2.2.2.2.2.1
theorem dX3_leadingTo_13 : decode cX3_leadingTo 13 = .ok (.getfield 33, 3) := dX3_leadingTo_all0.2.2.2.2.2.2.2.2.2.2.1
theorem dX3_leadingTo_16 : decode cX3_leadingTo 16 = .ok (.iload_n 3, 1) := dX3_leadingTo_all0.2.2.2.2.2.2.2.2.2.2.2
theorem dX3_leadingTo_all1 : decode cX3_leadingTo 17 = .ok (.iaload, 1) ∧ decode cX3_leadingTo 18 = .ok (.iload_n 1, 1) ∧ decode cX3_leadingTo 19 = .ok (.invokestatic 62, 3) ∧ decode cX3_leadingTo 22 = .ok (.ifCond .eq 9, 3) ∧ decode cX3_leadingTo 25 = .ok (.iload_n 2, 1) ∧ decode cX3_leadingTo 26 = .ok (.iconst 1, 1) ∧ decode cX3_leadingTo 27 = .ok (.iload_n 3, 1) ∧ decode cX3_leadingTo 28 = .ok (.ishl, 1) ∧ decode cX3_leadingTo 29 = .ok (.ior, 1) ∧ decode cX3_leadingTo 30 = .ok (.istore_n 2, 1) ∧ decode cX3_leadingTo 31 = .ok (.iinc 3 1, 3) ∧ decode cX3_leadingTo 34 = .ok (.goto (-28), 3) := by decide +kernel
theorem dX3_leadingTo_17 : decode cX3_leadingTo 17 = .ok (.iaload, 1) := dX3_leadingTo_all1.1
theorem dX3_leadingTo_18 : decode cX3_leadingTo 18 = .ok (.iload_n 1, 1) := dX3_leadingTo_all1.2.1
theorem dX3_leadingTo_19 : decode cX3_leadingTo 19 = .ok (.invokestatic 62, 3) := dX3_leadingTo_all1.2.2.1
theorem dX3_leadingTo_22 : decode cX3_leadingTo 22 = .ok (.ifCond .eq 9, 3) := dX3_leadingTo_all1.2.2.2.1
theorem dX3_leadingTo_25 : decode cX3_leadingTo 25 = .ok (.iload_n 2, 1) := dX3_leadingTo_all1.2.2.2.2.1
theorem dX3_leadingTo_26 : decode cX3_leadingTo 26 = .ok (.iconst 1, 1) := dX3_leadingTo_all1.2.2.2.2.2.1
theorem dX3_leadingTo_27 : decode cX3_leadingTo 27 = .ok (.iload_n 3, 1) := dX3_leadingTo_all1.2.2.2.2.2.2.1
theorem dX3_leadingTo_28 : decode cX3_leadingTo 28 = .ok (.ishl, 1) := dX3_leadingTo_all1.2.2.2.2.2.2.2.1
theorem dX3_leadingTo_29 : decode cX3_leadingTo 29 = .ok (.ior, 1) := dX3_leadingTo_all1.2.2.2.2.2.2.2.2.1
theorem dX3_leadingTo_30 : decode cX3_leadingTo 30 = .ok (.istore_n 2, 1) := dX3_leadingTo_all1.2.2.2.2.2.2.2.2.2.1
theorem dX3_leadingTo_31 : decode cX3_leadingTo 31 = .ok (.iinc 3 1, 3) := dX3_leadingTo_all1.2.2.2.2.2.2.2.2.2.2.1
theorem dX3_leadingTo_34 : decode cX3_leadingTo 34 = .ok (.goto (-28), 3) := dX3_leadingTo_all1.2.2.2.2.2.2.2.2.2.2.2
theorem dX3_leadingTo_all2 : decode cX3_leadingTo 37 = .ok (.iload_n 2, 1) ∧ decode cX3_leadingTo 38 = .ok (.ireturn, 1) := by decide +kernel
theorem dX3_leadingTo_37 : decode cX3_leadingTo 37 = .ok (.iload_n 2, 1) := dX3_leadingTo_all2.1
theorem dX3_leadingTo_38 : decode cX3_leadingTo 38 = .ok (.ireturn, 1) := dX3_leadingTo_all2.2
set_option maxRecDepth 20000 in
theorem ggX10_percent_X10_isPair : GoodIn wsX10_percent wsX10_isPair := goodIn_n _ [(6, 3), (5, 1), (9, 7)] rfl (by decide +kernel)
set_option maxRecDepth 20000 in
theorem gX10_percent_X10_isPair : GoodIn wsX10_percent (va_wsS RX10 132 yX10_isPair wsX10_isPair) := goodIn_app (goodIn_n _ [(3, 3)] rfl (by decide +kernel)) ggX10_percent_X10_isPair
set_option maxRecDepth 20000 in
theorem ggX10_percent_X10_isDay : GoodIn wsX10_percent wsX10_isDay := goodIn_n _ [(18, 1), (10, 2), (5, 1), (12, 1)] rfl (by decide +kernel)
set_option maxRecDepth 20000 in
theorem gX10_percent_X10_isDay : GoodIn wsX10_percent (va_wsS RX10 138 yX10_isDay wsX10_isDay) := goodIn_app (goodIn_n _ [(16, 2), (5, 1)] rfl (by decide +kernel)) ggX10_percent_X10_isDay
set_option maxRecDepth 20000 in
theorem ggX10_percent_X3_lookAt : GoodIn wsX10_percent wsX3_lookAt := goodIn_n _ [(23, 14), (22, 1), (37, 16), (5, 1), (53, 1), (72, 9)] rfl (by decide +kernel)
set_option maxRecDepth 20000 in
theorem gX10_percent_X3_lookAt : GoodIn wsX10_percent (wsV RX10 153 RX3 yX3_lookAt wsX3_lookAt) := goodIn_app (goodIn_n _ [(19, 4)] rfl (by decide +kernel)) ggX10_percent_X3_lookAt
set_option maxRecDepth 20000 in
theorem ggX10_percent_X3_partOf : GoodIn wsX10_percent wsX3_partOf := goodIn_n _ [(57, 1), (24, 1), (35, 2), (22, 1), (37, 1), (72, 9)] rfl (by decide +kernel)
set_option maxRecDepth 20000 in
theorem gX10_percent_X3_partOf : GoodIn wsX10_percent (wsV RX10 156 RX3 yX3_partOf wsX3_partOf) := goodIn_app (goodIn_n _ [(54, 3), (22, 1)] rfl (by decide +kernel)) ggX10_percent_X3_partOf
theorem dX10_percent_all0 : decode cX10_percent 0 = .ok (.iload_n 1, 1) ∧ decode cX10_percent 1 = .ok (.iload_n 2, 1) ∧ decode cX10_percent 2 = .ok (.invokestatic 132, 3) ∧ decode cX10_percent 5 = .ok (.ifCond .eq 10, 3) ∧ decode cX10_percent 8 = .ok (.iload_n 3, 1) ∧ decode cX10_percent 9 = .ok (.invokestatic 138, 3) ∧ decode cX10_percent 12 = .ok (.ifCond .ne 6, 3) ∧ decode cX10_percent 15 = .ok (.ldc 89, 2) ∧ decode cX10_percent 17 = .ok (.ireturn, 1) ∧ decode cX10_percent 18 = .ok (.aload_n 0, 1) ∧ decode cX10_percent 19 = .ok (.getfield 19, 3) ∧ decode cX10_percent 22 = .ok (.iload_n 3, 1) := by decide +kernel
theorem dX10_percent_0 : decode cX10_percent 0 = .ok (.iload_n 1, 1) := dX10_percent_all0.1
theorem dX10_percent_1 : decode cX10_percent 1 = .ok (.iload_n 2, 1) := dX10_percent_all0.2.1
theorem dX10_percent_2 : decode cX10_percent 2 = .ok (.invokestatic 132, 3) := dX10_percent_all0.2.2.1
theorem dX10_percent_5 : decode cX10_percent 5 = .ok (.ifCond .eq 10, 3) := dX10_percent_all0.2.2.2.1
theorem dX10_percent_8 : decode cX10_percent 8 = .ok (.iload_n 3, 1) := dX10_percent_all0.2.2.2.2.1
theorem dX10_percent_9 : decode cX10_percent 9 = .ok (.invokestatic 138, 3) := dX10_percent_all0.2.2.2.2.2.1
theorem dX10_percent_12 : decode cX10_percent 12 = .ok (.ifCond .ne 6, 3) := dX10_percent_all0.2.2.2.2.2.2.1
theorem dX10_percent_15 : decode cX10_percent 15 = .ok (.ldc 89, 2) := dX10_percent_all0.2.2.2.2.2.2.2.1
theorem dX10_percent_17 : decode cX10_percent 17 = .ok (.ireturn, 1) := dX10_percent_all0.2.2.2.2.2.2.2.2.1
theorem dX10_percent_18 : decode cX10_percent 18 = .ok (.aload_n 0, 1) := dX10_percent_all0.2.2.2.2.2.2.2.2.2.1
theorem dX10_percent_19 : decode cX10_percent 19 = .ok (.getfield 19, 3) := dX10_percent_all0.2.2.2.2.2.2.2.2.2.2.1
theorem dX10_percent_22 : decode cX10_percent 22 = .ok (.iload_n 3, 1) := dX10_percent_all0.2.2.2.2.2.2.2.2.2.2.2
theorem dX10_percent_all1 : decode cX10_percent 23 = .ok (.invokevirtual 153, 3) ∧ decode cX10_percent 26 = .ok (.aload_n 0, 1) ∧ decode cX10_percent 27 = .ok (.getfield 19, 3) ∧ decode cX10_percent 30 = .ok (.iload_n 1, 1) ∧ decode cX10_percent 31 = .ok (.iload_n 2, 1) ∧ decode cX10_percent 32 = .ok (.invokevirtual 156, 3) ∧ decode cX10_percent 35 = .ok (.ireturn, 1) := by decide +kernel
theorem dX10_percent_23 : decode cX10_percent 23 = .ok (.invokevirtual 153, 3) := dX10_percent_all1.1
theorem dX10_percent_26 : decode cX10_percent 26 = .ok (.aload_n 0, 1) := dX10_percent_all1.2.1
theorem dX10_percent_27 : decode cX10_percent 27 = .ok (.getfield 19, 3) := dX10_percent_all1.2.2.1
theorem dX10_percent_30 : decode cX10_percent 30 = .ok (.iload_n 1, 1) := dX10_percent_all1.2.2.2.1
theorem dX10_percent_31 : decode cX10_percent 31 = .ok (.iload_n 2, 1) := dX10_percent_all1.2.2.2.2.1
theorem dX10_percent_32 : decode cX10_percent 32 = .ok (.invokevirtual 156, 3) := dX10_percent_all1.2.2.2.2.2.1
theorem dX10_percent_35 : decode cX10_percent 35 = .ok (.ireturn, 1) := dX10_percent_all1.2.2.2.2.2.2
set_option maxHeartbeats 4000000 in
set_option maxRecDepth 100000 in
theorem ct_X3_place (l : Launch) (D : va_G) (cI cY cJ cQ : ClassId) (sz : Nat) (o : Int32) (k : Int32)  (h1 : 0 ≤ o.toInt) (h2 : o.toInt < 20) (h3 : 10 ≤ k.toInt) (h4 : k.toInt < 20)  : Met l yX3_place wsX3_place ({ frames := 0, cells := 0, slots := 0, locals := 0 }) (cPre D (ty4 cI cY cJ cQ) [] sz [.int o, .int k]) (va_Qi (fun (r : Int32) (u : Unit) => r.toInt = o.toInt * 10 + k.toInt - 10) (cB D (ty4 cI cY cJ cQ) (fun (u : Unit) => []) (va_A [] sz)) (va_A [] sz)) 0 0 (va_A [] sz) := by
  refine Met.ofW (cc := cX3_place) (maxL := 2) (ret := (some .int)) (by decide) rfl ?_
  intro p e s m args below meth c s₁ B hml hv
  obtain ⟨rfl, hsz, hP, hK, hD0, hN⟩ := hv
  have hx := B.exec
  have hb := B.bytes
  have hr := B.returns
  have hts := atoms_spec (ws := wsX3_place) B.pre
  have hown : s.vm.findClass RX3 = some m.cls := findClass_of_methodNamed B.named
  have hlocks := B.notSynchronized
  subst hsz
  have hD := hD0.self (sz := s.heap.size)
  generalize hAe : va_A [] s.heap.size = A at hD ⊢
  have hA : ∀ q : Nat, s.heap.size ≤ q → A q := fun q h => by rw [← hAe]; exact Or.inr h
  have hS : va_S A s.heap s.heap [] := va_S.rf
  have hP : va_P D vwCl [] s.heap := hP
  have hl := lv_entry ([.int o, .int k]) (n := 2) (Nat.le_of_ble_eq_true rfl)
  rw [lg_entry_eq]
  generalize (lg_sl ([.int o, .int k]) ++ List.replicate (2 - (lg_sl ([.int o, .int k])).length) Slot.unset).toArray = ls at hl ⊢
  have hl : lv_has ls 2 [(0, .int o), (1, .int k)] := hl
  have k10 : (10 : Int32).toInt = 10 := by decide
  refine lv_iload_n hx hb dX3_place_0 rfl (lv_at hl 0 rfl) ?_
  refine lv_bipush (v := 10) hx hb dX3_place_1 (by decide) ?_
  refine lv_imul hx hb dX3_place_3 ?_
  refine lv_topi (fun v1 ev1 => ?_)
  try have tv1 : v1.toInt = o.toInt * 10 := by rw [ev1]; exact (i_mul (x := o) (y := (10 : Int32)) (by rw [k10]; omega) (by rw [k10]; omega)).trans (by rw [k10])
  refine lv_iload_n hx hb dX3_place_4 rfl (lv_at hl 1 rfl) ?_
  refine lv_iadd hx hb dX3_place_5 ?_
  refine lv_topi (fun v2 ev2 => ?_)
  try have tv2 : v2.toInt = v1.toInt + k.toInt := by rw [ev2]; exact (i_add (x := v1) (y := k) (by omega) (by omega))
  refine lv_bipush (v := 10) hx hb dX3_place_6 (by decide) ?_
  refine lv_isub hx hb dX3_place_8 ?_
  refine lv_topi (fun v3 ev3 => ?_)
  try have tv3 : v3.toInt = v2.toInt - 10 := by rw [ev3]; exact (i_sub (x := v2) (y := (10 : Int32)) (by rw [k10]; omega) (by rw [k10]; omega)).trans (by rw [k10])
  have hP9 := hP.sub (ws' := []) [] rfl
  have hD9 := hD.sub (ws' := []) [] (by decide +kernel) rfl
  exact W.iret (v := v3) hx hb hr (fun t ht hW => ⟨⟨v3, (), rfl, (by omega), by rw [ht]; exact hP9, va_K.moved hW.alike hK, hD9⟩, hS.F ht⟩) hS.2.2 dX3_place_9

set_option maxHeartbeats 4000000 in
set_option maxRecDepth 100000 in
theorem ct_X3_gatherWhoHas (l : Launch) (D : va_G) (cI cY cJ cQ : ClassId) (sz : Nat) (ad : Nat → Nat) (hn : Int32) (ho hc hp hs pt ha : Nat → Int32)  (h1 : 0 ≤ hn.toInt) (h2 : hn.toInt ≤ 40) (h3 : okH hn ho hc)  : Met l yX3_gatherWhoHas wsX3_gatherWhoHas ({ frames := 1, cells := 0, slots := 0, locals := 23 }) (cPre D (ty4 cI cY cJ cQ) [((ad 2), .inr (3, [.ref (ad 23), .ref (ad 24), .ref (ad 25), .ref (ad 26), .int hn, .ref (ad 27), .ref (ad 28), .ref (ad 29), .ref (ad 30)])), ((ad 23), .inl (cI, 40, .inl ho)), ((ad 24), .inl (cI, 40, .inl hc)), ((ad 25), .inl (cI, 40, .inl hp)), ((ad 26), .inl (cI, 40, .inl hs)), ((ad 27), .inl (cI, 200, .inl pt)), ((ad 29), .inl (cI, 20, .inl ha))] sz [.ref (ad 2)]) (va_Qv (fun (u : (Nat → Int32)) => True) (cB D (ty4 cI cY cJ cQ) (fun (u : (Nat → Int32)) => [((ad 2), .inr (3, [.ref (ad 23), .ref (ad 24), .ref (ad 25), .ref (ad 26), .int hn, .ref (ad 27), .ref (ad 28), .ref (ad 29), .ref (ad 30)])), ((ad 23), .inl (cI, 40, .inl ho)), ((ad 24), .inl (cI, 40, .inl hc)), ((ad 25), .inl (cI, 40, .inl hp)), ((ad 26), .inl (cI, 40, .inl hs)), ((ad 27), .inl (cI, 200, .inl pt)), ((ad 29), .inl (cI, 20, .inl u))]) (va_A [((ad 2), .inr (3, [.ref (ad 23), .ref (ad 24), .ref (ad 25), .ref (ad 26), .int hn, .ref (ad 27), .ref (ad 28), .ref (ad 29), .ref (ad 30)])), ((ad 23), .inl (cI, 40, .inl ho)), ((ad 24), .inl (cI, 40, .inl hc)), ((ad 25), .inl (cI, 40, .inl hp)), ((ad 26), .inl (cI, 40, .inl hs)), ((ad 27), .inl (cI, 200, .inl pt)), ((ad 29), .inl (cI, 20, .inl ha))] sz)) (va_A [((ad 2), .inr (3, [.ref (ad 23), .ref (ad 24), .ref (ad 25), .ref (ad 26), .int hn, .ref (ad 27), .ref (ad 28), .ref (ad 29), .ref (ad 30)])), ((ad 23), .inl (cI, 40, .inl ho)), ((ad 24), .inl (cI, 40, .inl hc)), ((ad 25), .inl (cI, 40, .inl hp)), ((ad 26), .inl (cI, 40, .inl hs)), ((ad 27), .inl (cI, 200, .inl pt)), ((ad 29), .inl (cI, 20, .inl ha))] sz)) 0 0 (va_A [((ad 2), .inr (3, [.ref (ad 23), .ref (ad 24), .ref (ad 25), .ref (ad 26), .int hn, .ref (ad 27), .ref (ad 28), .ref (ad 29), .ref (ad 30)])), ((ad 23), .inl (cI, 40, .inl ho)), ((ad 24), .inl (cI, 40, .inl hc)), ((ad 25), .inl (cI, 40, .inl hp)), ((ad 26), .inl (cI, 40, .inl hs)), ((ad 27), .inl (cI, 200, .inl pt)), ((ad 29), .inl (cI, 20, .inl ha))] sz) := by
  refine Met.ofW (cc := cX3_gatherWhoHas) (maxL := 2) (ret := none) (by decide) rfl ?_
  intro p e s m args below meth c s₁ B hml hv
  obtain ⟨rfl, hsz, hP, hK, hD0, hN⟩ := hv
  have hx := B.exec
  have hb := B.bytes
  have hr := B.returns
  have hts := atoms_spec (ws := wsX3_gatherWhoHas) B.pre
  have hown : s.vm.findClass RX3 = some m.cls := findClass_of_methodNamed B.named
  have hlocks := B.notSynchronized
  subst hsz
  have hD := hD0.self (sz := s.heap.size)
  generalize hAe : va_A [((ad 2), .inr (3, [.ref (ad 23), .ref (ad 24), .ref (ad 25), .ref (ad 26), .int hn, .ref (ad 27), .ref (ad 28), .ref (ad 29), .ref (ad 30)])), ((ad 23), .inl (cI, 40, .inl ho)), ((ad 24), .inl (cI, 40, .inl hc)), ((ad 25), .inl (cI, 40, .inl hp)), ((ad 26), .inl (cI, 40, .inl hs)), ((ad 27), .inl (cI, 200, .inl pt)), ((ad 29), .inl (cI, 20, .inl ha))] s.heap.size = A at hD ⊢
  have hA : ∀ q : Nat, s.heap.size ≤ q → A q := fun q h => by rw [← hAe]; exact Or.inr h
  have hS : va_S A s.heap s.heap [] := va_S.rf
  have hP : va_P D vwCl [((ad 2), .inr (3, [.ref (ad 23), .ref (ad 24), .ref (ad 25), .ref (ad 26), .int hn, .ref (ad 27), .ref (ad 28), .ref (ad 29), .ref (ad 30)])), ((ad 23), .inl (cI, 40, .inl ho)), ((ad 24), .inl (cI, 40, .inl hc)), ((ad 25), .inl (cI, 40, .inl hp)), ((ad 26), .inl (cI, 40, .inl hs)), ((ad 27), .inl (cI, 200, .inl pt)), ((ad 29), .inl (cI, 20, .inl ha))] s.heap := hP
  have hl := lv_entry ([.ref (ad 2)]) (n := 2) (Nat.le_of_ble_eq_true rfl)
  rw [lg_entry_eq]
  generalize (lg_sl ([.ref (ad 2)]) ++ List.replicate (2 - (lg_sl ([.ref (ad 2)])).length) Slot.unset).toArray = ls at hl ⊢
  have hl : lv_has ls 2 [(0, .ref (ad 2))] := hl
  have k0 : (0 : Int32).toInt = 0 := by decide
  have k1 : (1 : Int32).toInt = 1 := by decide
  have k10 : (10 : Int32).toInt = 10 := by decide
  refine lv_aload_n hx hb dX3_gatherWhoHas_0 rfl (lv_at hl 0 rfl) ?_
  refine va_get (D := D) (ci := 3) (v := .ref (ad 29)) (C := RX3) (T := TX3) (N := 9) hx hb hts inX3_gatherWhoHas_X3 hown hK hP 0 rfl rfl 7 (by decide) (hts (Cond.fieldLink RX3 30 "PortRooms$Holdings" "has" "[I") (List.mem_cons_of_mem _ (List.mem_append_left _ (List.mem_of_getElem? (i := 0) rfl)))) (fun _ h9 => h9) rfl dX3_gatherWhoHas_1 ?_
  refine lv_iconst (v := 0) hx hb dX3_gatherWhoHas_4 (by decide) ?_
  refine st_v (wr := [((ad 2), .inr (3, [.ref (ad 23), .ref (ad 24), .ref (ad 25), .ref (ad 26), .int hn, .ref (ad 27), .ref (ad 28), .ref (ad 29), .ref (ad 30)])), ((ad 23), .inl (cI, 40, .inl ho)), ((ad 24), .inl (cI, 40, .inl hc)), ((ad 25), .inl (cI, 40, .inl hp)), ((ad 26), .inl (cI, 40, .inl hs)), ((ad 27), .inl (cI, 200, .inl pt))]) (va_runS (As := [.ref (ad 29), .int 0]) (rest := []) ⟨hx, hb, hml, hown, hts⟩ (cFill l D cI cY cJ cQ _ (ad 29) 20 ha (0 : Int32) (by decide)) (va_cwS 2 hts gX3_gatherWhoHas_J7_fill_53178 rfl rfl rfl cdJ7_fill_53178 ⟨Nat.le_of_ble_eq_true rfl, Nat.le_of_ble_eq_true rfl⟩) (cPreS (hP.sub [6] rfl) hK (hD.sub [6] (by decide +kernel) rfl) hN) rfl rfl hl.1 rfl (lv_room (Nat.le_of_ble_eq_true rfl)) dX3_gatherWhoHas_5 ⟨Nat.le_of_ble_eq_true rfl, Nat.le_of_ble_eq_true rfl⟩) hP hD hS hA [6] [0, 1, 2, 3, 4, 5] rfl rfl (by decide +kernel) (by decide +kernel) (fun u1 H locs hw2 => ?_)
  clear hP hD hS
  intro hP hD hS
  replace hP : va_P D vwCl [((ad 2), .inr (3, [.ref (ad 23), .ref (ad 24), .ref (ad 25), .ref (ad 26), .int hn, .ref (ad 27), .ref (ad 28), .ref (ad 29), .ref (ad 30)])), ((ad 23), .inl (cI, 40, .inl ho)), ((ad 24), .inl (cI, 40, .inl hc)), ((ad 25), .inl (cI, 40, .inl hp)), ((ad 26), .inl (cI, 40, .inl hs)), ((ad 27), .inl (cI, 200, .inl pt)), ((ad 29), .inl (cI, 20, .inl (fun _ => 0)))] H := hP
  replace hD : va_D A [((ad 2), .inr (3, [.ref (ad 23), .ref (ad 24), .ref (ad 25), .ref (ad 26), .int hn, .ref (ad 27), .ref (ad 28), .ref (ad 29), .ref (ad 30)])), ((ad 23), .inl (cI, 40, .inl ho)), ((ad 24), .inl (cI, 40, .inl hc)), ((ad 25), .inl (cI, 40, .inl hp)), ((ad 26), .inl (cI, 40, .inl hs)), ((ad 27), .inl (cI, 200, .inl pt)), ((ad 29), .inl (cI, 20, .inl (fun _ => 0)))] := hD
  refine lv_iconst (v := 0) hx hb dX3_gatherWhoHas_8 (by decide) ?_
  refine lv_istore_n (lv' := [(1, .int 0), (0, .ref (ad 2))]) hx hb dX3_gatherWhoHas_9 rfl hl (by decide) rfl (fun ls hl => ?_)
  refine st_loop 10 (fun _ => []) (fun (z : Int32 × (Nat → Int32)) (ls : Array Slot) (H : Heap) (locs : List Loc) => match z with | (q10_1, haq) => (0 ≤ q10_1.toInt) ∧ (q10_1.toInt ≤ hn.toInt) ∧ lv_has ls 2 [(0, .ref (ad 2)), (1, .int q10_1)] ∧ va_P D vwCl [((ad 2), .inr (3, [.ref (ad 23), .ref (ad 24), .ref (ad 25), .ref (ad 26), .int hn, .ref (ad 27), .ref (ad 28), .ref (ad 29), .ref (ad 30)])), ((ad 23), .inl (cI, 40, .inl ho)), ((ad 24), .inl (cI, 40, .inl hc)), ((ad 25), .inl (cI, 40, .inl hp)), ((ad 26), .inl (cI, 40, .inl hs)), ((ad 27), .inl (cI, 200, .inl pt)), ((ad 29), .inl (cI, 20, .inl haq))] H ∧ va_D A [((ad 2), .inr (3, [.ref (ad 23), .ref (ad 24), .ref (ad 25), .ref (ad 26), .int hn, .ref (ad 27), .ref (ad 28), .ref (ad 29), .ref (ad 30)])), ((ad 23), .inl (cI, 40, .inl ho)), ((ad 24), .inl (cI, 40, .inl hc)), ((ad 25), .inl (cI, 40, .inl hp)), ((ad 26), .inl (cI, 40, .inl hs)), ((ad 27), .inl (cI, 200, .inl pt)), ((ad 29), .inl (cI, 20, .inl haq))] ∧ va_S A s.heap H locs) (fun (z : Int32 × (Nat → Int32)) => match z with | (q10_1, haq) => hn.toInt - q10_1.toInt) ?_ ?_ ((0 : Int32), (fun _ => 0)) ⟨(by omega), (by omega), lv_sub hl [1, 0] rfl, hP, hD, hS⟩
  · rintro ⟨q10_1, haq⟩ ls H locs ⟨g4, g5, hl, hP, hD, hS⟩
    show (0 : Int) ≤ hn.toInt - q10_1.toInt
    omega
  · rintro n8 ih6 ⟨q10_1, haq⟩ ls H locs ⟨g4, g5, hl, hP, hD, hS⟩ hm7
    have hm7 : hn.toInt - q10_1.toInt < (n8 : Int) + 1 := hm7
    replace hl : lv_has ls 2 [(0, .ref (ad 2)), (1, .int q10_1)] := hl
    replace hP : va_P D vwCl [((ad 2), .inr (3, [.ref (ad 23), .ref (ad 24), .ref (ad 25), .ref (ad 26), .int hn, .ref (ad 27), .ref (ad 28), .ref (ad 29), .ref (ad 30)])), ((ad 23), .inl (cI, 40, .inl ho)), ((ad 24), .inl (cI, 40, .inl hc)), ((ad 25), .inl (cI, 40, .inl hp)), ((ad 26), .inl (cI, 40, .inl hs)), ((ad 27), .inl (cI, 200, .inl pt)), ((ad 29), .inl (cI, 20, .inl haq))] H := hP
    replace hD : va_D A [((ad 2), .inr (3, [.ref (ad 23), .ref (ad 24), .ref (ad 25), .ref (ad 26), .int hn, .ref (ad 27), .ref (ad 28), .ref (ad 29), .ref (ad 30)])), ((ad 23), .inl (cI, 40, .inl ho)), ((ad 24), .inl (cI, 40, .inl hc)), ((ad 25), .inl (cI, 40, .inl hp)), ((ad 26), .inl (cI, 40, .inl hs)), ((ad 27), .inl (cI, 200, .inl pt)), ((ad 29), .inl (cI, 20, .inl haq))] := hD
    show W _ _ _ _ _ _ _ _ _ _ _ _ _ _ _ (F0 m 10 ls [])
    refine lv_iload_n hx hb dX3_gatherWhoHas_10 rfl (lv_at hl 1 rfl) ?_
    refine lv_aload_n hx hb dX3_gatherWhoHas_11 rfl (lv_at hl 0 rfl) ?_
    refine va_get (D := D) (ci := 3) (v := .int hn) (C := RX3) (T := TX3) (N := 9) hx hb hts inX3_gatherWhoHas_X3 hown hK hP 0 rfl rfl 4 (by decide) (hts (Cond.fieldLink RX3 36 "PortRooms$Holdings" "count" "I") (List.mem_cons_of_mem _ (List.mem_append_left _ (List.mem_of_getElem? (i := 1) rfl)))) (fun _ h9 => h9) rfl dX3_gatherWhoHas_12 ?_
    refine lv_icmp_ge (tgt := 72) hx hb dX3_gatherWhoHas_15 (by decide) (fun c9 => ?_) (fun c9 => ?_)
    · skip
      have f10 := i_le c9
      have hP9 := hP.sub (ws' := [((ad 2), .inr (3, [.ref (ad 23), .ref (ad 24), .ref (ad 25), .ref (ad 26), .int hn, .ref (ad 27), .ref (ad 28), .ref (ad 29), .ref (ad 30)])), ((ad 23), .inl (cI, 40, .inl ho)), ((ad 24), .inl (cI, 40, .inl hc)), ((ad 25), .inl (cI, 40, .inl hp)), ((ad 26), .inl (cI, 40, .inl hs)), ((ad 27), .inl (cI, 200, .inl pt)), ((ad 29), .inl (cI, 20, .inl haq))]) [0, 1, 2, 3, 4, 5, 6] rfl
      have hD9 := hD.sub (ws' := [((ad 2), .inr (3, [.ref (ad 23), .ref (ad 24), .ref (ad 25), .ref (ad 26), .int hn, .ref (ad 27), .ref (ad 28), .ref (ad 29), .ref (ad 30)])), ((ad 23), .inl (cI, 40, .inl ho)), ((ad 24), .inl (cI, 40, .inl hc)), ((ad 25), .inl (cI, 40, .inl hp)), ((ad 26), .inl (cI, 40, .inl hs)), ((ad 27), .inl (cI, 200, .inl pt)), ((ad 29), .inl (cI, 20, .inl haq))]) [0, 1, 2, 3, 4, 5, 6] (by decide +kernel) rfl
      exact W.vret hx hb hr (fun t ht hW => ⟨⟨haq, rfl, trivial, by rw [ht]; exact hP9, va_K.moved hW.alike hK, hD9⟩, hS.F ht⟩) hS.2.2 dX3_gatherWhoHas_72
    · skip
      have f11 := i_nle c9
      refine lv_aload_n hx hb dX3_gatherWhoHas_18 rfl (lv_at hl 0 rfl) ?_
      refine va_get (D := D) (ci := 3) (v := .ref (ad 27)) (C := RX3) (T := TX3) (N := 9) hx hb hts inX3_gatherWhoHas_X3 hown hK hP 0 rfl rfl 5 (by decide) (hts (Cond.fieldLink RX3 24 "PortRooms$Holdings" "part" "[I") (List.mem_cons_of_mem _ (List.mem_append_left _ (List.mem_of_getElem? (i := 2) rfl)))) (fun _ h9 => h9) rfl dX3_gatherWhoHas_19 ?_
      refine lv_aload_n hx hb dX3_gatherWhoHas_22 rfl (lv_at hl 0 rfl) ?_
      refine va_get (D := D) (ci := 3) (v := .ref (ad 23)) (C := RX3) (T := TX3) (N := 9) hx hb hts inX3_gatherWhoHas_X3 hown hK hP 0 rfl rfl 0 (by decide) (hts (Cond.fieldLink RX3 9 "PortRooms$Holdings" "owner" "[I") (List.mem_cons_of_mem _ (List.mem_append_left _ (List.mem_of_getElem? (i := 3) rfl)))) (fun _ h9 => h9) rfl dX3_gatherWhoHas_23 ?_
      refine lv_iload_n hx hb dX3_gatherWhoHas_26 rfl (lv_at hl 1 rfl) ?_
      refine va_iald hx hb hK hP 1 0 rfl rfl (i_in (by omega) (by omega)) dX3_gatherWhoHas_27 ?_
      refine lv_topi (fun v12 ev12 => ?_)
      have qv12 := okH_o h3 ev12 (by omega) (by omega)
      refine lv_aload_n hx hb dX3_gatherWhoHas_28 rfl (lv_at hl 0 rfl) ?_
      refine va_get (D := D) (ci := 3) (v := .ref (ad 24)) (C := RX3) (T := TX3) (N := 9) hx hb hts inX3_gatherWhoHas_X3 hown hK hP 0 rfl rfl 1 (by decide) (hts (Cond.fieldLink RX3 15 "PortRooms$Holdings" "company" "[I") (List.mem_cons_of_mem _ (List.mem_append_left _ (List.mem_of_getElem? (i := 4) rfl)))) (fun _ h9 => h9) rfl dX3_gatherWhoHas_29 ?_
      refine lv_iload_n hx hb dX3_gatherWhoHas_32 rfl (lv_at hl 1 rfl) ?_
      refine va_iald hx hb hK hP 2 0 rfl rfl (i_in (by omega) (by omega)) dX3_gatherWhoHas_33 ?_
      refine lv_topi (fun v13 ev13 => ?_)
      have qv13 := okH_c h3 ev13 (by omega) (by omega)
      refine st_i (wr := [((ad 2), .inr (3, [.ref (ad 23), .ref (ad 24), .ref (ad 25), .ref (ad 26), .int hn, .ref (ad 27), .ref (ad 28), .ref (ad 29), .ref (ad 30)])), ((ad 23), .inl (cI, 40, .inl ho)), ((ad 24), .inl (cI, 40, .inl hc)), ((ad 25), .inl (cI, 40, .inl hp)), ((ad 26), .inl (cI, 40, .inl hs)), ((ad 27), .inl (cI, 200, .inl pt)), ((ad 29), .inl (cI, 20, .inl haq))]) (va_runS (As := [.int v12, .int v13]) (rest := [.ref (ad 27)]) ⟨hx, hb, hml, hown, hts⟩ (ct_X3_place l D cI cY cJ cQ _ v12 v13 (by omega) (by omega) (by omega) (by omega)) (va_cwS 2 hts gX3_gatherWhoHas_X3_place rfl rfl rfl cdX3_place ⟨Nat.le_of_ble_eq_true rfl, Nat.le_of_ble_eq_true rfl⟩) (cPreS (hP.sub [] rfl) hK (hD.sub [] (by decide +kernel) rfl) hN) rfl rfl hl.1 rfl (lv_room (Nat.le_of_ble_eq_true rfl)) dX3_gatherWhoHas_34 ⟨Nat.le_of_ble_eq_true rfl, Nat.le_of_ble_eq_true rfl⟩) hP hD hS hA [] [0, 1, 2, 3, 4, 5, 6] rfl rfl (by decide +kernel) (by decide +kernel) (fun r16 u14 H locs hw15 => ?_)
      clear hP hD hS
      intro hP hD hS
      replace hw15 : r16.toInt = v12.toInt * 10 + v13.toInt - 10 := hw15
      replace hP : va_P D vwCl [((ad 2), .inr (3, [.ref (ad 23), .ref (ad 24), .ref (ad 25), .ref (ad 26), .int hn, .ref (ad 27), .ref (ad 28), .ref (ad 29), .ref (ad 30)])), ((ad 23), .inl (cI, 40, .inl ho)), ((ad 24), .inl (cI, 40, .inl hc)), ((ad 25), .inl (cI, 40, .inl hp)), ((ad 26), .inl (cI, 40, .inl hs)), ((ad 27), .inl (cI, 200, .inl pt)), ((ad 29), .inl (cI, 20, .inl haq))] H := hP
      replace hD : va_D A [((ad 2), .inr (3, [.ref (ad 23), .ref (ad 24), .ref (ad 25), .ref (ad 26), .int hn, .ref (ad 27), .ref (ad 28), .ref (ad 29), .ref (ad 30)])), ((ad 23), .inl (cI, 40, .inl ho)), ((ad 24), .inl (cI, 40, .inl hc)), ((ad 25), .inl (cI, 40, .inl hp)), ((ad 26), .inl (cI, 40, .inl hs)), ((ad 27), .inl (cI, 200, .inl pt)), ((ad 29), .inl (cI, 20, .inl haq))] := hD
      refine va_iald hx hb hK hP 5 0 rfl rfl (i_in (by omega) (by omega)) dX3_gatherWhoHas_37 ?_
      refine lv_topi (fun v17 ev17 => ?_)
      refine lv_if_le (tgt := 66) hx hb dX3_gatherWhoHas_38 (by decide) (fun c18 => ?_) (fun c18 => ?_)
      · skip
        have f19 := i_le c18
        obtain ⟨v20, ev20⟩ : ∃ y : Int32, y = q10_1 + 1 := ⟨_, rfl⟩
        try have tv20 : v20.toInt = q10_1.toInt + 1 := by rw [ev20]; exact (i_add (x := q10_1) (y := (1 : Int32)) (by rw [k1]; omega) (by rw [k1]; omega)).trans (by rw [k1])
        refine lv_iinc (v := v20) (lv' := [(1, .int v20), (0, .ref (ad 2))]) hx hb dX3_gatherWhoHas_66 hl (k := 1) rfl (by rw [ev20]; rfl) (by decide) rfl (fun ls hl => ?_)
        refine lv_goto (tgt := 10) hx hb dX3_gatherWhoHas_69 (by decide) ?_
        exact ih6 (v20, haq) ls H locs ⟨(by omega), (by omega), lv_sub hl [1, 0] rfl, hP.sub [0, 1, 2, 3, 4, 5, 6] rfl, hD.sub [0, 1, 2, 3, 4, 5, 6] (by decide +kernel) rfl, hS⟩ (by show hn.toInt - v20.toInt < _; omega)
      · skip
        have f21 := i_nle c18
        refine lv_aload_n hx hb dX3_gatherWhoHas_41 rfl (lv_at hl 0 rfl) ?_
        refine va_get (D := D) (ci := 3) (v := .ref (ad 29)) (C := RX3) (T := TX3) (N := 9) hx hb hts inX3_gatherWhoHas_X3 hown hK hP 0 rfl rfl 7 (by decide) (hts (Cond.fieldLink RX3 30 "PortRooms$Holdings" "has" "[I") (List.mem_cons_of_mem _ (List.mem_append_left _ (List.mem_of_getElem? (i := 0) rfl)))) (fun _ h9 => h9) rfl dX3_gatherWhoHas_42 ?_
        refine lv_aload_n hx hb dX3_gatherWhoHas_45 rfl (lv_at hl 0 rfl) ?_
        refine va_get (D := D) (ci := 3) (v := .ref (ad 23)) (C := RX3) (T := TX3) (N := 9) hx hb hts inX3_gatherWhoHas_X3 hown hK hP 0 rfl rfl 0 (by decide) (hts (Cond.fieldLink RX3 9 "PortRooms$Holdings" "owner" "[I") (List.mem_cons_of_mem _ (List.mem_append_left _ (List.mem_of_getElem? (i := 3) rfl)))) (fun _ h9 => h9) rfl dX3_gatherWhoHas_46 ?_
        refine lv_iload_n hx hb dX3_gatherWhoHas_49 rfl (lv_at hl 1 rfl) ?_
        refine va_iald hx hb hK hP 1 0 rfl rfl (i_in (by omega) (by omega)) dX3_gatherWhoHas_50 ?_
        refine lv_topi (fun v22 ev22 => ?_)
        have qv22 := okH_o h3 ev22 (by omega) (by omega)
        refine lv_dup2_11 hx hb dX3_gatherWhoHas_51 rfl rfl ?_
        refine va_iald hx hb hK hP 6 0 rfl rfl (i_in (by omega) (by omega)) dX3_gatherWhoHas_52 ?_
        refine lv_topi (fun v23 ev23 => ?_)
        refine lv_iconst (v := 1) hx hb dX3_gatherWhoHas_53 (by decide) ?_
        refine lv_aload_n hx hb dX3_gatherWhoHas_54 rfl (lv_at hl 0 rfl) ?_
        refine va_get (D := D) (ci := 3) (v := .ref (ad 24)) (C := RX3) (T := TX3) (N := 9) hx hb hts inX3_gatherWhoHas_X3 hown hK hP 0 rfl rfl 1 (by decide) (hts (Cond.fieldLink RX3 15 "PortRooms$Holdings" "company" "[I") (List.mem_cons_of_mem _ (List.mem_append_left _ (List.mem_of_getElem? (i := 4) rfl)))) (fun _ h9 => h9) rfl dX3_gatherWhoHas_55 ?_
        refine lv_iload_n hx hb dX3_gatherWhoHas_58 rfl (lv_at hl 1 rfl) ?_
        refine va_iald hx hb hK hP 2 0 rfl rfl (i_in (by omega) (by omega)) dX3_gatherWhoHas_59 ?_
        refine lv_topi (fun v24 ev24 => ?_)
        have qv24 := okH_c h3 ev24 (by omega) (by omega)
        refine lv_bipush (v := 10) hx hb dX3_gatherWhoHas_60 (by decide) ?_
        refine lv_isub hx hb dX3_gatherWhoHas_62 ?_
        refine lv_topi (fun v25 ev25 => ?_)
        refine lv_ishl hx hb dX3_gatherWhoHas_63 ?_
        refine lv_topi (fun v26 ev26 => ?_)
        refine lv_ior hx hb dX3_gatherWhoHas_64 ?_
        refine lv_topi (fun v27 ev27 => ?_)
        refine va_iast hx hb hK hP hD hS 6 0 rfl rfl (i_in (by omega) (by omega)) dX3_gatherWhoHas_65 (fun H locs => ?_)
        clear hP hD hS
        intro hP hD hS
        replace hP : va_P D vwCl [((ad 2), .inr (3, [.ref (ad 23), .ref (ad 24), .ref (ad 25), .ref (ad 26), .int hn, .ref (ad 27), .ref (ad 28), .ref (ad 29), .ref (ad 30)])), ((ad 23), .inl (cI, 40, .inl ho)), ((ad 24), .inl (cI, 40, .inl hc)), ((ad 25), .inl (cI, 40, .inl hp)), ((ad 26), .inl (cI, 40, .inl hs)), ((ad 27), .inl (cI, 200, .inl pt)), ((ad 29), .inl (cI, 20, .inl (upd haq v22.toNatClampNeg v27)))] H := hP
        replace hD : va_D A [((ad 2), .inr (3, [.ref (ad 23), .ref (ad 24), .ref (ad 25), .ref (ad 26), .int hn, .ref (ad 27), .ref (ad 28), .ref (ad 29), .ref (ad 30)])), ((ad 23), .inl (cI, 40, .inl ho)), ((ad 24), .inl (cI, 40, .inl hc)), ((ad 25), .inl (cI, 40, .inl hp)), ((ad 26), .inl (cI, 40, .inl hs)), ((ad 27), .inl (cI, 200, .inl pt)), ((ad 29), .inl (cI, 20, .inl (upd haq v22.toNatClampNeg v27)))] := hD
        obtain ⟨v28, ev28⟩ : ∃ y : Int32, y = q10_1 + 1 := ⟨_, rfl⟩
        try have tv28 : v28.toInt = q10_1.toInt + 1 := by rw [ev28]; exact (i_add (x := q10_1) (y := (1 : Int32)) (by rw [k1]; omega) (by rw [k1]; omega)).trans (by rw [k1])
        refine lv_iinc (v := v28) (lv' := [(1, .int v28), (0, .ref (ad 2))]) hx hb dX3_gatherWhoHas_66 hl (k := 1) rfl (by rw [ev28]; rfl) (by decide) rfl (fun ls hl => ?_)
        refine lv_goto (tgt := 10) hx hb dX3_gatherWhoHas_69 (by decide) ?_
        exact ih6 (v28, upd haq v22.toNatClampNeg v27) ls H locs ⟨(by omega), (by omega), lv_sub hl [1, 0] rfl, hP.sub [0, 1, 2, 3, 4, 5, 6] rfl, hD.sub [0, 1, 2, 3, 4, 5, 6] (by decide +kernel) rfl, hS⟩ (by show hn.toInt - v28.toInt < _; omega)

set_option maxHeartbeats 4000000 in
set_option maxRecDepth 100000 in
theorem ct_X3_closeReach (l : Launch) (D : va_G) (cI cY cJ cQ : ClassId) (sz : Nat) (ad : Nat → Nat) (hn : Int32) (ha re : Nat → Int32)   : Met l yX3_closeReach wsX3_closeReach ({ frames := 1, cells := 0, slots := 0, locals := 40 }) (cPre D (ty4 cI cY cJ cQ) [((ad 2), .inr (3, [.ref (ad 23), .ref (ad 24), .ref (ad 25), .ref (ad 26), .int hn, .ref (ad 27), .ref (ad 28), .ref (ad 29), .ref (ad 30)])), ((ad 29), .inl (cI, 20, .inl ha)), ((ad 30), .inl (cI, 10, .inl re))] sz [.ref (ad 2)]) (va_Qv (fun (u : (Nat → Int32)) => True) (cB D (ty4 cI cY cJ cQ) (fun (u : (Nat → Int32)) => [((ad 2), .inr (3, [.ref (ad 23), .ref (ad 24), .ref (ad 25), .ref (ad 26), .int hn, .ref (ad 27), .ref (ad 28), .ref (ad 29), .ref (ad 30)])), ((ad 29), .inl (cI, 20, .inl ha)), ((ad 30), .inl (cI, 10, .inl u))]) (va_A [((ad 2), .inr (3, [.ref (ad 23), .ref (ad 24), .ref (ad 25), .ref (ad 26), .int hn, .ref (ad 27), .ref (ad 28), .ref (ad 29), .ref (ad 30)])), ((ad 29), .inl (cI, 20, .inl ha)), ((ad 30), .inl (cI, 10, .inl re))] sz)) (va_A [((ad 2), .inr (3, [.ref (ad 23), .ref (ad 24), .ref (ad 25), .ref (ad 26), .int hn, .ref (ad 27), .ref (ad 28), .ref (ad 29), .ref (ad 30)])), ((ad 29), .inl (cI, 20, .inl ha)), ((ad 30), .inl (cI, 10, .inl re))] sz)) 0 0 (va_A [((ad 2), .inr (3, [.ref (ad 23), .ref (ad 24), .ref (ad 25), .ref (ad 26), .int hn, .ref (ad 27), .ref (ad 28), .ref (ad 29), .ref (ad 30)])), ((ad 29), .inl (cI, 20, .inl ha)), ((ad 30), .inl (cI, 10, .inl re))] sz) := by
  refine Met.ofW (cc := cX3_closeReach) (maxL := 3) (ret := none) (by decide) rfl ?_
  intro p e s m args below meth c s₁ B hml hv
  obtain ⟨rfl, hsz, hP, hK, hD0, hN⟩ := hv
  have hx := B.exec
  have hb := B.bytes
  have hr := B.returns
  have hts := atoms_spec (ws := wsX3_closeReach) B.pre
  have hown : s.vm.findClass RX3 = some m.cls := findClass_of_methodNamed B.named
  have hlocks := B.notSynchronized
  subst hsz
  have hD := hD0.self (sz := s.heap.size)
  generalize hAe : va_A [((ad 2), .inr (3, [.ref (ad 23), .ref (ad 24), .ref (ad 25), .ref (ad 26), .int hn, .ref (ad 27), .ref (ad 28), .ref (ad 29), .ref (ad 30)])), ((ad 29), .inl (cI, 20, .inl ha)), ((ad 30), .inl (cI, 10, .inl re))] s.heap.size = A at hD ⊢
  have hA : ∀ q : Nat, s.heap.size ≤ q → A q := fun q h => by rw [← hAe]; exact Or.inr h
  have hS : va_S A s.heap s.heap [] := va_S.rf
  have hP : va_P D vwCl [((ad 2), .inr (3, [.ref (ad 23), .ref (ad 24), .ref (ad 25), .ref (ad 26), .int hn, .ref (ad 27), .ref (ad 28), .ref (ad 29), .ref (ad 30)])), ((ad 29), .inl (cI, 20, .inl ha)), ((ad 30), .inl (cI, 10, .inl re))] s.heap := hP
  have hl := lv_entry ([.ref (ad 2)]) (n := 3) (Nat.le_of_ble_eq_true rfl)
  rw [lg_entry_eq]
  generalize (lg_sl ([.ref (ad 2)]) ++ List.replicate (3 - (lg_sl ([.ref (ad 2)])).length) Slot.unset).toArray = ls at hl ⊢
  have hl : lv_has ls 3 [(0, .ref (ad 2))] := hl
  have k0 : (0 : Int32).toInt = 0 := by decide
  have k1 : (1 : Int32).toInt = 1 := by decide
  have k10 : (10 : Int32).toInt = 10 := by decide
  refine lv_aload_n hx hb dX3_closeReach_0 rfl (lv_at hl 0 rfl) ?_
  refine va_get (D := D) (ci := 3) (v := .ref (ad 29)) (C := RX3) (T := TX3) (N := 9) hx hb hts inX3_closeReach_X3 hown hK hP 0 rfl rfl 7 (by decide) (hts (Cond.fieldLink RX3 30 "PortRooms$Holdings" "has" "[I") (List.mem_cons_of_mem _ (List.mem_append_left _ (List.mem_of_getElem? (i := 0) rfl)))) (fun _ h9 => h9) rfl dX3_closeReach_1 ?_
  refine lv_bipush (v := 10) hx hb dX3_closeReach_4 (by decide) ?_
  refine lv_aload_n hx hb dX3_closeReach_6 rfl (lv_at hl 0 rfl) ?_
  refine va_get (D := D) (ci := 3) (v := .ref (ad 30)) (C := RX3) (T := TX3) (N := 9) hx hb hts inX3_closeReach_X3 hown hK hP 0 rfl rfl 8 (by decide) (hts (Cond.fieldLink RX3 33 "PortRooms$Holdings" "reach" "[I") (List.mem_cons_of_mem _ (List.mem_append_left _ (List.mem_of_getElem? (i := 1) rfl)))) (fun _ h9 => h9) rfl dX3_closeReach_7 ?_
  refine lv_iconst (v := 0) hx hb dX3_closeReach_10 (by decide) ?_
  refine lv_bipush (v := 10) hx hb dX3_closeReach_11 (by decide) ?_
  refine va_copyi hx hb (hml.trans hl.1.symm) hown (hts (Cond.methodLink RX3 56 arraycopyName) (List.mem_cons_of_mem _ (List.mem_append_left _ (List.mem_of_getElem? (i := 2) rfl)))) (hts (Cond.native arraycopyName) (List.mem_cons_of_mem _ (List.mem_append_left _ (List.mem_of_getElem? (i := 3) rfl)))) (hts (Cond.static arraycopyName) (List.mem_cons_of_mem _ (List.mem_append_left _ (List.mem_of_getElem? (i := 4) rfl)))) (hts (Cond.initialized "java/lang/System") (List.mem_cons_of_mem _ (List.mem_append_left _ (List.mem_of_getElem? (i := 5) rfl)))) hK hP hD hS 1 2 0 0 rfl rfl rfl rfl rfl (by decide) (by decide) (by decide) (by decide +kernel) (by decide +kernel) (fun _ _ => rfl) (Nat.le_of_ble_eq_true rfl) (Nat.le_of_ble_eq_true rfl) dX3_closeReach_13 (fun H locs => ?_)
  clear hP hD hS
  intro hP hD hS
  replace hP : va_P D vwCl [((ad 2), .inr (3, [.ref (ad 23), .ref (ad 24), .ref (ad 25), .ref (ad 26), .int hn, .ref (ad 27), .ref (ad 28), .ref (ad 29), .ref (ad 30)])), ((ad 29), .inl (cI, 20, .inl ha)), ((ad 30), .inl (cI, 10, .inl (va_cpy ha re ((10 : Int32).toNatClampNeg) ((0 : Int32).toNatClampNeg) ((10 : Int32).toNatClampNeg))))] H := hP
  replace hD : va_D A [((ad 2), .inr (3, [.ref (ad 23), .ref (ad 24), .ref (ad 25), .ref (ad 26), .int hn, .ref (ad 27), .ref (ad 28), .ref (ad 29), .ref (ad 30)])), ((ad 29), .inl (cI, 20, .inl ha)), ((ad 30), .inl (cI, 10, .inl (va_cpy ha re ((10 : Int32).toNatClampNeg) ((0 : Int32).toNatClampNeg) ((10 : Int32).toNatClampNeg))))] := hD
  refine lv_iconst (v := 0) hx hb dX3_closeReach_16 (by decide) ?_
  refine lv_istore_n (lv' := [(1, .int 0), (0, .ref (ad 2))]) hx hb dX3_closeReach_17 rfl hl (by decide) rfl (fun ls hl => ?_)
  refine st_loop 18 (fun _ => []) (fun (z : Int32 × (Nat → Int32)) (ls : Array Slot) (H : Heap) (locs : List Loc) => match z with | (q18_1, rea) => (0 ≤ q18_1.toInt) ∧ (q18_1.toInt ≤ 10) ∧ lv_has ls 3 [(0, .ref (ad 2)), (1, .int q18_1)] ∧ va_P D vwCl [((ad 2), .inr (3, [.ref (ad 23), .ref (ad 24), .ref (ad 25), .ref (ad 26), .int hn, .ref (ad 27), .ref (ad 28), .ref (ad 29), .ref (ad 30)])), ((ad 29), .inl (cI, 20, .inl ha)), ((ad 30), .inl (cI, 10, .inl rea))] H ∧ va_D A [((ad 2), .inr (3, [.ref (ad 23), .ref (ad 24), .ref (ad 25), .ref (ad 26), .int hn, .ref (ad 27), .ref (ad 28), .ref (ad 29), .ref (ad 30)])), ((ad 29), .inl (cI, 20, .inl ha)), ((ad 30), .inl (cI, 10, .inl rea))] ∧ va_S A s.heap H locs) (fun (z : Int32 × (Nat → Int32)) => match z with | (q18_1, rea) => 10 - q18_1.toInt) ?_ ?_ ((0 : Int32), va_cpy ha re ((10 : Int32).toNatClampNeg) ((0 : Int32).toNatClampNeg) ((10 : Int32).toNatClampNeg)) ⟨(by omega), (by omega), lv_sub hl [1, 0] rfl, hP, hD, hS⟩
  · rintro ⟨q18_1, rea⟩ ls H locs ⟨g1, g2, hl, hP, hD, hS⟩
    show (0 : Int) ≤ 10 - q18_1.toInt
    omega
  · rintro n5 ih3 ⟨q18_1, rea⟩ ls H locs ⟨g1, g2, hl, hP, hD, hS⟩ hm4
    have hm4 : 10 - q18_1.toInt < (n5 : Int) + 1 := hm4
    replace hl : lv_has ls 3 [(0, .ref (ad 2)), (1, .int q18_1)] := hl
    replace hP : va_P D vwCl [((ad 2), .inr (3, [.ref (ad 23), .ref (ad 24), .ref (ad 25), .ref (ad 26), .int hn, .ref (ad 27), .ref (ad 28), .ref (ad 29), .ref (ad 30)])), ((ad 29), .inl (cI, 20, .inl ha)), ((ad 30), .inl (cI, 10, .inl rea))] H := hP
    replace hD : va_D A [((ad 2), .inr (3, [.ref (ad 23), .ref (ad 24), .ref (ad 25), .ref (ad 26), .int hn, .ref (ad 27), .ref (ad 28), .ref (ad 29), .ref (ad 30)])), ((ad 29), .inl (cI, 20, .inl ha)), ((ad 30), .inl (cI, 10, .inl rea))] := hD
    show W _ _ _ _ _ _ _ _ _ _ _ _ _ _ _ (F0 m 18 ls [])
    refine lv_iload_n hx hb dX3_closeReach_18 rfl (lv_at hl 1 rfl) ?_
    refine lv_bipush (v := 10) hx hb dX3_closeReach_19 (by decide) ?_
    refine lv_icmp_ge (tgt := 72) hx hb dX3_closeReach_21 (by decide) (fun c6 => ?_) (fun c6 => ?_)
    · skip
      have f7 := i_le c6
      have hP9 := hP.sub (ws' := [((ad 2), .inr (3, [.ref (ad 23), .ref (ad 24), .ref (ad 25), .ref (ad 26), .int hn, .ref (ad 27), .ref (ad 28), .ref (ad 29), .ref (ad 30)])), ((ad 29), .inl (cI, 20, .inl ha)), ((ad 30), .inl (cI, 10, .inl rea))]) [0, 1, 2] rfl
      have hD9 := hD.sub (ws' := [((ad 2), .inr (3, [.ref (ad 23), .ref (ad 24), .ref (ad 25), .ref (ad 26), .int hn, .ref (ad 27), .ref (ad 28), .ref (ad 29), .ref (ad 30)])), ((ad 29), .inl (cI, 20, .inl ha)), ((ad 30), .inl (cI, 10, .inl rea))]) [0, 1, 2] (by decide +kernel) rfl
      exact W.vret hx hb hr (fun t ht hW => ⟨⟨rea, rfl, trivial, by rw [ht]; exact hP9, va_K.moved hW.alike hK, hD9⟩, hS.F ht⟩) hS.2.2 dX3_closeReach_72
    · skip
      have f8 := i_nle c6
      refine lv_iconst (v := 0) hx hb dX3_closeReach_24 (by decide) ?_
      refine lv_istore_n (lv' := [(2, .int 0), (0, .ref (ad 2)), (1, .int q18_1)]) hx hb dX3_closeReach_25 rfl hl (by decide) rfl (fun ls hl => ?_)
      refine st_loop 26 (fun _ => []) (fun (z : Int32 × (Nat → Int32)) (ls : Array Slot) (H : Heap) (locs : List Loc) => match z with | (q26_2, reb) => (0 ≤ q26_2.toInt) ∧ (q26_2.toInt ≤ 10) ∧ lv_has ls 3 [(0, .ref (ad 2)), (1, .int q18_1), (2, .int q26_2)] ∧ va_P D vwCl [((ad 2), .inr (3, [.ref (ad 23), .ref (ad 24), .ref (ad 25), .ref (ad 26), .int hn, .ref (ad 27), .ref (ad 28), .ref (ad 29), .ref (ad 30)])), ((ad 29), .inl (cI, 20, .inl ha)), ((ad 30), .inl (cI, 10, .inl reb))] H ∧ va_D A [((ad 2), .inr (3, [.ref (ad 23), .ref (ad 24), .ref (ad 25), .ref (ad 26), .int hn, .ref (ad 27), .ref (ad 28), .ref (ad 29), .ref (ad 30)])), ((ad 29), .inl (cI, 20, .inl ha)), ((ad 30), .inl (cI, 10, .inl reb))] ∧ va_S A s.heap H locs) (fun (z : Int32 × (Nat → Int32)) => match z with | (q26_2, reb) => 10 - q26_2.toInt) ?_ ?_ ((0 : Int32), rea) ⟨(by omega), (by omega), lv_sub hl [1, 2, 0] rfl, hP, hD, hS⟩
      · rintro ⟨q26_2, reb⟩ ls H locs ⟨g9, g10, hl, hP, hD, hS⟩
        show (0 : Int) ≤ 10 - q26_2.toInt
        omega
      · rintro n13 ih11 ⟨q26_2, reb⟩ ls H locs ⟨g9, g10, hl, hP, hD, hS⟩ hm12
        have hm12 : 10 - q26_2.toInt < (n13 : Int) + 1 := hm12
        replace hl : lv_has ls 3 [(0, .ref (ad 2)), (1, .int q18_1), (2, .int q26_2)] := hl
        replace hP : va_P D vwCl [((ad 2), .inr (3, [.ref (ad 23), .ref (ad 24), .ref (ad 25), .ref (ad 26), .int hn, .ref (ad 27), .ref (ad 28), .ref (ad 29), .ref (ad 30)])), ((ad 29), .inl (cI, 20, .inl ha)), ((ad 30), .inl (cI, 10, .inl reb))] H := hP
        replace hD : va_D A [((ad 2), .inr (3, [.ref (ad 23), .ref (ad 24), .ref (ad 25), .ref (ad 26), .int hn, .ref (ad 27), .ref (ad 28), .ref (ad 29), .ref (ad 30)])), ((ad 29), .inl (cI, 20, .inl ha)), ((ad 30), .inl (cI, 10, .inl reb))] := hD
        show W _ _ _ _ _ _ _ _ _ _ _ _ _ _ _ (F0 m 26 ls [])
        refine lv_iload_n hx hb dX3_closeReach_26 rfl (lv_at hl 2 rfl) ?_
        refine lv_bipush (v := 10) hx hb dX3_closeReach_27 (by decide) ?_
        refine lv_icmp_ge (tgt := 66) hx hb dX3_closeReach_29 (by decide) (fun c14 => ?_) (fun c14 => ?_)
        · skip
          have f15 := i_le c14
          obtain ⟨v16, ev16⟩ : ∃ y : Int32, y = q18_1 + 1 := ⟨_, rfl⟩
          try have tv16 : v16.toInt = q18_1.toInt + 1 := by rw [ev16]; exact (i_add (x := q18_1) (y := (1 : Int32)) (by rw [k1]; omega) (by rw [k1]; omega)).trans (by rw [k1])
          refine lv_iinc (v := v16) (lv' := [(1, .int v16), (0, .ref (ad 2)), (2, .int q26_2)]) hx hb dX3_closeReach_66 hl (k := 1) rfl (by rw [ev16]; rfl) (by decide) rfl (fun ls hl => ?_)
          refine lv_goto (tgt := 18) hx hb dX3_closeReach_69 (by decide) ?_
          exact ih3 (v16, reb) ls H locs ⟨(by omega), (by omega), lv_sub hl [1, 0] rfl, hP.sub [0, 1, 2] rfl, hD.sub [0, 1, 2] (by decide +kernel) rfl, hS⟩ (by show 10 - v16.toInt < _; omega)
        · skip
          have f17 := i_nle c14
          refine lv_aload_n hx hb dX3_closeReach_32 rfl (lv_at hl 0 rfl) ?_
          refine va_get (D := D) (ci := 3) (v := .ref (ad 30)) (C := RX3) (T := TX3) (N := 9) hx hb hts inX3_closeReach_X3 hown hK hP 0 rfl rfl 8 (by decide) (hts (Cond.fieldLink RX3 33 "PortRooms$Holdings" "reach" "[I") (List.mem_cons_of_mem _ (List.mem_append_left _ (List.mem_of_getElem? (i := 1) rfl)))) (fun _ h9 => h9) rfl dX3_closeReach_33 ?_
          refine lv_iload_n hx hb dX3_closeReach_36 rfl (lv_at hl 2 rfl) ?_
          refine va_iald hx hb hK hP 2 0 rfl rfl (i_in (by omega) (by omega)) dX3_closeReach_37 ?_
          refine lv_topi (fun v18 ev18 => ?_)
          refine lv_iload_n hx hb dX3_closeReach_38 rfl (lv_at hl 1 rfl) ?_
          refine st_i (wr := [((ad 2), .inr (3, [.ref (ad 23), .ref (ad 24), .ref (ad 25), .ref (ad 26), .int hn, .ref (ad 27), .ref (ad 28), .ref (ad 29), .ref (ad 30)])), ((ad 29), .inl (cI, 20, .inl ha)), ((ad 30), .inl (cI, 10, .inl reb))]) (va_runSN (As := [.int v18, .int q18_1]) (rest := []) ⟨hx, hb, hml, hown, hts⟩ (ct_X10_hasBit l D cI cY cJ cQ _ v18 q18_1) ⟨va_cnB 2 hts gX3_closeReach_X10_hasBit_n62 rfl rfl rfl (hN.1 (RX3, 62, yX10_hasBit, "PortRooms") (by decide +kernel)) (hts (Cond.initialized RX10) (List.mem_cons_of_mem _ (List.mem_append_left _ (List.mem_of_getElem? (i := 7) rfl)))) cdX10_hasBit ⟨Nat.le_of_ble_eq_true rfl, Nat.le_of_ble_eq_true rfl⟩, (hts (Cond.static yX10_hasBit) (List.mem_cons_of_mem _ (List.mem_append_left _ (List.mem_of_getElem? (i := 6) rfl)))), trivial⟩ (cPreS (hP.sub [] rfl) hK (hD.sub [] (by decide +kernel) rfl) hN) rfl rfl hl.1 rfl (lv_room (Nat.le_of_ble_eq_true rfl)) dX3_closeReach_39 ⟨Nat.le_of_ble_eq_true rfl, Nat.le_of_ble_eq_true rfl⟩) hP hD hS hA [] [0, 1, 2] rfl rfl (by decide +kernel) (by decide +kernel) (fun r21 u19 H locs hw20 => ?_)
          clear hP hD hS
          intro hP hD hS
          replace hw20 : r21 = if hbP v18 q18_1 then 1 else 0 := hw20
          replace hP : va_P D vwCl [((ad 2), .inr (3, [.ref (ad 23), .ref (ad 24), .ref (ad 25), .ref (ad 26), .int hn, .ref (ad 27), .ref (ad 28), .ref (ad 29), .ref (ad 30)])), ((ad 29), .inl (cI, 20, .inl ha)), ((ad 30), .inl (cI, 10, .inl reb))] H := hP
          replace hD : va_D A [((ad 2), .inr (3, [.ref (ad 23), .ref (ad 24), .ref (ad 25), .ref (ad 26), .int hn, .ref (ad 27), .ref (ad 28), .ref (ad 29), .ref (ad 30)])), ((ad 29), .inl (cI, 20, .inl ha)), ((ad 30), .inl (cI, 10, .inl reb))] := hD
          refine lv_if_eq (tgt := 60) hx hb dX3_closeReach_42 (by decide) (fun c22 => ?_) (fun c22 => ?_)
          · skip
            have f23 := bo_f hw20 c22
            obtain ⟨v24, ev24⟩ : ∃ y : Int32, y = q26_2 + 1 := ⟨_, rfl⟩
            try have tv24 : v24.toInt = q26_2.toInt + 1 := by rw [ev24]; exact (i_add (x := q26_2) (y := (1 : Int32)) (by rw [k1]; omega) (by rw [k1]; omega)).trans (by rw [k1])
            refine lv_iinc (v := v24) (lv' := [(2, .int v24), (0, .ref (ad 2)), (1, .int q18_1)]) hx hb dX3_closeReach_60 hl (k := 2) rfl (by rw [ev24]; rfl) (by decide) rfl (fun ls hl => ?_)
            refine lv_goto (tgt := 26) hx hb dX3_closeReach_63 (by decide) ?_
            exact ih11 (v24, reb) ls H locs ⟨(by omega), (by omega), lv_sub hl [1, 2, 0] rfl, hP.sub [0, 1, 2] rfl, hD.sub [0, 1, 2] (by decide +kernel) rfl, hS⟩ (by show 10 - v24.toInt < _; omega)
          · skip
            have f25 := bo_t hw20 c22
            refine lv_aload_n hx hb dX3_closeReach_45 rfl (lv_at hl 0 rfl) ?_
            refine va_get (D := D) (ci := 3) (v := .ref (ad 30)) (C := RX3) (T := TX3) (N := 9) hx hb hts inX3_closeReach_X3 hown hK hP 0 rfl rfl 8 (by decide) (hts (Cond.fieldLink RX3 33 "PortRooms$Holdings" "reach" "[I") (List.mem_cons_of_mem _ (List.mem_append_left _ (List.mem_of_getElem? (i := 1) rfl)))) (fun _ h9 => h9) rfl dX3_closeReach_46 ?_
            refine lv_iload_n hx hb dX3_closeReach_49 rfl (lv_at hl 2 rfl) ?_
            refine lv_dup2_11 hx hb dX3_closeReach_50 rfl rfl ?_
            refine va_iald hx hb hK hP 2 0 rfl rfl (i_in (by omega) (by omega)) dX3_closeReach_51 ?_
            refine lv_topi (fun v26 ev26 => ?_)
            refine lv_aload_n hx hb dX3_closeReach_52 rfl (lv_at hl 0 rfl) ?_
            refine va_get (D := D) (ci := 3) (v := .ref (ad 30)) (C := RX3) (T := TX3) (N := 9) hx hb hts inX3_closeReach_X3 hown hK hP 0 rfl rfl 8 (by decide) (hts (Cond.fieldLink RX3 33 "PortRooms$Holdings" "reach" "[I") (List.mem_cons_of_mem _ (List.mem_append_left _ (List.mem_of_getElem? (i := 1) rfl)))) (fun _ h9 => h9) rfl dX3_closeReach_53 ?_
            refine lv_iload_n hx hb dX3_closeReach_56 rfl (lv_at hl 1 rfl) ?_
            refine va_iald hx hb hK hP 2 0 rfl rfl (i_in (by omega) (by omega)) dX3_closeReach_57 ?_
            refine lv_topi (fun v27 ev27 => ?_)
            refine lv_ior hx hb dX3_closeReach_58 ?_
            refine lv_topi (fun v28 ev28 => ?_)
            refine va_iast hx hb hK hP hD hS 2 0 rfl rfl (i_in (by omega) (by omega)) dX3_closeReach_59 (fun H locs => ?_)
            clear hP hD hS
            intro hP hD hS
            replace hP : va_P D vwCl [((ad 2), .inr (3, [.ref (ad 23), .ref (ad 24), .ref (ad 25), .ref (ad 26), .int hn, .ref (ad 27), .ref (ad 28), .ref (ad 29), .ref (ad 30)])), ((ad 29), .inl (cI, 20, .inl ha)), ((ad 30), .inl (cI, 10, .inl (upd reb q26_2.toNatClampNeg v28)))] H := hP
            replace hD : va_D A [((ad 2), .inr (3, [.ref (ad 23), .ref (ad 24), .ref (ad 25), .ref (ad 26), .int hn, .ref (ad 27), .ref (ad 28), .ref (ad 29), .ref (ad 30)])), ((ad 29), .inl (cI, 20, .inl ha)), ((ad 30), .inl (cI, 10, .inl (upd reb q26_2.toNatClampNeg v28)))] := hD
            obtain ⟨v29, ev29⟩ : ∃ y : Int32, y = q26_2 + 1 := ⟨_, rfl⟩
            try have tv29 : v29.toInt = q26_2.toInt + 1 := by rw [ev29]; exact (i_add (x := q26_2) (y := (1 : Int32)) (by rw [k1]; omega) (by rw [k1]; omega)).trans (by rw [k1])
            refine lv_iinc (v := v29) (lv' := [(2, .int v29), (0, .ref (ad 2)), (1, .int q18_1)]) hx hb dX3_closeReach_60 hl (k := 2) rfl (by rw [ev29]; rfl) (by decide) rfl (fun ls hl => ?_)
            refine lv_goto (tgt := 26) hx hb dX3_closeReach_63 (by decide) ?_
            exact ih11 (v29, upd reb q26_2.toNatClampNeg v28) ls H locs ⟨(by omega), (by omega), lv_sub hl [1, 2, 0] rfl, hP.sub [0, 1, 2] rfl, hD.sub [0, 1, 2] (by decide +kernel) rfl, hS⟩ (by show 10 - v29.toInt < _; omega)


/-- the part that an owner has of a company on a day, and since when: the holdings told, one after the other -/
def pcV (ho hc hp hs : Nat → Int32) (d o c : Int32) : Nat → Int32 × Int32
  | 0 => (0, 0)
  | n + 1 => if (ho n).toInt = o.toInt ∧ (hc n).toInt = c.toInt ∧ (hs n).toInt ≤ d.toInt ∧ (pcV ho hc hp hs d o c n).2.toInt ≤ (hs n).toInt then (hp n, hs n) else pcV ho hc hp hs d o c n
theorem pcV_s (ho hc hp hs : Nat → Int32) (d o c : Int32) (n : Nat) : pcV ho hc hp hs d o c (n + 1) = if (ho n).toInt = o.toInt ∧ (hc n).toInt = c.toInt ∧ (hs n).toInt ≤ d.toInt ∧ (pcV ho hc hp hs d o c n).2.toInt ≤ (hs n).toInt then (hp n, hs n) else pcV ho hc hp hs d o c n := rfl
/-- the table of parts is laid out for the first n holdings -/
def pcOk (pt ps ho hc hp hs : Nat → Int32) (d : Int32) (n : Nat) : Prop := ∀ o c : Int32, 0 ≤ o.toInt → o.toInt < 20 → 10 ≤ c.toInt → c.toInt < 20 → (pt (o.toNatClampNeg * 10 + c.toNatClampNeg - 10), ps (o.toNatClampNeg * 10 + c.toNatClampNeg - 10)) = pcV ho hc hp hs d o c n
theorem pcOk_up {pt ps ho hc hp hs : Nat → Int32} {d x y : Int32} {n m a : Nat} (h : pcOk pt ps ho hc hp hs d n) (hm : m = n + 1) (r1 : 0 ≤ (ho n).toInt ∧ (ho n).toInt < 20) (r2 : 10 ≤ (hc n).toInt ∧ (hc n).toInt < 20) (ha : (a : Int) = (ho n).toInt * 10 + (hc n).toInt - 10) (c1 : (hs n).toInt ≤ d.toInt) (c2 : (ps a).toInt ≤ (hs n).toInt) (e1 : x = hp n) (e2 : y = hs n) : pcOk (upd pt a x) (upd ps a y) ho hc hp hs d m := by
  subst e1 e2 hm
  intro o c o1 o2 q1 q2
  have h9 := h o c o1 o2 q1 q2
  have k1 := i_cl o1
  have k2 := i_cl (x := c) (by omega)
  rw [pcV_s, ← h9]
  by_cases e : o.toNatClampNeg * 10 + c.toNatClampNeg - 10 = a
  · rw [e, upd_s, upd_s, if_pos]
    refine ⟨by omega, by omega, c1, c2⟩
  · rw [upd_n _ _ e, upd_n _ _ e, if_neg]
    rintro ⟨z1, z2, -⟩
    exact e (by omega)
theorem pcOk_no {pt ps ho hc hp hs : Nat → Int32} {d : Int32} {n m a : Nat} (h : pcOk pt ps ho hc hp hs d n) (hm : m = n + 1) (r1 : 0 ≤ (ho n).toInt ∧ (ho n).toInt < 20) (r2 : 10 ≤ (hc n).toInt ∧ (hc n).toInt < 20) (ha : (a : Int) = (ho n).toInt * 10 + (hc n).toInt - 10) (c1 : (hs n).toInt ≤ d.toInt → ¬ (ps a).toInt ≤ (hs n).toInt) : pcOk pt ps ho hc hp hs d m := by
  subst hm
  intro o c o1 o2 q1 q2
  have h9 := h o c o1 o2 q1 q2
  have k1 := i_cl o1
  have k2 := i_cl (x := c) (by omega)
  rw [pcV_s, ← h9, if_neg]
  rintro ⟨z1, z2, z3, z4⟩
  refine c1 z3 ?_
  rw [show a = o.toNatClampNeg * 10 + c.toNatClampNeg - 10 by omega]
  exact z4
def sp_percent (hn : Int32) (ho hc hp hs : Nat → Int32) (o k d : Int32) : Int32 := if 0 ≤ o.toInt ∧ o.toInt < 20 ∧ 10 ≤ k.toInt ∧ k.toInt < 20 ∧ ¬ o.toInt = k.toInt ∧ 0 ≤ d.toInt ∧ d.toInt < 10000 then (pcV ho hc hp hs d o k hn.toNatClampNeg).1 else -1000001

set_option maxHeartbeats 4000000 in
set_option maxRecDepth 100000 in
theorem ct_X3_lookAt (l : Launch) (D : va_G) (cI cY cJ cQ : ClassId) (sz : Nat) (ad : Nat → Nat) (hn : Int32) (ho hc hp hs pt ps ha re : Nat → Int32) (d : Int32)  (h1 : 0 ≤ hn.toInt) (h2 : hn.toInt ≤ 40) (h3 : okH hn ho hc)  : Met l yX3_lookAt wsX3_lookAt ({ frames := 2, cells := 0, slots := 0, locals := 62 }) (cPre D (ty4 cI cY cJ cQ) [((ad 2), .inr (3, [.ref (ad 23), .ref (ad 24), .ref (ad 25), .ref (ad 26), .int hn, .ref (ad 27), .ref (ad 28), .ref (ad 29), .ref (ad 30)])), ((ad 23), .inl (cI, 40, .inl ho)), ((ad 24), .inl (cI, 40, .inl hc)), ((ad 25), .inl (cI, 40, .inl hp)), ((ad 26), .inl (cI, 40, .inl hs)), ((ad 27), .inl (cI, 200, .inl pt)), ((ad 28), .inl (cI, 200, .inl ps)), ((ad 29), .inl (cI, 20, .inl ha)), ((ad 30), .inl (cI, 10, .inl re))] sz [.ref (ad 2), .int d]) (va_Qv (fun (u : (Nat → Int32) × (Nat → Int32) × (Nat → Int32) × (Nat → Int32)) => pcOk u.1 u.2.1 ho hc hp hs d hn.toNatClampNeg) (cB D (ty4 cI cY cJ cQ) (fun (u : (Nat → Int32) × (Nat → Int32) × (Nat → Int32) × (Nat → Int32)) => [((ad 2), .inr (3, [.ref (ad 23), .ref (ad 24), .ref (ad 25), .ref (ad 26), .int hn, .ref (ad 27), .ref (ad 28), .ref (ad 29), .ref (ad 30)])), ((ad 23), .inl (cI, 40, .inl ho)), ((ad 24), .inl (cI, 40, .inl hc)), ((ad 25), .inl (cI, 40, .inl hp)), ((ad 26), .inl (cI, 40, .inl hs)), ((ad 27), .inl (cI, 200, .inl u.1)), ((ad 28), .inl (cI, 200, .inl u.2.1)), ((ad 29), .inl (cI, 20, .inl u.2.2.1)), ((ad 30), .inl (cI, 10, .inl u.2.2.2))]) (va_A [((ad 2), .inr (3, [.ref (ad 23), .ref (ad 24), .ref (ad 25), .ref (ad 26), .int hn, .ref (ad 27), .ref (ad 28), .ref (ad 29), .ref (ad 30)])), ((ad 23), .inl (cI, 40, .inl ho)), ((ad 24), .inl (cI, 40, .inl hc)), ((ad 25), .inl (cI, 40, .inl hp)), ((ad 26), .inl (cI, 40, .inl hs)), ((ad 27), .inl (cI, 200, .inl pt)), ((ad 28), .inl (cI, 200, .inl ps)), ((ad 29), .inl (cI, 20, .inl ha)), ((ad 30), .inl (cI, 10, .inl re))] sz)) (va_A [((ad 2), .inr (3, [.ref (ad 23), .ref (ad 24), .ref (ad 25), .ref (ad 26), .int hn, .ref (ad 27), .ref (ad 28), .ref (ad 29), .ref (ad 30)])), ((ad 23), .inl (cI, 40, .inl ho)), ((ad 24), .inl (cI, 40, .inl hc)), ((ad 25), .inl (cI, 40, .inl hp)), ((ad 26), .inl (cI, 40, .inl hs)), ((ad 27), .inl (cI, 200, .inl pt)), ((ad 28), .inl (cI, 200, .inl ps)), ((ad 29), .inl (cI, 20, .inl ha)), ((ad 30), .inl (cI, 10, .inl re))] sz)) 0 0 (va_A [((ad 2), .inr (3, [.ref (ad 23), .ref (ad 24), .ref (ad 25), .ref (ad 26), .int hn, .ref (ad 27), .ref (ad 28), .ref (ad 29), .ref (ad 30)])), ((ad 23), .inl (cI, 40, .inl ho)), ((ad 24), .inl (cI, 40, .inl hc)), ((ad 25), .inl (cI, 40, .inl hp)), ((ad 26), .inl (cI, 40, .inl hs)), ((ad 27), .inl (cI, 200, .inl pt)), ((ad 28), .inl (cI, 200, .inl ps)), ((ad 29), .inl (cI, 20, .inl ha)), ((ad 30), .inl (cI, 10, .inl re))] sz) := by
  refine Met.ofW (cc := cX3_lookAt) (maxL := 4) (ret := none) (by decide) rfl ?_
  intro p e s m args below meth c s₁ B hml hv
  obtain ⟨rfl, hsz, hP, hK, hD0, hN⟩ := hv
  have hx := B.exec
  have hb := B.bytes
  have hr := B.returns
  have hts := atoms_spec (ws := wsX3_lookAt) B.pre
  have hown : s.vm.findClass RX3 = some m.cls := findClass_of_methodNamed B.named
  have hlocks := B.notSynchronized
  subst hsz
  have hD := hD0.self (sz := s.heap.size)
  generalize hAe : va_A [((ad 2), .inr (3, [.ref (ad 23), .ref (ad 24), .ref (ad 25), .ref (ad 26), .int hn, .ref (ad 27), .ref (ad 28), .ref (ad 29), .ref (ad 30)])), ((ad 23), .inl (cI, 40, .inl ho)), ((ad 24), .inl (cI, 40, .inl hc)), ((ad 25), .inl (cI, 40, .inl hp)), ((ad 26), .inl (cI, 40, .inl hs)), ((ad 27), .inl (cI, 200, .inl pt)), ((ad 28), .inl (cI, 200, .inl ps)), ((ad 29), .inl (cI, 20, .inl ha)), ((ad 30), .inl (cI, 10, .inl re))] s.heap.size = A at hD ⊢
  have hA : ∀ q : Nat, s.heap.size ≤ q → A q := fun q h => by rw [← hAe]; exact Or.inr h
  have hS : va_S A s.heap s.heap [] := va_S.rf
  have hP : va_P D vwCl [((ad 2), .inr (3, [.ref (ad 23), .ref (ad 24), .ref (ad 25), .ref (ad 26), .int hn, .ref (ad 27), .ref (ad 28), .ref (ad 29), .ref (ad 30)])), ((ad 23), .inl (cI, 40, .inl ho)), ((ad 24), .inl (cI, 40, .inl hc)), ((ad 25), .inl (cI, 40, .inl hp)), ((ad 26), .inl (cI, 40, .inl hs)), ((ad 27), .inl (cI, 200, .inl pt)), ((ad 28), .inl (cI, 200, .inl ps)), ((ad 29), .inl (cI, 20, .inl ha)), ((ad 30), .inl (cI, 10, .inl re))] s.heap := hP
  have hl := lv_entry ([.ref (ad 2), .int d]) (n := 4) (Nat.le_of_ble_eq_true rfl)
  rw [lg_entry_eq]
  generalize (lg_sl ([.ref (ad 2), .int d]) ++ List.replicate (4 - (lg_sl ([.ref (ad 2), .int d])).length) Slot.unset).toArray = ls at hl ⊢
  have hl : lv_has ls 4 [(0, .ref (ad 2)), (1, .int d)] := hl
  have k0 : (0 : Int32).toInt = 0 := by decide
  have k1 : (1 : Int32).toInt = 1 := by decide
  refine lv_aload_n hx hb dX3_lookAt_0 rfl (lv_at hl 0 rfl) ?_
  refine va_get (D := D) (ci := 3) (v := .ref (ad 27)) (C := RX3) (T := TX3) (N := 9) hx hb hts inX3_lookAt_X3 hown hK hP 0 rfl rfl 5 (by decide) (hts (Cond.fieldLink RX3 24 "PortRooms$Holdings" "part" "[I") (List.mem_cons_of_mem _ (List.mem_append_left _ (List.mem_append_left _ (List.mem_of_getElem? (i := 0) rfl))))) (fun _ h9 => h9) rfl dX3_lookAt_1 ?_
  refine lv_iconst (v := 0) hx hb dX3_lookAt_4 (by decide) ?_
  refine st_v (wr := [((ad 2), .inr (3, [.ref (ad 23), .ref (ad 24), .ref (ad 25), .ref (ad 26), .int hn, .ref (ad 27), .ref (ad 28), .ref (ad 29), .ref (ad 30)])), ((ad 23), .inl (cI, 40, .inl ho)), ((ad 24), .inl (cI, 40, .inl hc)), ((ad 25), .inl (cI, 40, .inl hp)), ((ad 26), .inl (cI, 40, .inl hs)), ((ad 28), .inl (cI, 200, .inl ps)), ((ad 29), .inl (cI, 20, .inl ha)), ((ad 30), .inl (cI, 10, .inl re))]) (va_runS (As := [.ref (ad 27), .int 0]) (rest := []) ⟨hx, hb, hml, hown, hts⟩ (cFill l D cI cY cJ cQ _ (ad 27) 200 pt (0 : Int32) (by decide)) (va_cwS 2 hts gX3_lookAt_J7_fill_53178 rfl rfl rfl cdJ7_fill_53178 ⟨Nat.le_of_ble_eq_true rfl, Nat.le_of_ble_eq_true rfl⟩) (cPreS (hP.sub [5] rfl) hK (hD.sub [5] (by decide +kernel) rfl) hN) rfl rfl hl.1 rfl (lv_room (Nat.le_of_ble_eq_true rfl)) dX3_lookAt_5 ⟨Nat.le_of_ble_eq_true rfl, Nat.le_of_ble_eq_true rfl⟩) hP hD hS hA [5] [0, 1, 2, 3, 4, 6, 7, 8] rfl rfl (by decide +kernel) (by decide +kernel) (fun u1 H locs hw2 => ?_)
  clear hP hD hS
  intro hP hD hS
  replace hP : va_P D vwCl [((ad 2), .inr (3, [.ref (ad 23), .ref (ad 24), .ref (ad 25), .ref (ad 26), .int hn, .ref (ad 27), .ref (ad 28), .ref (ad 29), .ref (ad 30)])), ((ad 23), .inl (cI, 40, .inl ho)), ((ad 24), .inl (cI, 40, .inl hc)), ((ad 25), .inl (cI, 40, .inl hp)), ((ad 26), .inl (cI, 40, .inl hs)), ((ad 28), .inl (cI, 200, .inl ps)), ((ad 29), .inl (cI, 20, .inl ha)), ((ad 30), .inl (cI, 10, .inl re)), ((ad 27), .inl (cI, 200, .inl (fun _ => 0)))] H := hP
  replace hD : va_D A [((ad 2), .inr (3, [.ref (ad 23), .ref (ad 24), .ref (ad 25), .ref (ad 26), .int hn, .ref (ad 27), .ref (ad 28), .ref (ad 29), .ref (ad 30)])), ((ad 23), .inl (cI, 40, .inl ho)), ((ad 24), .inl (cI, 40, .inl hc)), ((ad 25), .inl (cI, 40, .inl hp)), ((ad 26), .inl (cI, 40, .inl hs)), ((ad 28), .inl (cI, 200, .inl ps)), ((ad 29), .inl (cI, 20, .inl ha)), ((ad 30), .inl (cI, 10, .inl re)), ((ad 27), .inl (cI, 200, .inl (fun _ => 0)))] := hD
  refine lv_aload_n hx hb dX3_lookAt_8 rfl (lv_at hl 0 rfl) ?_
  refine va_get (D := D) (ci := 3) (v := .ref (ad 28)) (C := RX3) (T := TX3) (N := 9) hx hb hts inX3_lookAt_X3 hown hK hP 0 rfl rfl 6 (by decide) (hts (Cond.fieldLink RX3 27 "PortRooms$Holdings" "partSince" "[I") (List.mem_cons_of_mem _ (List.mem_append_left _ (List.mem_append_left _ (List.mem_of_getElem? (i := 1) rfl))))) (fun _ h9 => h9) rfl dX3_lookAt_9 ?_
  refine lv_iconst (v := 0) hx hb dX3_lookAt_12 (by decide) ?_
  refine st_v (wr := [((ad 2), .inr (3, [.ref (ad 23), .ref (ad 24), .ref (ad 25), .ref (ad 26), .int hn, .ref (ad 27), .ref (ad 28), .ref (ad 29), .ref (ad 30)])), ((ad 23), .inl (cI, 40, .inl ho)), ((ad 24), .inl (cI, 40, .inl hc)), ((ad 25), .inl (cI, 40, .inl hp)), ((ad 26), .inl (cI, 40, .inl hs)), ((ad 29), .inl (cI, 20, .inl ha)), ((ad 30), .inl (cI, 10, .inl re)), ((ad 27), .inl (cI, 200, .inl (fun _ => 0)))]) (va_runS (As := [.ref (ad 28), .int 0]) (rest := []) ⟨hx, hb, hml, hown, hts⟩ (cFill l D cI cY cJ cQ _ (ad 28) 200 ps (0 : Int32) (by decide)) (va_cwS 2 hts gX3_lookAt_J7_fill_53178 rfl rfl rfl cdJ7_fill_53178 ⟨Nat.le_of_ble_eq_true rfl, Nat.le_of_ble_eq_true rfl⟩) (cPreS (hP.sub [5] rfl) hK (hD.sub [5] (by decide +kernel) rfl) hN) rfl rfl hl.1 rfl (lv_room (Nat.le_of_ble_eq_true rfl)) dX3_lookAt_13 ⟨Nat.le_of_ble_eq_true rfl, Nat.le_of_ble_eq_true rfl⟩) hP hD hS hA [5] [0, 1, 2, 3, 4, 6, 7, 8] rfl rfl (by decide +kernel) (by decide +kernel) (fun u4 H locs hw5 => ?_)
  clear hP hD hS
  intro hP hD hS
  replace hP : va_P D vwCl [((ad 2), .inr (3, [.ref (ad 23), .ref (ad 24), .ref (ad 25), .ref (ad 26), .int hn, .ref (ad 27), .ref (ad 28), .ref (ad 29), .ref (ad 30)])), ((ad 23), .inl (cI, 40, .inl ho)), ((ad 24), .inl (cI, 40, .inl hc)), ((ad 25), .inl (cI, 40, .inl hp)), ((ad 26), .inl (cI, 40, .inl hs)), ((ad 29), .inl (cI, 20, .inl ha)), ((ad 30), .inl (cI, 10, .inl re)), ((ad 27), .inl (cI, 200, .inl (fun _ => 0))), ((ad 28), .inl (cI, 200, .inl (fun _ => 0)))] H := hP
  replace hD : va_D A [((ad 2), .inr (3, [.ref (ad 23), .ref (ad 24), .ref (ad 25), .ref (ad 26), .int hn, .ref (ad 27), .ref (ad 28), .ref (ad 29), .ref (ad 30)])), ((ad 23), .inl (cI, 40, .inl ho)), ((ad 24), .inl (cI, 40, .inl hc)), ((ad 25), .inl (cI, 40, .inl hp)), ((ad 26), .inl (cI, 40, .inl hs)), ((ad 29), .inl (cI, 20, .inl ha)), ((ad 30), .inl (cI, 10, .inl re)), ((ad 27), .inl (cI, 200, .inl (fun _ => 0))), ((ad 28), .inl (cI, 200, .inl (fun _ => 0)))] := hD
  refine lv_iconst (v := 0) hx hb dX3_lookAt_16 (by decide) ?_
  refine lv_istore_n (lv' := [(2, .int 0), (0, .ref (ad 2)), (1, .int d)]) hx hb dX3_lookAt_17 rfl hl (by decide) rfl (fun ls hl => ?_)
  refine st_loop 18 (fun _ => []) (fun (z : Int32 × (Nat → Int32) × (Nat → Int32)) (ls : Array Slot) (H : Heap) (locs : List Loc) => match z with | (q18_2, ptq, psq) => (0 ≤ q18_2.toInt) ∧ (q18_2.toInt ≤ hn.toInt) ∧ (pcOk ptq psq ho hc hp hs d q18_2.toNatClampNeg) ∧ lv_has ls 4 [(0, .ref (ad 2)), (1, .int d), (2, .int q18_2)] ∧ va_P D vwCl [((ad 2), .inr (3, [.ref (ad 23), .ref (ad 24), .ref (ad 25), .ref (ad 26), .int hn, .ref (ad 27), .ref (ad 28), .ref (ad 29), .ref (ad 30)])), ((ad 23), .inl (cI, 40, .inl ho)), ((ad 24), .inl (cI, 40, .inl hc)), ((ad 25), .inl (cI, 40, .inl hp)), ((ad 26), .inl (cI, 40, .inl hs)), ((ad 29), .inl (cI, 20, .inl ha)), ((ad 30), .inl (cI, 10, .inl re)), ((ad 27), .inl (cI, 200, .inl ptq)), ((ad 28), .inl (cI, 200, .inl psq))] H ∧ va_D A [((ad 2), .inr (3, [.ref (ad 23), .ref (ad 24), .ref (ad 25), .ref (ad 26), .int hn, .ref (ad 27), .ref (ad 28), .ref (ad 29), .ref (ad 30)])), ((ad 23), .inl (cI, 40, .inl ho)), ((ad 24), .inl (cI, 40, .inl hc)), ((ad 25), .inl (cI, 40, .inl hp)), ((ad 26), .inl (cI, 40, .inl hs)), ((ad 29), .inl (cI, 20, .inl ha)), ((ad 30), .inl (cI, 10, .inl re)), ((ad 27), .inl (cI, 200, .inl ptq)), ((ad 28), .inl (cI, 200, .inl psq))] ∧ va_S A s.heap H locs) (fun (z : Int32 × (Nat → Int32) × (Nat → Int32)) => match z with | (q18_2, ptq, psq) => hn.toInt - q18_2.toInt) ?_ ?_ ((0 : Int32), (fun _ => 0), (fun _ => 0)) ⟨(by omega), (by omega), (by exact fun o9 c9 _ _ _ _ => rfl), lv_sub hl [1, 2, 0] rfl, hP, hD, hS⟩
  · rintro ⟨q18_2, ptq, psq⟩ ls H locs ⟨g7, g8, g9, hl, hP, hD, hS⟩
    show (0 : Int) ≤ hn.toInt - q18_2.toInt
    omega
  · rintro n12 ih10 ⟨q18_2, ptq, psq⟩ ls H locs ⟨g7, g8, g9, hl, hP, hD, hS⟩ hm11
    have hm11 : hn.toInt - q18_2.toInt < (n12 : Int) + 1 := hm11
    replace hl : lv_has ls 4 [(0, .ref (ad 2)), (1, .int d), (2, .int q18_2)] := hl
    replace hP : va_P D vwCl [((ad 2), .inr (3, [.ref (ad 23), .ref (ad 24), .ref (ad 25), .ref (ad 26), .int hn, .ref (ad 27), .ref (ad 28), .ref (ad 29), .ref (ad 30)])), ((ad 23), .inl (cI, 40, .inl ho)), ((ad 24), .inl (cI, 40, .inl hc)), ((ad 25), .inl (cI, 40, .inl hp)), ((ad 26), .inl (cI, 40, .inl hs)), ((ad 29), .inl (cI, 20, .inl ha)), ((ad 30), .inl (cI, 10, .inl re)), ((ad 27), .inl (cI, 200, .inl ptq)), ((ad 28), .inl (cI, 200, .inl psq))] H := hP
    replace hD : va_D A [((ad 2), .inr (3, [.ref (ad 23), .ref (ad 24), .ref (ad 25), .ref (ad 26), .int hn, .ref (ad 27), .ref (ad 28), .ref (ad 29), .ref (ad 30)])), ((ad 23), .inl (cI, 40, .inl ho)), ((ad 24), .inl (cI, 40, .inl hc)), ((ad 25), .inl (cI, 40, .inl hp)), ((ad 26), .inl (cI, 40, .inl hs)), ((ad 29), .inl (cI, 20, .inl ha)), ((ad 30), .inl (cI, 10, .inl re)), ((ad 27), .inl (cI, 200, .inl ptq)), ((ad 28), .inl (cI, 200, .inl psq))] := hD
    show W _ _ _ _ _ _ _ _ _ _ _ _ _ _ _ (F0 m 18 ls [])
    refine lv_iload_n hx hb dX3_lookAt_18 rfl (lv_at hl 2 rfl) ?_
    refine lv_aload_n hx hb dX3_lookAt_19 rfl (lv_at hl 0 rfl) ?_
    refine va_get (D := D) (ci := 3) (v := .int hn) (C := RX3) (T := TX3) (N := 9) hx hb hts inX3_lookAt_X3 hown hK hP 0 rfl rfl 4 (by decide) (hts (Cond.fieldLink RX3 36 "PortRooms$Holdings" "count" "I") (List.mem_cons_of_mem _ (List.mem_append_left _ (List.mem_append_left _ (List.mem_of_getElem? (i := 2) rfl))))) (fun _ h9 => h9) rfl dX3_lookAt_20 ?_
    refine lv_icmp_ge (tgt := 97) hx hb dX3_lookAt_23 (by decide) (fun c13 => ?_) (fun c13 => ?_)
    · skip
      have f14 := i_le c13
      refine lv_aload_n hx hb dX3_lookAt_97 rfl (lv_at hl 0 rfl) ?_
      refine st_v (wr := [((ad 30), .inl (cI, 10, .inl re)), ((ad 28), .inl (cI, 200, .inl psq))]) (va_runV (C := RX3) (As := []) (rest := []) ⟨hx, hb, hml, hown, hts⟩ (ct_X3_gatherWhoHas l D cI cY cJ cQ _ ad hn ho hc hp hs ptq ha (by omega) (by omega) (by assumption)) (cwV 0 hts gX3_lookAt_X3_gatherWhoHas rfl rfl rfl ⟨rfl, cdX3_gatherWhoHas⟩ ⟨Nat.le_of_ble_eq_true rfl, Nat.le_of_ble_eq_true rfl⟩) (cPreV (hP.sub [0, 1, 2, 3, 4, 7, 5] rfl) hK (hD.sub [0, 1, 2, 3, 4, 7, 5] (by decide +kernel) rfl) hN (ci := 3) (q0 := 0) rfl rfl) rfl rfl hl.1 rfl (lv_room (Nat.le_of_ble_eq_true rfl)) dX3_lookAt_98 ⟨Nat.le_of_ble_eq_true rfl, Nat.le_of_ble_eq_true rfl⟩) hP hD hS hA [0, 1, 2, 3, 4, 7, 5] [6, 8] rfl rfl (by decide +kernel) (by decide +kernel) (fun u15 H locs hw16 => ?_)
      clear hP hD hS
      intro hP hD hS
      replace hw16 : True := hw16
      replace hP : va_P D vwCl [((ad 30), .inl (cI, 10, .inl re)), ((ad 28), .inl (cI, 200, .inl psq)), ((ad 2), .inr (3, [.ref (ad 23), .ref (ad 24), .ref (ad 25), .ref (ad 26), .int hn, .ref (ad 27), .ref (ad 28), .ref (ad 29), .ref (ad 30)])), ((ad 23), .inl (cI, 40, .inl ho)), ((ad 24), .inl (cI, 40, .inl hc)), ((ad 25), .inl (cI, 40, .inl hp)), ((ad 26), .inl (cI, 40, .inl hs)), ((ad 27), .inl (cI, 200, .inl ptq)), ((ad 29), .inl (cI, 20, .inl u15))] H := hP
      replace hD : va_D A [((ad 30), .inl (cI, 10, .inl re)), ((ad 28), .inl (cI, 200, .inl psq)), ((ad 2), .inr (3, [.ref (ad 23), .ref (ad 24), .ref (ad 25), .ref (ad 26), .int hn, .ref (ad 27), .ref (ad 28), .ref (ad 29), .ref (ad 30)])), ((ad 23), .inl (cI, 40, .inl ho)), ((ad 24), .inl (cI, 40, .inl hc)), ((ad 25), .inl (cI, 40, .inl hp)), ((ad 26), .inl (cI, 40, .inl hs)), ((ad 27), .inl (cI, 200, .inl ptq)), ((ad 29), .inl (cI, 20, .inl u15))] := hD
      refine lv_aload_n hx hb dX3_lookAt_101 rfl (lv_at hl 0 rfl) ?_
      refine st_v (wr := [((ad 28), .inl (cI, 200, .inl psq)), ((ad 23), .inl (cI, 40, .inl ho)), ((ad 24), .inl (cI, 40, .inl hc)), ((ad 25), .inl (cI, 40, .inl hp)), ((ad 26), .inl (cI, 40, .inl hs)), ((ad 27), .inl (cI, 200, .inl ptq))]) (va_runV (C := RX3) (As := []) (rest := []) ⟨hx, hb, hml, hown, hts⟩ (ct_X3_closeReach l D cI cY cJ cQ _ ad hn u15 re) (cwV 0 hts gX3_lookAt_X3_closeReach rfl rfl rfl ⟨rfl, cdX3_closeReach⟩ ⟨Nat.le_of_ble_eq_true rfl, Nat.le_of_ble_eq_true rfl⟩) (cPreV (hP.sub [2, 8, 0] rfl) hK (hD.sub [2, 8, 0] (by decide +kernel) rfl) hN (ci := 3) (q0 := 0) rfl rfl) rfl rfl hl.1 rfl (lv_room (Nat.le_of_ble_eq_true rfl)) dX3_lookAt_102 ⟨Nat.le_of_ble_eq_true rfl, Nat.le_of_ble_eq_true rfl⟩) hP hD hS hA [2, 8, 0] [1, 3, 4, 5, 6, 7] rfl rfl (by decide +kernel) (by decide +kernel) (fun u18 H locs hw19 => ?_)
      clear hP hD hS
      intro hP hD hS
      replace hw19 : True := hw19
      replace hP : va_P D vwCl [((ad 28), .inl (cI, 200, .inl psq)), ((ad 23), .inl (cI, 40, .inl ho)), ((ad 24), .inl (cI, 40, .inl hc)), ((ad 25), .inl (cI, 40, .inl hp)), ((ad 26), .inl (cI, 40, .inl hs)), ((ad 27), .inl (cI, 200, .inl ptq)), ((ad 2), .inr (3, [.ref (ad 23), .ref (ad 24), .ref (ad 25), .ref (ad 26), .int hn, .ref (ad 27), .ref (ad 28), .ref (ad 29), .ref (ad 30)])), ((ad 29), .inl (cI, 20, .inl u15)), ((ad 30), .inl (cI, 10, .inl u18))] H := hP
      replace hD : va_D A [((ad 28), .inl (cI, 200, .inl psq)), ((ad 23), .inl (cI, 40, .inl ho)), ((ad 24), .inl (cI, 40, .inl hc)), ((ad 25), .inl (cI, 40, .inl hp)), ((ad 26), .inl (cI, 40, .inl hs)), ((ad 27), .inl (cI, 200, .inl ptq)), ((ad 2), .inr (3, [.ref (ad 23), .ref (ad 24), .ref (ad 25), .ref (ad 26), .int hn, .ref (ad 27), .ref (ad 28), .ref (ad 29), .ref (ad 30)])), ((ad 29), .inl (cI, 20, .inl u15)), ((ad 30), .inl (cI, 10, .inl u18))] := hD
      have ce8 := i_cl (x := q18_2) (by omega)
      have ce9 := i_cl (x := hn) (by omega)
      have ee9 : q18_2.toNatClampNeg = hn.toNatClampNeg := by omega
      have hz9 := g9
      rw [ee9] at hz9
      have hP9 := hP.sub (ws' := [((ad 2), .inr (3, [.ref (ad 23), .ref (ad 24), .ref (ad 25), .ref (ad 26), .int hn, .ref (ad 27), .ref (ad 28), .ref (ad 29), .ref (ad 30)])), ((ad 23), .inl (cI, 40, .inl ho)), ((ad 24), .inl (cI, 40, .inl hc)), ((ad 25), .inl (cI, 40, .inl hp)), ((ad 26), .inl (cI, 40, .inl hs)), ((ad 27), .inl (cI, 200, .inl ptq)), ((ad 28), .inl (cI, 200, .inl psq)), ((ad 29), .inl (cI, 20, .inl u15)), ((ad 30), .inl (cI, 10, .inl u18))]) [6, 1, 2, 3, 4, 5, 0, 7, 8] rfl
      have hD9 := hD.sub (ws' := [((ad 2), .inr (3, [.ref (ad 23), .ref (ad 24), .ref (ad 25), .ref (ad 26), .int hn, .ref (ad 27), .ref (ad 28), .ref (ad 29), .ref (ad 30)])), ((ad 23), .inl (cI, 40, .inl ho)), ((ad 24), .inl (cI, 40, .inl hc)), ((ad 25), .inl (cI, 40, .inl hp)), ((ad 26), .inl (cI, 40, .inl hs)), ((ad 27), .inl (cI, 200, .inl ptq)), ((ad 28), .inl (cI, 200, .inl psq)), ((ad 29), .inl (cI, 20, .inl u15)), ((ad 30), .inl (cI, 10, .inl u18))]) [6, 1, 2, 3, 4, 5, 0, 7, 8] (by decide +kernel) rfl
      exact W.vret hx hb hr (fun t ht hW => ⟨⟨(ptq, psq, u15, u18), rfl, hz9, by rw [ht]; exact hP9, va_K.moved hW.alike hK, hD9⟩, hS.F ht⟩) hS.2.2 dX3_lookAt_105
    · skip
      have f21 := i_nle c13
      refine lv_aload_n hx hb dX3_lookAt_26 rfl (lv_at hl 0 rfl) ?_
      refine va_get (D := D) (ci := 3) (v := .ref (ad 23)) (C := RX3) (T := TX3) (N := 9) hx hb hts inX3_lookAt_X3 hown hK hP 0 rfl rfl 0 (by decide) (hts (Cond.fieldLink RX3 9 "PortRooms$Holdings" "owner" "[I") (List.mem_cons_of_mem _ (List.mem_append_left _ (List.mem_append_left _ (List.mem_of_getElem? (i := 3) rfl))))) (fun _ h9 => h9) rfl dX3_lookAt_27 ?_
      refine lv_iload_n hx hb dX3_lookAt_30 rfl (lv_at hl 2 rfl) ?_
      refine va_iald hx hb hK hP 1 0 rfl rfl (i_in (by omega) (by omega)) dX3_lookAt_31 ?_
      refine lv_topi (fun v22 ev22 => ?_)
      have tlv22 : v22.toInt = (ho q18_2.toNatClampNeg).toInt := by rw [ev22]
      have qv22 := okH_o h3 ev22 (by omega) (by omega)
      refine lv_aload_n hx hb dX3_lookAt_32 rfl (lv_at hl 0 rfl) ?_
      refine va_get (D := D) (ci := 3) (v := .ref (ad 24)) (C := RX3) (T := TX3) (N := 9) hx hb hts inX3_lookAt_X3 hown hK hP 0 rfl rfl 1 (by decide) (hts (Cond.fieldLink RX3 15 "PortRooms$Holdings" "company" "[I") (List.mem_cons_of_mem _ (List.mem_append_left _ (List.mem_append_left _ (List.mem_of_getElem? (i := 4) rfl))))) (fun _ h9 => h9) rfl dX3_lookAt_33 ?_
      refine lv_iload_n hx hb dX3_lookAt_36 rfl (lv_at hl 2 rfl) ?_
      refine va_iald hx hb hK hP 2 0 rfl rfl (i_in (by omega) (by omega)) dX3_lookAt_37 ?_
      refine lv_topi (fun v23 ev23 => ?_)
      have tlv23 : v23.toInt = (hc q18_2.toNatClampNeg).toInt := by rw [ev23]
      have qv23 := okH_c h3 ev23 (by omega) (by omega)
      refine st_i (wr := [((ad 2), .inr (3, [.ref (ad 23), .ref (ad 24), .ref (ad 25), .ref (ad 26), .int hn, .ref (ad 27), .ref (ad 28), .ref (ad 29), .ref (ad 30)])), ((ad 23), .inl (cI, 40, .inl ho)), ((ad 24), .inl (cI, 40, .inl hc)), ((ad 25), .inl (cI, 40, .inl hp)), ((ad 26), .inl (cI, 40, .inl hs)), ((ad 29), .inl (cI, 20, .inl ha)), ((ad 30), .inl (cI, 10, .inl re)), ((ad 27), .inl (cI, 200, .inl ptq)), ((ad 28), .inl (cI, 200, .inl psq))]) (va_runS (As := [.int v22, .int v23]) (rest := []) ⟨hx, hb, hml, hown, hts⟩ (ct_X3_place l D cI cY cJ cQ _ v22 v23 (by omega) (by omega) (by omega) (by omega)) (va_cwS 2 hts gX3_lookAt_X3_place rfl rfl rfl cdX3_place ⟨Nat.le_of_ble_eq_true rfl, Nat.le_of_ble_eq_true rfl⟩) (cPreS (hP.sub [] rfl) hK (hD.sub [] (by decide +kernel) rfl) hN) rfl rfl hl.1 rfl (lv_room (Nat.le_of_ble_eq_true rfl)) dX3_lookAt_38 ⟨Nat.le_of_ble_eq_true rfl, Nat.le_of_ble_eq_true rfl⟩) hP hD hS hA [] [0, 1, 2, 3, 4, 5, 6, 7, 8] rfl rfl (by decide +kernel) (by decide +kernel) (fun r26 u24 H locs hw25 => ?_)
      clear hP hD hS
      intro hP hD hS
      replace hw25 : r26.toInt = v22.toInt * 10 + v23.toInt - 10 := hw25
      replace hP : va_P D vwCl [((ad 2), .inr (3, [.ref (ad 23), .ref (ad 24), .ref (ad 25), .ref (ad 26), .int hn, .ref (ad 27), .ref (ad 28), .ref (ad 29), .ref (ad 30)])), ((ad 23), .inl (cI, 40, .inl ho)), ((ad 24), .inl (cI, 40, .inl hc)), ((ad 25), .inl (cI, 40, .inl hp)), ((ad 26), .inl (cI, 40, .inl hs)), ((ad 29), .inl (cI, 20, .inl ha)), ((ad 30), .inl (cI, 10, .inl re)), ((ad 27), .inl (cI, 200, .inl ptq)), ((ad 28), .inl (cI, 200, .inl psq))] H := hP
      replace hD : va_D A [((ad 2), .inr (3, [.ref (ad 23), .ref (ad 24), .ref (ad 25), .ref (ad 26), .int hn, .ref (ad 27), .ref (ad 28), .ref (ad 29), .ref (ad 30)])), ((ad 23), .inl (cI, 40, .inl ho)), ((ad 24), .inl (cI, 40, .inl hc)), ((ad 25), .inl (cI, 40, .inl hp)), ((ad 26), .inl (cI, 40, .inl hs)), ((ad 29), .inl (cI, 20, .inl ha)), ((ad 30), .inl (cI, 10, .inl re)), ((ad 27), .inl (cI, 200, .inl ptq)), ((ad 28), .inl (cI, 200, .inl psq))] := hD
      refine lv_istore_n (lv' := [(3, .int r26), (0, .ref (ad 2)), (1, .int d), (2, .int q18_2)]) hx hb dX3_lookAt_41 rfl hl (by decide) rfl (fun ls hl => ?_)
      refine lv_aload_n hx hb dX3_lookAt_42 rfl (lv_at hl 1 rfl) ?_
      refine va_get (D := D) (ci := 3) (v := .ref (ad 26)) (C := RX3) (T := TX3) (N := 9) hx hb hts inX3_lookAt_X3 hown hK hP 0 rfl rfl 3 (by decide) (hts (Cond.fieldLink RX3 21 "PortRooms$Holdings" "since" "[I") (List.mem_cons_of_mem _ (List.mem_append_left _ (List.mem_append_left _ (List.mem_of_getElem? (i := 5) rfl))))) (fun _ h9 => h9) rfl dX3_lookAt_43 ?_
      refine lv_iload_n hx hb dX3_lookAt_46 rfl (lv_at hl 3 rfl) ?_
      refine va_iald hx hb hK hP 4 0 rfl rfl (i_in (by omega) (by omega)) dX3_lookAt_47 ?_
      refine lv_topi (fun v27 ev27 => ?_)
      have tlv27 : v27.toInt = (hs q18_2.toNatClampNeg).toInt := by rw [ev27]
      refine lv_iload_n hx hb dX3_lookAt_48 rfl (lv_at hl 2 rfl) ?_
      refine lv_icmp_gt (tgt := 91) hx hb dX3_lookAt_49 (by decide) (fun c28 => ?_) (fun c28 => ?_)
      · skip
        have f29 := i_lt c28
        obtain ⟨v30, ev30⟩ : ∃ y : Int32, y = q18_2 + 1 := ⟨_, rfl⟩
        try have tv30 : v30.toInt = q18_2.toInt + 1 := by rw [ev30]; exact (i_add (x := q18_2) (y := (1 : Int32)) (by rw [k1]; omega) (by rw [k1]; omega)).trans (by rw [k1])
        refine lv_iinc (v := v30) (lv' := [(2, .int v30), (3, .int r26), (0, .ref (ad 2)), (1, .int d)]) hx hb dX3_lookAt_91 hl (k := 3) rfl (by rw [ev30]; rfl) (by decide) rfl (fun ls hl => ?_)
        refine lv_goto (tgt := 18) hx hb dX3_lookAt_94 (by decide) ?_
        have clk8 := i_cl (x := q18_2) (by omega)
        have clk9 := i_cl (x := v30) (by omega)
        have clr9 := i_cl (x := r26) (by omega)
        exact ih10 (v30, ptq, psq) ls H locs ⟨(by omega), (by omega), (by exact pcOk_no (a := r26.toNatClampNeg) g9 (by omega) ⟨by omega, by omega⟩ ⟨by omega, by omega⟩ (by omega) (fun z9 => by omega)), lv_sub hl [2, 3, 0] rfl, hP.sub [0, 1, 2, 3, 4, 5, 6, 7, 8] rfl, hD.sub [0, 1, 2, 3, 4, 5, 6, 7, 8] (by decide +kernel) rfl, hS⟩ (by show hn.toInt - v30.toInt < _; omega)
      · skip
        have f31 := i_nlt c28
        refine lv_aload_n hx hb dX3_lookAt_52 rfl (lv_at hl 1 rfl) ?_
        refine va_get (D := D) (ci := 3) (v := .ref (ad 26)) (C := RX3) (T := TX3) (N := 9) hx hb hts inX3_lookAt_X3 hown hK hP 0 rfl rfl 3 (by decide) (hts (Cond.fieldLink RX3 21 "PortRooms$Holdings" "since" "[I") (List.mem_cons_of_mem _ (List.mem_append_left _ (List.mem_append_left _ (List.mem_of_getElem? (i := 5) rfl))))) (fun _ h9 => h9) rfl dX3_lookAt_53 ?_
        refine lv_iload_n hx hb dX3_lookAt_56 rfl (lv_at hl 3 rfl) ?_
        refine va_iald hx hb hK hP 4 0 rfl rfl (i_in (by omega) (by omega)) dX3_lookAt_57 ?_
        refine lv_topi (fun v32 ev32 => ?_)
        have tlv32 : v32.toInt = (hs q18_2.toNatClampNeg).toInt := by rw [ev32]
        refine lv_aload_n hx hb dX3_lookAt_58 rfl (lv_at hl 1 rfl) ?_
        refine va_get (D := D) (ci := 3) (v := .ref (ad 28)) (C := RX3) (T := TX3) (N := 9) hx hb hts inX3_lookAt_X3 hown hK hP 0 rfl rfl 6 (by decide) (hts (Cond.fieldLink RX3 27 "PortRooms$Holdings" "partSince" "[I") (List.mem_cons_of_mem _ (List.mem_append_left _ (List.mem_append_left _ (List.mem_of_getElem? (i := 1) rfl))))) (fun _ h9 => h9) rfl dX3_lookAt_59 ?_
        refine lv_iload_n hx hb dX3_lookAt_62 rfl (lv_at hl 0 rfl) ?_
        refine va_iald hx hb hK hP 8 0 rfl rfl (i_in (by omega) (by omega)) dX3_lookAt_63 ?_
        refine lv_topi (fun v33 ev33 => ?_)
        have tlv33 : v33.toInt = (psq r26.toNatClampNeg).toInt := by rw [ev33]
        refine lv_icmp_lt (tgt := 91) hx hb dX3_lookAt_64 (by decide) (fun c34 => ?_) (fun c34 => ?_)
        · skip
          have f35 := i_lt c34
          obtain ⟨v36, ev36⟩ : ∃ y : Int32, y = q18_2 + 1 := ⟨_, rfl⟩
          try have tv36 : v36.toInt = q18_2.toInt + 1 := by rw [ev36]; exact (i_add (x := q18_2) (y := (1 : Int32)) (by rw [k1]; omega) (by rw [k1]; omega)).trans (by rw [k1])
          refine lv_iinc (v := v36) (lv' := [(2, .int v36), (3, .int r26), (0, .ref (ad 2)), (1, .int d)]) hx hb dX3_lookAt_91 hl (k := 3) rfl (by rw [ev36]; rfl) (by decide) rfl (fun ls hl => ?_)
          refine lv_goto (tgt := 18) hx hb dX3_lookAt_94 (by decide) ?_
          have clk8 := i_cl (x := q18_2) (by omega)
          have clk9 := i_cl (x := v36) (by omega)
          have clr9 := i_cl (x := r26) (by omega)
          exact ih10 (v36, ptq, psq) ls H locs ⟨(by omega), (by omega), (by exact pcOk_no (a := r26.toNatClampNeg) g9 (by omega) ⟨by omega, by omega⟩ ⟨by omega, by omega⟩ (by omega) (fun z9 => by omega)), lv_sub hl [2, 3, 0] rfl, hP.sub [0, 1, 2, 3, 4, 5, 6, 7, 8] rfl, hD.sub [0, 1, 2, 3, 4, 5, 6, 7, 8] (by decide +kernel) rfl, hS⟩ (by show hn.toInt - v36.toInt < _; omega)
        · skip
          have f37 := i_nlt c34
          refine lv_aload_n hx hb dX3_lookAt_67 rfl (lv_at hl 1 rfl) ?_
          refine va_get (D := D) (ci := 3) (v := .ref (ad 27)) (C := RX3) (T := TX3) (N := 9) hx hb hts inX3_lookAt_X3 hown hK hP 0 rfl rfl 5 (by decide) (hts (Cond.fieldLink RX3 24 "PortRooms$Holdings" "part" "[I") (List.mem_cons_of_mem _ (List.mem_append_left _ (List.mem_append_left _ (List.mem_of_getElem? (i := 0) rfl))))) (fun _ h9 => h9) rfl dX3_lookAt_68 ?_
          refine lv_iload_n hx hb dX3_lookAt_71 rfl (lv_at hl 0 rfl) ?_
          refine lv_aload_n hx hb dX3_lookAt_72 rfl (lv_at hl 1 rfl) ?_
          refine va_get (D := D) (ci := 3) (v := .ref (ad 25)) (C := RX3) (T := TX3) (N := 9) hx hb hts inX3_lookAt_X3 hown hK hP 0 rfl rfl 2 (by decide) (hts (Cond.fieldLink RX3 18 "PortRooms$Holdings" "percentage" "[I") (List.mem_cons_of_mem _ (List.mem_append_left _ (List.mem_append_left _ (List.mem_of_getElem? (i := 6) rfl))))) (fun _ h9 => h9) rfl dX3_lookAt_73 ?_
          refine lv_iload_n hx hb dX3_lookAt_76 rfl (lv_at hl 3 rfl) ?_
          refine va_iald hx hb hK hP 3 0 rfl rfl (i_in (by omega) (by omega)) dX3_lookAt_77 ?_
          refine lv_topi (fun v38 ev38 => ?_)
          have tlv38 : v38.toInt = (hp q18_2.toNatClampNeg).toInt := by rw [ev38]
          refine va_iast hx hb hK hP hD hS 7 0 rfl rfl (i_in (by omega) (by omega)) dX3_lookAt_78 (fun H locs => ?_)
          clear hP hD hS
          intro hP hD hS
          replace hP : va_P D vwCl [((ad 2), .inr (3, [.ref (ad 23), .ref (ad 24), .ref (ad 25), .ref (ad 26), .int hn, .ref (ad 27), .ref (ad 28), .ref (ad 29), .ref (ad 30)])), ((ad 23), .inl (cI, 40, .inl ho)), ((ad 24), .inl (cI, 40, .inl hc)), ((ad 25), .inl (cI, 40, .inl hp)), ((ad 26), .inl (cI, 40, .inl hs)), ((ad 29), .inl (cI, 20, .inl ha)), ((ad 30), .inl (cI, 10, .inl re)), ((ad 27), .inl (cI, 200, .inl (upd ptq r26.toNatClampNeg v38))), ((ad 28), .inl (cI, 200, .inl psq))] H := hP
          replace hD : va_D A [((ad 2), .inr (3, [.ref (ad 23), .ref (ad 24), .ref (ad 25), .ref (ad 26), .int hn, .ref (ad 27), .ref (ad 28), .ref (ad 29), .ref (ad 30)])), ((ad 23), .inl (cI, 40, .inl ho)), ((ad 24), .inl (cI, 40, .inl hc)), ((ad 25), .inl (cI, 40, .inl hp)), ((ad 26), .inl (cI, 40, .inl hs)), ((ad 29), .inl (cI, 20, .inl ha)), ((ad 30), .inl (cI, 10, .inl re)), ((ad 27), .inl (cI, 200, .inl (upd ptq r26.toNatClampNeg v38))), ((ad 28), .inl (cI, 200, .inl psq))] := hD
          refine lv_aload_n hx hb dX3_lookAt_79 rfl (lv_at hl 1 rfl) ?_
          refine va_get (D := D) (ci := 3) (v := .ref (ad 28)) (C := RX3) (T := TX3) (N := 9) hx hb hts inX3_lookAt_X3 hown hK hP 0 rfl rfl 6 (by decide) (hts (Cond.fieldLink RX3 27 "PortRooms$Holdings" "partSince" "[I") (List.mem_cons_of_mem _ (List.mem_append_left _ (List.mem_append_left _ (List.mem_of_getElem? (i := 1) rfl))))) (fun _ h9 => h9) rfl dX3_lookAt_80 ?_
          refine lv_iload_n hx hb dX3_lookAt_83 rfl (lv_at hl 0 rfl) ?_
          refine lv_aload_n hx hb dX3_lookAt_84 rfl (lv_at hl 1 rfl) ?_
          refine va_get (D := D) (ci := 3) (v := .ref (ad 26)) (C := RX3) (T := TX3) (N := 9) hx hb hts inX3_lookAt_X3 hown hK hP 0 rfl rfl 3 (by decide) (hts (Cond.fieldLink RX3 21 "PortRooms$Holdings" "since" "[I") (List.mem_cons_of_mem _ (List.mem_append_left _ (List.mem_append_left _ (List.mem_of_getElem? (i := 5) rfl))))) (fun _ h9 => h9) rfl dX3_lookAt_85 ?_
          refine lv_iload_n hx hb dX3_lookAt_88 rfl (lv_at hl 3 rfl) ?_
          refine va_iald hx hb hK hP 4 0 rfl rfl (i_in (by omega) (by omega)) dX3_lookAt_89 ?_
          refine lv_topi (fun v39 ev39 => ?_)
          have tlv39 : v39.toInt = (hs q18_2.toNatClampNeg).toInt := by rw [ev39]
          refine va_iast hx hb hK hP hD hS 8 0 rfl rfl (i_in (by omega) (by omega)) dX3_lookAt_90 (fun H locs => ?_)
          clear hP hD hS
          intro hP hD hS
          replace hP : va_P D vwCl [((ad 2), .inr (3, [.ref (ad 23), .ref (ad 24), .ref (ad 25), .ref (ad 26), .int hn, .ref (ad 27), .ref (ad 28), .ref (ad 29), .ref (ad 30)])), ((ad 23), .inl (cI, 40, .inl ho)), ((ad 24), .inl (cI, 40, .inl hc)), ((ad 25), .inl (cI, 40, .inl hp)), ((ad 26), .inl (cI, 40, .inl hs)), ((ad 29), .inl (cI, 20, .inl ha)), ((ad 30), .inl (cI, 10, .inl re)), ((ad 27), .inl (cI, 200, .inl (upd ptq r26.toNatClampNeg v38))), ((ad 28), .inl (cI, 200, .inl (upd psq r26.toNatClampNeg v39)))] H := hP
          replace hD : va_D A [((ad 2), .inr (3, [.ref (ad 23), .ref (ad 24), .ref (ad 25), .ref (ad 26), .int hn, .ref (ad 27), .ref (ad 28), .ref (ad 29), .ref (ad 30)])), ((ad 23), .inl (cI, 40, .inl ho)), ((ad 24), .inl (cI, 40, .inl hc)), ((ad 25), .inl (cI, 40, .inl hp)), ((ad 26), .inl (cI, 40, .inl hs)), ((ad 29), .inl (cI, 20, .inl ha)), ((ad 30), .inl (cI, 10, .inl re)), ((ad 27), .inl (cI, 200, .inl (upd ptq r26.toNatClampNeg v38))), ((ad 28), .inl (cI, 200, .inl (upd psq r26.toNatClampNeg v39)))] := hD
          obtain ⟨v40, ev40⟩ : ∃ y : Int32, y = q18_2 + 1 := ⟨_, rfl⟩
          try have tv40 : v40.toInt = q18_2.toInt + 1 := by rw [ev40]; exact (i_add (x := q18_2) (y := (1 : Int32)) (by rw [k1]; omega) (by rw [k1]; omega)).trans (by rw [k1])
          refine lv_iinc (v := v40) (lv' := [(2, .int v40), (3, .int r26), (0, .ref (ad 2)), (1, .int d)]) hx hb dX3_lookAt_91 hl (k := 3) rfl (by rw [ev40]; rfl) (by decide) rfl (fun ls hl => ?_)
          refine lv_goto (tgt := 18) hx hb dX3_lookAt_94 (by decide) ?_
          have clk8 := i_cl (x := q18_2) (by omega)
          have clk9 := i_cl (x := v40) (by omega)
          have clr9 := i_cl (x := r26) (by omega)
          exact ih10 (v40, upd ptq r26.toNatClampNeg v38, upd psq r26.toNatClampNeg v39) ls H locs ⟨(by omega), (by omega), (by exact pcOk_up g9 (by omega) ⟨by omega, by omega⟩ ⟨by omega, by omega⟩ (by omega) (by omega) (by omega) (by assumption) (by assumption)), lv_sub hl [2, 3, 0] rfl, hP.sub [0, 1, 2, 3, 4, 5, 6, 7, 8] rfl, hD.sub [0, 1, 2, 3, 4, 5, 6, 7, 8] (by decide +kernel) rfl, hS⟩ (by show hn.toInt - v40.toInt < _; omega)

set_option maxHeartbeats 4000000 in
set_option maxRecDepth 100000 in
theorem ct_X3_partOf (l : Launch) (D : va_G) (cI cY cJ cQ : ClassId) (sz : Nat) (ad : Nat → Nat) (hn : Int32) (pt : Nat → Int32) (o : Int32) (k : Int32)  (h1 : 0 ≤ o.toInt) (h2 : o.toInt < 20) (h3 : 10 ≤ k.toInt) (h4 : k.toInt < 20)  : Met l yX3_partOf wsX3_partOf ({ frames := 1, cells := 0, slots := 0, locals := 21 }) (cPre D (ty4 cI cY cJ cQ) [((ad 2), .inr (3, [.ref (ad 23), .ref (ad 24), .ref (ad 25), .ref (ad 26), .int hn, .ref (ad 27), .ref (ad 28), .ref (ad 29), .ref (ad 30)])), ((ad 27), .inl (cI, 200, .inl pt))] sz [.ref (ad 2), .int o, .int k]) (va_Qi (fun (r : Int32) (u : Unit) => r = pt (o.toNatClampNeg * 10 + k.toNatClampNeg - 10)) (cB D (ty4 cI cY cJ cQ) (fun (u : Unit) => [((ad 2), .inr (3, [.ref (ad 23), .ref (ad 24), .ref (ad 25), .ref (ad 26), .int hn, .ref (ad 27), .ref (ad 28), .ref (ad 29), .ref (ad 30)])), ((ad 27), .inl (cI, 200, .inl pt))]) (va_A [((ad 2), .inr (3, [.ref (ad 23), .ref (ad 24), .ref (ad 25), .ref (ad 26), .int hn, .ref (ad 27), .ref (ad 28), .ref (ad 29), .ref (ad 30)])), ((ad 27), .inl (cI, 200, .inl pt))] sz)) (va_A [((ad 2), .inr (3, [.ref (ad 23), .ref (ad 24), .ref (ad 25), .ref (ad 26), .int hn, .ref (ad 27), .ref (ad 28), .ref (ad 29), .ref (ad 30)])), ((ad 27), .inl (cI, 200, .inl pt))] sz)) 0 0 (va_A [((ad 2), .inr (3, [.ref (ad 23), .ref (ad 24), .ref (ad 25), .ref (ad 26), .int hn, .ref (ad 27), .ref (ad 28), .ref (ad 29), .ref (ad 30)])), ((ad 27), .inl (cI, 200, .inl pt))] sz) := by
  refine Met.ofW (cc := cX3_partOf) (maxL := 3) (ret := (some .int)) (by decide) rfl ?_
  intro p e s m args below meth c s₁ B hml hv
  obtain ⟨rfl, hsz, hP, hK, hD0, hN⟩ := hv
  have hx := B.exec
  have hb := B.bytes
  have hr := B.returns
  have hts := atoms_spec (ws := wsX3_partOf) B.pre
  have hown : s.vm.findClass RX3 = some m.cls := findClass_of_methodNamed B.named
  have hlocks := B.notSynchronized
  subst hsz
  have hD := hD0.self (sz := s.heap.size)
  generalize hAe : va_A [((ad 2), .inr (3, [.ref (ad 23), .ref (ad 24), .ref (ad 25), .ref (ad 26), .int hn, .ref (ad 27), .ref (ad 28), .ref (ad 29), .ref (ad 30)])), ((ad 27), .inl (cI, 200, .inl pt))] s.heap.size = A at hD ⊢
  have hA : ∀ q : Nat, s.heap.size ≤ q → A q := fun q h => by rw [← hAe]; exact Or.inr h
  have hS : va_S A s.heap s.heap [] := va_S.rf
  have hP : va_P D vwCl [((ad 2), .inr (3, [.ref (ad 23), .ref (ad 24), .ref (ad 25), .ref (ad 26), .int hn, .ref (ad 27), .ref (ad 28), .ref (ad 29), .ref (ad 30)])), ((ad 27), .inl (cI, 200, .inl pt))] s.heap := hP
  have hl := lv_entry ([.ref (ad 2), .int o, .int k]) (n := 3) (Nat.le_of_ble_eq_true rfl)
  rw [lg_entry_eq]
  generalize (lg_sl ([.ref (ad 2), .int o, .int k]) ++ List.replicate (3 - (lg_sl ([.ref (ad 2), .int o, .int k])).length) Slot.unset).toArray = ls at hl ⊢
  have hl : lv_has ls 3 [(0, .ref (ad 2)), (1, .int o), (2, .int k)] := hl
  refine lv_aload_n hx hb dX3_partOf_0 rfl (lv_at hl 0 rfl) ?_
  refine va_get (D := D) (ci := 3) (v := .ref (ad 27)) (C := RX3) (T := TX3) (N := 9) hx hb hts inX3_partOf_X3 hown hK hP 0 rfl rfl 5 (by decide) (hts (Cond.fieldLink RX3 24 "PortRooms$Holdings" "part" "[I") (List.mem_cons_of_mem _ (List.mem_append_left _ (List.mem_of_getElem? (i := 0) rfl)))) (fun _ h9 => h9) rfl dX3_partOf_1 ?_
  refine lv_iload_n hx hb dX3_partOf_4 rfl (lv_at hl 1 rfl) ?_
  refine lv_iload_n hx hb dX3_partOf_5 rfl (lv_at hl 2 rfl) ?_
  refine st_i (wr := [((ad 2), .inr (3, [.ref (ad 23), .ref (ad 24), .ref (ad 25), .ref (ad 26), .int hn, .ref (ad 27), .ref (ad 28), .ref (ad 29), .ref (ad 30)])), ((ad 27), .inl (cI, 200, .inl pt))]) (va_runS (As := [.int o, .int k]) (rest := [.ref (ad 27)]) ⟨hx, hb, hml, hown, hts⟩ (ct_X3_place l D cI cY cJ cQ _ o k (by omega) (by omega) (by omega) (by omega)) (va_cwS 2 hts gX3_partOf_X3_place rfl rfl rfl cdX3_place ⟨Nat.le_of_ble_eq_true rfl, Nat.le_of_ble_eq_true rfl⟩) (cPreS (hP.sub [] rfl) hK (hD.sub [] (by decide +kernel) rfl) hN) rfl rfl hl.1 rfl (lv_room (Nat.le_of_ble_eq_true rfl)) dX3_partOf_6 ⟨Nat.le_of_ble_eq_true rfl, Nat.le_of_ble_eq_true rfl⟩) hP hD hS hA [] [0, 1] rfl rfl (by decide +kernel) (by decide +kernel) (fun r3 u1 H locs hw2 => ?_)
  clear hP hD hS
  intro hP hD hS
  replace hw2 : r3.toInt = o.toInt * 10 + k.toInt - 10 := hw2
  replace hP : va_P D vwCl [((ad 2), .inr (3, [.ref (ad 23), .ref (ad 24), .ref (ad 25), .ref (ad 26), .int hn, .ref (ad 27), .ref (ad 28), .ref (ad 29), .ref (ad 30)])), ((ad 27), .inl (cI, 200, .inl pt))] H := hP
  replace hD : va_D A [((ad 2), .inr (3, [.ref (ad 23), .ref (ad 24), .ref (ad 25), .ref (ad 26), .int hn, .ref (ad 27), .ref (ad 28), .ref (ad 29), .ref (ad 30)])), ((ad 27), .inl (cI, 200, .inl pt))] := hD
  refine va_iald hx hb hK hP 1 0 rfl rfl (i_in (by omega) (by omega)) dX3_partOf_9 ?_
  refine lv_topi (fun v4 ev4 => ?_)
  have tlv4 : v4.toInt = (pt r3.toNatClampNeg).toInt := by rw [ev4]
  have clo := i_cl (x := o) (by omega)
  have clk := i_cl (x := k) (by omega)
  have clr3 := i_cl (x := r3) (by omega)
  have hP9 := hP.sub (ws' := [((ad 2), .inr (3, [.ref (ad 23), .ref (ad 24), .ref (ad 25), .ref (ad 26), .int hn, .ref (ad 27), .ref (ad 28), .ref (ad 29), .ref (ad 30)])), ((ad 27), .inl (cI, 200, .inl pt))]) [0, 1] rfl
  have hD9 := hD.sub (ws' := [((ad 2), .inr (3, [.ref (ad 23), .ref (ad 24), .ref (ad 25), .ref (ad 26), .int hn, .ref (ad 27), .ref (ad 28), .ref (ad 29), .ref (ad 30)])), ((ad 27), .inl (cI, 200, .inl pt))]) [0, 1] (by decide +kernel) rfl
  exact W.iret (v := v4) hx hb hr (fun t ht hW => ⟨⟨v4, (), rfl, (ev4.trans (congrArg pt (by omega))), by rw [ht]; exact hP9, va_K.moved hW.alike hK, hD9⟩, hS.F ht⟩) hS.2.2 dX3_partOf_10

set_option maxHeartbeats 4000000 in
set_option maxRecDepth 100000 in
theorem ct_X10_percent (l : Launch) (D : va_G) (cI cY cJ cQ : ClassId) (sz : Nat) (ad : Nat → Nat) (tn td lf hn : Int32) (ho hc hp hs pt ps ha re : Nat → Int32) (o : Int32) (k : Int32) (d : Int32)  (h1 : 0 ≤ hn.toInt) (h2 : hn.toInt ≤ 40) (h3 : okH hn ho hc)  : Met l yX10_percent wsX10_percent ({ frames := 3, cells := 0, slots := 0, locals := 85 }) (cPre D (ty4 cI cY cJ cQ) [((ad 0), .inr (10, [.ref (ad 1), .ref (ad 2), .ref (ad 3), .ref (ad 4), .ref (ad 5), .ref (ad 6), .ref (ad 7), .ref (ad 8), .ref (ad 9), .ref (ad 10), .ref (ad 11), .int tn, .int td, .int lf])), ((ad 2), .inr (3, [.ref (ad 23), .ref (ad 24), .ref (ad 25), .ref (ad 26), .int hn, .ref (ad 27), .ref (ad 28), .ref (ad 29), .ref (ad 30)])), ((ad 23), .inl (cI, 40, .inl ho)), ((ad 24), .inl (cI, 40, .inl hc)), ((ad 25), .inl (cI, 40, .inl hp)), ((ad 26), .inl (cI, 40, .inl hs)), ((ad 27), .inl (cI, 200, .inl pt)), ((ad 28), .inl (cI, 200, .inl ps)), ((ad 29), .inl (cI, 20, .inl ha)), ((ad 30), .inl (cI, 10, .inl re))] sz [.ref (ad 0), .int o, .int k, .int d]) (va_Qi (fun (r : Int32) (u : (Nat → Int32) × (Nat → Int32) × (Nat → Int32) × (Nat → Int32)) => r = sp_percent hn ho hc hp hs o k d) (cB D (ty4 cI cY cJ cQ) (fun (u : (Nat → Int32) × (Nat → Int32) × (Nat → Int32) × (Nat → Int32)) => [((ad 0), .inr (10, [.ref (ad 1), .ref (ad 2), .ref (ad 3), .ref (ad 4), .ref (ad 5), .ref (ad 6), .ref (ad 7), .ref (ad 8), .ref (ad 9), .ref (ad 10), .ref (ad 11), .int tn, .int td, .int lf])), ((ad 2), .inr (3, [.ref (ad 23), .ref (ad 24), .ref (ad 25), .ref (ad 26), .int hn, .ref (ad 27), .ref (ad 28), .ref (ad 29), .ref (ad 30)])), ((ad 23), .inl (cI, 40, .inl ho)), ((ad 24), .inl (cI, 40, .inl hc)), ((ad 25), .inl (cI, 40, .inl hp)), ((ad 26), .inl (cI, 40, .inl hs)), ((ad 27), .inl (cI, 200, .inl u.1)), ((ad 28), .inl (cI, 200, .inl u.2.1)), ((ad 29), .inl (cI, 20, .inl u.2.2.1)), ((ad 30), .inl (cI, 10, .inl u.2.2.2))]) (va_A [((ad 0), .inr (10, [.ref (ad 1), .ref (ad 2), .ref (ad 3), .ref (ad 4), .ref (ad 5), .ref (ad 6), .ref (ad 7), .ref (ad 8), .ref (ad 9), .ref (ad 10), .ref (ad 11), .int tn, .int td, .int lf])), ((ad 2), .inr (3, [.ref (ad 23), .ref (ad 24), .ref (ad 25), .ref (ad 26), .int hn, .ref (ad 27), .ref (ad 28), .ref (ad 29), .ref (ad 30)])), ((ad 23), .inl (cI, 40, .inl ho)), ((ad 24), .inl (cI, 40, .inl hc)), ((ad 25), .inl (cI, 40, .inl hp)), ((ad 26), .inl (cI, 40, .inl hs)), ((ad 27), .inl (cI, 200, .inl pt)), ((ad 28), .inl (cI, 200, .inl ps)), ((ad 29), .inl (cI, 20, .inl ha)), ((ad 30), .inl (cI, 10, .inl re))] sz)) (va_A [((ad 0), .inr (10, [.ref (ad 1), .ref (ad 2), .ref (ad 3), .ref (ad 4), .ref (ad 5), .ref (ad 6), .ref (ad 7), .ref (ad 8), .ref (ad 9), .ref (ad 10), .ref (ad 11), .int tn, .int td, .int lf])), ((ad 2), .inr (3, [.ref (ad 23), .ref (ad 24), .ref (ad 25), .ref (ad 26), .int hn, .ref (ad 27), .ref (ad 28), .ref (ad 29), .ref (ad 30)])), ((ad 23), .inl (cI, 40, .inl ho)), ((ad 24), .inl (cI, 40, .inl hc)), ((ad 25), .inl (cI, 40, .inl hp)), ((ad 26), .inl (cI, 40, .inl hs)), ((ad 27), .inl (cI, 200, .inl pt)), ((ad 28), .inl (cI, 200, .inl ps)), ((ad 29), .inl (cI, 20, .inl ha)), ((ad 30), .inl (cI, 10, .inl re))] sz)) 0 0 (va_A [((ad 0), .inr (10, [.ref (ad 1), .ref (ad 2), .ref (ad 3), .ref (ad 4), .ref (ad 5), .ref (ad 6), .ref (ad 7), .ref (ad 8), .ref (ad 9), .ref (ad 10), .ref (ad 11), .int tn, .int td, .int lf])), ((ad 2), .inr (3, [.ref (ad 23), .ref (ad 24), .ref (ad 25), .ref (ad 26), .int hn, .ref (ad 27), .ref (ad 28), .ref (ad 29), .ref (ad 30)])), ((ad 23), .inl (cI, 40, .inl ho)), ((ad 24), .inl (cI, 40, .inl hc)), ((ad 25), .inl (cI, 40, .inl hp)), ((ad 26), .inl (cI, 40, .inl hs)), ((ad 27), .inl (cI, 200, .inl pt)), ((ad 28), .inl (cI, 200, .inl ps)), ((ad 29), .inl (cI, 20, .inl ha)), ((ad 30), .inl (cI, 10, .inl re))] sz) := by
  refine Met.ofW (cc := cX10_percent) (maxL := 4) (ret := (some .int)) (by decide) rfl ?_
  intro p e s m args below meth c s₁ B hml hv
  obtain ⟨rfl, hsz, hP, hK, hD0, hN⟩ := hv
  have hx := B.exec
  have hb := B.bytes
  have hr := B.returns
  have hts := atoms_spec (ws := wsX10_percent) B.pre
  have hown : s.vm.findClass RX10 = some m.cls := findClass_of_methodNamed B.named
  have hlocks := B.notSynchronized
  subst hsz
  have hD := hD0.self (sz := s.heap.size)
  generalize hAe : va_A [((ad 0), .inr (10, [.ref (ad 1), .ref (ad 2), .ref (ad 3), .ref (ad 4), .ref (ad 5), .ref (ad 6), .ref (ad 7), .ref (ad 8), .ref (ad 9), .ref (ad 10), .ref (ad 11), .int tn, .int td, .int lf])), ((ad 2), .inr (3, [.ref (ad 23), .ref (ad 24), .ref (ad 25), .ref (ad 26), .int hn, .ref (ad 27), .ref (ad 28), .ref (ad 29), .ref (ad 30)])), ((ad 23), .inl (cI, 40, .inl ho)), ((ad 24), .inl (cI, 40, .inl hc)), ((ad 25), .inl (cI, 40, .inl hp)), ((ad 26), .inl (cI, 40, .inl hs)), ((ad 27), .inl (cI, 200, .inl pt)), ((ad 28), .inl (cI, 200, .inl ps)), ((ad 29), .inl (cI, 20, .inl ha)), ((ad 30), .inl (cI, 10, .inl re))] s.heap.size = A at hD ⊢
  have hA : ∀ q : Nat, s.heap.size ≤ q → A q := fun q h => by rw [← hAe]; exact Or.inr h
  have hS : va_S A s.heap s.heap [] := va_S.rf
  have hP : va_P D vwCl [((ad 0), .inr (10, [.ref (ad 1), .ref (ad 2), .ref (ad 3), .ref (ad 4), .ref (ad 5), .ref (ad 6), .ref (ad 7), .ref (ad 8), .ref (ad 9), .ref (ad 10), .ref (ad 11), .int tn, .int td, .int lf])), ((ad 2), .inr (3, [.ref (ad 23), .ref (ad 24), .ref (ad 25), .ref (ad 26), .int hn, .ref (ad 27), .ref (ad 28), .ref (ad 29), .ref (ad 30)])), ((ad 23), .inl (cI, 40, .inl ho)), ((ad 24), .inl (cI, 40, .inl hc)), ((ad 25), .inl (cI, 40, .inl hp)), ((ad 26), .inl (cI, 40, .inl hs)), ((ad 27), .inl (cI, 200, .inl pt)), ((ad 28), .inl (cI, 200, .inl ps)), ((ad 29), .inl (cI, 20, .inl ha)), ((ad 30), .inl (cI, 10, .inl re))] s.heap := hP
  have hl := lv_entry ([.ref (ad 0), .int o, .int k, .int d]) (n := 4) (Nat.le_of_ble_eq_true rfl)
  rw [lg_entry_eq]
  generalize (lg_sl ([.ref (ad 0), .int o, .int k, .int d]) ++ List.replicate (4 - (lg_sl ([.ref (ad 0), .int o, .int k, .int d])).length) Slot.unset).toArray = ls at hl ⊢
  have hl : lv_has ls 4 [(0, .ref (ad 0)), (1, .int o), (2, .int k), (3, .int d)] := hl
  have k0 : (0 : Int32).toInt = 0 := by decide
  refine lv_iload_n hx hb dX10_percent_0 rfl (lv_at hl 1 rfl) ?_
  refine lv_iload_n hx hb dX10_percent_1 rfl (lv_at hl 2 rfl) ?_
  refine st_i (wr := [((ad 0), .inr (10, [.ref (ad 1), .ref (ad 2), .ref (ad 3), .ref (ad 4), .ref (ad 5), .ref (ad 6), .ref (ad 7), .ref (ad 8), .ref (ad 9), .ref (ad 10), .ref (ad 11), .int tn, .int td, .int lf])), ((ad 2), .inr (3, [.ref (ad 23), .ref (ad 24), .ref (ad 25), .ref (ad 26), .int hn, .ref (ad 27), .ref (ad 28), .ref (ad 29), .ref (ad 30)])), ((ad 23), .inl (cI, 40, .inl ho)), ((ad 24), .inl (cI, 40, .inl hc)), ((ad 25), .inl (cI, 40, .inl hp)), ((ad 26), .inl (cI, 40, .inl hs)), ((ad 27), .inl (cI, 200, .inl pt)), ((ad 28), .inl (cI, 200, .inl ps)), ((ad 29), .inl (cI, 20, .inl ha)), ((ad 30), .inl (cI, 10, .inl re))]) (va_runS (As := [.int o, .int k]) (rest := []) ⟨hx, hb, hml, hown, hts⟩ (ct_X10_isPair l D cI cY cJ cQ _ o k) (va_cwS 2 hts gX10_percent_X10_isPair rfl rfl rfl cdX10_isPair ⟨Nat.le_of_ble_eq_true rfl, Nat.le_of_ble_eq_true rfl⟩) (cPreS (hP.sub [] rfl) hK (hD.sub [] (by decide +kernel) rfl) hN) rfl rfl hl.1 rfl (lv_room (Nat.le_of_ble_eq_true rfl)) dX10_percent_2 ⟨Nat.le_of_ble_eq_true rfl, Nat.le_of_ble_eq_true rfl⟩) hP hD hS hA [] [0, 1, 2, 3, 4, 5, 6, 7, 8, 9] rfl rfl (by decide +kernel) (by decide +kernel) (fun r3 u1 H locs hw2 => ?_)
  clear hP hD hS
  intro hP hD hS
  replace hw2 : r3 = if 0 ≤ o.toInt ∧ o.toInt < 20 ∧ 10 ≤ k.toInt ∧ k.toInt < 20 ∧ ¬ o.toInt = k.toInt then 1 else 0 := hw2
  replace hP : va_P D vwCl [((ad 0), .inr (10, [.ref (ad 1), .ref (ad 2), .ref (ad 3), .ref (ad 4), .ref (ad 5), .ref (ad 6), .ref (ad 7), .ref (ad 8), .ref (ad 9), .ref (ad 10), .ref (ad 11), .int tn, .int td, .int lf])), ((ad 2), .inr (3, [.ref (ad 23), .ref (ad 24), .ref (ad 25), .ref (ad 26), .int hn, .ref (ad 27), .ref (ad 28), .ref (ad 29), .ref (ad 30)])), ((ad 23), .inl (cI, 40, .inl ho)), ((ad 24), .inl (cI, 40, .inl hc)), ((ad 25), .inl (cI, 40, .inl hp)), ((ad 26), .inl (cI, 40, .inl hs)), ((ad 27), .inl (cI, 200, .inl pt)), ((ad 28), .inl (cI, 200, .inl ps)), ((ad 29), .inl (cI, 20, .inl ha)), ((ad 30), .inl (cI, 10, .inl re))] H := hP
  replace hD : va_D A [((ad 0), .inr (10, [.ref (ad 1), .ref (ad 2), .ref (ad 3), .ref (ad 4), .ref (ad 5), .ref (ad 6), .ref (ad 7), .ref (ad 8), .ref (ad 9), .ref (ad 10), .ref (ad 11), .int tn, .int td, .int lf])), ((ad 2), .inr (3, [.ref (ad 23), .ref (ad 24), .ref (ad 25), .ref (ad 26), .int hn, .ref (ad 27), .ref (ad 28), .ref (ad 29), .ref (ad 30)])), ((ad 23), .inl (cI, 40, .inl ho)), ((ad 24), .inl (cI, 40, .inl hc)), ((ad 25), .inl (cI, 40, .inl hp)), ((ad 26), .inl (cI, 40, .inl hs)), ((ad 27), .inl (cI, 200, .inl pt)), ((ad 28), .inl (cI, 200, .inl ps)), ((ad 29), .inl (cI, 20, .inl ha)), ((ad 30), .inl (cI, 10, .inl re))] := hD
  refine lv_if_eq (tgt := 15) hx hb dX10_percent_5 (by decide) (fun c4 => ?_) (fun c4 => ?_)
  · skip
    have f5 := bo_f hw2 c4
    refine lv_ldc hx hb hown (hts (Cond.constant RX10 89 (-1000001)) (List.mem_cons_of_mem _ (List.mem_append_left _ (List.mem_append_left _ (List.mem_append_left _ (List.mem_of_getElem? (i := 0) rfl)))))) dX10_percent_15 ?_
    have hP9 := hP.sub (ws' := [((ad 0), .inr (10, [.ref (ad 1), .ref (ad 2), .ref (ad 3), .ref (ad 4), .ref (ad 5), .ref (ad 6), .ref (ad 7), .ref (ad 8), .ref (ad 9), .ref (ad 10), .ref (ad 11), .int tn, .int td, .int lf])), ((ad 2), .inr (3, [.ref (ad 23), .ref (ad 24), .ref (ad 25), .ref (ad 26), .int hn, .ref (ad 27), .ref (ad 28), .ref (ad 29), .ref (ad 30)])), ((ad 23), .inl (cI, 40, .inl ho)), ((ad 24), .inl (cI, 40, .inl hc)), ((ad 25), .inl (cI, 40, .inl hp)), ((ad 26), .inl (cI, 40, .inl hs)), ((ad 27), .inl (cI, 200, .inl pt)), ((ad 28), .inl (cI, 200, .inl ps)), ((ad 29), .inl (cI, 20, .inl ha)), ((ad 30), .inl (cI, 10, .inl re))]) [0, 1, 2, 3, 4, 5, 6, 7, 8, 9] rfl
    have hD9 := hD.sub (ws' := [((ad 0), .inr (10, [.ref (ad 1), .ref (ad 2), .ref (ad 3), .ref (ad 4), .ref (ad 5), .ref (ad 6), .ref (ad 7), .ref (ad 8), .ref (ad 9), .ref (ad 10), .ref (ad 11), .int tn, .int td, .int lf])), ((ad 2), .inr (3, [.ref (ad 23), .ref (ad 24), .ref (ad 25), .ref (ad 26), .int hn, .ref (ad 27), .ref (ad 28), .ref (ad 29), .ref (ad 30)])), ((ad 23), .inl (cI, 40, .inl ho)), ((ad 24), .inl (cI, 40, .inl hc)), ((ad 25), .inl (cI, 40, .inl hp)), ((ad 26), .inl (cI, 40, .inl hs)), ((ad 27), .inl (cI, 200, .inl pt)), ((ad 28), .inl (cI, 200, .inl ps)), ((ad 29), .inl (cI, 20, .inl ha)), ((ad 30), .inl (cI, 10, .inl re))]) [0, 1, 2, 3, 4, 5, 6, 7, 8, 9] (by decide +kernel) rfl
    exact W.iret (v := (-1000001)) hx hb hr (fun t ht hW => ⟨⟨(-1000001), (pt, ps, ha, re), rfl, (by unfold sp_percent; rw [if_neg (by omega)]), by rw [ht]; exact hP9, va_K.moved hW.alike hK, hD9⟩, hS.F ht⟩) hS.2.2 dX10_percent_17
  · skip
    have f6 := bo_t hw2 c4
    refine lv_iload_n hx hb dX10_percent_8 rfl (lv_at hl 3 rfl) ?_
    refine st_i (wr := [((ad 0), .inr (10, [.ref (ad 1), .ref (ad 2), .ref (ad 3), .ref (ad 4), .ref (ad 5), .ref (ad 6), .ref (ad 7), .ref (ad 8), .ref (ad 9), .ref (ad 10), .ref (ad 11), .int tn, .int td, .int lf])), ((ad 2), .inr (3, [.ref (ad 23), .ref (ad 24), .ref (ad 25), .ref (ad 26), .int hn, .ref (ad 27), .ref (ad 28), .ref (ad 29), .ref (ad 30)])), ((ad 23), .inl (cI, 40, .inl ho)), ((ad 24), .inl (cI, 40, .inl hc)), ((ad 25), .inl (cI, 40, .inl hp)), ((ad 26), .inl (cI, 40, .inl hs)), ((ad 27), .inl (cI, 200, .inl pt)), ((ad 28), .inl (cI, 200, .inl ps)), ((ad 29), .inl (cI, 20, .inl ha)), ((ad 30), .inl (cI, 10, .inl re))]) (va_runS (As := [.int d]) (rest := []) ⟨hx, hb, hml, hown, hts⟩ (ct_X10_isDay l D cI cY cJ cQ _ d) (va_cwS 1 hts gX10_percent_X10_isDay rfl rfl rfl cdX10_isDay ⟨Nat.le_of_ble_eq_true rfl, Nat.le_of_ble_eq_true rfl⟩) (cPreS (hP.sub [] rfl) hK (hD.sub [] (by decide +kernel) rfl) hN) rfl rfl hl.1 rfl (lv_room (Nat.le_of_ble_eq_true rfl)) dX10_percent_9 ⟨Nat.le_of_ble_eq_true rfl, Nat.le_of_ble_eq_true rfl⟩) hP hD hS hA [] [0, 1, 2, 3, 4, 5, 6, 7, 8, 9] rfl rfl (by decide +kernel) (by decide +kernel) (fun r9 u7 H locs hw8 => ?_)
    clear hP hD hS
    intro hP hD hS
    replace hw8 : r9 = if 0 ≤ d.toInt ∧ d.toInt < 10000 then 1 else 0 := hw8
    replace hP : va_P D vwCl [((ad 0), .inr (10, [.ref (ad 1), .ref (ad 2), .ref (ad 3), .ref (ad 4), .ref (ad 5), .ref (ad 6), .ref (ad 7), .ref (ad 8), .ref (ad 9), .ref (ad 10), .ref (ad 11), .int tn, .int td, .int lf])), ((ad 2), .inr (3, [.ref (ad 23), .ref (ad 24), .ref (ad 25), .ref (ad 26), .int hn, .ref (ad 27), .ref (ad 28), .ref (ad 29), .ref (ad 30)])), ((ad 23), .inl (cI, 40, .inl ho)), ((ad 24), .inl (cI, 40, .inl hc)), ((ad 25), .inl (cI, 40, .inl hp)), ((ad 26), .inl (cI, 40, .inl hs)), ((ad 27), .inl (cI, 200, .inl pt)), ((ad 28), .inl (cI, 200, .inl ps)), ((ad 29), .inl (cI, 20, .inl ha)), ((ad 30), .inl (cI, 10, .inl re))] H := hP
    replace hD : va_D A [((ad 0), .inr (10, [.ref (ad 1), .ref (ad 2), .ref (ad 3), .ref (ad 4), .ref (ad 5), .ref (ad 6), .ref (ad 7), .ref (ad 8), .ref (ad 9), .ref (ad 10), .ref (ad 11), .int tn, .int td, .int lf])), ((ad 2), .inr (3, [.ref (ad 23), .ref (ad 24), .ref (ad 25), .ref (ad 26), .int hn, .ref (ad 27), .ref (ad 28), .ref (ad 29), .ref (ad 30)])), ((ad 23), .inl (cI, 40, .inl ho)), ((ad 24), .inl (cI, 40, .inl hc)), ((ad 25), .inl (cI, 40, .inl hp)), ((ad 26), .inl (cI, 40, .inl hs)), ((ad 27), .inl (cI, 200, .inl pt)), ((ad 28), .inl (cI, 200, .inl ps)), ((ad 29), .inl (cI, 20, .inl ha)), ((ad 30), .inl (cI, 10, .inl re))] := hD
    refine lv_if_ne (tgt := 18) hx hb dX10_percent_12 (by decide) (fun c10 => ?_) (fun c10 => ?_)
    · skip
      have f11 := bo_t hw8 c10
      refine lv_aload_n hx hb dX10_percent_18 rfl (lv_at hl 0 rfl) ?_
      refine va_get (D := D) (ci := 10) (v := .ref (ad 2)) (C := RX10) (T := TX10) (N := 14) hx hb hts inX10_percent_X10 hown hK hP 0 rfl rfl 1 (by decide) (hts (Cond.fieldLink RX10 19 "PortRooms" "holdings" "LPortRooms$Holdings;") (List.mem_cons_of_mem _ (List.mem_append_left _ (List.mem_append_left _ (List.mem_append_left _ (List.mem_of_getElem? (i := 1) rfl)))))) (fun _ h9 => h9) rfl dX10_percent_19 ?_
      refine lv_iload_n hx hb dX10_percent_22 rfl (lv_at hl 3 rfl) ?_
      refine st_v (wr := [((ad 0), .inr (10, [.ref (ad 1), .ref (ad 2), .ref (ad 3), .ref (ad 4), .ref (ad 5), .ref (ad 6), .ref (ad 7), .ref (ad 8), .ref (ad 9), .ref (ad 10), .ref (ad 11), .int tn, .int td, .int lf]))]) (va_runV (C := RX3) (As := [.int d]) (rest := []) ⟨hx, hb, hml, hown, hts⟩ (ct_X3_lookAt l D cI cY cJ cQ _ ad hn ho hc hp hs pt ps ha re d (by omega) (by omega) (by assumption)) (cwV 1 hts gX10_percent_X3_lookAt rfl rfl rfl ⟨rfl, cdX3_lookAt⟩ ⟨Nat.le_of_ble_eq_true rfl, Nat.le_of_ble_eq_true rfl⟩) (cPreV (hP.sub [1, 2, 3, 4, 5, 6, 7, 8, 9] rfl) hK (hD.sub [1, 2, 3, 4, 5, 6, 7, 8, 9] (by decide +kernel) rfl) hN (ci := 3) (q0 := 0) rfl rfl) rfl rfl hl.1 rfl (lv_room (Nat.le_of_ble_eq_true rfl)) dX10_percent_23 ⟨Nat.le_of_ble_eq_true rfl, Nat.le_of_ble_eq_true rfl⟩) hP hD hS hA [1, 2, 3, 4, 5, 6, 7, 8, 9] [0] rfl rfl (by decide +kernel) (by decide +kernel) (fun u12 H locs hw13 => ?_)
      clear hP hD hS
      intro hP hD hS
      obtain ⟨pt_15, ps_16, ha_17, re_18⟩ := u12
      replace hw13 : pcOk pt_15 ps_16 ho hc hp hs d hn.toNatClampNeg := hw13
      replace hP : va_P D vwCl [((ad 0), .inr (10, [.ref (ad 1), .ref (ad 2), .ref (ad 3), .ref (ad 4), .ref (ad 5), .ref (ad 6), .ref (ad 7), .ref (ad 8), .ref (ad 9), .ref (ad 10), .ref (ad 11), .int tn, .int td, .int lf])), ((ad 2), .inr (3, [.ref (ad 23), .ref (ad 24), .ref (ad 25), .ref (ad 26), .int hn, .ref (ad 27), .ref (ad 28), .ref (ad 29), .ref (ad 30)])), ((ad 23), .inl (cI, 40, .inl ho)), ((ad 24), .inl (cI, 40, .inl hc)), ((ad 25), .inl (cI, 40, .inl hp)), ((ad 26), .inl (cI, 40, .inl hs)), ((ad 27), .inl (cI, 200, .inl pt_15)), ((ad 28), .inl (cI, 200, .inl ps_16)), ((ad 29), .inl (cI, 20, .inl ha_17)), ((ad 30), .inl (cI, 10, .inl re_18))] H := hP
      replace hD : va_D A [((ad 0), .inr (10, [.ref (ad 1), .ref (ad 2), .ref (ad 3), .ref (ad 4), .ref (ad 5), .ref (ad 6), .ref (ad 7), .ref (ad 8), .ref (ad 9), .ref (ad 10), .ref (ad 11), .int tn, .int td, .int lf])), ((ad 2), .inr (3, [.ref (ad 23), .ref (ad 24), .ref (ad 25), .ref (ad 26), .int hn, .ref (ad 27), .ref (ad 28), .ref (ad 29), .ref (ad 30)])), ((ad 23), .inl (cI, 40, .inl ho)), ((ad 24), .inl (cI, 40, .inl hc)), ((ad 25), .inl (cI, 40, .inl hp)), ((ad 26), .inl (cI, 40, .inl hs)), ((ad 27), .inl (cI, 200, .inl pt_15)), ((ad 28), .inl (cI, 200, .inl ps_16)), ((ad 29), .inl (cI, 20, .inl ha_17)), ((ad 30), .inl (cI, 10, .inl re_18))] := hD
      refine lv_aload_n hx hb dX10_percent_26 rfl (lv_at hl 0 rfl) ?_
      refine va_get (D := D) (ci := 10) (v := .ref (ad 2)) (C := RX10) (T := TX10) (N := 14) hx hb hts inX10_percent_X10 hown hK hP 0 rfl rfl 1 (by decide) (hts (Cond.fieldLink RX10 19 "PortRooms" "holdings" "LPortRooms$Holdings;") (List.mem_cons_of_mem _ (List.mem_append_left _ (List.mem_append_left _ (List.mem_append_left _ (List.mem_of_getElem? (i := 1) rfl)))))) (fun _ h9 => h9) rfl dX10_percent_27 ?_
      refine lv_iload_n hx hb dX10_percent_30 rfl (lv_at hl 1 rfl) ?_
      refine lv_iload_n hx hb dX10_percent_31 rfl (lv_at hl 2 rfl) ?_
      refine st_i (wr := [((ad 0), .inr (10, [.ref (ad 1), .ref (ad 2), .ref (ad 3), .ref (ad 4), .ref (ad 5), .ref (ad 6), .ref (ad 7), .ref (ad 8), .ref (ad 9), .ref (ad 10), .ref (ad 11), .int tn, .int td, .int lf])), ((ad 23), .inl (cI, 40, .inl ho)), ((ad 24), .inl (cI, 40, .inl hc)), ((ad 25), .inl (cI, 40, .inl hp)), ((ad 26), .inl (cI, 40, .inl hs)), ((ad 28), .inl (cI, 200, .inl ps_16)), ((ad 29), .inl (cI, 20, .inl ha_17)), ((ad 30), .inl (cI, 10, .inl re_18))]) (va_runV (C := RX3) (As := [.int o, .int k]) (rest := []) ⟨hx, hb, hml, hown, hts⟩ (ct_X3_partOf l D cI cY cJ cQ _ ad hn pt_15 o k (by omega) (by omega) (by omega) (by omega)) (cwV 2 hts gX10_percent_X3_partOf rfl rfl rfl ⟨rfl, cdX3_partOf⟩ ⟨Nat.le_of_ble_eq_true rfl, Nat.le_of_ble_eq_true rfl⟩) (cPreV (hP.sub [1, 6] rfl) hK (hD.sub [1, 6] (by decide +kernel) rfl) hN (ci := 3) (q0 := 0) rfl rfl) rfl rfl hl.1 rfl (lv_room (Nat.le_of_ble_eq_true rfl)) dX10_percent_32 ⟨Nat.le_of_ble_eq_true rfl, Nat.le_of_ble_eq_true rfl⟩) hP hD hS hA [1, 6] [0, 2, 3, 4, 5, 7, 8, 9] rfl rfl (by decide +kernel) (by decide +kernel) (fun r21 u19 H locs hw20 => ?_)
      clear hP hD hS
      intro hP hD hS
      replace hw20 : r21 = pt_15 (o.toNatClampNeg * 10 + k.toNatClampNeg - 10) := hw20
      replace hP : va_P D vwCl [((ad 0), .inr (10, [.ref (ad 1), .ref (ad 2), .ref (ad 3), .ref (ad 4), .ref (ad 5), .ref (ad 6), .ref (ad 7), .ref (ad 8), .ref (ad 9), .ref (ad 10), .ref (ad 11), .int tn, .int td, .int lf])), ((ad 23), .inl (cI, 40, .inl ho)), ((ad 24), .inl (cI, 40, .inl hc)), ((ad 25), .inl (cI, 40, .inl hp)), ((ad 26), .inl (cI, 40, .inl hs)), ((ad 28), .inl (cI, 200, .inl ps_16)), ((ad 29), .inl (cI, 20, .inl ha_17)), ((ad 30), .inl (cI, 10, .inl re_18)), ((ad 2), .inr (3, [.ref (ad 23), .ref (ad 24), .ref (ad 25), .ref (ad 26), .int hn, .ref (ad 27), .ref (ad 28), .ref (ad 29), .ref (ad 30)])), ((ad 27), .inl (cI, 200, .inl pt_15))] H := hP
      replace hD : va_D A [((ad 0), .inr (10, [.ref (ad 1), .ref (ad 2), .ref (ad 3), .ref (ad 4), .ref (ad 5), .ref (ad 6), .ref (ad 7), .ref (ad 8), .ref (ad 9), .ref (ad 10), .ref (ad 11), .int tn, .int td, .int lf])), ((ad 23), .inl (cI, 40, .inl ho)), ((ad 24), .inl (cI, 40, .inl hc)), ((ad 25), .inl (cI, 40, .inl hp)), ((ad 26), .inl (cI, 40, .inl hs)), ((ad 28), .inl (cI, 200, .inl ps_16)), ((ad 29), .inl (cI, 20, .inl ha_17)), ((ad 30), .inl (cI, 10, .inl re_18)), ((ad 2), .inr (3, [.ref (ad 23), .ref (ad 24), .ref (ad 25), .ref (ad 26), .int hn, .ref (ad 27), .ref (ad 28), .ref (ad 29), .ref (ad 30)])), ((ad 27), .inl (cI, 200, .inl pt_15))] := hD
      have hP9 := hP.sub (ws' := [((ad 0), .inr (10, [.ref (ad 1), .ref (ad 2), .ref (ad 3), .ref (ad 4), .ref (ad 5), .ref (ad 6), .ref (ad 7), .ref (ad 8), .ref (ad 9), .ref (ad 10), .ref (ad 11), .int tn, .int td, .int lf])), ((ad 2), .inr (3, [.ref (ad 23), .ref (ad 24), .ref (ad 25), .ref (ad 26), .int hn, .ref (ad 27), .ref (ad 28), .ref (ad 29), .ref (ad 30)])), ((ad 23), .inl (cI, 40, .inl ho)), ((ad 24), .inl (cI, 40, .inl hc)), ((ad 25), .inl (cI, 40, .inl hp)), ((ad 26), .inl (cI, 40, .inl hs)), ((ad 27), .inl (cI, 200, .inl pt_15)), ((ad 28), .inl (cI, 200, .inl ps_16)), ((ad 29), .inl (cI, 20, .inl ha_17)), ((ad 30), .inl (cI, 10, .inl re_18))]) [0, 8, 1, 2, 3, 4, 9, 5, 6, 7] rfl
      have hD9 := hD.sub (ws' := [((ad 0), .inr (10, [.ref (ad 1), .ref (ad 2), .ref (ad 3), .ref (ad 4), .ref (ad 5), .ref (ad 6), .ref (ad 7), .ref (ad 8), .ref (ad 9), .ref (ad 10), .ref (ad 11), .int tn, .int td, .int lf])), ((ad 2), .inr (3, [.ref (ad 23), .ref (ad 24), .ref (ad 25), .ref (ad 26), .int hn, .ref (ad 27), .ref (ad 28), .ref (ad 29), .ref (ad 30)])), ((ad 23), .inl (cI, 40, .inl ho)), ((ad 24), .inl (cI, 40, .inl hc)), ((ad 25), .inl (cI, 40, .inl hp)), ((ad 26), .inl (cI, 40, .inl hs)), ((ad 27), .inl (cI, 200, .inl pt_15)), ((ad 28), .inl (cI, 200, .inl ps_16)), ((ad 29), .inl (cI, 20, .inl ha_17)), ((ad 30), .inl (cI, 10, .inl re_18))]) [0, 8, 1, 2, 3, 4, 9, 5, 6, 7] (by decide +kernel) rfl
      exact W.iret (v := r21) hx hb hr (fun t ht hW => ⟨⟨r21, (pt_15, ps_16, ha_17, re_18), rfl, (by unfold sp_percent; rw [if_pos (by omega)]; exact hw20.trans (congrArg Prod.fst (hw13 o k (by omega) (by omega) (by omega) (by omega)))), by rw [ht]; exact hP9, va_K.moved hW.alike hK, hD9⟩, hS.F ht⟩) hS.2.2 dX10_percent_35
    · skip
      have f22 := bo_f hw8 c10
      refine lv_ldc hx hb hown (hts (Cond.constant RX10 89 (-1000001)) (List.mem_cons_of_mem _ (List.mem_append_left _ (List.mem_append_left _ (List.mem_append_left _ (List.mem_of_getElem? (i := 0) rfl)))))) dX10_percent_15 ?_
      have hP9 := hP.sub (ws' := [((ad 0), .inr (10, [.ref (ad 1), .ref (ad 2), .ref (ad 3), .ref (ad 4), .ref (ad 5), .ref (ad 6), .ref (ad 7), .ref (ad 8), .ref (ad 9), .ref (ad 10), .ref (ad 11), .int tn, .int td, .int lf])), ((ad 2), .inr (3, [.ref (ad 23), .ref (ad 24), .ref (ad 25), .ref (ad 26), .int hn, .ref (ad 27), .ref (ad 28), .ref (ad 29), .ref (ad 30)])), ((ad 23), .inl (cI, 40, .inl ho)), ((ad 24), .inl (cI, 40, .inl hc)), ((ad 25), .inl (cI, 40, .inl hp)), ((ad 26), .inl (cI, 40, .inl hs)), ((ad 27), .inl (cI, 200, .inl pt)), ((ad 28), .inl (cI, 200, .inl ps)), ((ad 29), .inl (cI, 20, .inl ha)), ((ad 30), .inl (cI, 10, .inl re))]) [0, 1, 2, 3, 4, 5, 6, 7, 8, 9] rfl
      have hD9 := hD.sub (ws' := [((ad 0), .inr (10, [.ref (ad 1), .ref (ad 2), .ref (ad 3), .ref (ad 4), .ref (ad 5), .ref (ad 6), .ref (ad 7), .ref (ad 8), .ref (ad 9), .ref (ad 10), .ref (ad 11), .int tn, .int td, .int lf])), ((ad 2), .inr (3, [.ref (ad 23), .ref (ad 24), .ref (ad 25), .ref (ad 26), .int hn, .ref (ad 27), .ref (ad 28), .ref (ad 29), .ref (ad 30)])), ((ad 23), .inl (cI, 40, .inl ho)), ((ad 24), .inl (cI, 40, .inl hc)), ((ad 25), .inl (cI, 40, .inl hp)), ((ad 26), .inl (cI, 40, .inl hs)), ((ad 27), .inl (cI, 200, .inl pt)), ((ad 28), .inl (cI, 200, .inl ps)), ((ad 29), .inl (cI, 20, .inl ha)), ((ad 30), .inl (cI, 10, .inl re))]) [0, 1, 2, 3, 4, 5, 6, 7, 8, 9] (by decide +kernel) rfl
      exact W.iret (v := (-1000001)) hx hb hr (fun t ht hW => ⟨⟨(-1000001), (pt, ps, ha, re), rfl, (by unfold sp_percent; rw [if_neg (by omega)]), by rw [ht]; exact hP9, va_K.moved hW.alike hK, hD9⟩, hS.F ht⟩) hS.2.2 dX10_percent_17

set_option maxHeartbeats 4000000 in
set_option maxRecDepth 100000 in
theorem ct_X3_leadingTo (l : Launch) (D : va_G) (cI cY cJ cQ : ClassId) (sz : Nat) (ad : Nat → Nat) (hn : Int32) (re : Nat → Int32) (a : Int32)   : Met l yX3_leadingTo wsX3_leadingTo ({ frames := 1, cells := 0, slots := 0, locals := 21 }) (cPre D (ty4 cI cY cJ cQ) [((ad 2), .inr (3, [.ref (ad 23), .ref (ad 24), .ref (ad 25), .ref (ad 26), .int hn, .ref (ad 27), .ref (ad 28), .ref (ad 29), .ref (ad 30)])), ((ad 30), .inl (cI, 10, .inl re))] sz [.ref (ad 2), .int a]) (va_Qi (fun (r : Int32) (u : Unit) => True) (cB D (ty4 cI cY cJ cQ) (fun (u : Unit) => [((ad 2), .inr (3, [.ref (ad 23), .ref (ad 24), .ref (ad 25), .ref (ad 26), .int hn, .ref (ad 27), .ref (ad 28), .ref (ad 29), .ref (ad 30)])), ((ad 30), .inl (cI, 10, .inl re))]) (va_A [((ad 2), .inr (3, [.ref (ad 23), .ref (ad 24), .ref (ad 25), .ref (ad 26), .int hn, .ref (ad 27), .ref (ad 28), .ref (ad 29), .ref (ad 30)])), ((ad 30), .inl (cI, 10, .inl re))] sz)) (va_A [((ad 2), .inr (3, [.ref (ad 23), .ref (ad 24), .ref (ad 25), .ref (ad 26), .int hn, .ref (ad 27), .ref (ad 28), .ref (ad 29), .ref (ad 30)])), ((ad 30), .inl (cI, 10, .inl re))] sz)) 0 0 (va_A [((ad 2), .inr (3, [.ref (ad 23), .ref (ad 24), .ref (ad 25), .ref (ad 26), .int hn, .ref (ad 27), .ref (ad 28), .ref (ad 29), .ref (ad 30)])), ((ad 30), .inl (cI, 10, .inl re))] sz) := by
  refine Met.ofW (cc := cX3_leadingTo) (maxL := 4) (ret := (some .int)) (by decide) rfl ?_
  intro p e s m args below meth c s₁ B hml hv
  obtain ⟨rfl, hsz, hP, hK, hD0, hN⟩ := hv
  have hx := B.exec
  have hb := B.bytes
  have hr := B.returns
  have hts := atoms_spec (ws := wsX3_leadingTo) B.pre
  have hown : s.vm.findClass RX3 = some m.cls := findClass_of_methodNamed B.named
  have hlocks := B.notSynchronized
  subst hsz
  have hD := hD0.self (sz := s.heap.size)
  generalize hAe : va_A [((ad 2), .inr (3, [.ref (ad 23), .ref (ad 24), .ref (ad 25), .ref (ad 26), .int hn, .ref (ad 27), .ref (ad 28), .ref (ad 29), .ref (ad 30)])), ((ad 30), .inl (cI, 10, .inl re))] s.heap.size = A at hD ⊢
  have hA : ∀ q : Nat, s.heap.size ≤ q → A q := fun q h => by rw [← hAe]; exact Or.inr h
  have hS : va_S A s.heap s.heap [] := va_S.rf
  have hP : va_P D vwCl [((ad 2), .inr (3, [.ref (ad 23), .ref (ad 24), .ref (ad 25), .ref (ad 26), .int hn, .ref (ad 27), .ref (ad 28), .ref (ad 29), .ref (ad 30)])), ((ad 30), .inl (cI, 10, .inl re))] s.heap := hP
  have hl := lv_entry ([.ref (ad 2), .int a]) (n := 4) (Nat.le_of_ble_eq_true rfl)
  rw [lg_entry_eq]
  generalize (lg_sl ([.ref (ad 2), .int a]) ++ List.replicate (4 - (lg_sl ([.ref (ad 2), .int a])).length) Slot.unset).toArray = ls at hl ⊢
  have hl : lv_has ls 4 [(0, .ref (ad 2)), (1, .int a)] := hl
  have k0 : (0 : Int32).toInt = 0 := by decide
  have k1 : (1 : Int32).toInt = 1 := by decide
  have k10 : (10 : Int32).toInt = 10 := by decide
  refine lv_iconst (v := 1) hx hb dX3_leadingTo_0 (by decide) ?_
  refine lv_iload_n hx hb dX3_leadingTo_1 rfl (lv_at hl 1 rfl) ?_
  refine lv_ishl hx hb dX3_leadingTo_2 ?_
  refine lv_topi (fun v1 ev1 => ?_)
  refine lv_istore_n (lv' := [(2, .int v1), (0, .ref (ad 2)), (1, .int a)]) hx hb dX3_leadingTo_3 rfl hl (by decide) rfl (fun ls hl => ?_)
  refine lv_iconst (v := 0) hx hb dX3_leadingTo_4 (by decide) ?_
  refine lv_istore_n (lv' := [(3, .int 0), (2, .int v1), (0, .ref (ad 2)), (1, .int a)]) hx hb dX3_leadingTo_5 rfl hl (by decide) rfl (fun ls hl => ?_)
  refine st_loop 6 (fun _ => []) (fun (z : Int32 × Int32) (ls : Array Slot) (H : Heap) (locs : List Loc) => match z with | (q6_2, q6_3) => (0 ≤ q6_3.toInt) ∧ (q6_3.toInt ≤ 10) ∧ lv_has ls 4 [(0, .ref (ad 2)), (1, .int a), (2, .int q6_2), (3, .int q6_3)] ∧ va_P D vwCl [((ad 2), .inr (3, [.ref (ad 23), .ref (ad 24), .ref (ad 25), .ref (ad 26), .int hn, .ref (ad 27), .ref (ad 28), .ref (ad 29), .ref (ad 30)])), ((ad 30), .inl (cI, 10, .inl re))] H ∧ va_D A [((ad 2), .inr (3, [.ref (ad 23), .ref (ad 24), .ref (ad 25), .ref (ad 26), .int hn, .ref (ad 27), .ref (ad 28), .ref (ad 29), .ref (ad 30)])), ((ad 30), .inl (cI, 10, .inl re))] ∧ va_S A s.heap H locs) (fun (z : Int32 × Int32) => match z with | (q6_2, q6_3) => 10 - q6_3.toInt) ?_ ?_ (v1, (0 : Int32)) ⟨(by omega), (by omega), lv_sub hl [2, 3, 1, 0] rfl, hP, hD, hS⟩
  · rintro ⟨q6_2, q6_3⟩ ls H locs ⟨g2, g3, hl, hP, hD, hS⟩
    show (0 : Int) ≤ 10 - q6_3.toInt
    omega
  · rintro n6 ih4 ⟨q6_2, q6_3⟩ ls H locs ⟨g2, g3, hl, hP, hD, hS⟩ hm5
    have hm5 : 10 - q6_3.toInt < (n6 : Int) + 1 := hm5
    replace hl : lv_has ls 4 [(0, .ref (ad 2)), (1, .int a), (2, .int q6_2), (3, .int q6_3)] := hl
    replace hP : va_P D vwCl [((ad 2), .inr (3, [.ref (ad 23), .ref (ad 24), .ref (ad 25), .ref (ad 26), .int hn, .ref (ad 27), .ref (ad 28), .ref (ad 29), .ref (ad 30)])), ((ad 30), .inl (cI, 10, .inl re))] H := hP
    replace hD : va_D A [((ad 2), .inr (3, [.ref (ad 23), .ref (ad 24), .ref (ad 25), .ref (ad 26), .int hn, .ref (ad 27), .ref (ad 28), .ref (ad 29), .ref (ad 30)])), ((ad 30), .inl (cI, 10, .inl re))] := hD
    show W _ _ _ _ _ _ _ _ _ _ _ _ _ _ _ (F0 m 6 ls [])
    refine lv_iload_n hx hb dX3_leadingTo_6 rfl (lv_at hl 3 rfl) ?_
    refine lv_bipush (v := 10) hx hb dX3_leadingTo_7 (by decide) ?_
    refine lv_icmp_ge (tgt := 37) hx hb dX3_leadingTo_9 (by decide) (fun c7 => ?_) (fun c7 => ?_)
    · skip
      have f8 := i_le c7
      refine lv_iload_n hx hb dX3_leadingTo_37 rfl (lv_at hl 2 rfl) ?_
      have hP9 := hP.sub (ws' := [((ad 2), .inr (3, [.ref (ad 23), .ref (ad 24), .ref (ad 25), .ref (ad 26), .int hn, .ref (ad 27), .ref (ad 28), .ref (ad 29), .ref (ad 30)])), ((ad 30), .inl (cI, 10, .inl re))]) [0, 1] rfl
      have hD9 := hD.sub (ws' := [((ad 2), .inr (3, [.ref (ad 23), .ref (ad 24), .ref (ad 25), .ref (ad 26), .int hn, .ref (ad 27), .ref (ad 28), .ref (ad 29), .ref (ad 30)])), ((ad 30), .inl (cI, 10, .inl re))]) [0, 1] (by decide +kernel) rfl
      exact W.iret (v := q6_2) hx hb hr (fun t ht hW => ⟨⟨q6_2, (), rfl, trivial, by rw [ht]; exact hP9, va_K.moved hW.alike hK, hD9⟩, hS.F ht⟩) hS.2.2 dX3_leadingTo_38
    · skip
      have f9 := i_nle c7
      refine lv_aload_n hx hb dX3_leadingTo_12 rfl (lv_at hl 0 rfl) ?_
      refine va_get (D := D) (ci := 3) (v := .ref (ad 30)) (C := RX3) (T := TX3) (N := 9) hx hb hts inX3_leadingTo_X3 hown hK hP 0 rfl rfl 8 (by decide) (hts (Cond.fieldLink RX3 33 "PortRooms$Holdings" "reach" "[I") (List.mem_cons_of_mem _ (List.mem_append_left _ (List.mem_of_getElem? (i := 0) rfl)))) (fun _ h9 => h9) rfl dX3_leadingTo_13 ?_
      refine lv_iload_n hx hb dX3_leadingTo_16 rfl (lv_at hl 3 rfl) ?_
      refine va_iald hx hb hK hP 1 0 rfl rfl (i_in (by omega) (by omega)) dX3_leadingTo_17 ?_
      refine lv_topi (fun v10 ev10 => ?_)
      refine lv_iload_n hx hb dX3_leadingTo_18 rfl (lv_at hl 1 rfl) ?_
      refine st_i (wr := [((ad 2), .inr (3, [.ref (ad 23), .ref (ad 24), .ref (ad 25), .ref (ad 26), .int hn, .ref (ad 27), .ref (ad 28), .ref (ad 29), .ref (ad 30)])), ((ad 30), .inl (cI, 10, .inl re))]) (va_runSN (As := [.int v10, .int a]) (rest := []) ⟨hx, hb, hml, hown, hts⟩ (ct_X10_hasBit l D cI cY cJ cQ _ v10 a) ⟨va_cnB 2 hts gX3_leadingTo_X10_hasBit_n62 rfl rfl rfl (hN.1 (RX3, 62, yX10_hasBit, "PortRooms") (by decide +kernel)) (hts (Cond.initialized RX10) (List.mem_cons_of_mem _ (List.mem_append_left _ (List.mem_of_getElem? (i := 2) rfl)))) cdX10_hasBit ⟨Nat.le_of_ble_eq_true rfl, Nat.le_of_ble_eq_true rfl⟩, (hts (Cond.static yX10_hasBit) (List.mem_cons_of_mem _ (List.mem_append_left _ (List.mem_of_getElem? (i := 1) rfl)))), trivial⟩ (cPreS (hP.sub [] rfl) hK (hD.sub [] (by decide +kernel) rfl) hN) rfl rfl hl.1 rfl (lv_room (Nat.le_of_ble_eq_true rfl)) dX3_leadingTo_19 ⟨Nat.le_of_ble_eq_true rfl, Nat.le_of_ble_eq_true rfl⟩) hP hD hS hA [] [0, 1] rfl rfl (by decide +kernel) (by decide +kernel) (fun r13 u11 H locs hw12 => ?_)
      clear hP hD hS
      intro hP hD hS
      replace hw12 : r13 = if hbP v10 a then 1 else 0 := hw12
      replace hP : va_P D vwCl [((ad 2), .inr (3, [.ref (ad 23), .ref (ad 24), .ref (ad 25), .ref (ad 26), .int hn, .ref (ad 27), .ref (ad 28), .ref (ad 29), .ref (ad 30)])), ((ad 30), .inl (cI, 10, .inl re))] H := hP
      replace hD : va_D A [((ad 2), .inr (3, [.ref (ad 23), .ref (ad 24), .ref (ad 25), .ref (ad 26), .int hn, .ref (ad 27), .ref (ad 28), .ref (ad 29), .ref (ad 30)])), ((ad 30), .inl (cI, 10, .inl re))] := hD
      refine lv_if_eq (tgt := 31) hx hb dX3_leadingTo_22 (by decide) (fun c14 => ?_) (fun c14 => ?_)
      · skip
        have f15 := bo_f hw12 c14
        obtain ⟨v16, ev16⟩ : ∃ y : Int32, y = q6_3 + 1 := ⟨_, rfl⟩
        try have tv16 : v16.toInt = q6_3.toInt + 1 := by rw [ev16]; exact (i_add (x := q6_3) (y := (1 : Int32)) (by rw [k1]; omega) (by rw [k1]; omega)).trans (by rw [k1])
        refine lv_iinc (v := v16) (lv' := [(3, .int v16), (0, .ref (ad 2)), (1, .int a), (2, .int q6_2)]) hx hb dX3_leadingTo_31 hl (k := 3) rfl (by rw [ev16]; rfl) (by decide) rfl (fun ls hl => ?_)
        refine lv_goto (tgt := 6) hx hb dX3_leadingTo_34 (by decide) ?_
        exact ih4 (q6_2, v16) ls H locs ⟨(by omega), (by omega), lv_sub hl [1, 2, 3, 0] rfl, hP.sub [0, 1] rfl, hD.sub [0, 1] (by decide +kernel) rfl, hS⟩ (by show 10 - v16.toInt < _; omega)
      · skip
        have f17 := bo_t hw12 c14
        refine lv_iload_n hx hb dX3_leadingTo_25 rfl (lv_at hl 2 rfl) ?_
        refine lv_iconst (v := 1) hx hb dX3_leadingTo_26 (by decide) ?_
        refine lv_iload_n hx hb dX3_leadingTo_27 rfl (lv_at hl 3 rfl) ?_
        refine lv_ishl hx hb dX3_leadingTo_28 ?_
        refine lv_topi (fun v18 ev18 => ?_)
        refine lv_ior hx hb dX3_leadingTo_29 ?_
        refine lv_topi (fun v19 ev19 => ?_)
        refine lv_istore_n (lv' := [(2, .int v19), (0, .ref (ad 2)), (1, .int a), (3, .int q6_3)]) hx hb dX3_leadingTo_30 rfl hl (by decide) rfl (fun ls hl => ?_)
        obtain ⟨v20, ev20⟩ : ∃ y : Int32, y = q6_3 + 1 := ⟨_, rfl⟩
        try have tv20 : v20.toInt = q6_3.toInt + 1 := by rw [ev20]; exact (i_add (x := q6_3) (y := (1 : Int32)) (by rw [k1]; omega) (by rw [k1]; omega)).trans (by rw [k1])
        refine lv_iinc (v := v20) (lv' := [(3, .int v20), (2, .int v19), (0, .ref (ad 2)), (1, .int a)]) hx hb dX3_leadingTo_31 hl (k := 3) rfl (by rw [ev20]; rfl) (by decide) rfl (fun ls hl => ?_)
        refine lv_goto (tgt := 6) hx hb dX3_leadingTo_34 (by decide) ?_
        exact ih4 (v19, v20) ls H locs ⟨(by omega), (by omega), lv_sub hl [2, 3, 1, 0] rfl, hP.sub [0, 1] rfl, hD.sub [0, 1] (by decide +kernel) rfl, hS⟩ (by show 10 - v20.toInt < _; omega)
