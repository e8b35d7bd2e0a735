section
theorem cdX1_setIn : yX1_setIn.cls ≠ "java/lang/invoke/MethodHandle" ∧ yX1_setIn.cls ≠ "java/lang/invoke/VarHandle" ∧ (parseMethodDescriptor yX1_setIn.desc).map (fun d => d.parameters.length) = some 1 := by decide +kernel
theorem cdX1_worthsOf : yX1_worthsOf.cls ≠ "java/lang/invoke/MethodHandle" ∧ yX1_worthsOf.cls ≠ "java/lang/invoke/VarHandle" ∧ (parseMethodDescriptor yX1_worthsOf.desc).map (fun d => d.parameters.length) = some 1 := by decide +kernel
theorem cdX1_fits : yX1_fits.cls ≠ "java/lang/invoke/MethodHandle" ∧ yX1_fits.cls ≠ "java/lang/invoke/VarHandle" ∧ (parseMethodDescriptor yX1_fits.desc).map (fun d => d.parameters.length) = some 2 := by decide +kernel
theorem cdJ6_bitCount_0f7a4 : yJ6_bitCount_0f7a4.cls ≠ "java/lang/invoke/MethodHandle" ∧ yJ6_bitCount_0f7a4.cls ≠ "java/lang/invoke/VarHandle" ∧ (parseMethodDescriptor yJ6_bitCount_0f7a4.desc).map (fun d => d.parameters.length) = some 1 := by decide +kernel
theorem Gd_X1_setIn : gdA wsX1_setIn := gd_cons (by decide +kernel) (gd_app (gd_all (ws := wsX1_setIn_o1) (by decide +kernel)) Gd_X10)
theorem inX1_setIn_X1 : ∀ w ∈ u_ws RX1 TX1 6, w ∈ wsX1_setIn := fun _ h => (List.mem_cons_of_mem _ (List.mem_append_right _ h))
theorem inX1_setInRooms_X1 : ∀ w ∈ u_ws RX1 TX1 6, w ∈ wsX1_setInRooms := fun _ h => (List.mem_cons_of_mem _ (List.mem_append_right _ (List.mem_append_left _ h)))
theorem Gd_X1_worthsOf : gdA wsX1_worthsOf := gd_cons (by decide +kernel) (gd_app (gd_all (ws := wsX1_worthsOf_o1) (by decide +kernel)) (gd_app Gd_X10 Gd_X10_hasBit))
theorem inX1_worthsOf_X1 : ∀ w ∈ u_ws RX1 TX1 6, w ∈ wsX1_worthsOf := fun _ h => (List.mem_cons_of_mem _ (List.mem_append_right _ (List.mem_append_left _ h)))
theorem Gd_J6_bitCount_0f7a4 : gdA wsJ6_bitCount_0f7a4 := gd_cons (by decide +kernel) (gd_all (ws := wsJ6_bitCount_0f7a4_o1) (by decide +kernel))
theorem Gd_X1_fits : gdA wsX1_fits := gd_cons (by decide +kernel) (gd_app (gd_all (ws := wsX1_fits_o1) (by decide +kernel)) (gd_app (gd_app Gd_X10 Gd_X1_setIn) (gd_app Gd_J6_bitCount_0f7a4 Gd_X1_worthsOf)))
theorem inX1_fits_X1 : ∀ w ∈ u_ws RX1 TX1 6, w ∈ wsX1_fits := fun _ h => (List.mem_cons_of_mem _ (List.mem_append_right _ (List.mem_append_left _ (List.mem_append_left _ h))))
theorem inX10_room_X1 : ∀ w ∈ u_ws RX1 TX1 6, w ∈ wsX10_room := fun _ h => (List.mem_cons_of_mem _ (List.mem_append_right _ (List.mem_append_left _ (List.mem_append_right _ h))))
theorem inX10_room_X10 : ∀ w ∈ u_ws RX10 TX10 14, w ∈ wsX10_room := fun _ h => (List.mem_cons_of_mem _ (List.mem_append_right _ (List.mem_append_left _ (List.mem_append_left _ h))))
theorem inX10_move_X10 : ∀ w ∈ u_ws RX10 TX10 14, w ∈ wsX10_move := fun _ h => (List.mem_cons_of_mem _ (List.mem_append_right _ (List.mem_append_left _ (List.mem_append_left _ (List.mem_append_left _ h)))))
theorem inX10_move_X1 : ∀ w ∈ u_ws RX1 TX1 6, w ∈ wsX10_move := fun _ h => (List.mem_cons_of_mem _ (List.mem_append_right _ (List.mem_append_left _ (List.mem_append_left _ (List.mem_append_right _ h)))))
theorem inX10_inside_X10 : ∀ w ∈ u_ws RX10 TX10 14, w ∈ wsX10_inside := fun _ h => (List.mem_cons_of_mem _ (List.mem_append_right _ (List.mem_append_left _ (List.mem_append_left _ (List.mem_append_left _ h)))))
theorem dX1_setIn_all0 : decode cX1_setIn 0 = .ok (.iconst 0, 1) ∧ decode cX1_setIn 1 = .ok (.istore_n 2, 1) ∧ decode cX1_setIn 2 = .ok (.iconst 0, 1) ∧ decode cX1_setIn 3 = .ok (.istore_n 3, 1) ∧ decode cX1_setIn 4 = .ok (.iload_n 3, 1) ∧ decode cX1_setIn 5 = .ok (.aload_n 0, 1) ∧ decode cX1_setIn 6 = .ok (.getfield 35, 3) ∧ decode cX1_setIn 9 = .ok (.if_icmp .ge 25, 3) ∧ decode cX1_setIn 12 = .ok (.aload_n 0, 1) ∧ decode cX1_setIn 13 = .ok (.getfield 18, 3) ∧ decode cX1_setIn 16 = .ok (.iload_n 3, 1) ∧ decode cX1_setIn 17 = .ok (.iaload, 1) := by decide +kernel
theorem dX1_setIn_0 : decode cX1_setIn 0 = .ok (.iconst 0, 1) := dX1_setIn_all0.1
theorem dX1_setIn_1 : decode cX1_setIn 1 = .ok (.istore_n 2, 1) := dX1_setIn_all0.2.1
theorem dX1_setIn_2 : decode cX1_setIn 2 = .ok (.iconst 0, 1) := dX1_setIn_all0.2.2.1
theorem dX1_setIn_3 : decode cX1_setIn 3 = .ok (.istore_n 3, 1) := dX1_setIn_all0.2.2.2.1
theorem dX1_setIn_4 : decode cX1_setIn 4 = .ok (.iload_n 3, 1) := dX1_setIn_all0.2.2.2.2.1
theorem dX1_setIn_5 : decode cX1_setIn 5 = .ok (.aload_n 0, 1) := dX1_setIn_all0.2.2.2.2.2.1
theorem dX1_setIn_6 : decode cX1_setIn 6 = .ok (.getfield 35, 3) := dX1_setIn_all0.2.2.2.2.2.2.1
theorem dX1_setIn_9 : decode cX1_setIn 9 = .ok (.if_icmp .ge 25, 3) := dX1_setIn_all0.2.2.2.2.2.2.2.1
theorem dX1_setIn_12 : decode cX1_setIn 12 = .ok (.aload_n 0, 1) := dX1_setIn_all0.2.2.2.2.2.2.2.2.1
theorem dX1_setIn_13 : decode cX1_setIn 13 = .ok (.getfield 18, 3) := dX1_setIn_all0.2.2.2.2.2.2.2.2.2.1
theorem dX1_setIn_16 : decode cX1_setIn 16 = .ok (.iload_n 3, 1) := dX1_setIn_all0.2.2.2.2.2.2.2.2.2.2.1
theorem dX1_setIn_17 : decode cX1_setIn 17 = .ok (.iaload, 1) := dX1_setIn_all0.2.2.2.2.2.2.2.2.2.2.2
theorem dX1_setIn_all1 : decode cX1_setIn 18 = .ok (.iload_n 1, 1) ∧ decode cX1_setIn 19 = .ok (.if_icmp .ne 9, 3) ∧ decode cX1_setIn 22 = .ok (.iload_n 2, 1) ∧ decode cX1_setIn 23 = .ok (.iconst 1, 1) ∧ decode cX1_setIn 24 = .ok (.iload_n 3, 1) ∧ decode cX1_setIn 25 = .ok (.ishl, 1) ∧ decode cX1_setIn 26 = .ok (.ior, 1) ∧ decode cX1_setIn 27 = .ok (.istore_n 2, 1) ∧ decode cX1_setIn 28 = .ok (.iinc 3 1, 3) ∧ decode cX1_setIn 31 = .ok (.goto (-27), 3) ∧ decode cX1_setIn 34 = .ok (.iload_n 2, 1) ∧ decode cX1_setIn 35 = .ok (.ireturn, 1) := by decide +kernel
theorem dX1_setIn_18 : decode cX1_setIn 18 = .ok (.iload_n 1, 1) := dX1_setIn_all1.1
theorem dX1_setIn_19 : decode cX1_setIn 19 = .ok (.if_icmp .ne 9, 3) := dX1_setIn_all1.2.1
theorem dX1_setIn_22 : decode cX1_setIn 22 = .ok (.iload_n 2, 1) := dX1_setIn_all1.2.2.1
theorem dX1_setIn_23 : decode cX1_setIn 23 = .ok (.iconst 1, 1) := dX1_setIn_all1.2.2.2.1
theorem dX1_setIn_24 : decode cX1_setIn 24 = .ok (.iload_n 3, 1) := dX1_setIn_all1.2.2.2.2.1
theorem dX1_setIn_25 : decode cX1_setIn 25 = .ok (.ishl, 1) := dX1_setIn_all1.2.2.2.2.2.1
theorem dX1_setIn_26 : decode cX1_setIn 26 = .ok (.ior, 1) := dX1_setIn_all1.2.2.2.2.2.2.1
theorem dX1_setIn_27 : decode cX1_setIn 27 = .ok (.istore_n 2, 1) := dX1_setIn_all1.2.2.2.2.2.2.2.1
theorem dX1_setIn_28 : decode cX1_setIn 28 = .ok (.iinc 3 1, 3) := dX1_setIn_all1.2.2.2.2.2.2.2.2.1
theorem dX1_setIn_31 : decode cX1_setIn 31 = .ok (.goto (-27), 3) := dX1_setIn_all1.2.2.2.2.2.2.2.2.2.1
theorem dX1_setIn_34 : decode cX1_setIn 34 = .ok (.iload_n 2, 1) := dX1_setIn_all1.2.2.2.2.2.2.2.2.2.2.1
theorem dX1_setIn_35 : decode cX1_setIn 35 = .ok (.ireturn, 1) := dX1_setIn_all1.2.2.2.2.2.2.2.2.2.2.2
theorem ggX1_setInRooms_X1_setIn : GoodIn wsX1_setInRooms wsX1_setIn := goodIn_s (fun _ h => wm_t (wm_r (wm_r h))) Gd_X1_setIn
theorem gX1_setInRooms_X1_setIn : GoodIn wsX1_setInRooms (wsV RX1 39 RX1 yX1_setIn wsX1_setIn) := goodIn_V (own := RX1) (idx := 39) (C := RX1) (y := yX1_setIn) (wm_t (wm_l (wm_i 2 rfl))) (wm_t (wm_l (wm_i 3 rfl))) (wm_t (wm_l (wm_i 4 rfl))) (wm_t (wm_l (wm_i 5 rfl))) ggX1_setInRooms_X1_setIn
theorem dX1_setInRooms_all0 : decode cX1_setInRooms 0 = .ok (.iconst 1, 1) ∧ decode cX1_setInRooms 1 = .ok (.aload_n 0, 1) ∧ decode cX1_setInRooms 2 = .ok (.getfield 35, 3) ∧ decode cX1_setInRooms 5 = .ok (.ishl, 1) ∧ decode cX1_setInRooms 6 = .ok (.iconst 1, 1) ∧ decode cX1_setInRooms 7 = .ok (.isub, 1) ∧ decode cX1_setInRooms 8 = .ok (.istore_n 1, 1) ∧ decode cX1_setInRooms 9 = .ok (.iload_n 1, 1) ∧ decode cX1_setInRooms 10 = .ok (.aload_n 0, 1) ∧ decode cX1_setInRooms 11 = .ok (.ldc 27, 2) ∧ decode cX1_setInRooms 13 = .ok (.invokevirtual 39, 3) ∧ decode cX1_setInRooms 16 = .ok (.iconst (-1), 1) := by decide +kernel
theorem dX1_setInRooms_0 : decode cX1_setInRooms 0 = .ok (.iconst 1, 1) := dX1_setInRooms_all0.1
theorem dX1_setInRooms_1 : decode cX1_setInRooms 1 = .ok (.aload_n 0, 1) := dX1_setInRooms_all0.2.1
theorem dX1_setInRooms_2 : decode cX1_setInRooms 2 = .ok (.getfield 35, 3) := dX1_setInRooms_all0.2.2.1
theorem dX1_setInRooms_5 : decode cX1_setInRooms 5 = .ok (.ishl, 1) := dX1_setInRooms_all0.2.2.2.1
theorem dX1_setInRooms_6 : decode cX1_setInRooms 6 = .ok (.iconst 1, 1) := dX1_setInRooms_all0.2.2.2.2.1
theorem dX1_setInRooms_7 : decode cX1_setInRooms 7 = .ok (.isub, 1) := dX1_setInRooms_all0.2.2.2.2.2.1
theorem dX1_setInRooms_8 : decode cX1_setInRooms 8 = .ok (.istore_n 1, 1) := dX1_setInRooms_all0.2.2.2.2.2.2.1
theorem dX1_setInRooms_9 : decode cX1_setInRooms 9 = .ok (.iload_n 1, 1) := dX1_setInRooms_all0.2.2.2.2.2.2.2.1
theorem dX1_setInRooms_10 : decode cX1_setInRooms 10 = .ok (.aload_n 0, 1) := dX1_setInRooms_all0.2.2.2.2.2.2.2.2.1
theorem dX1_setInRooms_11 : decode cX1_setInRooms 11 = .ok (.ldc 27, 2) := dX1_setInRooms_all0.2.2.2.2.2.2.2.2.2.1
theorem dX1_setInRooms_13 : decode cX1_setInRooms 13 = .ok (.invokevirtual 39, 3) := dX1_setInRooms_all0.2.2.2.2.2.2.2.2.2.2.1
theorem dX1_setInRooms_16 : decode cX1_setInRooms 16 = .ok (.iconst (-1), 1) := dX1_setInRooms_all0.2.2.2.2.2.2.2.2.2.2.2
theorem dX1_setInRooms_all1 : decode cX1_setInRooms 17 = .ok (.ixor, 1) ∧ decode cX1_setInRooms 18 = .ok (.iand, 1) ∧ decode cX1_setInRooms 19 = .ok (.ireturn, 1) := by decide +kernel
theorem dX1_setInRooms_17 : decode cX1_setInRooms 17 = .ok (.ixor, 1) := dX1_setInRooms_all1.1
theorem dX1_setInRooms_18 : decode cX1_setInRooms 18 = .ok (.iand, 1) := dX1_setInRooms_all1.2.1
theorem dX1_setInRooms_19 : decode cX1_setInRooms 19 = .ok (.ireturn, 1) := dX1_setInRooms_all1.2.2
theorem ggX1_worthsOf_X10_hasBit : GoodIn wsX1_worthsOf wsX10_hasBit := goodIn_s (fun _ h => wm_t (wm_r (wm_r h))) Gd_X10_hasBit
set_option maxRecDepth 20000 in
theorem gX1_worthsOf_X10_hasBit_n43 : GoodIn wsX1_worthsOf (wsX10_hasBit) := ggX1_worthsOf_X10_hasBit
theorem dX1_worthsOf_all0 : decode cX1_worthsOf 0 = .ok (.iconst 0, 1) ∧ decode cX1_worthsOf 1 = .ok (.istore_n 2, 1) ∧ decode cX1_worthsOf 2 = .ok (.iconst 0, 1) ∧ decode cX1_worthsOf 3 = .ok (.istore_n 3, 1) ∧ decode cX1_worthsOf 4 = .ok (.iload_n 3, 1) ∧ decode cX1_worthsOf 5 = .ok (.aload_n 0, 1) ∧ decode cX1_worthsOf 6 = .ok (.getfield 35, 3) ∧ decode cX1_worthsOf 9 = .ok (.if_icmp .ge 26, 3) ∧ decode cX1_worthsOf 12 = .ok (.iload_n 1, 1) ∧ decode cX1_worthsOf 13 = .ok (.iload_n 3, 1) ∧ decode cX1_worthsOf 14 = .ok (.invokestatic 43, 3) ∧ decode cX1_worthsOf 17 = .ok (.ifCond .eq 12, 3) := by decide +kernel
theorem dX1_worthsOf_0 : decode cX1_worthsOf 0 = .ok (.iconst 0, 1) := dX1_worthsOf_all0.1
theorem dX1_worthsOf_1 : decode cX1_worthsOf 1 = .ok (.istore_n 2, 1) := dX1_worthsOf_all0.2.1
theorem dX1_worthsOf_2 : decode cX1_worthsOf 2 = .ok (.iconst 0, 1) := dX1_worthsOf_all0.2.2.1
theorem dX1_worthsOf_3 : decode cX1_worthsOf 3 = .ok (.istore_n 3, 1) := dX1_worthsOf_all0.2.2.2.1
theorem dX1_worthsOf_4 : decode cX1_worthsOf 4 = .ok (.iload_n 3, 1) := dX1_worthsOf_all0.2.2.2.2.1
theorem dX1_worthsOf_5 : decode cX1_worthsOf 5 = .ok (.aload_n 0, 1) := dX1_worthsOf_all0.2.2.2.2.2.1
theorem dX1_worthsOf_6 : decode cX1_worthsOf 6 = .ok (.getfield 35, 3) := dX1_worthsOf_all0.2.2.2.2.2.2.1
theorem dX1_worthsOf_9 : decode cX1_worthsOf 9 = .ok (.if_icmp .ge 26, 3) := dX1_worthsOf_all0.2.2.2.2.2.2.2.1
theorem dX1_worthsOf_12 : decode cX1_worthsOf 12 = .ok (.iload_n 1, 1) := dX1_worthsOf_all0.2.2.2.2.2.2.2.2.1
theorem dX1_worthsOf_13 : decode cX1_worthsOf 13 = .ok (.iload_n 3, 1) := dX1_worthsOf_all0.2.2.2.2.2.2.2.2.2.1
theorem dX1_worthsOf_14 : decode cX1_worthsOf 14 = .ok (.invokestatic 43, 3) := dX1_worthsOf_all0.2.2.2.2.2.2.2.2.2.2.1
theorem dX1_worthsOf_17 : decode cX1_worthsOf 17 = .ok (.ifCond .eq 12, 3) := dX1_worthsOf_all0.2.2.2.2.2.2.2.2.2.2.2
theorem dX1_worthsOf_all1 : decode cX1_worthsOf 20 = .ok (.iload_n 2, 1) ∧ decode cX1_worthsOf 21 = .ok (.aload_n 0, 1) ∧ decode cX1_worthsOf 22 = .ok (.getfield 15, 3) ∧ decode cX1_worthsOf 25 = .ok (.iload_n 3, 1) ∧ decode cX1_worthsOf 26 = .ok (.iaload, 1) ∧ decode cX1_worthsOf 27 = .ok (.iadd, 1) ∧ decode cX1_worthsOf 28 = .ok (.istore_n 2, 1) ∧ decode cX1_worthsOf 29 = .ok (.iinc 3 1, 3) ∧ decode cX1_worthsOf 32 = .ok (.goto (-28), 3) ∧ decode cX1_worthsOf 35 = .ok (.iload_n 2, 1) ∧ decode cX1_worthsOf 36 = .ok (.ireturn, 1) := by decide +kernel
theorem dX1_worthsOf_20 : decode cX1_worthsOf 20 = .ok (.iload_n 2, 1) := dX1_worthsOf_all1.1
theorem dX1_worthsOf_21 : decode cX1_worthsOf 21 = .ok (.aload_n 0, 1) := dX1_worthsOf_all1.2.1
theorem dX1_worthsOf_22 : decode cX1_worthsOf 22 = .ok (.getfield 15, 3) := dX1_worthsOf_all1.2.2.1
theorem dX1_worthsOf_25 : decode cX1_worthsOf 25 = .ok (.iload_n 3, 1) := dX1_worthsOf_all1.2.2.2.1
theorem dX1_worthsOf_26 : decode cX1_worthsOf 26 = .ok (.iaload, 1) := dX1_worthsOf_all1.2.2.2.2.1
theorem dX1_worthsOf_27 : decode cX1_worthsOf 27 = .ok (.iadd, 1) := dX1_worthsOf_all1.2.2.2.2.2.1
theorem dX1_worthsOf_28 : decode cX1_worthsOf 28 = .ok (.istore_n 2, 1) := dX1_worthsOf_all1.2.2.2.2.2.2.1
theorem dX1_worthsOf_29 : decode cX1_worthsOf 29 = .ok (.iinc 3 1, 3) := dX1_worthsOf_all1.2.2.2.2.2.2.2.1
theorem dX1_worthsOf_32 : decode cX1_worthsOf 32 = .ok (.goto (-28), 3) := dX1_worthsOf_all1.2.2.2.2.2.2.2.2.1
theorem dX1_worthsOf_35 : decode cX1_worthsOf 35 = .ok (.iload_n 2, 1) := dX1_worthsOf_all1.2.2.2.2.2.2.2.2.2.1
theorem dX1_worthsOf_36 : decode cX1_worthsOf 36 = .ok (.ireturn, 1) := dX1_worthsOf_all1.2.2.2.2.2.2.2.2.2.2
theorem ggX1_fits_X1_setIn : GoodIn wsX1_fits wsX1_setIn := goodIn_s (fun _ h => wm_t (wm_r (wm_l (wm_r h)))) Gd_X1_setIn
theorem gX1_fits_X1_setIn : GoodIn wsX1_fits (wsV RX1 39 RX1 yX1_setIn wsX1_setIn) := goodIn_V (own := RX1) (idx := 39) (C := RX1) (y := yX1_setIn) (wm_t (wm_l (wm_i 3 rfl))) (wm_t (wm_l (wm_i 4 rfl))) (wm_t (wm_l (wm_i 5 rfl))) (wm_t (wm_l (wm_i 6 rfl))) ggX1_fits_X1_setIn
theorem ggX1_fits_J6_bitCount_0f7a4 : GoodIn wsX1_fits wsJ6_bitCount_0f7a4 := goodIn_s (fun _ h => wm_t (wm_r (wm_r (wm_l h)))) Gd_J6_bitCount_0f7a4
theorem gX1_fits_J6_bitCount_0f7a4 : GoodIn wsX1_fits (va_wsS RX1 47 yJ6_bitCount_0f7a4 wsJ6_bitCount_0f7a4) := goodIn_S (own := RX1) (idx := 47) (y := yJ6_bitCount_0f7a4) (wm_t (wm_l (wm_i 7 rfl))) (wm_t (wm_l (wm_i 8 rfl))) (wm_t (wm_l (wm_i 9 rfl))) ggX1_fits_J6_bitCount_0f7a4
theorem ggX1_fits_X1_worthsOf : GoodIn wsX1_fits wsX1_worthsOf := goodIn_s (fun _ h => wm_t (wm_r (wm_r (wm_r h)))) Gd_X1_worthsOf
theorem gX1_fits_X1_worthsOf : GoodIn wsX1_fits (wsV RX1 52 RX1 yX1_worthsOf wsX1_worthsOf) := goodIn_V (own := RX1) (idx := 52) (C := RX1) (y := yX1_worthsOf) (wm_t (wm_l (wm_i 10 rfl))) (wm_t (wm_l (wm_i 11 rfl))) (wm_t (wm_l (wm_i 12 rfl))) (wm_t (wm_l (wm_i 6 rfl))) ggX1_fits_X1_worthsOf
theorem dX1_fits_all0 : decode cX1_fits 0 = .ok (.aload_n 0, 1) ∧ decode cX1_fits 1 = .ok (.iload_n 2, 1) ∧ decode cX1_fits 2 = .ok (.invokevirtual 39, 3) ∧ decode cX1_fits 5 = .ok (.istore_n 3, 1) ∧ decode cX1_fits 6 = .ok (.iload_n 3, 1) ∧ decode cX1_fits 7 = .ok (.invokestatic 47, 3) ∧ decode cX1_fits 10 = .ok (.aload_n 0, 1) ∧ decode cX1_fits 11 = .ok (.getfield 21, 3) ∧ decode cX1_fits 14 = .ok (.iload_n 2, 1) ∧ decode cX1_fits 15 = .ok (.iaload, 1) ∧ decode cX1_fits 16 = .ok (.if_icmp .ge 28, 3) ∧ decode cX1_fits 19 = .ok (.aload_n 0, 1) := by decide +kernel
theorem dX1_fits_0 : decode cX1_fits 0 = .ok (.aload_n 0, 1) := dX1_fits_all0.1
theorem dX1_fits_1 : decode cX1_fits 1 = .ok (.iload_n 2, 1) := dX1_fits_all0.2.1
theorem dX1_fits_2 : decode cX1_fits 2 = .ok (.invokevirtual 39, 3) := dX1_fits_all0.2.2.1
theorem dX1_fits_5 : decode cX1_fits 5 = .ok (.istore_n 3, 1) := dX1_fits_all0.2.2.2.1
theorem dX1_fits_6 : decode cX1_fits 6 = .ok (.iload_n 3, 1) := dX1_fits_all0.2.2.2.2.1
theorem dX1_fits_7 : decode cX1_fits 7 = .ok (.invokestatic 47, 3) := dX1_fits_all0.2.2.2.2.2.1
theorem dX1_fits_10 : decode cX1_fits 10 = .ok (.aload_n 0, 1) := dX1_fits_all0.2.2.2.2.2.2.1
theorem dX1_fits_11 : decode cX1_fits 11 = .ok (.getfield 21, 3) := dX1_fits_all0.2.2.2.2.2.2.2.1
theorem dX1_fits_14 : decode cX1_fits 14 = .ok (.iload_n 2, 1) := dX1_fits_all0.2.2.2.2.2.2.2.2.1
theorem dX1_fits_15 : decode cX1_fits 15 = .ok (.iaload, 1) := dX1_fits_all0.2.2.2.2.2.2.2.2.2.1
theorem dX1_fits_16 : decode cX1_fits 16 = .ok (.if_icmp .ge 28, 3) := dX1_fits_all0.2.2.2.2.2.2.2.2.2.2.1
theorem dX1_fits_19 : decode cX1_fits 19 = .ok (.aload_n 0, 1) := dX1_fits_all0.2.2.2.2.2.2.2.2.2.2.2
theorem dX1_fits_all1 : decode cX1_fits 20 = .ok (.iload_n 3, 1) ∧ decode cX1_fits 21 = .ok (.invokevirtual 52, 3) ∧ decode cX1_fits 24 = .ok (.aload_n 0, 1) ∧ decode cX1_fits 25 = .ok (.getfield 15, 3) ∧ decode cX1_fits 28 = .ok (.iload_n 1, 1) ∧ decode cX1_fits 29 = .ok (.iaload, 1) ∧ decode cX1_fits 30 = .ok (.iadd, 1) ∧ decode cX1_fits 31 = .ok (.aload_n 0, 1) ∧ decode cX1_fits 32 = .ok (.getfield 24, 3) ∧ decode cX1_fits 35 = .ok (.iload_n 2, 1) ∧ decode cX1_fits 36 = .ok (.iaload, 1) ∧ decode cX1_fits 37 = .ok (.if_icmp .gt 7, 3) := by decide +kernel
theorem dX1_fits_20 : decode cX1_fits 20 = .ok (.iload_n 3, 1) := dX1_fits_all1.1
theorem dX1_fits_21 : decode cX1_fits 21 = .ok (.invokevirtual 52, 3) := dX1_fits_all1.2.1
theorem dX1_fits_24 : decode cX1_fits 24 = .ok (.aload_n 0, 1) := dX1_fits_all1.2.2.1
theorem dX1_fits_25 : decode cX1_fits 25 = .ok (.getfield 15, 3) := dX1_fits_all1.2.2.2.1
theorem dX1_fits_28 : decode cX1_fits 28 = .ok (.iload_n 1, 1) := dX1_fits_all1.2.2.2.2.1
theorem dX1_fits_29 : decode cX1_fits 29 = .ok (.iaload, 1) := dX1_fits_all1.2.2.2.2.2.1
theorem dX1_fits_30 : decode cX1_fits 30 = .ok (.iadd, 1) := dX1_fits_all1.2.2.2.2.2.2.1
theorem dX1_fits_31 : decode cX1_fits 31 = .ok (.aload_n 0, 1) := dX1_fits_all1.2.2.2.2.2.2.2.1
theorem dX1_fits_32 : decode cX1_fits 32 = .ok (.getfield 24, 3) := dX1_fits_all1.2.2.2.2.2.2.2.2.1
theorem dX1_fits_35 : decode cX1_fits 35 = .ok (.iload_n 2, 1) := dX1_fits_all1.2.2.2.2.2.2.2.2.2.1
theorem dX1_fits_36 : decode cX1_fits 36 = .ok (.iaload, 1) := dX1_fits_all1.2.2.2.2.2.2.2.2.2.2.1
theorem dX1_fits_37 : decode cX1_fits 37 = .ok (.if_icmp .gt 7, 3) := dX1_fits_all1.2.2.2.2.2.2.2.2.2.2.2
theorem dX1_fits_all2 : decode cX1_fits 40 = .ok (.iconst 1, 1) ∧ decode cX1_fits 41 = .ok (.goto 4, 3) ∧ decode cX1_fits 44 = .ok (.iconst 0, 1) ∧ decode cX1_fits 45 = .ok (.ireturn, 1) := by decide +kernel
theorem dX1_fits_40 : decode cX1_fits 40 = .ok (.iconst 1, 1) := dX1_fits_all2.1
theorem dX1_fits_41 : decode cX1_fits 41 = .ok (.goto 4, 3) := dX1_fits_all2.2.1
theorem dX1_fits_44 : decode cX1_fits 44 = .ok (.iconst 0, 1) := dX1_fits_all2.2.2.1
theorem dX1_fits_45 : decode cX1_fits 45 = .ok (.ireturn, 1) := dX1_fits_all2.2.2.2
theorem ggX10_room_X10_isBelow : GoodIn wsX10_room wsX10_isBelow := goodIn_s (fun _ h => wm_t (wm_r (wm_r (wm_l h)))) Gd_X10_isBelow
theorem gX10_room_X10_isBelow : GoodIn wsX10_room (va_wsS RX10 85 yX10_isBelow wsX10_isBelow) := goodIn_S (own := RX10) (idx := 85) (y := yX10_isBelow) (wm_t (wm_l (wm_i 5 rfl))) (wm_t (wm_l (wm_i 6 rfl))) (wm_t (wm_l (wm_i 7 rfl))) ggX10_room_X10_isBelow
theorem ggX10_room_X10_isFrom : GoodIn wsX10_room wsX10_isFrom := goodIn_s (fun _ h => wm_t (wm_r (wm_r (wm_r h)))) Gd_X10_isFrom
theorem gX10_room_X10_isFrom : GoodIn wsX10_room (va_wsS RX10 135 yX10_isFrom wsX10_isFrom) := goodIn_S (own := RX10) (idx := 135) (y := yX10_isFrom) (wm_t (wm_l (wm_i 8 rfl))) (wm_t (wm_l (wm_i 9 rfl))) (wm_t (wm_l (wm_i 7 rfl))) ggX10_room_X10_isFrom
theorem dX10_room_all0 : decode cX10_room 0 = .ok (.iload_n 1, 1) ∧ decode cX10_room 1 = .ok (.bipush 6, 2) ∧ decode cX10_room 3 = .ok (.invokestatic 85, 3) ∧ decode cX10_room 6 = .ok (.ifCond .eq 30, 3) ∧ decode cX10_room 9 = .ok (.iload_n 2, 1) ∧ decode cX10_room 10 = .ok (.iconst 2, 1) ∧ decode cX10_room 11 = .ok (.invokestatic 85, 3) ∧ decode cX10_room 14 = .ok (.ifCond .eq 22, 3) ∧ decode cX10_room 17 = .ok (.iload_n 3, 1) ∧ decode cX10_room 18 = .ok (.iconst 0, 1) ∧ decode cX10_room 19 = .ok (.iload_n 2, 1) ∧ decode cX10_room 20 = .ok (.ifCond .ne 8, 3) := by decide +kernel
theorem dX10_room_0 : decode cX10_room 0 = .ok (.iload_n 1, 1) := dX10_room_all0.1
theorem dX10_room_1 : decode cX10_room 1 = .ok (.bipush 6, 2) := dX10_room_all0.2.1
theorem dX10_room_3 : decode cX10_room 3 = .ok (.invokestatic 85, 3) := dX10_room_all0.2.2.1
theorem dX10_room_6 : decode cX10_room 6 = .ok (.ifCond .eq 30, 3) := dX10_room_all0.2.2.2.1
theorem dX10_room_9 : decode cX10_room 9 = .ok (.iload_n 2, 1) := dX10_room_all0.2.2.2.2.1
theorem dX10_room_10 : decode cX10_room 10 = .ok (.iconst 2, 1) := dX10_room_all0.2.2.2.2.2.1
theorem dX10_room_11 : decode cX10_room 11 = .ok (.invokestatic 85, 3) := dX10_room_all0.2.2.2.2.2.2.1
theorem dX10_room_14 : decode cX10_room 14 = .ok (.ifCond .eq 22, 3) := dX10_room_all0.2.2.2.2.2.2.2.1
theorem dX10_room_17 : decode cX10_room 17 = .ok (.iload_n 3, 1) := dX10_room_all0.2.2.2.2.2.2.2.2.1
theorem dX10_room_18 : decode cX10_room 18 = .ok (.iconst 0, 1) := dX10_room_all0.2.2.2.2.2.2.2.2.2.1
theorem dX10_room_19 : decode cX10_room 19 = .ok (.iload_n 2, 1) := dX10_room_all0.2.2.2.2.2.2.2.2.2.2.1
theorem dX10_room_20 : decode cX10_room 20 = .ok (.ifCond .ne 8, 3) := dX10_room_all0.2.2.2.2.2.2.2.2.2.2.2
theorem dX10_room_all1 : decode cX10_room 23 = .ok (.bipush 12, 2) ∧ decode cX10_room 25 = .ok (.goto 5, 3) ∧ decode cX10_room 28 = .ok (.ldc 248, 2) ∧ decode cX10_room 30 = .ok (.invokestatic 135, 3) ∧ decode cX10_room 33 = .ok (.ifCond .ne 6, 3) ∧ decode cX10_room 36 = .ok (.ldc 89, 2) ∧ decode cX10_room 38 = .ok (.ireturn, 1) ∧ decode cX10_room 39 = .ok (.iload_n 2, 1) ∧ decode cX10_room 40 = .ok (.ifCond .ne 13, 3) ∧ decode cX10_room 43 = .ok (.aload_n 0, 1) ∧ decode cX10_room 44 = .ok (.getfield 26, 3) ∧ decode cX10_room 47 = .ok (.getfield 249, 3) := by decide +kernel
theorem dX10_room_23 : decode cX10_room 23 = .ok (.bipush 12, 2) := dX10_room_all1.1
theorem dX10_room_25 : decode cX10_room 25 = .ok (.goto 5, 3) := dX10_room_all1.2.1
theorem dX10_room_28 : decode cX10_room 28 = .ok (.ldc 248, 2) := dX10_room_all1.2.2.1
theorem dX10_room_30 : decode cX10_room 30 = .ok (.invokestatic 135, 3) := dX10_room_all1.2.2.2.1
theorem dX10_room_33 : decode cX10_room 33 = .ok (.ifCond .ne 6, 3) := dX10_room_all1.2.2.2.2.1
theorem dX10_room_36 : decode cX10_room 36 = .ok (.ldc 89, 2) := dX10_room_all1.2.2.2.2.2.1
theorem dX10_room_38 : decode cX10_room 38 = .ok (.ireturn, 1) := dX10_room_all1.2.2.2.2.2.2.1
theorem dX10_room_39 : decode cX10_room 39 = .ok (.iload_n 2, 1) := dX10_room_all1.2.2.2.2.2.2.2.1
theorem dX10_room_40 : decode cX10_room 40 = .ok (.ifCond .ne 13, 3) := dX10_room_all1.2.2.2.2.2.2.2.2.1
theorem dX10_room_43 : decode cX10_room 43 = .ok (.aload_n 0, 1) := dX10_room_all1.2.2.2.2.2.2.2.2.2.1
theorem dX10_room_44 : decode cX10_room 44 = .ok (.getfield 26, 3) := dX10_room_all1.2.2.2.2.2.2.2.2.2.2.1
theorem dX10_room_47 : decode cX10_room 47 = .ok (.getfield 249, 3) := dX10_room_all1.2.2.2.2.2.2.2.2.2.2.2
theorem dX10_room_all2 : decode cX10_room 50 = .ok (.goto 10, 3) ∧ decode cX10_room 53 = .ok (.aload_n 0, 1) ∧ decode cX10_room 54 = .ok (.getfield 26, 3) ∧ decode cX10_room 57 = .ok (.getfield 252, 3) ∧ decode cX10_room 60 = .ok (.astore 4, 2) ∧ decode cX10_room 62 = .ok (.aload 4, 2) ∧ decode cX10_room 64 = .ok (.iload_n 1, 1) ∧ decode cX10_room 65 = .ok (.iaload, 1) ∧ decode cX10_room 66 = .ok (.istore 5, 2) ∧ decode cX10_room 68 = .ok (.aload 4, 2) ∧ decode cX10_room 70 = .ok (.iload_n 1, 1) ∧ decode cX10_room 71 = .ok (.iload_n 3, 1) := by decide +kernel
theorem dX10_room_50 : decode cX10_room 50 = .ok (.goto 10, 3) := dX10_room_all2.1
theorem dX10_room_53 : decode cX10_room 53 = .ok (.aload_n 0, 1) := dX10_room_all2.2.1
theorem dX10_room_54 : decode cX10_room 54 = .ok (.getfield 26, 3) := dX10_room_all2.2.2.1
theorem dX10_room_57 : decode cX10_room 57 = .ok (.getfield 252, 3) := dX10_room_all2.2.2.2.1
theorem dX10_room_60 : decode cX10_room 60 = .ok (.astore 4, 2) := dX10_room_all2.2.2.2.2.1
theorem dX10_room_62 : decode cX10_room 62 = .ok (.aload 4, 2) := dX10_room_all2.2.2.2.2.2.1
theorem dX10_room_64 : decode cX10_room 64 = .ok (.iload_n 1, 1) := dX10_room_all2.2.2.2.2.2.2.1
theorem dX10_room_65 : decode cX10_room 65 = .ok (.iaload, 1) := dX10_room_all2.2.2.2.2.2.2.2.1
theorem dX10_room_66 : decode cX10_room 66 = .ok (.istore 5, 2) := dX10_room_all2.2.2.2.2.2.2.2.2.1
theorem dX10_room_68 : decode cX10_room 68 = .ok (.aload 4, 2) := dX10_room_all2.2.2.2.2.2.2.2.2.2.1
theorem dX10_room_70 : decode cX10_room 70 = .ok (.iload_n 1, 1) := dX10_room_all2.2.2.2.2.2.2.2.2.2.2.1
theorem dX10_room_71 : decode cX10_room 71 = .ok (.iload_n 3, 1) := dX10_room_all2.2.2.2.2.2.2.2.2.2.2.2
theorem dX10_room_all3 : decode cX10_room 72 = .ok (.iastore, 1) ∧ decode cX10_room 73 = .ok (.iload 5, 2) ∧ decode cX10_room 75 = .ok (.ireturn, 1) := by decide +kernel
theorem dX10_room_72 : decode cX10_room 72 = .ok (.iastore, 1) := dX10_room_all3.1
theorem dX10_room_73 : decode cX10_room 73 = .ok (.iload 5, 2) := dX10_room_all3.2.1
theorem dX10_room_75 : decode cX10_room 75 = .ok (.ireturn, 1) := dX10_room_all3.2.2
theorem ggX10_move_X10_isCrate : GoodIn wsX10_move wsX10_isCrate := goodIn_s (fun _ h => wm_t (wm_r (wm_l (wm_r h)))) Gd_X10_isCrate
theorem gX10_move_X10_isCrate : GoodIn wsX10_move (wsV RX10 180 RX10 yX10_isCrate wsX10_isCrate) := goodIn_V (own := RX10) (idx := 180) (C := RX10) (y := yX10_isCrate) (wm_t (wm_l (wm_i 6 rfl))) (wm_t (wm_l (wm_i 7 rfl))) (wm_t (wm_l (wm_i 8 rfl))) (wm_t (wm_l (wm_i 9 rfl))) ggX10_move_X10_isCrate
theorem ggX10_move_X10_isBelow : GoodIn wsX10_move wsX10_isBelow := goodIn_s (fun _ h => wm_t (wm_r (wm_r (wm_l h)))) Gd_X10_isBelow
theorem gX10_move_X10_isBelow : GoodIn wsX10_move (va_wsS RX10 85 yX10_isBelow wsX10_isBelow) := goodIn_S (own := RX10) (idx := 85) (y := yX10_isBelow) (wm_t (wm_l (wm_i 10 rfl))) (wm_t (wm_l (wm_i 11 rfl))) (wm_t (wm_l (wm_i 9 rfl))) ggX10_move_X10_isBelow
theorem ggX10_move_X1_fits : GoodIn wsX10_move wsX1_fits := goodIn_s (fun _ h => wm_t (wm_r (wm_r (wm_r h)))) Gd_X1_fits
theorem gX10_move_X1_fits : GoodIn wsX10_move (wsV RX10 259 RX1 yX1_fits wsX1_fits) := goodIn_V (own := RX10) (idx := 259) (C := RX1) (y := yX1_fits) (wm_t (wm_l (wm_i 12 rfl))) (wm_t (wm_l (wm_i 13 rfl))) (wm_t (wm_l (wm_i 14 rfl))) (wm_t (wm_l (wm_i 15 rfl))) ggX10_move_X1_fits
theorem dX10_move_all0 : decode cX10_move 0 = .ok (.aload_n 0, 1) ∧ decode cX10_move 1 = .ok (.iload_n 1, 1) ∧ decode cX10_move 2 = .ok (.invokevirtual 180, 3) ∧ decode cX10_move 5 = .ok (.ifCond .eq 18, 3) ∧ decode cX10_move 8 = .ok (.iload_n 2, 1) ∧ decode cX10_move 9 = .ok (.ldc 169, 2) ∧ decode cX10_move 11 = .ok (.if_icmp .eq 15, 3) ∧ decode cX10_move 14 = .ok (.iload_n 2, 1) ∧ decode cX10_move 15 = .ok (.bipush 6, 2) ∧ decode cX10_move 17 = .ok (.invokestatic 85, 3) ∧ decode cX10_move 20 = .ok (.ifCond .ne 6, 3) ∧ decode cX10_move 23 = .ok (.ldc 89, 2) := by decide +kernel
theorem dX10_move_0 : decode cX10_move 0 = .ok (.aload_n 0, 1) := dX10_move_all0.1
theorem dX10_move_1 : decode cX10_move 1 = .ok (.iload_n 1, 1) := dX10_move_all0.2.1
theorem dX10_move_2 : decode cX10_move 2 = .ok (.invokevirtual 180, 3) := dX10_move_all0.2.2.1
theorem dX10_move_5 : decode cX10_move 5 = .ok (.ifCond .eq 18, 3) := dX10_move_all0.2.2.2.1
theorem dX10_move_8 : decode cX10_move 8 = .ok (.iload_n 2, 1) := dX10_move_all0.2.2.2.2.1
theorem dX10_move_9 : decode cX10_move 9 = .ok (.ldc 169, 2) := dX10_move_all0.2.2.2.2.2.1
theorem dX10_move_11 : decode cX10_move 11 = .ok (.if_icmp .eq 15, 3) := dX10_move_all0.2.2.2.2.2.2.1
theorem dX10_move_14 : decode cX10_move 14 = .ok (.iload_n 2, 1) := dX10_move_all0.2.2.2.2.2.2.2.1
theorem dX10_move_15 : decode cX10_move 15 = .ok (.bipush 6, 2) := dX10_move_all0.2.2.2.2.2.2.2.2.1
theorem dX10_move_17 : decode cX10_move 17 = .ok (.invokestatic 85, 3) := dX10_move_all0.2.2.2.2.2.2.2.2.2.1
theorem dX10_move_20 : decode cX10_move 20 = .ok (.ifCond .ne 6, 3) := dX10_move_all0.2.2.2.2.2.2.2.2.2.2.1
theorem dX10_move_23 : decode cX10_move 23 = .ok (.ldc 89, 2) := dX10_move_all0.2.2.2.2.2.2.2.2.2.2.2
theorem dX10_move_all1 : decode cX10_move 25 = .ok (.ireturn, 1) ∧ decode cX10_move 26 = .ok (.aload_n 0, 1) ∧ decode cX10_move 27 = .ok (.getfield 26, 3) ∧ decode cX10_move 30 = .ok (.getfield 255, 3) ∧ decode cX10_move 33 = .ok (.iload_n 1, 1) ∧ decode cX10_move 34 = .ok (.iaload, 1) ∧ decode cX10_move 35 = .ok (.istore_n 3, 1) ∧ decode cX10_move 36 = .ok (.iload_n 3, 1) ∧ decode cX10_move 37 = .ok (.iload_n 2, 1) ∧ decode cX10_move 38 = .ok (.if_icmp .ne 7, 3) ∧ decode cX10_move 41 = .ok (.ldc_w 258, 3) ∧ decode cX10_move 44 = .ok (.ireturn, 1) := by decide +kernel
theorem dX10_move_25 : decode cX10_move 25 = .ok (.ireturn, 1) := dX10_move_all1.1
theorem dX10_move_26 : decode cX10_move 26 = .ok (.aload_n 0, 1) := dX10_move_all1.2.1
theorem dX10_move_27 : decode cX10_move 27 = .ok (.getfield 26, 3) := dX10_move_all1.2.2.1
theorem dX10_move_30 : decode cX10_move 30 = .ok (.getfield 255, 3) := dX10_move_all1.2.2.2.1
theorem dX10_move_33 : decode cX10_move 33 = .ok (.iload_n 1, 1) := dX10_move_all1.2.2.2.2.1
theorem dX10_move_34 : decode cX10_move 34 = .ok (.iaload, 1) := dX10_move_all1.2.2.2.2.2.1
theorem dX10_move_35 : decode cX10_move 35 = .ok (.istore_n 3, 1) := dX10_move_all1.2.2.2.2.2.2.1
theorem dX10_move_36 : decode cX10_move 36 = .ok (.iload_n 3, 1) := dX10_move_all1.2.2.2.2.2.2.2.1
theorem dX10_move_37 : decode cX10_move 37 = .ok (.iload_n 2, 1) := dX10_move_all1.2.2.2.2.2.2.2.2.1
theorem dX10_move_38 : decode cX10_move 38 = .ok (.if_icmp .ne 7, 3) := dX10_move_all1.2.2.2.2.2.2.2.2.2.1
theorem dX10_move_41 : decode cX10_move 41 = .ok (.ldc_w 258, 3) := dX10_move_all1.2.2.2.2.2.2.2.2.2.2.1
theorem dX10_move_44 : decode cX10_move 44 = .ok (.ireturn, 1) := dX10_move_all1.2.2.2.2.2.2.2.2.2.2.2
theorem dX10_move_all2 : decode cX10_move 45 = .ok (.iload_n 2, 1) ∧ decode cX10_move 46 = .ok (.ldc 169, 2) ∧ decode cX10_move 48 = .ok (.if_icmp .eq 18, 3) ∧ decode cX10_move 51 = .ok (.aload_n 0, 1) ∧ decode cX10_move 52 = .ok (.getfield 26, 3) ∧ decode cX10_move 55 = .ok (.iload_n 1, 1) ∧ decode cX10_move 56 = .ok (.iload_n 2, 1) ∧ decode cX10_move 57 = .ok (.invokevirtual 259, 3) ∧ decode cX10_move 60 = .ok (.ifCond .ne 6, 3) ∧ decode cX10_move 63 = .ok (.ldc 145, 2) ∧ decode cX10_move 65 = .ok (.ireturn, 1) ∧ decode cX10_move 66 = .ok (.aload_n 0, 1) := by decide +kernel
theorem dX10_move_45 : decode cX10_move 45 = .ok (.iload_n 2, 1) := dX10_move_all2.1
theorem dX10_move_46 : decode cX10_move 46 = .ok (.ldc 169, 2) := dX10_move_all2.2.1
theorem dX10_move_48 : decode cX10_move 48 = .ok (.if_icmp .eq 18, 3) := dX10_move_all2.2.2.1
theorem dX10_move_51 : decode cX10_move 51 = .ok (.aload_n 0, 1) := dX10_move_all2.2.2.2.1
theorem dX10_move_52 : decode cX10_move 52 = .ok (.getfield 26, 3) := dX10_move_all2.2.2.2.2.1
theorem dX10_move_55 : decode cX10_move 55 = .ok (.iload_n 1, 1) := dX10_move_all2.2.2.2.2.2.1
theorem dX10_move_56 : decode cX10_move 56 = .ok (.iload_n 2, 1) := dX10_move_all2.2.2.2.2.2.2.1
theorem dX10_move_57 : decode cX10_move 57 = .ok (.invokevirtual 259, 3) := dX10_move_all2.2.2.2.2.2.2.2.1
theorem dX10_move_60 : decode cX10_move 60 = .ok (.ifCond .ne 6, 3) := dX10_move_all2.2.2.2.2.2.2.2.2.1
theorem dX10_move_63 : decode cX10_move 63 = .ok (.ldc 145, 2) := dX10_move_all2.2.2.2.2.2.2.2.2.2.1
theorem dX10_move_65 : decode cX10_move 65 = .ok (.ireturn, 1) := dX10_move_all2.2.2.2.2.2.2.2.2.2.2.1
theorem dX10_move_66 : decode cX10_move 66 = .ok (.aload_n 0, 1) := dX10_move_all2.2.2.2.2.2.2.2.2.2.2.2
theorem dX10_move_all3 : decode cX10_move 67 = .ok (.getfield 26, 3) ∧ decode cX10_move 70 = .ok (.getfield 255, 3) ∧ decode cX10_move 73 = .ok (.iload_n 1, 1) ∧ decode cX10_move 74 = .ok (.iload_n 2, 1) ∧ decode cX10_move 75 = .ok (.iastore, 1) ∧ decode cX10_move 76 = .ok (.iload_n 3, 1) ∧ decode cX10_move 77 = .ok (.ireturn, 1) := by decide +kernel
theorem dX10_move_67 : decode cX10_move 67 = .ok (.getfield 26, 3) := dX10_move_all3.1
theorem dX10_move_70 : decode cX10_move 70 = .ok (.getfield 255, 3) := dX10_move_all3.2.1
theorem dX10_move_73 : decode cX10_move 73 = .ok (.iload_n 1, 1) := dX10_move_all3.2.2.1
theorem dX10_move_74 : decode cX10_move 74 = .ok (.iload_n 2, 1) := dX10_move_all3.2.2.2.1
theorem dX10_move_75 : decode cX10_move 75 = .ok (.iastore, 1) := dX10_move_all3.2.2.2.2.1
theorem dX10_move_76 : decode cX10_move 76 = .ok (.iload_n 3, 1) := dX10_move_all3.2.2.2.2.2.1
theorem dX10_move_77 : decode cX10_move 77 = .ok (.ireturn, 1) := dX10_move_all3.2.2.2.2.2.2
theorem ggX10_inside_X10_isBelow : GoodIn wsX10_inside wsX10_isBelow := goodIn_s (fun _ h => wm_t (wm_r (wm_l (wm_r h)))) Gd_X10_isBelow
theorem gX10_inside_X10_isBelow : GoodIn wsX10_inside (va_wsS RX10 85 yX10_isBelow wsX10_isBelow) := goodIn_S (own := RX10) (idx := 85) (y := yX10_isBelow) (wm_t (wm_l (wm_i 2 rfl))) (wm_t (wm_l (wm_i 3 rfl))) (wm_t (wm_l (wm_i 4 rfl))) ggX10_inside_X10_isBelow
theorem ggX10_inside_X1_setIn : GoodIn wsX10_inside wsX1_setIn := goodIn_s (fun _ h => wm_t (wm_r (wm_r (wm_l (wm_l h))))) Gd_X1_setIn
theorem gX10_inside_X1_setIn : GoodIn wsX10_inside (wsV RX10 262 RX1 yX1_setIn wsX1_setIn) := goodIn_V (own := RX10) (idx := 262) (C := RX1) (y := yX1_setIn) (wm_t (wm_l (wm_i 5 rfl))) (wm_t (wm_l (wm_i 6 rfl))) (wm_t (wm_l (wm_i 7 rfl))) (wm_t (wm_l (wm_i 8 rfl))) ggX10_inside_X1_setIn
theorem ggX10_inside_J6_bitCount_0f7a4 : GoodIn wsX10_inside wsJ6_bitCount_0f7a4 := goodIn_s (fun _ h => wm_t (wm_r (wm_r (wm_l (wm_r h))))) Gd_J6_bitCount_0f7a4
theorem gX10_inside_J6_bitCount_0f7a4 : GoodIn wsX10_inside (va_wsS RX10 265 yJ6_bitCount_0f7a4 wsJ6_bitCount_0f7a4) := goodIn_S (own := RX10) (idx := 265) (y := yJ6_bitCount_0f7a4) (wm_t (wm_l (wm_i 9 rfl))) (wm_t (wm_l (wm_i 10 rfl))) (wm_t (wm_l (wm_i 11 rfl))) ggX10_inside_J6_bitCount_0f7a4
theorem ggX10_inside_X1_worthsOf : GoodIn wsX10_inside wsX1_worthsOf := goodIn_s (fun _ h => wm_t (wm_r (wm_r (wm_r h)))) Gd_X1_worthsOf
theorem gX10_inside_X1_worthsOf : GoodIn wsX10_inside (wsV RX10 270 RX1 yX1_worthsOf wsX1_worthsOf) := goodIn_V (own := RX10) (idx := 270) (C := RX1) (y := yX1_worthsOf) (wm_t (wm_l (wm_i 12 rfl))) (wm_t (wm_l (wm_i 13 rfl))) (wm_t (wm_l (wm_i 14 rfl))) (wm_t (wm_l (wm_i 8 rfl))) ggX10_inside_X1_worthsOf
theorem dX10_inside_all0 : decode cX10_inside 0 = .ok (.iload_n 1, 1) ∧ decode cX10_inside 1 = .ok (.bipush 6, 2) ∧ decode cX10_inside 3 = .ok (.invokestatic 85, 3) ∧ decode cX10_inside 6 = .ok (.ifCond .eq 11, 3) ∧ decode cX10_inside 9 = .ok (.iload_n 2, 1) ∧ decode cX10_inside 10 = .ok (.iconst 3, 1) ∧ decode cX10_inside 11 = .ok (.invokestatic 85, 3) ∧ decode cX10_inside 14 = .ok (.ifCond .ne 6, 3) ∧ decode cX10_inside 17 = .ok (.ldc 89, 2) ∧ decode cX10_inside 19 = .ok (.ireturn, 1) ∧ decode cX10_inside 20 = .ok (.aload_n 0, 1) ∧ decode cX10_inside 21 = .ok (.getfield 26, 3) := by decide +kernel
theorem dX10_inside_0 : decode cX10_inside 0 = .ok (.iload_n 1, 1) := dX10_inside_all0.1
theorem dX10_inside_1 : decode cX10_inside 1 = .ok (.bipush 6, 2) := dX10_inside_all0.2.1
theorem dX10_inside_3 : decode cX10_inside 3 = .ok (.invokestatic 85, 3) := dX10_inside_all0.2.2.1
theorem dX10_inside_6 : decode cX10_inside 6 = .ok (.ifCond .eq 11, 3) := dX10_inside_all0.2.2.2.1
theorem dX10_inside_9 : decode cX10_inside 9 = .ok (.iload_n 2, 1) := dX10_inside_all0.2.2.2.2.1
theorem dX10_inside_10 : decode cX10_inside 10 = .ok (.iconst 3, 1) := dX10_inside_all0.2.2.2.2.2.1
theorem dX10_inside_11 : decode cX10_inside 11 = .ok (.invokestatic 85, 3) := dX10_inside_all0.2.2.2.2.2.2.1
theorem dX10_inside_14 : decode cX10_inside 14 = .ok (.ifCond .ne 6, 3) := dX10_inside_all0.2.2.2.2.2.2.2.1
theorem dX10_inside_17 : decode cX10_inside 17 = .ok (.ldc 89, 2) := dX10_inside_all0.2.2.2.2.2.2.2.2.1
theorem dX10_inside_19 : decode cX10_inside 19 = .ok (.ireturn, 1) := dX10_inside_all0.2.2.2.2.2.2.2.2.2.1
theorem dX10_inside_20 : decode cX10_inside 20 = .ok (.aload_n 0, 1) := dX10_inside_all0.2.2.2.2.2.2.2.2.2.2.1
theorem dX10_inside_21 : decode cX10_inside 21 = .ok (.getfield 26, 3) := dX10_inside_all0.2.2.2.2.2.2.2.2.2.2.2
theorem dX10_inside_all1 : decode cX10_inside 24 = .ok (.iload_n 1, 1) ∧ decode cX10_inside 25 = .ok (.invokevirtual 262, 3) ∧ decode cX10_inside 28 = .ok (.istore_n 3, 1) ∧ decode cX10_inside 29 = .ok (.iload_n 2, 1) ∧ decode cX10_inside 30 = .ok (.ifCond .ne 8, 3) ∧ decode cX10_inside 33 = .ok (.iload_n 3, 1) ∧ decode cX10_inside 34 = .ok (.invokestatic 265, 3) ∧ decode cX10_inside 37 = .ok (.ireturn, 1) ∧ decode cX10_inside 38 = .ok (.iload_n 2, 1) ∧ decode cX10_inside 39 = .ok (.iconst 1, 1) ∧ decode cX10_inside 40 = .ok (.if_icmp .ne 14, 3) ∧ decode cX10_inside 43 = .ok (.aload_n 0, 1) := by decide +kernel
theorem dX10_inside_24 : decode cX10_inside 24 = .ok (.iload_n 1, 1) := dX10_inside_all1.1
theorem dX10_inside_25 : decode cX10_inside 25 = .ok (.invokevirtual 262, 3) := dX10_inside_all1.2.1
theorem dX10_inside_28 : decode cX10_inside 28 = .ok (.istore_n 3, 1) := dX10_inside_all1.2.2.1
theorem dX10_inside_29 : decode cX10_inside 29 = .ok (.iload_n 2, 1) := dX10_inside_all1.2.2.2.1
theorem dX10_inside_30 : decode cX10_inside 30 = .ok (.ifCond .ne 8, 3) := dX10_inside_all1.2.2.2.2.1
theorem dX10_inside_33 : decode cX10_inside 33 = .ok (.iload_n 3, 1) := dX10_inside_all1.2.2.2.2.2.1
theorem dX10_inside_34 : decode cX10_inside 34 = .ok (.invokestatic 265, 3) := dX10_inside_all1.2.2.2.2.2.2.1
theorem dX10_inside_37 : decode cX10_inside 37 = .ok (.ireturn, 1) := dX10_inside_all1.2.2.2.2.2.2.2.1
theorem dX10_inside_38 : decode cX10_inside 38 = .ok (.iload_n 2, 1) := dX10_inside_all1.2.2.2.2.2.2.2.2.1
theorem dX10_inside_39 : decode cX10_inside 39 = .ok (.iconst 1, 1) := dX10_inside_all1.2.2.2.2.2.2.2.2.2.1
theorem dX10_inside_40 : decode cX10_inside 40 = .ok (.if_icmp .ne 14, 3) := dX10_inside_all1.2.2.2.2.2.2.2.2.2.2.1
theorem dX10_inside_43 : decode cX10_inside 43 = .ok (.aload_n 0, 1) := dX10_inside_all1.2.2.2.2.2.2.2.2.2.2.2
theorem dX10_inside_all2 : decode cX10_inside 44 = .ok (.getfield 26, 3) ∧ decode cX10_inside 47 = .ok (.iload_n 3, 1) ∧ decode cX10_inside 48 = .ok (.invokevirtual 270, 3) ∧ decode cX10_inside 51 = .ok (.goto 4, 3) ∧ decode cX10_inside 54 = .ok (.iload_n 3, 1) ∧ decode cX10_inside 55 = .ok (.ireturn, 1) := by decide +kernel
theorem dX10_inside_44 : decode cX10_inside 44 = .ok (.getfield 26, 3) := dX10_inside_all2.1
theorem dX10_inside_47 : decode cX10_inside 47 = .ok (.iload_n 3, 1) := dX10_inside_all2.2.1
theorem dX10_inside_48 : decode cX10_inside 48 = .ok (.invokevirtual 270, 3) := dX10_inside_all2.2.2.1
theorem dX10_inside_51 : decode cX10_inside 51 = .ok (.goto 4, 3) := dX10_inside_all2.2.2.2.1
theorem dX10_inside_54 : decode cX10_inside 54 = .ok (.iload_n 3, 1) := dX10_inside_all2.2.2.2.2.1
theorem dX10_inside_55 : decode cX10_inside 55 = .ok (.ireturn, 1) := dX10_inside_all2.2.2.2.2.2
theorem dJ6_bitCount_0f7a4_all0 : decode cJ6_bitCount_0f7a4 0 = .ok (.iload_n 0, 1) ∧ decode cJ6_bitCount_0f7a4 1 = .ok (.iload_n 0, 1) ∧ decode cJ6_bitCount_0f7a4 2 = .ok (.iconst 1, 1) ∧ decode cJ6_bitCount_0f7a4 3 = .ok (.iushr, 1) ∧ decode cJ6_bitCount_0f7a4 4 = .ok (.ldc_w 265, 3) ∧ decode cJ6_bitCount_0f7a4 7 = .ok (.iand, 1) ∧ decode cJ6_bitCount_0f7a4 8 = .ok (.isub, 1) ∧ decode cJ6_bitCount_0f7a4 9 = .ok (.istore_n 0, 1) ∧ decode cJ6_bitCount_0f7a4 10 = .ok (.iload_n 0, 1) ∧ decode cJ6_bitCount_0f7a4 11 = .ok (.ldc_w 266, 3) ∧ decode cJ6_bitCount_0f7a4 14 = .ok (.iand, 1) ∧ decode cJ6_bitCount_0f7a4 15 = .ok (.iload_n 0, 1) := by decide +kernel
theorem dJ6_bitCount_0f7a4_0 : decode cJ6_bitCount_0f7a4 0 = .ok (.iload_n 0, 1) := dJ6_bitCount_0f7a4_all0.1
theorem dJ6_bitCount_0f7a4_1 : decode cJ6_bitCount_0f7a4 1 = .ok (.iload_n 0, 1) := dJ6_bitCount_0f7a4_all0.2.1
theorem dJ6_bitCount_0f7a4_2 : decode cJ6_bitCount_0f7a4 2 = .ok (.iconst 1, 1) := dJ6_bitCount_0f7a4_all0.2.2.1
theorem dJ6_bitCount_0f7a4_3 : decode cJ6_bitCount_0f7a4 3 = .ok (.iushr, 1) := dJ6_bitCount_0f7a4_all0.2.2.2.1
theorem dJ6_bitCount_0f7a4_4 : decode cJ6_bitCount_0f7a4 4 = .ok (.ldc_w 265, 3) := dJ6_bitCount_0f7a4_all0.2.2.2.2.1
theorem dJ6_bitCount_0f7a4_7 : decode cJ6_bitCount_0f7a4 7 = .ok (.iand, 1) := dJ6_bitCount_0f7a4_all0.2.2.2.2.2.1
theorem dJ6_bitCount_0f7a4_8 : decode cJ6_bitCount_0f7a4 8 = .ok (.isub, 1) := dJ6_bitCount_0f7a4_all0.2.2.2.2.2.2.1
theorem dJ6_bitCount_0f7a4_9 : decode cJ6_bitCount_0f7a4 9 = .ok (.istore_n 0, 1) := dJ6_bitCount_0f7a4_all0.2.2.2.2.2.2.2.1
theorem dJ6_bitCount_0f7a4_10 : decode cJ6_bitCount_0f7a4 10 = .ok (.iload_n 0, 1) := dJ6_bitCount_0f7a4_all0.2.2.2.2.2.2.2.2.1
theorem dJ6_bitCount_0f7a4_11 : decode cJ6_bitCount_0f7a4 11 = .ok (.ldc_w 266, 3) := dJ6_bitCount_0f7a4_all0.2.2.2.2.2.2.2.2.2.1
theorem dJ6_bitCount_0f7a4_14 : decode cJ6_bitCount_0f7a4 14 = .ok (.iand, 1) := dJ6_bitCount_0f7a4_all0.2.2.2.2.2.2.2.2.2.2.1
theorem dJ6_bitCount_0f7a4_15 : decode cJ6_bitCount_0f7a4 15 = .ok (.iload_n 0, 1) := dJ6_bitCount_0f7a4_all0.2.2.2.2.2.2.2.2.2.2.2
theorem dJ6_bitCount_0f7a4_all1 : decode cJ6_bitCount_0f7a4 16 = .ok (.iconst 2, 1) ∧ decode cJ6_bitCount_0f7a4 17 = .ok (.iushr, 1) ∧ decode cJ6_bitCount_0f7a4 18 = .ok (.ldc_w 266, 3) ∧ decode cJ6_bitCount_0f7a4 21 = .ok (.iand, 1) ∧ decode cJ6_bitCount_0f7a4 22 = .ok (.iadd, 1) ∧ decode cJ6_bitCount_0f7a4 23 = .ok (.istore_n 0, 1) ∧ decode cJ6_bitCount_0f7a4 24 = .ok (.iload_n 0, 1) ∧ decode cJ6_bitCount_0f7a4 25 = .ok (.iload_n 0, 1) ∧ decode cJ6_bitCount_0f7a4 26 = .ok (.iconst 4, 1) ∧ decode cJ6_bitCount_0f7a4 27 = .ok (.iushr, 1) ∧ decode cJ6_bitCount_0f7a4 28 = .ok (.iadd, 1) ∧ decode cJ6_bitCount_0f7a4 29 = .ok (.ldc_w 267, 3) := by decide +kernel
theorem dJ6_bitCount_0f7a4_16 : decode cJ6_bitCount_0f7a4 16 = .ok (.iconst 2, 1) := dJ6_bitCount_0f7a4_all1.1
theorem dJ6_bitCount_0f7a4_17 : decode cJ6_bitCount_0f7a4 17 = .ok (.iushr, 1) := dJ6_bitCount_0f7a4_all1.2.1
theorem dJ6_bitCount_0f7a4_18 : decode cJ6_bitCount_0f7a4 18 = .ok (.ldc_w 266, 3) := dJ6_bitCount_0f7a4_all1.2.2.1
theorem dJ6_bitCount_0f7a4_21 : decode cJ6_bitCount_0f7a4 21 = .ok (.iand, 1) := dJ6_bitCount_0f7a4_all1.2.2.2.1
theorem dJ6_bitCount_0f7a4_22 : decode cJ6_bitCount_0f7a4 22 = .ok (.iadd, 1) := dJ6_bitCount_0f7a4_all1.2.2.2.2.1
theorem dJ6_bitCount_0f7a4_23 : decode cJ6_bitCount_0f7a4 23 = .ok (.istore_n 0, 1) := dJ6_bitCount_0f7a4_all1.2.2.2.2.2.1
theorem dJ6_bitCount_0f7a4_24 : decode cJ6_bitCount_0f7a4 24 = .ok (.iload_n 0, 1) := dJ6_bitCount_0f7a4_all1.2.2.2.2.2.2.1
theorem dJ6_bitCount_0f7a4_25 : decode cJ6_bitCount_0f7a4 25 = .ok (.iload_n 0, 1) := dJ6_bitCount_0f7a4_all1.2.2.2.2.2.2.2.1
theorem dJ6_bitCount_0f7a4_26 : decode cJ6_bitCount_0f7a4 26 = .ok (.iconst 4, 1) := dJ6_bitCount_0f7a4_all1.2.2.2.2.2.2.2.2.1
theorem dJ6_bitCount_0f7a4_27 : decode cJ6_bitCount_0f7a4 27 = .ok (.iushr, 1) := dJ6_bitCount_0f7a4_all1.2.2.2.2.2.2.2.2.2.1
theorem dJ6_bitCount_0f7a4_28 : decode cJ6_bitCount_0f7a4 28 = .ok (.iadd, 1) := dJ6_bitCount_0f7a4_all1.2.2.2.2.2.2.2.2.2.2.1
theorem dJ6_bitCount_0f7a4_29 : decode cJ6_bitCount_0f7a4 29 = .ok (.ldc_w 267, 3) := dJ6_bitCount_0f7a4_all1.2.2.2.2.2.2.2.2.2.2.2
theorem dJ6_bitCount_0f7a4_all2 : decode cJ6_bitCount_0f7a4 32 = .ok (.iand, 1) ∧ decode cJ6_bitCount_0f7a4 33 = .ok (.istore_n 0, 1) ∧ decode cJ6_bitCount_0f7a4 34 = .ok (.iload_n 0, 1) ∧ decode cJ6_bitCount_0f7a4 35 = .ok (.iload_n 0, 1) ∧ decode cJ6_bitCount_0f7a4 36 = .ok (.bipush 8, 2) ∧ decode cJ6_bitCount_0f7a4 38 = .ok (.iushr, 1) ∧ decode cJ6_bitCount_0f7a4 39 = .ok (.iadd, 1) ∧ decode cJ6_bitCount_0f7a4 40 = .ok (.istore_n 0, 1) ∧ decode cJ6_bitCount_0f7a4 41 = .ok (.iload_n 0, 1) ∧ decode cJ6_bitCount_0f7a4 42 = .ok (.iload_n 0, 1) ∧ decode cJ6_bitCount_0f7a4 43 = .ok (.bipush 16, 2) ∧ decode cJ6_bitCount_0f7a4 45 = .ok (.iushr, 1) := by decide +kernel
theorem dJ6_bitCount_0f7a4_32 : decode cJ6_bitCount_0f7a4 32 = .ok (.iand, 1) := dJ6_bitCount_0f7a4_all2.1
theorem dJ6_bitCount_0f7a4_33 : decode cJ6_bitCount_0f7a4 33 = .ok (.istore_n 0, 1) := dJ6_bitCount_0f7a4_all2.2.1
theorem dJ6_bitCount_0f7a4_34 : decode cJ6_bitCount_0f7a4 34 = .ok (.iload_n 0, 1) := dJ6_bitCount_0f7a4_all2.2.2.1
theorem dJ6_bitCount_0f7a4_35 : decode cJ6_bitCount_0f7a4 35 = .ok (.iload_n 0, 1) := dJ6_bitCount_0f7a4_all2.2.2.2.1
theorem dJ6_bitCount_0f7a4_36 : decode cJ6_bitCount_0f7a4 36 = .ok (.bipush 8, 2) := dJ6_bitCount_0f7a4_all2.2.2.2.2.1
theorem dJ6_bitCount_0f7a4_38 : decode cJ6_bitCount_0f7a4 38 = .ok (.iushr, 1) := dJ6_bitCount_0f7a4_all2.2.2.2.2.2.1
theorem dJ6_bitCount_0f7a4_39 : decode cJ6_bitCount_0f7a4 39 = .ok (.iadd, 1) := dJ6_bitCount_0f7a4_all2.2.2.2.2.2.2.1
theorem dJ6_bitCount_0f7a4_40 : decode cJ6_bitCount_0f7a4 40 = .ok (.istore_n 0, 1) := dJ6_bitCount_0f7a4_all2.2.2.2.2.2.2.2.1
theorem dJ6_bitCount_0f7a4_41 : decode cJ6_bitCount_0f7a4 41 = .ok (.iload_n 0, 1) := dJ6_bitCount_0f7a4_all2.2.2.2.2.2.2.2.2.1
theorem dJ6_bitCount_0f7a4_42 : decode cJ6_bitCount_0f7a4 42 = .ok (.iload_n 0, 1) := dJ6_bitCount_0f7a4_all2.2.2.2.2.2.2.2.2.2.1
theorem dJ6_bitCount_0f7a4_43 : decode cJ6_bitCount_0f7a4 43 = .ok (.bipush 16, 2) := dJ6_bitCount_0f7a4_all2.2.2.2.2.2.2.2.2.2.2.1
theorem dJ6_bitCount_0f7a4_45 : decode cJ6_bitCount_0f7a4 45 = .ok (.iushr, 1) := dJ6_bitCount_0f7a4_all2.2.2.2.2.2.2.2.2.2.2.2
theorem dJ6_bitCount_0f7a4_all3 : decode cJ6_bitCount_0f7a4 46 = .ok (.iadd, 1) ∧ decode cJ6_bitCount_0f7a4 47 = .ok (.istore_n 0, 1) ∧ decode cJ6_bitCount_0f7a4 48 = .ok (.iload_n 0, 1) ∧ decode cJ6_bitCount_0f7a4 49 = .ok (.bipush 63, 2) ∧ decode cJ6_bitCount_0f7a4 51 = .ok (.iand, 1) ∧ decode cJ6_bitCount_0f7a4 52 = .ok (.ireturn, 1) := by decide +kernel
theorem dJ6_bitCount_0f7a4_46 : decode cJ6_bitCount_0f7a4 46 = .ok (.iadd, 1) := dJ6_bitCount_0f7a4_all3.1
theorem dJ6_bitCount_0f7a4_47 : decode cJ6_bitCount_0f7a4 47 = .ok (.istore_n 0, 1) := dJ6_bitCount_0f7a4_all3.2.1
theorem dJ6_bitCount_0f7a4_48 : decode cJ6_bitCount_0f7a4 48 = .ok (.iload_n 0, 1) := dJ6_bitCount_0f7a4_all3.2.2.1
theorem dJ6_bitCount_0f7a4_49 : decode cJ6_bitCount_0f7a4 49 = .ok (.bipush 63, 2) := dJ6_bitCount_0f7a4_all3.2.2.2.1
theorem dJ6_bitCount_0f7a4_51 : decode cJ6_bitCount_0f7a4 51 = .ok (.iand, 1) := dJ6_bitCount_0f7a4_all3.2.2.2.2.1
theorem dJ6_bitCount_0f7a4_52 : decode cJ6_bitCount_0f7a4 52 = .ok (.ireturn, 1) := dJ6_bitCount_0f7a4_all3.2.2.2.2.2

/-- the crates in a room, as bits -/
def setV (ro : Nat → Int32) (r : Int32) : Nat → Int32
  | 0 => 0
  | n + 1 => if (ro n).toInt = r.toInt then setV ro r n ||| ((1 : Int32) <<< (nI n &&& 31)) else setV ro r n
theorem setV_s (ro : Nat → Int32) (r : Int32) (n : Nat) : setV ro r (n + 1) = if (ro n).toInt = r.toInt then setV ro r n ||| ((1 : Int32) <<< (nI n &&& 31)) else setV ro r n := rfl
/-- the worths of the crates of a set -/
def woV (wo : Nat → Int32) (set : Int32) : Nat → Int32
  | 0 => 0
  | n + 1 => if hbP set (nI n) then woV wo set n + wo n else woV wo set n
theorem woV_s (wo : Nat → Int32) (set : Int32) (n : Nat) : woV wo set (n + 1) = if hbP set (nI n) then woV wo set n + wo n else woV wo set n := rfl
def us32 (x k : Int32) : Int32 := (x.toUInt32 >>> (k.toUInt32 &&& Int32.toUInt32 31)).toInt32
def bc1 (a : Int32) : Int32 := a - (us32 a 1 &&& 1431655765)
def bc2 (a : Int32) : Int32 := (a &&& 858993459) + (us32 a 2 &&& 858993459)
def bc3 (a : Int32) : Int32 := (a + us32 a 4) &&& 252645135
def bc4 (a : Int32) : Int32 := a + us32 a 8
def bc5 (a : Int32) : Int32 := a + us32 a 16
/-- how many bits are set, as the library counts them -/
def bcf (a : Int32) : Int32 := bc5 (bc4 (bc3 (bc2 (bc1 a)))) &&& 63

set_option maxHeartbeats 4000000 in
set_option maxRecDepth 100000 in
theorem ct_bitCount (l : Launch) (D : va_G) (cI cY cJ cQ : ClassId) (sz : Nat) (a : Int32)   : Met l yJ6_bitCount_0f7a4 wsJ6_bitCount_0f7a4 ({ frames := 0, cells := 0, slots := 0, locals := 0 }) (cPre D (ty4 cI cY cJ cQ) [] sz [.int a]) (va_Qi (fun (r : Int32) (u : Unit) => r = bcf a) (cB D (ty4 cI cY cJ cQ) (fun (u : Unit) => []) (va_A [] sz)) (va_A [] sz)) 0 0 (va_A [] sz) := by
  refine Met.ofW (cc := cJ6_bitCount_0f7a4) (maxL := 1) (ret := (some .int)) (by decide) rfl ?_
  intro p e s m args below meth c s₁ B hml hv
  obtain ⟨rfl, hsz, hP, hK, hD0, hN⟩ := hv
  have hx := B.exec
  have hb := B.bytes
  have hr := B.returns
  have hts := atoms_spec (ws := wsJ6_bitCount_0f7a4) B.pre
  have hown : s.vm.findClass RJ6 = some m.cls := findClass_of_methodNamed B.named
  have hlocks := B.notSynchronized
  subst hsz
  have hD := hD0.self (sz := s.heap.size)
  generalize hAe : va_A [] s.heap.size = A at hD ⊢
  have hA : ∀ q : Nat, s.heap.size ≤ q → A q := fun q h => by rw [← hAe]; exact Or.inr h
  have hS : va_S A s.heap s.heap [] := va_S.rf
  have hP : va_P D vwCl [] s.heap := hP
  have hl := lv_entry ([.int a]) (n := 1) (Nat.le_of_ble_eq_true rfl)
  rw [lg_entry_eq]
  generalize (lg_sl ([.int a]) ++ List.replicate (1 - (lg_sl ([.int a])).length) Slot.unset).toArray = ls at hl ⊢
  have hl : lv_has ls 1 [(0, .int a)] := hl
  have k63 : (63 : Int32).toInt = 63 := by decide
  have k252645135 : (252645135 : Int32).toInt = 252645135 := by decide
  have k858993459 : (858993459 : Int32).toInt = 858993459 := by decide
  have k1431655765 : (1431655765 : Int32).toInt = 1431655765 := by decide
  refine lv_iload_n hx hb dJ6_bitCount_0f7a4_0 rfl (lv_at hl 0 rfl) ?_
  refine lv_iload_n hx hb dJ6_bitCount_0f7a4_1 rfl (lv_at hl 0 rfl) ?_
  refine lv_iconst (v := 1) hx hb dJ6_bitCount_0f7a4_2 (by decide) ?_
  obtain ⟨v1, ev1⟩ : ∃ q : Int32, q = (a.toUInt32 >>> ((1 : Int32).toUInt32 &&& Int32.toUInt32 31)).toInt32 := ⟨_, rfl⟩
  refine lv_iushr (v := v1) hx hb dJ6_bitCount_0f7a4_3 ev1.symm ?_
  refine lv_ldcw hx hb hown (hts (Cond.constant RJ6 265 (1431655765)) (wm_t (wm_i 0 rfl))) dJ6_bitCount_0f7a4_4 ?_
  refine lv_iand hx hb dJ6_bitCount_0f7a4_7 ?_
  refine lv_topi (fun v2 ev2 => ?_)
  refine lv_isub hx hb dJ6_bitCount_0f7a4_8 ?_
  refine lv_topi (fun v3 ev3 => ?_)
  refine lv_istore_n (lv' := [(0, .int v3)]) hx hb dJ6_bitCount_0f7a4_9 rfl hl (by decide) rfl (fun ls hl => ?_)
  refine lv_iload_n hx hb dJ6_bitCount_0f7a4_10 rfl (lv_at hl 0 rfl) ?_
  refine lv_ldcw hx hb hown (hts (Cond.constant RJ6 266 (858993459)) (wm_t (wm_i 1 rfl))) dJ6_bitCount_0f7a4_11 ?_
  refine lv_iand hx hb dJ6_bitCount_0f7a4_14 ?_
  refine lv_topi (fun v4 ev4 => ?_)
  refine lv_iload_n hx hb dJ6_bitCount_0f7a4_15 rfl (lv_at hl 0 rfl) ?_
  refine lv_iconst (v := 2) hx hb dJ6_bitCount_0f7a4_16 (by decide) ?_
  obtain ⟨v5, ev5⟩ : ∃ q : Int32, q = (v3.toUInt32 >>> ((2 : Int32).toUInt32 &&& Int32.toUInt32 31)).toInt32 := ⟨_, rfl⟩
  refine lv_iushr (v := v5) hx hb dJ6_bitCount_0f7a4_17 ev5.symm ?_
  refine lv_ldcw hx hb hown (hts (Cond.constant RJ6 266 (858993459)) (wm_t (wm_i 1 rfl))) dJ6_bitCount_0f7a4_18 ?_
  refine lv_iand hx hb dJ6_bitCount_0f7a4_21 ?_
  refine lv_topi (fun v6 ev6 => ?_)
  refine lv_iadd hx hb dJ6_bitCount_0f7a4_22 ?_
  refine lv_topi (fun v7 ev7 => ?_)
  refine lv_istore_n (lv' := [(0, .int v7)]) hx hb dJ6_bitCount_0f7a4_23 rfl hl (by decide) rfl (fun ls hl => ?_)
  refine lv_iload_n hx hb dJ6_bitCount_0f7a4_24 rfl (lv_at hl 0 rfl) ?_
  refine lv_iload_n hx hb dJ6_bitCount_0f7a4_25 rfl (lv_at hl 0 rfl) ?_
  refine lv_iconst (v := 4) hx hb dJ6_bitCount_0f7a4_26 (by decide) ?_
  obtain ⟨v8, ev8⟩ : ∃ q : Int32, q = (v7.toUInt32 >>> ((4 : Int32).toUInt32 &&& Int32.toUInt32 31)).toInt32 := ⟨_, rfl⟩
  refine lv_iushr (v := v8) hx hb dJ6_bitCount_0f7a4_27 ev8.symm ?_
  refine lv_iadd hx hb dJ6_bitCount_0f7a4_28 ?_
  refine lv_topi (fun v9 ev9 => ?_)
  refine lv_ldcw hx hb hown (hts (Cond.constant RJ6 267 (252645135)) (wm_t (wm_i 2 rfl))) dJ6_bitCount_0f7a4_29 ?_
  refine lv_iand hx hb dJ6_bitCount_0f7a4_32 ?_
  refine lv_topi (fun v10 ev10 => ?_)
  refine lv_istore_n (lv' := [(0, .int v10)]) hx hb dJ6_bitCount_0f7a4_33 rfl hl (by decide) rfl (fun ls hl => ?_)
  refine lv_iload_n hx hb dJ6_bitCount_0f7a4_34 rfl (lv_at hl 0 rfl) ?_
  refine lv_iload_n hx hb dJ6_bitCount_0f7a4_35 rfl (lv_at hl 0 rfl) ?_
  refine lv_bipush (v := 8) hx hb dJ6_bitCount_0f7a4_36 (by decide) ?_
  obtain ⟨v11, ev11⟩ : ∃ q : Int32, q = (v10.toUInt32 >>> ((8 : Int32).toUInt32 &&& Int32.toUInt32 31)).toInt32 := ⟨_, rfl⟩
  refine lv_iushr (v := v11) hx hb dJ6_bitCount_0f7a4_38 ev11.symm ?_
  refine lv_iadd hx hb dJ6_bitCount_0f7a4_39 ?_
  refine lv_topi (fun v12 ev12 => ?_)
  refine lv_istore_n (lv' := [(0, .int v12)]) hx hb dJ6_bitCount_0f7a4_40 rfl hl (by decide) rfl (fun ls hl => ?_)
  refine lv_iload_n hx hb dJ6_bitCount_0f7a4_41 rfl (lv_at hl 0 rfl) ?_
  refine lv_iload_n hx hb dJ6_bitCount_0f7a4_42 rfl (lv_at hl 0 rfl) ?_
  refine lv_bipush (v := 16) hx hb dJ6_bitCount_0f7a4_43 (by decide) ?_
  obtain ⟨v13, ev13⟩ : ∃ q : Int32, q = (v12.toUInt32 >>> ((16 : Int32).toUInt32 &&& Int32.toUInt32 31)).toInt32 := ⟨_, rfl⟩
  refine lv_iushr (v := v13) hx hb dJ6_bitCount_0f7a4_45 ev13.symm ?_
  refine lv_iadd hx hb dJ6_bitCount_0f7a4_46 ?_
  refine lv_topi (fun v14 ev14 => ?_)
  refine lv_istore_n (lv' := [(0, .int v14)]) hx hb dJ6_bitCount_0f7a4_47 rfl hl (by decide) rfl (fun ls hl => ?_)
  refine lv_iload_n hx hb dJ6_bitCount_0f7a4_48 rfl (lv_at hl 0 rfl) ?_
  refine lv_bipush (v := 63) hx hb dJ6_bitCount_0f7a4_49 (by decide) ?_
  refine lv_iand hx hb dJ6_bitCount_0f7a4_51 ?_
  refine lv_topi (fun v15 ev15 => ?_)
  have hP9 := hP
  have hD9 := hD
  exact W.iret (v := v15) hx hb hr (fun t ht hW => ⟨⟨v15, (), rfl, (by subst_vars; rfl), by rw [ht]; exact hP9, va_K.moved hW.alike hK, hD9⟩, hS.F ht⟩) hS.2.2 dJ6_bitCount_0f7a4_52

set_option maxHeartbeats 4000000 in
set_option maxRecDepth 100000 in
theorem ct_X1_setIn (l : Launch) (D : va_G) (cI cY cJ cQ : ClassId) (sz : Nat) (ad : Nat → Nat) (cn : Int32) (ro : Nat → Int32) (a : Int32)  (h1 : 0 ≤ cn.toInt) (h2 : cn.toInt ≤ 12)  : Met l yX1_setIn wsX1_setIn ({ frames := 0, cells := 0, slots := 0, locals := 0 }) (cPre D (ty4 cI cY cJ cQ) [(oC1 ad cn), (aI cI (ad 33) 12 ro)] sz [.ref (ad 3), .int a]) (va_Qi (fun (r : Int32) (u : Unit) => r = setV ro a cn.toNatClampNeg) (cB D (ty4 cI cY cJ cQ) (fun (u : Unit) => [(oC1 ad cn), (aI cI (ad 33) 12 ro)]) (va_A [(oC1 ad cn), (aI cI (ad 33) 12 ro)] sz)) (va_A [(oC1 ad cn), (aI cI (ad 33) 12 ro)] sz)) 0 0 (va_A [(oC1 ad cn), (aI cI (ad 33) 12 ro)] sz) := by
  refine Met.ofW (cc := cX1_setIn) (maxL := 4) (ret := (some .int)) (by decide) rfl ?_
  intro p e s m args below meth c s₁ B hml hv
  obtain ⟨rfl, hsz, hP, hK, hD0, hN⟩ := hv
  have hx := B.exec
  have hb := B.bytes
  have hr := B.returns
  have hts := atoms_spec (ws := wsX1_setIn) B.pre
  have hown : s.vm.findClass RX1 = some m.cls := findClass_of_methodNamed B.named
  have hlocks := B.notSynchronized
  subst hsz
  have hD := hD0.self (sz := s.heap.size)
  generalize hAe : va_A [(oC1 ad cn), (aI cI (ad 33) 12 ro)] s.heap.size = A at hD ⊢
  have hA : ∀ q : Nat, s.heap.size ≤ q → A q := fun q h => by rw [← hAe]; exact Or.inr h
  have hS : va_S A s.heap s.heap [] := va_S.rf
  have hP : va_P D vwCl [(oC1 ad cn), (aI cI (ad 33) 12 ro)] s.heap := hP
  have hl := lv_entry ([.ref (ad 3), .int a]) (n := 4) (Nat.le_of_ble_eq_true rfl)
  rw [lg_entry_eq]
  generalize (lg_sl ([.ref (ad 3), .int a]) ++ List.replicate (4 - (lg_sl ([.ref (ad 3), .int a])).length) Slot.unset).toArray = ls at hl ⊢
  have hl : lv_has ls 4 [(0, .ref (ad 3)), (1, .int a)] := hl
  have k0 : (0 : Int32).toInt = 0 := by decide
  have k1 : (1 : Int32).toInt = 1 := by decide
  refine lv_iconst (v := 0) hx hb dX1_setIn_0 (by decide) ?_
  refine lv_istore_n (lv' := [(2, .int 0), (0, .ref (ad 3)), (1, .int a)]) hx hb dX1_setIn_1 rfl hl (by decide) rfl (fun ls hl => ?_)
  refine lv_iconst (v := 0) hx hb dX1_setIn_2 (by decide) ?_
  refine lv_istore_n (lv' := [(3, .int 0), (2, .int 0), (0, .ref (ad 3)), (1, .int a)]) hx hb dX1_setIn_3 rfl hl (by decide) rfl (fun ls hl => ?_)
  refine st_loop 4 (fun _ => []) (fun (z : Int32 × Int32) (ls : Array Slot) (H : Heap) (locs : List Loc) => match z with | (q4_2, q4_3) => (0 ≤ q4_3.toInt) ∧ (q4_3.toInt ≤ cn.toInt) ∧ (q4_2 = setV ro a q4_3.toNatClampNeg) ∧ lv_has ls 4 [(0, .ref (ad 3)), (1, .int a), (2, .int q4_2), (3, .int q4_3)] ∧ va_P D vwCl [(oC1 ad cn), (aI cI (ad 33) 12 ro)] H ∧ va_D A [(oC1 ad cn), (aI cI (ad 33) 12 ro)] ∧ va_S A s.heap H locs) (fun (z : Int32 × Int32) => match z with | (q4_2, q4_3) => cn.toInt - q4_3.toInt) ?_ ?_ ((0 : Int32), (0 : Int32)) ⟨(by omega), (by omega), (by rfl), lv_sub hl [2, 3, 1, 0] rfl, hP, hD, hS⟩
  · rintro ⟨q4_2, q4_3⟩ ls H locs ⟨g1, g2, g3, hl, hP, hD, hS⟩
    show (0 : Int) ≤ cn.toInt - q4_3.toInt
    omega
  · rintro n6 ih4 ⟨q4_2, q4_3⟩ ls H locs ⟨g1, g2, g3, hl, hP, hD, hS⟩ hm5
    have hm5 : cn.toInt - q4_3.toInt < (n6 : Int) + 1 := hm5
    replace hl : lv_has ls 4 [(0, .ref (ad 3)), (1, .int a), (2, .int q4_2), (3, .int q4_3)] := hl
    replace hP : va_P D vwCl [(oC1 ad cn), (aI cI (ad 33) 12 ro)] H := hP
    replace hD : va_D A [(oC1 ad cn), (aI cI (ad 33) 12 ro)] := hD
    show W _ _ _ _ _ _ _ _ _ _ _ _ _ _ _ (F0 m 4 ls [])
    refine lv_iload_n hx hb dX1_setIn_4 rfl (lv_at hl 3 rfl) ?_
    refine lv_aload_n hx hb dX1_setIn_5 rfl (lv_at hl 0 rfl) ?_
    refine va_get (D := D) (ci := 1) (v := .int cn) (C := RX1) (T := TX1) (N := 6) hx hb hts inX1_setIn_X1 hown hK hP 0 rfl rfl 3 (by decide) (hts (Cond.fieldLink RX1 35 "PortRooms$Crates" "count" "I") (wm_t (wm_l (wm_i 0 rfl)))) (fun _ h9 => h9) rfl dX1_setIn_6 ?_
    refine lv_icmp_ge (tgt := 34) hx hb dX1_setIn_9 (by decide) (fun c7 => ?_) (fun c7 => ?_)
    · skip
      have f8 := i_le c7
      refine lv_iload_n hx hb dX1_setIn_34 rfl (lv_at hl 2 rfl) ?_
      have ce8 := i_cl (x := q4_3) (by omega)
      have ce9 := i_cl (x := cn) (by omega)
      have ee9 : q4_3.toNatClampNeg = cn.toNatClampNeg := by omega
      have hz9 := g3
      rw [ee9] at hz9
      have hP9 := hP
      have hD9 := hD
      exact W.iret (v := q4_2) hx hb hr (fun t ht hW => ⟨⟨q4_2, (), rfl, hz9, by rw [ht]; exact hP9, va_K.moved hW.alike hK, hD9⟩, hS.F ht⟩) hS.2.2 dX1_setIn_35
    · skip
      have f9 := i_nle c7
      refine lv_aload_n hx hb dX1_setIn_12 rfl (lv_at hl 0 rfl) ?_
      refine va_get (D := D) (ci := 1) (v := .ref (ad 33)) (C := RX1) (T := TX1) (N := 6) hx hb hts inX1_setIn_X1 hown hK hP 0 rfl rfl 2 (by decide) (hts (Cond.fieldLink RX1 18 "PortRooms$Crates" "room" "[I") (wm_t (wm_l (wm_i 1 rfl)))) (fun _ h9 => h9) rfl dX1_setIn_13 ?_
      refine lv_iload_n hx hb dX1_setIn_16 rfl (lv_at hl 3 rfl) ?_
      refine va_iald hx hb hK hP 1 0 rfl rfl (i_in (by omega) (by omega)) dX1_setIn_17 ?_
      refine lv_topi (fun v10 ev10 => ?_)
      have tlv10 : v10.toInt = (ro q4_3.toNatClampNeg).toInt := by rw [ev10]
      refine lv_iload_n hx hb dX1_setIn_18 rfl (lv_at hl 1 rfl) ?_
      refine lv_icmp_ne (tgt := 28) hx hb dX1_setIn_19 (by decide) (fun c11 => ?_) (fun c11 => ?_)
      · skip
        have f12 := i_ne c11
        obtain ⟨v13, ev13⟩ : ∃ y : Int32, y = q4_3 + 1 := ⟨_, rfl⟩
        try have tv13 : v13.toInt = q4_3.toInt + 1 := by rw [ev13]; exact (i_add (x := q4_3) (y := (1 : Int32)) (by rw [k1]; omega) (by rw [k1]; omega)).trans (by rw [k1])
        refine lv_iinc (v := v13) (lv' := [(3, .int v13), (0, .ref (ad 3)), (1, .int a), (2, .int q4_2)]) hx hb dX1_setIn_28 hl (k := 3) rfl (by rw [ev13]; rfl) (by decide) rfl (fun ls hl => ?_)
        refine lv_goto (tgt := 4) hx hb dX1_setIn_31 (by decide) ?_
        have clk8 := i_cl (x := q4_3) (by omega)
        have clk9 := i_cl (x := v13) (by omega)
        have ek9 : v13.toNatClampNeg = q4_3.toNatClampNeg + 1 := by omega
        have nk9 : nI q4_3.toNatClampNeg = q4_3 := i_nI (by omega)
        exact ih4 (q4_2, v13) ls H locs ⟨(by omega), (by omega), (by rw [ek9, setV_s, nk9, ← g3]; (repeat' split) <;> first | (exfalso; omega) | (exfalso; contradiction) | rfl | (subst_vars; rfl)), lv_sub hl [1, 2, 3, 0] rfl, hP.sub [0, 1] rfl, hD.sub [0, 1] (by decide +kernel) rfl, hS⟩ (by show cn.toInt - v13.toInt < _; omega)
      · skip
        have f14 := i_eq c11
        refine lv_iload_n hx hb dX1_setIn_22 rfl (lv_at hl 2 rfl) ?_
        refine lv_iconst (v := 1) hx hb dX1_setIn_23 (by decide) ?_
        refine lv_iload_n hx hb dX1_setIn_24 rfl (lv_at hl 3 rfl) ?_
        refine lv_ishl hx hb dX1_setIn_25 ?_
        refine lv_topi (fun v15 ev15 => ?_)
        refine lv_ior hx hb dX1_setIn_26 ?_
        refine lv_topi (fun v16 ev16 => ?_)
        refine lv_istore_n (lv' := [(2, .int v16), (0, .ref (ad 3)), (1, .int a), (3, .int q4_3)]) hx hb dX1_setIn_27 rfl hl (by decide) rfl (fun ls hl => ?_)
        obtain ⟨v17, ev17⟩ : ∃ y : Int32, y = q4_3 + 1 := ⟨_, rfl⟩
        try have tv17 : v17.toInt = q4_3.toInt + 1 := by rw [ev17]; exact (i_add (x := q4_3) (y := (1 : Int32)) (by rw [k1]; omega) (by rw [k1]; omega)).trans (by rw [k1])
        refine lv_iinc (v := v17) (lv' := [(3, .int v17), (2, .int v16), (0, .ref (ad 3)), (1, .int a)]) hx hb dX1_setIn_28 hl (k := 3) rfl (by rw [ev17]; rfl) (by decide) rfl (fun ls hl => ?_)
        refine lv_goto (tgt := 4) hx hb dX1_setIn_31 (by decide) ?_
        have clk8 := i_cl (x := q4_3) (by omega)
        have clk9 := i_cl (x := v17) (by omega)
        have ek9 : v17.toNatClampNeg = q4_3.toNatClampNeg + 1 := by omega
        have nk9 : nI q4_3.toNatClampNeg = q4_3 := i_nI (by omega)
        exact ih4 (v16, v17) ls H locs ⟨(by omega), (by omega), (by rw [ek9, setV_s, nk9, ← g3]; (repeat' split) <;> first | (exfalso; omega) | (exfalso; contradiction) | rfl | (subst_vars; rfl)), lv_sub hl [2, 3, 1, 0] rfl, hP.sub [0, 1] rfl, hD.sub [0, 1] (by decide +kernel) rfl, hS⟩ (by show cn.toInt - v17.toInt < _; omega)

/-- the crates in rooms, as bits -/
def stV (cn : Int32) (ro : Nat → Int32) : Int32 := (((1 : Int32) <<< (cn &&& 31)) - 1) &&& ((setV ro (-1000000) cn.toNatClampNeg) ^^^ (-1))

set_option maxHeartbeats 4000000 in
set_option maxRecDepth 100000 in
theorem ct_X1_setInRooms (l : Launch) (D : va_G) (cI cY cJ cQ : ClassId) (sz : Nat) (ad : Nat → Nat) (cn : Int32) (ro : Nat → Int32)  (h1 : 0 ≤ cn.toInt) (h2 : cn.toInt ≤ 12)  : Met l yX1_setInRooms wsX1_setInRooms ({ frames := 1, cells := 0, slots := 0, locals := 23 }) (cPre D (ty4 cI cY cJ cQ) [(oC1 ad cn), (aI cI (ad 33) 12 ro)] sz [.ref (ad 3)]) (va_Qi (fun (r : Int32) (u : Unit) => r = stV cn ro) (cB D (ty4 cI cY cJ cQ) (fun (u : Unit) => [(oC1 ad cn), (aI cI (ad 33) 12 ro)]) (va_A [(oC1 ad cn), (aI cI (ad 33) 12 ro)] sz)) (va_A [(oC1 ad cn), (aI cI (ad 33) 12 ro)] sz)) 0 0 (va_A [(oC1 ad cn), (aI cI (ad 33) 12 ro)] sz) := by
  refine Met.ofW (cc := cX1_setInRooms) (maxL := 2) (ret := (some .int)) (by decide) rfl ?_
  intro p e s m args below meth c s₁ B hml hv
  obtain ⟨rfl, hsz, hP, hK, hD0, hN⟩ := hv
  have hx := B.exec
  have hb := B.bytes
  have hr := B.returns
  have hts := atoms_spec (ws := wsX1_setInRooms) B.pre
  have hown : s.vm.findClass RX1 = some m.cls := findClass_of_methodNamed B.named
  have hlocks := B.notSynchronized
  subst hsz
  have hD := hD0.self (sz := s.heap.size)
  generalize hAe : va_A [(oC1 ad cn), (aI cI (ad 33) 12 ro)] s.heap.size = A at hD ⊢
  have hA : ∀ q : Nat, s.heap.size ≤ q → A q := fun q h => by rw [← hAe]; exact Or.inr h
  have hS : va_S A s.heap s.heap [] := va_S.rf
  have hP : va_P D vwCl [(oC1 ad cn), (aI cI (ad 33) 12 ro)] s.heap := hP
  have hl := lv_entry ([.ref (ad 3)]) (n := 2) (Nat.le_of_ble_eq_true rfl)
  rw [lg_entry_eq]
  generalize (lg_sl ([.ref (ad 3)]) ++ List.replicate (2 - (lg_sl ([.ref (ad 3)])).length) Slot.unset).toArray = ls at hl ⊢
  have hl : lv_has ls 2 [(0, .ref (ad 3))] := hl
  have km1000000 : (-1000000 : Int32).toInt = -1000000 := by decide
  have km1 : (-1 : Int32).toInt = -1 := by decide
  have k1 : (1 : Int32).toInt = 1 := by decide
  refine lv_iconst (v := 1) hx hb dX1_setInRooms_0 (by decide) ?_
  refine lv_aload_n hx hb dX1_setInRooms_1 rfl (lv_at hl 0 rfl) ?_
  refine va_get (D := D) (ci := 1) (v := .int cn) (C := RX1) (T := TX1) (N := 6) hx hb hts inX1_setInRooms_X1 hown hK hP 0 rfl rfl 3 (by decide) (hts (Cond.fieldLink RX1 35 "PortRooms$Crates" "count" "I") (wm_t (wm_l (wm_i 0 rfl)))) (fun _ h9 => h9) rfl dX1_setInRooms_2 ?_
  refine lv_ishl hx hb dX1_setInRooms_5 ?_
  refine lv_topi (fun v1 ev1 => ?_)
  refine lv_iconst (v := 1) hx hb dX1_setInRooms_6 (by decide) ?_
  refine lv_isub hx hb dX1_setInRooms_7 ?_
  refine lv_topi (fun v2 ev2 => ?_)
  refine lv_istore_n (lv' := [(1, .int v2), (0, .ref (ad 3))]) hx hb dX1_setInRooms_8 rfl hl (by decide) rfl (fun ls hl => ?_)
  refine lv_iload_n hx hb dX1_setInRooms_9 rfl (lv_at hl 0 rfl) ?_
  refine lv_aload_n hx hb dX1_setInRooms_10 rfl (lv_at hl 1 rfl) ?_
  refine lv_ldc hx hb hown (hts (Cond.constant RX1 27 (-1000000)) (wm_t (wm_l (wm_i 1 rfl)))) dX1_setInRooms_11 ?_
  refine st_i1 (va_runV (C := RX1) (As := [.int (-1000000)]) (rest := [.int v2]) ⟨hx, hb, hml, hown, hts⟩ (ct_X1_setIn l D cI cY cJ cQ _ ad cn ro ((-1000000) : Int32) h1 h2) (cwV 1 hts gX1_setInRooms_X1_setIn rfl rfl rfl ⟨rfl, cdX1_setIn⟩ ⟨Nat.le_of_ble_eq_true rfl, Nat.le_of_ble_eq_true rfl⟩) (cPreV (hP.sub [0, 1] rfl) hK (hD.sub [0, 1] (by decide +kernel) rfl) hN (ci := 1) (q0 := 0) rfl rfl) rfl rfl hl.1 rfl (lv_room (Nat.le_of_ble_eq_true rfl)) dX1_setInRooms_13 ⟨Nat.le_of_ble_eq_true rfl, Nat.le_of_ble_eq_true rfl⟩) hP hD hS hA [0, 1] rfl (fun _ => rfl) (fun r5 u3 H locs hw4 => ?_)
  clear hP hS
  intro hP hS
  replace hw4 : r5 = setV ro ((-1000000) : Int32) cn.toNatClampNeg := hw4
  subst hw4
  refine lv_iconst (v := (-1)) hx hb dX1_setInRooms_16 (by decide) ?_
  refine lv_ixor hx hb dX1_setInRooms_17 ?_
  refine lv_topi (fun v6 ev6 => ?_)
  refine lv_iand hx hb dX1_setInRooms_18 ?_
  refine lv_topi (fun v7 ev7 => ?_)
  have hP9 := hP
  have hD9 := hD
  exact W.iret (v := v7) hx hb hr (fun t ht hW => ⟨⟨v7, (), rfl, (by unfold stV; subst_vars; rfl), by rw [ht]; exact hP9, va_K.moved hW.alike hK, hD9⟩, hS.F ht⟩) hS.2.2 dX1_setInRooms_19

set_option maxHeartbeats 4000000 in
set_option maxRecDepth 100000 in
theorem ct_X1_worthsOf (l : Launch) (D : va_G) (cI cY cJ cQ : ClassId) (sz : Nat) (ad : Nat → Nat) (cn : Int32) (wo : Nat → Int32) (a : Int32)  (h1 : 0 ≤ cn.toInt) (h2 : cn.toInt ≤ 12)  : Met l yX1_worthsOf wsX1_worthsOf ({ frames := 1, cells := 0, slots := 0, locals := 21 }) (cPre D (ty4 cI cY cJ cQ) [(oC1 ad cn), (aI cI (ad 32) 12 wo)] sz [.ref (ad 3), .int a]) (va_Qi (fun (r : Int32) (u : Unit) => r = woV wo a cn.toNatClampNeg) (cB D (ty4 cI cY cJ cQ) (fun (u : Unit) => [(oC1 ad cn), (aI cI (ad 32) 12 wo)]) (va_A [(oC1 ad cn), (aI cI (ad 32) 12 wo)] sz)) (va_A [(oC1 ad cn), (aI cI (ad 32) 12 wo)] sz)) 0 0 (va_A [(oC1 ad cn), (aI cI (ad 32) 12 wo)] sz) := by
  refine Met.ofW (cc := cX1_worthsOf) (maxL := 4) (ret := (some .int)) (by decide) rfl ?_
  intro p e s m args below meth c s₁ B hml hv
  obtain ⟨rfl, hsz, hP, hK, hD0, hN⟩ := hv
  have hx := B.exec
  have hb := B.bytes
  have hr := B.returns
  have hts := atoms_spec (ws := wsX1_worthsOf) B.pre
  have hown : s.vm.findClass RX1 = some m.cls := findClass_of_methodNamed B.named
  have hlocks := B.notSynchronized
  subst hsz
  have hD := hD0.self (sz := s.heap.size)
  generalize hAe : va_A [(oC1 ad cn), (aI cI (ad 32) 12 wo)] s.heap.size = A at hD ⊢
  have hA : ∀ q : Nat, s.heap.size ≤ q → A q := fun q h => by rw [← hAe]; exact Or.inr h
  have hS : va_S A s.heap s.heap [] := va_S.rf
  have hP : va_P D vwCl [(oC1 ad cn), (aI cI (ad 32) 12 wo)] s.heap := hP
  have hl := lv_entry ([.ref (ad 3), .int a]) (n := 4) (Nat.le_of_ble_eq_true rfl)
  rw [lg_entry_eq]
  generalize (lg_sl ([.ref (ad 3), .int a]) ++ List.replicate (4 - (lg_sl ([.ref (ad 3), .int a])).length) Slot.unset).toArray = ls at hl ⊢
  have hl : lv_has ls 4 [(0, .ref (ad 3)), (1, .int a)] := hl
  have k0 : (0 : Int32).toInt = 0 := by decide
  have k1 : (1 : Int32).toInt = 1 := by decide
  refine lv_iconst (v := 0) hx hb dX1_worthsOf_0 (by decide) ?_
  refine lv_istore_n (lv' := [(2, .int 0), (0, .ref (ad 3)), (1, .int a)]) hx hb dX1_worthsOf_1 rfl hl (by decide) rfl (fun ls hl => ?_)
  refine lv_iconst (v := 0) hx hb dX1_worthsOf_2 (by decide) ?_
  refine lv_istore_n (lv' := [(3, .int 0), (2, .int 0), (0, .ref (ad 3)), (1, .int a)]) hx hb dX1_worthsOf_3 rfl hl (by decide) rfl (fun ls hl => ?_)
  refine st_loop 4 (fun _ => []) (fun (z : Int32 × Int32) (ls : Array Slot) (H : Heap) (locs : List Loc) => match z with | (q4_2, q4_3) => (0 ≤ q4_3.toInt) ∧ (q4_3.toInt ≤ cn.toInt) ∧ (q4_2 = woV wo a q4_3.toNatClampNeg) ∧ lv_has ls 4 [(0, .ref (ad 3)), (1, .int a), (2, .int q4_2), (3, .int q4_3)] ∧ va_P D vwCl [(oC1 ad cn), (aI cI (ad 32) 12 wo)] H ∧ va_D A [(oC1 ad cn), (aI cI (ad 32) 12 wo)] ∧ va_S A s.heap H locs) (fun (z : Int32 × Int32) => match z with | (q4_2, q4_3) => cn.toInt - q4_3.toInt) ?_ ?_ ((0 : Int32), (0 : Int32)) ⟨(by omega), (by omega), (by rfl), lv_sub hl [2, 3, 1, 0] rfl, hP, hD, hS⟩
  · rintro ⟨q4_2, q4_3⟩ ls H locs ⟨g1, g2, g3, hl, hP, hD, hS⟩
    show (0 : Int) ≤ cn.toInt - q4_3.toInt
    omega
  · rintro n6 ih4 ⟨q4_2, q4_3⟩ ls H locs ⟨g1, g2, g3, hl, hP, hD, hS⟩ hm5
    have hm5 : cn.toInt - q4_3.toInt < (n6 : Int) + 1 := hm5
    replace hl : lv_has ls 4 [(0, .ref (ad 3)), (1, .int a), (2, .int q4_2), (3, .int q4_3)] := hl
    replace hP : va_P D vwCl [(oC1 ad cn), (aI cI (ad 32) 12 wo)] H := hP
    replace hD : va_D A [(oC1 ad cn), (aI cI (ad 32) 12 wo)] := hD
    show W _ _ _ _ _ _ _ _ _ _ _ _ _ _ _ (F0 m 4 ls [])
    refine lv_iload_n hx hb dX1_worthsOf_4 rfl (lv_at hl 3 rfl) ?_
    refine lv_aload_n hx hb dX1_worthsOf_5 rfl (lv_at hl 0 rfl) ?_
    refine va_get (D := D) (ci := 1) (v := .int cn) (C := RX1) (T := TX1) (N := 6) hx hb hts inX1_worthsOf_X1 hown hK hP 0 rfl rfl 3 (by decide) (hts (Cond.fieldLink RX1 35 "PortRooms$Crates" "count" "I") (wm_t (wm_l (wm_i 0 rfl)))) (fun _ h9 => h9) rfl dX1_worthsOf_6 ?_
    refine lv_icmp_ge (tgt := 35) hx hb dX1_worthsOf_9 (by decide) (fun c7 => ?_) (fun c7 => ?_)
    · skip
      have f8 := i_le c7
      refine lv_iload_n hx hb dX1_worthsOf_35 rfl (lv_at hl 2 rfl) ?_
      have ce8 := i_cl (x := q4_3) (by omega)
      have ce9 := i_cl (x := cn) (by omega)
      have ee9 : q4_3.toNatClampNeg = cn.toNatClampNeg := by omega
      have hz9 := g3
      rw [ee9] at hz9
      have hP9 := hP
      have hD9 := hD
      exact W.iret (v := q4_2) hx hb hr (fun t ht hW => ⟨⟨q4_2, (), rfl, hz9, by rw [ht]; exact hP9, va_K.moved hW.alike hK, hD9⟩, hS.F ht⟩) hS.2.2 dX1_worthsOf_36
    · skip
      have f9 := i_nle c7
      refine lv_iload_n hx hb dX1_worthsOf_12 rfl (lv_at hl 1 rfl) ?_
      refine lv_iload_n hx hb dX1_worthsOf_13 rfl (lv_at hl 3 rfl) ?_
      refine st_i1 (va_runSN (As := [.int a, .int q4_3]) (rest := []) ⟨hx, hb, hml, hown, hts⟩ (ct_X10_hasBit l D cI cY cJ cQ _ a q4_3) ⟨va_cnB 2 hts gX1_worthsOf_X10_hasBit_n43 rfl rfl rfl (hN.1 (RX1, 43, yX10_hasBit, "PortRooms") (by decide +kernel)) (hts (Cond.initialized RX10) (wm_t (wm_l (wm_i 3 rfl)))) cdX10_hasBit ⟨Nat.le_of_ble_eq_true rfl, Nat.le_of_ble_eq_true rfl⟩, (hts (Cond.static yX10_hasBit) (wm_t (wm_l (wm_i 2 rfl)))), trivial⟩ (cPreS (hP.sub [] rfl) hK (hD.sub [] (by decide +kernel) rfl) hN) rfl rfl hl.1 rfl (lv_room (Nat.le_of_ble_eq_true rfl)) dX1_worthsOf_14 ⟨Nat.le_of_ble_eq_true rfl, Nat.le_of_ble_eq_true rfl⟩) hP hD hS hA [] rfl (fun _ => rfl) (fun r12 u10 H locs hw11 => ?_)
      clear hP hS
      intro hP hS
      replace hw11 : r12 = if hbP a q4_3 then 1 else 0 := hw11
      refine lv_if_eq (tgt := 29) hx hb dX1_worthsOf_17 (by decide) (fun c13 => ?_) (fun c13 => ?_)
      · skip
        have f14 := bo_f hw11 c13
        obtain ⟨v15, ev15⟩ : ∃ y : Int32, y = q4_3 + 1 := ⟨_, rfl⟩
        try have tv15 : v15.toInt = q4_3.toInt + 1 := by rw [ev15]; exact (i_add (x := q4_3) (y := (1 : Int32)) (by rw [k1]; omega) (by rw [k1]; omega)).trans (by rw [k1])
        refine lv_iinc (v := v15) (lv' := [(3, .int v15), (0, .ref (ad 3)), (1, .int a), (2, .int q4_2)]) hx hb dX1_worthsOf_29 hl (k := 3) rfl (by rw [ev15]; rfl) (by decide) rfl (fun ls hl => ?_)
        refine lv_goto (tgt := 4) hx hb dX1_worthsOf_32 (by decide) ?_
        have clk8 := i_cl (x := q4_3) (by omega)
        have clk9 := i_cl (x := v15) (by omega)
        have ek9 : v15.toNatClampNeg = q4_3.toNatClampNeg + 1 := by omega
        have nk9 : nI q4_3.toNatClampNeg = q4_3 := i_nI (by omega)
        exact ih4 (q4_2, v15) ls H locs ⟨(by omega), (by omega), (by rw [ek9, woV_s, nk9, ← g3]; (repeat' split) <;> first | (exfalso; omega) | (exfalso; contradiction) | rfl | (subst_vars; rfl)), lv_sub hl [1, 2, 3, 0] rfl, hP.sub [0, 1] rfl, hD.sub [0, 1] (by decide +kernel) rfl, hS⟩ (by show cn.toInt - v15.toInt < _; omega)
      · skip
        have f16 := bo_t hw11 c13
        refine lv_iload_n hx hb dX1_worthsOf_20 rfl (lv_at hl 2 rfl) ?_
        refine lv_aload_n hx hb dX1_worthsOf_21 rfl (lv_at hl 0 rfl) ?_
        refine va_get (D := D) (ci := 1) (v := .ref (ad 32)) (C := RX1) (T := TX1) (N := 6) hx hb hts inX1_worthsOf_X1 hown hK hP 0 rfl rfl 1 (by decide) (hts (Cond.fieldLink RX1 15 "PortRooms$Crates" "worth" "[I") (wm_t (wm_l (wm_i 1 rfl)))) (fun _ h9 => h9) rfl dX1_worthsOf_22 ?_
        refine lv_iload_n hx hb dX1_worthsOf_25 rfl (lv_at hl 3 rfl) ?_
        refine va_iald hx hb hK hP 1 0 rfl rfl (i_in (by omega) (by omega)) dX1_worthsOf_26 ?_
        refine lv_topi (fun v17 ev17 => ?_)
        refine lv_iadd hx hb dX1_worthsOf_27 ?_
        refine lv_topi (fun v18 ev18 => ?_)
        refine lv_istore_n (lv' := [(2, .int v18), (0, .ref (ad 3)), (1, .int a), (3, .int q4_3)]) hx hb dX1_worthsOf_28 rfl hl (by decide) rfl (fun ls hl => ?_)
        obtain ⟨v19, ev19⟩ : ∃ y : Int32, y = q4_3 + 1 := ⟨_, rfl⟩
        try have tv19 : v19.toInt = q4_3.toInt + 1 := by rw [ev19]; exact (i_add (x := q4_3) (y := (1 : Int32)) (by rw [k1]; omega) (by rw [k1]; omega)).trans (by rw [k1])
        refine lv_iinc (v := v19) (lv' := [(3, .int v19), (2, .int v18), (0, .ref (ad 3)), (1, .int a)]) hx hb dX1_worthsOf_29 hl (k := 3) rfl (by rw [ev19]; rfl) (by decide) rfl (fun ls hl => ?_)
        refine lv_goto (tgt := 4) hx hb dX1_worthsOf_32 (by decide) ?_
        have clk8 := i_cl (x := q4_3) (by omega)
        have clk9 := i_cl (x := v19) (by omega)
        have ek9 : v19.toNatClampNeg = q4_3.toNatClampNeg + 1 := by omega
        have nk9 : nI q4_3.toNatClampNeg = q4_3 := i_nI (by omega)
        exact ih4 (v18, v19) ls H locs ⟨(by omega), (by omega), (by rw [ek9, woV_s, nk9, ← g3]; (repeat' split) <;> first | (exfalso; omega) | (exfalso; contradiction) | rfl | (subst_vars; rfl)), lv_sub hl [2, 3, 1, 0] rfl, hP.sub [0, 1] rfl, hD.sub [0, 1] (by decide +kernel) rfl, hS⟩ (by show cn.toInt - v19.toInt < _; omega)

set_option maxHeartbeats 4000000 in
set_option maxRecDepth 100000 in
theorem ct_X1_fits (l : Launch) (D : va_G) (cI cY cJ cQ : ClassId) (sz : Nat) (ad : Nat → Nat) (cn : Int32) (wo ro aw iw : Nat → Int32) (k : Int32) (q : Int32)  (h1 : 0 ≤ cn.toInt) (h2 : cn.toInt ≤ 12) (h3 : 0 ≤ k.toInt) (h4 : k.toInt < cn.toInt) (h5 : 0 ≤ q.toInt) (h6 : q.toInt < 6)  : Met l yX1_fits wsX1_fits ({ frames := 2, cells := 0, slots := 0, locals := 44 }) (cPre D (ty4 cI cY cJ cQ) [(oC1 ad cn), (aI cI (ad 32) 12 wo), (aI cI (ad 33) 12 ro), (aI cI (ad 34) 6 aw), (aI cI (ad 35) 6 iw)] sz [.ref (ad 3), .int k, .int q]) (va_Qi (fun (r : Int32) (u : Unit) => r = if (bcf (setV ro q cn.toNatClampNeg)).toInt < (aw q.toNatClampNeg).toInt ∧ (woV wo (setV ro q cn.toNatClampNeg) cn.toNatClampNeg + wo k.toNatClampNeg).toInt ≤ (iw q.toNatClampNeg).toInt then 1 else 0) (cB D (ty4 cI cY cJ cQ) (fun (u : Unit) => [(oC1 ad cn), (aI cI (ad 32) 12 wo), (aI cI (ad 33) 12 ro), (aI cI (ad 34) 6 aw), (aI cI (ad 35) 6 iw)]) (va_A [(oC1 ad cn), (aI cI (ad 32) 12 wo), (aI cI (ad 33) 12 ro), (aI cI (ad 34) 6 aw), (aI cI (ad 35) 6 iw)] sz)) (va_A [(oC1 ad cn), (aI cI (ad 32) 12 wo), (aI cI (ad 33) 12 ro), (aI cI (ad 34) 6 aw), (aI cI (ad 35) 6 iw)] sz)) 0 0 (va_A [(oC1 ad cn), (aI cI (ad 32) 12 wo), (aI cI (ad 33) 12 ro), (aI cI (ad 34) 6 aw), (aI cI (ad 35) 6 iw)] sz) := by
  refine Met.ofW (cc := cX1_fits) (maxL := 4) (ret := (some .boolean)) (by decide) rfl ?_
  intro p e s m args below meth c s₁ B hml hv
  obtain ⟨rfl, hsz, hP, hK, hD0, hN⟩ := hv
  have hx := B.exec
  have hb := B.bytes
  have hr := B.returns
  have hts := atoms_spec (ws := wsX1_fits) B.pre
  have hown : s.vm.findClass RX1 = some m.cls := findClass_of_methodNamed B.named
  have hlocks := B.notSynchronized
  subst hsz
  have hD := hD0.self (sz := s.heap.size)
  generalize hAe : va_A [(oC1 ad cn), (aI cI (ad 32) 12 wo), (aI cI (ad 33) 12 ro), (aI cI (ad 34) 6 aw), (aI cI (ad 35) 6 iw)] s.heap.size = A at hD ⊢
  have hA : ∀ q : Nat, s.heap.size ≤ q → A q := fun q h => by rw [← hAe]; exact Or.inr h
  have hS : va_S A s.heap s.heap [] := va_S.rf
  have hP : va_P D vwCl [(oC1 ad cn), (aI cI (ad 32) 12 wo), (aI cI (ad 33) 12 ro), (aI cI (ad 34) 6 aw), (aI cI (ad 35) 6 iw)] s.heap := hP
  have hl := lv_entry ([.ref (ad 3), .int k, .int q]) (n := 4) (Nat.le_of_ble_eq_true rfl)
  rw [lg_entry_eq]
  generalize (lg_sl ([.ref (ad 3), .int k, .int q]) ++ List.replicate (4 - (lg_sl ([.ref (ad 3), .int k, .int q])).length) Slot.unset).toArray = ls at hl ⊢
  have hl : lv_has ls 4 [(0, .ref (ad 3)), (1, .int k), (2, .int q)] := hl
  refine lv_aload_n hx hb dX1_fits_0 rfl (lv_at hl 0 rfl) ?_
  refine lv_iload_n hx hb dX1_fits_1 rfl (lv_at hl 2 rfl) ?_
  refine st_i1 (va_runV (C := RX1) (As := [.int q]) (rest := []) ⟨hx, hb, hml, hown, hts⟩ (ct_X1_setIn l D cI cY cJ cQ _ ad cn ro q h1 h2) (cwV 1 hts gX1_fits_X1_setIn rfl rfl rfl ⟨rfl, cdX1_setIn⟩ ⟨Nat.le_of_ble_eq_true rfl, Nat.le_of_ble_eq_true rfl⟩) (cPreV (hP.sub [0, 2] rfl) hK (hD.sub [0, 2] (by decide +kernel) rfl) hN (ci := 1) (q0 := 0) rfl rfl) rfl rfl hl.1 rfl (lv_room (Nat.le_of_ble_eq_true rfl)) dX1_fits_2 ⟨Nat.le_of_ble_eq_true rfl, Nat.le_of_ble_eq_true rfl⟩) hP hD hS hA [0, 2] rfl (fun _ => rfl) (fun r3 u1 H locs hw2 => ?_)
  clear hP hS
  intro hP hS
  replace hw2 : r3 = setV ro q cn.toNatClampNeg := hw2
  subst hw2
  refine lv_istore_n (lv' := [(3, .int (setV ro q cn.toNatClampNeg)), (0, .ref (ad 3)), (1, .int k), (2, .int q)]) hx hb dX1_fits_5 rfl hl (by decide) rfl (fun ls hl => ?_)
  refine lv_iload_n hx hb dX1_fits_6 rfl (lv_at hl 0 rfl) ?_
  refine st_i1 (va_runS (As := [.int (setV ro q cn.toNatClampNeg)]) (rest := []) ⟨hx, hb, hml, hown, hts⟩ (ct_bitCount l D cI cY cJ cQ _ (setV ro q cn.toNatClampNeg)) (va_cwS 1 hts gX1_fits_J6_bitCount_0f7a4 rfl rfl rfl cdJ6_bitCount_0f7a4 ⟨Nat.le_of_ble_eq_true rfl, Nat.le_of_ble_eq_true rfl⟩) (cPreS (hP.sub [] rfl) hK (hD.sub [] (by decide +kernel) rfl) hN) rfl rfl hl.1 rfl (lv_room (Nat.le_of_ble_eq_true rfl)) dX1_fits_7 ⟨Nat.le_of_ble_eq_true rfl, Nat.le_of_ble_eq_true rfl⟩) hP hD hS hA [] rfl (fun _ => rfl) (fun r6 u4 H locs hw5 => ?_)
  clear hP hS
  intro hP hS
  replace hw5 : r6 = bcf (setV ro q cn.toNatClampNeg) := hw5
  subst hw5
  refine lv_aload_n hx hb dX1_fits_10 rfl (lv_at hl 1 rfl) ?_
  refine va_get (D := D) (ci := 1) (v := .ref (ad 34)) (C := RX1) (T := TX1) (N := 6) hx hb hts inX1_fits_X1 hown hK hP 0 rfl rfl 4 (by decide) (hts (Cond.fieldLink RX1 21 "PortRooms$Crates" "air" "[I") (wm_t (wm_l (wm_i 0 rfl)))) (fun _ h9 => h9) rfl dX1_fits_11 ?_
  refine lv_iload_n hx hb dX1_fits_14 rfl (lv_at hl 3 rfl) ?_
  refine va_iald hx hb hK hP 3 0 rfl rfl (i_in (by omega) (by omega)) dX1_fits_15 ?_
  refine lv_topi (fun v7 ev7 => ?_)
  have tlv7 : v7.toInt = (aw q.toNatClampNeg).toInt := by rw [ev7]
  refine lv_icmp_ge (tgt := 44) hx hb dX1_fits_16 (by decide) (fun c8 => ?_) (fun c8 => ?_)
  · skip
    have f9 := i_le c8
    refine lv_iconst (v := 0) hx hb dX1_fits_44 (by decide) ?_
    have hP9 := hP
    have hD9 := hD
    exact W.zret (v := 0) hx hb hr rfl (fun t ht hW => ⟨⟨0, (), rfl, (by subst_vars; exact bo_no (by omega)), by rw [ht]; exact hP9, va_K.moved hW.alike hK, hD9⟩, hS.F ht⟩) hS.2.2 dX1_fits_45
  · skip
    have f10 := i_nle c8
    refine lv_aload_n hx hb dX1_fits_19 rfl (lv_at hl 1 rfl) ?_
    refine lv_iload_n hx hb dX1_fits_20 rfl (lv_at hl 0 rfl) ?_
    refine st_i1 (va_runV (C := RX1) (As := [.int (setV ro q cn.toNatClampNeg)]) (rest := []) ⟨hx, hb, hml, hown, hts⟩ (ct_X1_worthsOf l D cI cY cJ cQ _ ad cn wo (setV ro q cn.toNatClampNeg) h1 h2) (cwV 1 hts gX1_fits_X1_worthsOf rfl rfl rfl ⟨rfl, cdX1_worthsOf⟩ ⟨Nat.le_of_ble_eq_true rfl, Nat.le_of_ble_eq_true rfl⟩) (cPreV (hP.sub [0, 1] rfl) hK (hD.sub [0, 1] (by decide +kernel) rfl) hN (ci := 1) (q0 := 0) rfl rfl) rfl rfl hl.1 rfl (lv_room (Nat.le_of_ble_eq_true rfl)) dX1_fits_21 ⟨Nat.le_of_ble_eq_true rfl, Nat.le_of_ble_eq_true rfl⟩) hP hD hS hA [0, 1] rfl (fun _ => rfl) (fun r13 u11 H locs hw12 => ?_)
    clear hP hS
    intro hP hS
    replace hw12 : r13 = woV wo (setV ro q cn.toNatClampNeg) cn.toNatClampNeg := hw12
    subst hw12
    refine lv_aload_n hx hb dX1_fits_24 rfl (lv_at hl 1 rfl) ?_
    refine va_get (D := D) (ci := 1) (v := .ref (ad 32)) (C := RX1) (T := TX1) (N := 6) hx hb hts inX1_fits_X1 hown hK hP 0 rfl rfl 1 (by decide) (hts (Cond.fieldLink RX1 15 "PortRooms$Crates" "worth" "[I") (wm_t (wm_l (wm_i 1 rfl)))) (fun _ h9 => h9) rfl dX1_fits_25 ?_
    refine lv_iload_n hx hb dX1_fits_28 rfl (lv_at hl 2 rfl) ?_
    refine va_iald hx hb hK hP 1 0 rfl rfl (i_in (by omega) (by omega)) dX1_fits_29 ?_
    refine lv_topi (fun v14 ev14 => ?_)
    have tlv14 : v14.toInt = (wo k.toNatClampNeg).toInt := by rw [ev14]
    refine lv_iadd hx hb dX1_fits_30 ?_
    refine lv_topi (fun v15 ev15 => ?_)
    refine lv_aload_n hx hb dX1_fits_31 rfl (lv_at hl 1 rfl) ?_
    refine va_get (D := D) (ci := 1) (v := .ref (ad 35)) (C := RX1) (T := TX1) (N := 6) hx hb hts inX1_fits_X1 hown hK hP 0 rfl rfl 5 (by decide) (hts (Cond.fieldLink RX1 24 "PortRooms$Crates" "insured" "[I") (wm_t (wm_l (wm_i 2 rfl)))) (fun _ h9 => h9) rfl dX1_fits_32 ?_
    refine lv_iload_n hx hb dX1_fits_35 rfl (lv_at hl 3 rfl) ?_
    refine va_iald hx hb hK hP 4 0 rfl rfl (i_in (by omega) (by omega)) dX1_fits_36 ?_
    refine lv_topi (fun v16 ev16 => ?_)
    have tlv16 : v16.toInt = (iw q.toNatClampNeg).toInt := by rw [ev16]
    refine lv_icmp_gt (tgt := 44) hx hb dX1_fits_37 (by decide) (fun c17 => ?_) (fun c17 => ?_)
    · skip
      have f18 := i_lt c17
      refine lv_iconst (v := 0) hx hb dX1_fits_44 (by decide) ?_
      have hP9 := hP
      have hD9 := hD
      exact W.zret (v := 0) hx hb hr rfl (fun t ht hW => ⟨⟨0, (), rfl, (by subst_vars; exact bo_no (by omega)), by rw [ht]; exact hP9, va_K.moved hW.alike hK, hD9⟩, hS.F ht⟩) hS.2.2 dX1_fits_45
    · skip
      have f19 := i_nlt c17
      refine lv_iconst (v := 1) hx hb dX1_fits_40 (by decide) ?_
      refine lv_goto (tgt := 45) hx hb dX1_fits_41 (by decide) ?_
      have hP9 := hP
      have hD9 := hD
      exact W.zret (v := 1) hx hb hr rfl (fun t ht hW => ⟨⟨1, (), rfl, (by subst_vars; exact bo_yes (by omega)), by rw [ht]; exact hP9, va_K.moved hW.alike hK, hD9⟩, hS.F ht⟩) hS.2.2 dX1_fits_45

def sp_move (cn : Int32) (wo ro aw iw : Nat → Int32) (k q : Int32) : Int32 × (Nat → Int32) := if 0 ≤ k.toInt ∧ k.toInt < cn.toInt ∧ (q.toInt = -1000000 ∨ (0 ≤ q.toInt ∧ q.toInt < 6)) then (if (ro k.toNatClampNeg).toInt = q.toInt then (-1000002, ro) else if q.toInt = -1000000 ∨ ((bcf (setV ro q cn.toNatClampNeg)).toInt < (aw q.toNatClampNeg).toInt ∧ (woV wo (setV ro q cn.toNatClampNeg) cn.toNatClampNeg + wo k.toNatClampNeg).toInt ≤ (iw q.toNatClampNeg).toInt) then (ro k.toNatClampNeg, upd ro k.toNatClampNeg q) else (-1000003, ro)) else (-1000001, ro)
def sp_inside (cn : Int32) (wo ro : Nat → Int32) (q w : Int32) : Int32 := if 0 ≤ q.toInt ∧ q.toInt < 6 ∧ 0 ≤ w.toInt ∧ w.toInt < 3 then (if w.toInt = 0 then bcf (setV ro q cn.toNatClampNeg) else if w.toInt = 1 then woV wo (setV ro q cn.toNatClampNeg) cn.toNatClampNeg else setV ro q cn.toNatClampNeg) else -1000001

def sp_room (aw iw : Nat → Int32) (q w v : Int32) : Int32 × (Nat → Int32) × (Nat → Int32) := if 0 ≤ q.toInt ∧ q.toInt < 6 ∧ 0 ≤ w.toInt ∧ w.toInt < 2 ∧ 0 ≤ v.toInt ∧ ((w.toInt = 0 ∧ v.toInt ≤ 12) ∨ (w.toInt = 1 ∧ v.toInt ≤ 1000000)) then (if w.toInt = 0 then (aw q.toNatClampNeg, upd aw q.toNatClampNeg v, iw) else (iw q.toNatClampNeg, aw, upd iw q.toNatClampNeg v)) else (-1000001, aw, iw)

set_option maxHeartbeats 4000000 in
set_option maxRecDepth 100000 in
theorem ct_X10_room (l : Launch) (D : va_G) (cI cY cJ cQ : ClassId) (sz : Nat) (ad : Nat → Nat) (tn td lf cn : Int32) (aw iw : Nat → Int32) (q : Int32) (w : Int32) (v : Int32)   : Met l yX10_room wsX10_room ({ frames := 1, cells := 0, slots := 0, locals := 22 }) (cPre D (ty4 cI cY cJ cQ) [(oC10 ad tn td lf), (oC1 ad cn), (aI cI (ad 34) 6 aw), (aI cI (ad 35) 6 iw)] sz [.ref (ad 0), .int q, .int w, .int v]) (va_Qi (fun (r : Int32) (u : (Nat → Int32) × (Nat → Int32)) => (r, u) = sp_room aw iw q w v) (cB D (ty4 cI cY cJ cQ) (fun (u : (Nat → Int32) × (Nat → Int32)) => [(oC10 ad tn td lf), (oC1 ad cn), (aI cI (ad 34) 6 u.1), (aI cI (ad 35) 6 u.2)]) (va_A [(oC10 ad tn td lf), (oC1 ad cn), (aI cI (ad 34) 6 aw), (aI cI (ad 35) 6 iw)] sz)) (va_A [(oC10 ad tn td lf), (oC1 ad cn), (aI cI (ad 34) 6 aw), (aI cI (ad 35) 6 iw)] sz)) 0 0 (va_A [(oC10 ad tn td lf), (oC1 ad cn), (aI cI (ad 34) 6 aw), (aI cI (ad 35) 6 iw)] sz) := by
  refine Met.ofW (cc := cX10_room) (maxL := 6) (ret := (some .int)) (by decide) rfl ?_
  intro p e s m args below meth c s₁ B hml hv
  obtain ⟨rfl, hsz, hP, hK, hD0, hN⟩ := hv
  have hx := B.exec
  have hb := B.bytes
  have hr := B.returns
  have hts := atoms_spec (ws := wsX10_room) B.pre
  have hown : s.vm.findClass RX10 = some m.cls := findClass_of_methodNamed B.named
  have hlocks := B.notSynchronized
  subst hsz
  have hD := hD0.self (sz := s.heap.size)
  generalize hAe : va_A [(oC10 ad tn td lf), (oC1 ad cn), (aI cI (ad 34) 6 aw), (aI cI (ad 35) 6 iw)] s.heap.size = A at hD ⊢
  have hA : ∀ q : Nat, s.heap.size ≤ q → A q := fun q h => by rw [← hAe]; exact Or.inr h
  have hS : va_S A s.heap s.heap [] := va_S.rf
  have hP : va_P D vwCl [(oC10 ad tn td lf), (oC1 ad cn), (aI cI (ad 34) 6 aw), (aI cI (ad 35) 6 iw)] s.heap := hP
  have hl := lv_entry ([.ref (ad 0), .int q, .int w, .int v]) (n := 6) (Nat.le_of_ble_eq_true rfl)
  rw [lg_entry_eq]
  generalize (lg_sl ([.ref (ad 0), .int q, .int w, .int v]) ++ List.replicate (6 - (lg_sl ([.ref (ad 0), .int q, .int w, .int v])).length) Slot.unset).toArray = ls at hl ⊢
  have hl : lv_has ls 6 [(0, .ref (ad 0)), (1, .int q), (2, .int w), (3, .int v)] := hl
  have km1000001 : (-1000001 : Int32).toInt = -1000001 := by decide
  have k0 : (0 : Int32).toInt = 0 := by decide
  have k2 : (2 : Int32).toInt = 2 := by decide
  have k6 : (6 : Int32).toInt = 6 := by decide
  have k12 : (12 : Int32).toInt = 12 := by decide
  have k1000000 : (1000000 : Int32).toInt = 1000000 := by decide
  refine lv_iload_n hx hb dX10_room_0 rfl (lv_at hl 1 rfl) ?_
  refine lv_bipush (v := 6) hx hb dX10_room_1 (by decide) ?_
  refine st_i1 (va_runS (As := [.int q, .int 6]) (rest := []) ⟨hx, hb, hml, hown, hts⟩ (ct_X10_isBelow l D cI cY cJ cQ _ q (6 : Int32)) (va_cwS 2 hts gX10_room_X10_isBelow rfl rfl rfl cdX10_isBelow ⟨Nat.le_of_ble_eq_true rfl, Nat.le_of_ble_eq_true rfl⟩) (cPreS (hP.sub [] rfl) hK (hD.sub [] (by decide +kernel) rfl) hN) rfl rfl hl.1 rfl (lv_room (Nat.le_of_ble_eq_true rfl)) dX10_room_3 ⟨Nat.le_of_ble_eq_true rfl, Nat.le_of_ble_eq_true rfl⟩) hP hD hS hA [] rfl (fun _ => rfl) (fun r3 u1 H locs hw2 => ?_)
  clear hP hS
  intro hP hS
  replace hw2 : r3 = if 0 ≤ q.toInt ∧ q.toInt < (6 : Int32).toInt then 1 else 0 := hw2
  refine lv_if_eq (tgt := 36) hx hb dX10_room_6 (by decide) (fun c4 => ?_) (fun c4 => ?_)
  · skip
    have f5 := bo_f hw2 c4
    refine lv_ldc hx hb hown (hts (Cond.constant RX10 89 (-1000001)) (wm_t (wm_l (wm_i 1 rfl)))) dX10_room_36 ?_
    have hP9 := hP
    have hD9 := hD
    exact W.iret (v := (-1000001)) hx hb hr (fun t ht hW => ⟨⟨(-1000001), (aw, iw), rfl, (by unfold sp_room; (repeat' split) <;> first | rfl | (exfalso; omega) | (subst_vars; rfl)), by rw [ht]; exact hP9, va_K.moved hW.alike hK, hD9⟩, hS.F ht⟩) hS.2.2 dX10_room_38
  · skip
    have f6 := bo_t hw2 c4
    refine lv_iload_n hx hb dX10_room_9 rfl (lv_at hl 2 rfl) ?_
    refine lv_iconst (v := 2) hx hb dX10_room_10 (by decide) ?_
    refine st_i1 (va_runS (As := [.int w, .int 2]) (rest := []) ⟨hx, hb, hml, hown, hts⟩ (ct_X10_isBelow l D cI cY cJ cQ _ w (2 : Int32)) (va_cwS 2 hts gX10_room_X10_isBelow rfl rfl rfl cdX10_isBelow ⟨Nat.le_of_ble_eq_true rfl, Nat.le_of_ble_eq_true rfl⟩) (cPreS (hP.sub [] rfl) hK (hD.sub [] (by decide +kernel) rfl) hN) rfl rfl hl.1 rfl (lv_room (Nat.le_of_ble_eq_true rfl)) dX10_room_11 ⟨Nat.le_of_ble_eq_true rfl, Nat.le_of_ble_eq_true rfl⟩) hP hD hS hA [] rfl (fun _ => rfl) (fun r9 u7 H locs hw8 => ?_)
    clear hP hS
    intro hP hS
    replace hw8 : r9 = if 0 ≤ w.toInt ∧ w.toInt < (2 : Int32).toInt then 1 else 0 := hw8
    refine lv_if_eq (tgt := 36) hx hb dX10_room_14 (by decide) (fun c10 => ?_) (fun c10 => ?_)
    · skip
      have f11 := bo_f hw8 c10
      refine lv_ldc hx hb hown (hts (Cond.constant RX10 89 (-1000001)) (wm_t (wm_l (wm_i 1 rfl)))) dX10_room_36 ?_
      have hP9 := hP
      have hD9 := hD
      exact W.iret (v := (-1000001)) hx hb hr (fun t ht hW => ⟨⟨(-1000001), (aw, iw), rfl, (by unfold sp_room; (repeat' split) <;> first | rfl | (exfalso; omega) | (subst_vars; rfl)), by rw [ht]; exact hP9, va_K.moved hW.alike hK, hD9⟩, hS.F ht⟩) hS.2.2 dX10_room_38
    · skip
      have f12 := bo_t hw8 c10
      refine lv_iload_n hx hb dX10_room_17 rfl (lv_at hl 3 rfl) ?_
      refine lv_iconst (v := 0) hx hb dX10_room_18 (by decide) ?_
      refine lv_iload_n hx hb dX10_room_19 rfl (lv_at hl 2 rfl) ?_
      refine lv_if_ne (tgt := 28) hx hb dX10_room_20 (by decide) (fun c13 => ?_) (fun c13 => ?_)
      · skip
        have f14 := i_ne c13
        refine lv_ldc hx hb hown (hts (Cond.constant RX10 248 (1000000)) (wm_t (wm_l (wm_i 0 rfl)))) dX10_room_28 ?_
        refine st_i1 (va_runS (As := [.int v, .int 0, .int 1000000]) (rest := []) ⟨hx, hb, hml, hown, hts⟩ (ct_X10_isFrom l D cI cY cJ cQ _ v (0 : Int32) (1000000 : Int32)) (va_cwS 3 hts gX10_room_X10_isFrom rfl rfl rfl cdX10_isFrom ⟨Nat.le_of_ble_eq_true rfl, Nat.le_of_ble_eq_true rfl⟩) (cPreS (hP.sub [] rfl) hK (hD.sub [] (by decide +kernel) rfl) hN) rfl rfl hl.1 rfl (lv_room (Nat.le_of_ble_eq_true rfl)) dX10_room_30 ⟨Nat.le_of_ble_eq_true rfl, Nat.le_of_ble_eq_true rfl⟩) hP hD hS hA [] rfl (fun _ => rfl) (fun r17 u15 H locs hw16 => ?_)
        clear hP hS
        intro hP hS
        replace hw16 : r17 = if (0 : Int32).toInt ≤ v.toInt ∧ v.toInt ≤ (1000000 : Int32).toInt then 1 else 0 := hw16
        refine lv_if_ne (tgt := 39) hx hb dX10_room_33 (by decide) (fun c18 => ?_) (fun c18 => ?_)
        · skip
          have f19 := bo_t hw16 c18
          refine lv_iload_n hx hb dX10_room_39 rfl (lv_at hl 2 rfl) ?_
          refine lv_if_ne (tgt := 53) hx hb dX10_room_40 (by decide) (fun c20 => ?_) (fun c20 => ?_)
          · skip
            have f21 := i_ne c20
            refine lv_aload_n hx hb dX10_room_53 rfl (lv_at hl 0 rfl) ?_
            refine va_get (D := D) (ci := 10) (v := .ref (ad 3)) (C := RX10) (T := TX10) (N := 14) hx hb hts inX10_room_X10 hown hK hP 0 rfl rfl 2 (by decide) (hts (Cond.fieldLink RX10 26 "PortRooms" "crates" "LPortRooms$Crates;") (wm_t (wm_l (wm_i 2 rfl)))) (fun _ h9 => h9) rfl dX10_room_54 ?_
            refine va_get (D := D) (ci := 1) (v := .ref (ad 35)) (C := RX1) (T := TX1) (N := 6) hx hb hts inX10_room_X1 hown hK hP 1 rfl rfl 5 (by decide) (hts (Cond.fieldLink RX10 252 "PortRooms$Crates" "insured" "[I") (wm_t (wm_l (wm_i 4 rfl)))) (fun _ h9 => h9) rfl dX10_room_57 ?_
            refine lv_astore (lv' := [(4, .ref (ad 35)), (0, .ref (ad 0)), (1, .int q), (2, .int w), (3, .int v)]) hx hb dX10_room_60 hl (by decide) rfl (fun ls hl => ?_)
            refine lv_aload hx hb dX10_room_62 (lv_at hl 0 rfl) ?_
            refine lv_iload_n hx hb dX10_room_64 rfl (lv_at hl 2 rfl) ?_
            refine va_iald hx hb hK hP 3 0 rfl rfl (i_in (by omega) (by omega)) dX10_room_65 ?_
            refine lv_topi (fun v22 ev22 => ?_)
            refine lv_istore (lv' := [(5, .int v22), (4, .ref (ad 35)), (0, .ref (ad 0)), (1, .int q), (2, .int w), (3, .int v)]) hx hb dX10_room_66 hl (by decide) rfl (fun ls hl => ?_)
            refine lv_aload hx hb dX10_room_68 (lv_at hl 1 rfl) ?_
            refine lv_iload_n hx hb dX10_room_70 rfl (lv_at hl 3 rfl) ?_
            refine lv_iload_n hx hb dX10_room_71 rfl (lv_at hl 5 rfl) ?_
            refine va_iast hx hb hK hP hD hS 3 0 rfl rfl (i_in (by omega) (by omega)) dX10_room_72 (fun H locs => ?_)
            clear hP hD hS
            intro hP hD hS
            replace hP : va_P D vwCl [(oC10 ad tn td lf), (oC1 ad cn), (aI cI (ad 34) 6 aw), (aI cI (ad 35) 6 (upd iw q.toNatClampNeg v))] H := hP
            replace hD : va_D A [(oC10 ad tn td lf), (oC1 ad cn), (aI cI (ad 34) 6 aw), (aI cI (ad 35) 6 (upd iw q.toNatClampNeg v))] := hD
            refine lv_iload hx hb dX10_room_73 (lv_at hl 0 rfl) ?_
            have hP9 := hP
            have hD9 := hD
            exact W.iret (v := v22) hx hb hr (fun t ht hW => ⟨⟨v22, (aw, upd iw q.toNatClampNeg v), rfl, (by unfold sp_room; (repeat' split) <;> first | rfl | (exfalso; omega) | (subst_vars; rfl)), by rw [ht]; exact hP9, va_K.moved hW.alike hK, hD9⟩, hS.F ht⟩) hS.2.2 dX10_room_75
          · skip
            have f23 := i_eq c20
            refine lv_aload_n hx hb dX10_room_43 rfl (lv_at hl 0 rfl) ?_
            refine va_get (D := D) (ci := 10) (v := .ref (ad 3)) (C := RX10) (T := TX10) (N := 14) hx hb hts inX10_room_X10 hown hK hP 0 rfl rfl 2 (by decide) (hts (Cond.fieldLink RX10 26 "PortRooms" "crates" "LPortRooms$Crates;") (wm_t (wm_l (wm_i 2 rfl)))) (fun _ h9 => h9) rfl dX10_room_44 ?_
            refine va_get (D := D) (ci := 1) (v := .ref (ad 34)) (C := RX1) (T := TX1) (N := 6) hx hb hts inX10_room_X1 hown hK hP 1 rfl rfl 4 (by decide) (hts (Cond.fieldLink RX10 249 "PortRooms$Crates" "air" "[I") (wm_t (wm_l (wm_i 3 rfl)))) (fun _ h9 => h9) rfl dX10_room_47 ?_
            refine lv_goto (tgt := 60) hx hb dX10_room_50 (by decide) ?_
            refine lv_astore (lv' := [(4, .ref (ad 34)), (0, .ref (ad 0)), (1, .int q), (2, .int w), (3, .int v)]) hx hb dX10_room_60 hl (by decide) rfl (fun ls hl => ?_)
            refine lv_aload hx hb dX10_room_62 (lv_at hl 0 rfl) ?_
            refine lv_iload_n hx hb dX10_room_64 rfl (lv_at hl 2 rfl) ?_
            refine va_iald hx hb hK hP 2 0 rfl rfl (i_in (by omega) (by omega)) dX10_room_65 ?_
            refine lv_topi (fun v24 ev24 => ?_)
            refine lv_istore (lv' := [(5, .int v24), (4, .ref (ad 34)), (0, .ref (ad 0)), (1, .int q), (2, .int w), (3, .int v)]) hx hb dX10_room_66 hl (by decide) rfl (fun ls hl => ?_)
            refine lv_aload hx hb dX10_room_68 (lv_at hl 1 rfl) ?_
            refine lv_iload_n hx hb dX10_room_70 rfl (lv_at hl 3 rfl) ?_
            refine lv_iload_n hx hb dX10_room_71 rfl (lv_at hl 5 rfl) ?_
            refine va_iast hx hb hK hP hD hS 2 0 rfl rfl (i_in (by omega) (by omega)) dX10_room_72 (fun H locs => ?_)
            clear hP hD hS
            intro hP hD hS
            replace hP : va_P D vwCl [(oC10 ad tn td lf), (oC1 ad cn), (aI cI (ad 34) 6 (upd aw q.toNatClampNeg v)), (aI cI (ad 35) 6 iw)] H := hP
            replace hD : va_D A [(oC10 ad tn td lf), (oC1 ad cn), (aI cI (ad 34) 6 (upd aw q.toNatClampNeg v)), (aI cI (ad 35) 6 iw)] := hD
            refine lv_iload hx hb dX10_room_73 (lv_at hl 0 rfl) ?_
            have hP9 := hP
            have hD9 := hD
            exact W.iret (v := v24) hx hb hr (fun t ht hW => ⟨⟨v24, (upd aw q.toNatClampNeg v, iw), rfl, (by unfold sp_room; (repeat' split) <;> first | rfl | (exfalso; omega) | (subst_vars; rfl)), by rw [ht]; exact hP9, va_K.moved hW.alike hK, hD9⟩, hS.F ht⟩) hS.2.2 dX10_room_75
        · skip
          have f25 := bo_f hw16 c18
          refine lv_ldc hx hb hown (hts (Cond.constant RX10 89 (-1000001)) (wm_t (wm_l (wm_i 1 rfl)))) dX10_room_36 ?_
          have hP9 := hP
          have hD9 := hD
          exact W.iret (v := (-1000001)) hx hb hr (fun t ht hW => ⟨⟨(-1000001), (aw, iw), rfl, (by unfold sp_room; (repeat' split) <;> first | rfl | (exfalso; omega) | (subst_vars; rfl)), by rw [ht]; exact hP9, va_K.moved hW.alike hK, hD9⟩, hS.F ht⟩) hS.2.2 dX10_room_38
      · skip
        have f26 := i_eq c13
        refine lv_bipush (v := 12) hx hb dX10_room_23 (by decide) ?_
        refine lv_goto (tgt := 30) hx hb dX10_room_25 (by decide) ?_
        refine st_i1 (va_runS (As := [.int v, .int 0, .int 12]) (rest := []) ⟨hx, hb, hml, hown, hts⟩ (ct_X10_isFrom l D cI cY cJ cQ _ v (0 : Int32) (12 : Int32)) (va_cwS 3 hts gX10_room_X10_isFrom rfl rfl rfl cdX10_isFrom ⟨Nat.le_of_ble_eq_true rfl, Nat.le_of_ble_eq_true rfl⟩) (cPreS (hP.sub [] rfl) hK (hD.sub [] (by decide +kernel) rfl) hN) rfl rfl hl.1 rfl (lv_room (Nat.le_of_ble_eq_true rfl)) dX10_room_30 ⟨Nat.le_of_ble_eq_true rfl, Nat.le_of_ble_eq_true rfl⟩) hP hD hS hA [] rfl (fun _ => rfl) (fun r29 u27 H locs hw28 => ?_)
        clear hP hS
        intro hP hS
        replace hw28 : r29 = if (0 : Int32).toInt ≤ v.toInt ∧ v.toInt ≤ (12 : Int32).toInt then 1 else 0 := hw28
        refine lv_if_ne (tgt := 39) hx hb dX10_room_33 (by decide) (fun c30 => ?_) (fun c30 => ?_)
        · skip
          have f31 := bo_t hw28 c30
          refine lv_iload_n hx hb dX10_room_39 rfl (lv_at hl 2 rfl) ?_
          refine lv_if_ne (tgt := 53) hx hb dX10_room_40 (by decide) (fun c32 => ?_) (fun c32 => ?_)
          · skip
            have f33 := i_ne c32
            refine lv_aload_n hx hb dX10_room_53 rfl (lv_at hl 0 rfl) ?_
            refine va_get (D := D) (ci := 10) (v := .ref (ad 3)) (C := RX10) (T := TX10) (N := 14) hx hb hts inX10_room_X10 hown hK hP 0 rfl rfl 2 (by decide) (hts (Cond.fieldLink RX10 26 "PortRooms" "crates" "LPortRooms$Crates;") (wm_t (wm_l (wm_i 2 rfl)))) (fun _ h9 => h9) rfl dX10_room_54 ?_
            refine va_get (D := D) (ci := 1) (v := .ref (ad 35)) (C := RX1) (T := TX1) (N := 6) hx hb hts inX10_room_X1 hown hK hP 1 rfl rfl 5 (by decide) (hts (Cond.fieldLink RX10 252 "PortRooms$Crates" "insured" "[I") (wm_t (wm_l (wm_i 4 rfl)))) (fun _ h9 => h9) rfl dX10_room_57 ?_
            refine lv_astore (lv' := [(4, .ref (ad 35)), (0, .ref (ad 0)), (1, .int q), (2, .int w), (3, .int v)]) hx hb dX10_room_60 hl (by decide) rfl (fun ls hl => ?_)
            refine lv_aload hx hb dX10_room_62 (lv_at hl 0 rfl) ?_
            refine lv_iload_n hx hb dX10_room_64 rfl (lv_at hl 2 rfl) ?_
            refine va_iald hx hb hK hP 3 0 rfl rfl (i_in (by omega) (by omega)) dX10_room_65 ?_
            refine lv_topi (fun v34 ev34 => ?_)
            refine lv_istore (lv' := [(5, .int v34), (4, .ref (ad 35)), (0, .ref (ad 0)), (1, .int q), (2, .int w), (3, .int v)]) hx hb dX10_room_66 hl (by decide) rfl (fun ls hl => ?_)
            refine lv_aload hx hb dX10_room_68 (lv_at hl 1 rfl) ?_
            refine lv_iload_n hx hb dX10_room_70 rfl (lv_at hl 3 rfl) ?_
            refine lv_iload_n hx hb dX10_room_71 rfl (lv_at hl 5 rfl) ?_
            refine va_iast hx hb hK hP hD hS 3 0 rfl rfl (i_in (by omega) (by omega)) dX10_room_72 (fun H locs => ?_)
            clear hP hD hS
            intro hP hD hS
            replace hP : va_P D vwCl [(oC10 ad tn td lf), (oC1 ad cn), (aI cI (ad 34) 6 aw), (aI cI (ad 35) 6 (upd iw q.toNatClampNeg v))] H := hP
            replace hD : va_D A [(oC10 ad tn td lf), (oC1 ad cn), (aI cI (ad 34) 6 aw), (aI cI (ad 35) 6 (upd iw q.toNatClampNeg v))] := hD
            refine lv_iload hx hb dX10_room_73 (lv_at hl 0 rfl) ?_
            have hP9 := hP
            have hD9 := hD
            exact W.iret (v := v34) hx hb hr (fun t ht hW => ⟨⟨v34, (aw, upd iw q.toNatClampNeg v), rfl, (by unfold sp_room; (repeat' split) <;> first | rfl | (exfalso; omega) | (subst_vars; rfl)), by rw [ht]; exact hP9, va_K.moved hW.alike hK, hD9⟩, hS.F ht⟩) hS.2.2 dX10_room_75
          · skip
            have f35 := i_eq c32
            refine lv_aload_n hx hb dX10_room_43 rfl (lv_at hl 0 rfl) ?_
            refine va_get (D := D) (ci := 10) (v := .ref (ad 3)) (C := RX10) (T := TX10) (N := 14) hx hb hts inX10_room_X10 hown hK hP 0 rfl rfl 2 (by decide) (hts (Cond.fieldLink RX10 26 "PortRooms" "crates" "LPortRooms$Crates;") (wm_t (wm_l (wm_i 2 rfl)))) (fun _ h9 => h9) rfl dX10_room_44 ?_
            refine va_get (D := D) (ci := 1) (v := .ref (ad 34)) (C := RX1) (T := TX1) (N := 6) hx hb hts inX10_room_X1 hown hK hP 1 rfl rfl 4 (by decide) (hts (Cond.fieldLink RX10 249 "PortRooms$Crates" "air" "[I") (wm_t (wm_l (wm_i 3 rfl)))) (fun _ h9 => h9) rfl dX10_room_47 ?_
            refine lv_goto (tgt := 60) hx hb dX10_room_50 (by decide) ?_
            refine lv_astore (lv' := [(4, .ref (ad 34)), (0, .ref (ad 0)), (1, .int q), (2, .int w), (3, .int v)]) hx hb dX10_room_60 hl (by decide) rfl (fun ls hl => ?_)
            refine lv_aload hx hb dX10_room_62 (lv_at hl 0 rfl) ?_
            refine lv_iload_n hx hb dX10_room_64 rfl (lv_at hl 2 rfl) ?_
            refine va_iald hx hb hK hP 2 0 rfl rfl (i_in (by omega) (by omega)) dX10_room_65 ?_
            refine lv_topi (fun v36 ev36 => ?_)
            refine lv_istore (lv' := [(5, .int v36), (4, .ref (ad 34)), (0, .ref (ad 0)), (1, .int q), (2, .int w), (3, .int v)]) hx hb dX10_room_66 hl (by decide) rfl (fun ls hl => ?_)
            refine lv_aload hx hb dX10_room_68 (lv_at hl 1 rfl) ?_
            refine lv_iload_n hx hb dX10_room_70 rfl (lv_at hl 3 rfl) ?_
            refine lv_iload_n hx hb dX10_room_71 rfl (lv_at hl 5 rfl) ?_
            refine va_iast hx hb hK hP hD hS 2 0 rfl rfl (i_in (by omega) (by omega)) dX10_room_72 (fun H locs => ?_)
            clear hP hD hS
            intro hP hD hS
            replace hP : va_P D vwCl [(oC10 ad tn td lf), (oC1 ad cn), (aI cI (ad 34) 6 (upd aw q.toNatClampNeg v)), (aI cI (ad 35) 6 iw)] H := hP
            replace hD : va_D A [(oC10 ad tn td lf), (oC1 ad cn), (aI cI (ad 34) 6 (upd aw q.toNatClampNeg v)), (aI cI (ad 35) 6 iw)] := hD
            refine lv_iload hx hb dX10_room_73 (lv_at hl 0 rfl) ?_
            have hP9 := hP
            have hD9 := hD
            exact W.iret (v := v36) hx hb hr (fun t ht hW => ⟨⟨v36, (upd aw q.toNatClampNeg v, iw), rfl, (by unfold sp_room; (repeat' split) <;> first | rfl | (exfalso; omega) | (subst_vars; rfl)), by rw [ht]; exact hP9, va_K.moved hW.alike hK, hD9⟩, hS.F ht⟩) hS.2.2 dX10_room_75
        · skip
          have f37 := bo_f hw28 c30
          refine lv_ldc hx hb hown (hts (Cond.constant RX10 89 (-1000001)) (wm_t (wm_l (wm_i 1 rfl)))) dX10_room_36 ?_
          have hP9 := hP
          have hD9 := hD
          exact W.iret (v := (-1000001)) hx hb hr (fun t ht hW => ⟨⟨(-1000001), (aw, iw), rfl, (by unfold sp_room; (repeat' split) <;> first | rfl | (exfalso; omega) | (subst_vars; rfl)), by rw [ht]; exact hP9, va_K.moved hW.alike hK, hD9⟩, hS.F ht⟩) hS.2.2 dX10_room_38

set_option maxHeartbeats 4000000 in
set_option maxRecDepth 100000 in
theorem ct_X10_move (l : Launch) (D : va_G) (cI cY cJ cQ : ClassId) (sz : Nat) (ad : Nat → Nat) (tn td lf cn : Int32) (wo ro aw iw : Nat → Int32) (k : Int32) (q : Int32)  (h1 : 0 ≤ cn.toInt) (h2 : cn.toInt ≤ 12)  : Met l yX10_move wsX10_move ({ frames := 3, cells := 0, slots := 0, locals := 67 }) (cPre D (ty4 cI cY cJ cQ) [(oC10 ad tn td lf), (oC1 ad cn), (aI cI (ad 32) 12 wo), (aI cI (ad 33) 12 ro), (aI cI (ad 34) 6 aw), (aI cI (ad 35) 6 iw)] sz [.ref (ad 0), .int k, .int q]) (va_Qi (fun (r : Int32) (u : (Nat → Int32)) => (r, u) = sp_move cn wo ro aw iw k q) (cB D (ty4 cI cY cJ cQ) (fun (u : (Nat → Int32)) => [(oC10 ad tn td lf), (oC1 ad cn), (aI cI (ad 32) 12 wo), (aI cI (ad 33) 12 u), (aI cI (ad 34) 6 aw), (aI cI (ad 35) 6 iw)]) (va_A [(oC10 ad tn td lf), (oC1 ad cn), (aI cI (ad 32) 12 wo), (aI cI (ad 33) 12 ro), (aI cI (ad 34) 6 aw), (aI cI (ad 35) 6 iw)] sz)) (va_A [(oC10 ad tn td lf), (oC1 ad cn), (aI cI (ad 32) 12 wo), (aI cI (ad 33) 12 ro), (aI cI (ad 34) 6 aw), (aI cI (ad 35) 6 iw)] sz)) 0 0 (va_A [(oC10 ad tn td lf), (oC1 ad cn), (aI cI (ad 32) 12 wo), (aI cI (ad 33) 12 ro), (aI cI (ad 34) 6 aw), (aI cI (ad 35) 6 iw)] sz) := by
  refine Met.ofW (cc := cX10_move) (maxL := 4) (ret := (some .int)) (by decide) rfl ?_
  intro p e s m args below meth c s₁ B hml hv
  obtain ⟨rfl, hsz, hP, hK, hD0, hN⟩ := hv
  have hx := B.exec
  have hb := B.bytes
  have hr := B.returns
  have hts := atoms_spec (ws := wsX10_move) B.pre
  have hown : s.vm.findClass RX10 = some m.cls := findClass_of_methodNamed B.named
  have hlocks := B.notSynchronized
  subst hsz
  have hD := hD0.self (sz := s.heap.size)
  generalize hAe : va_A [(oC10 ad tn td lf), (oC1 ad cn), (aI cI (ad 32) 12 wo), (aI cI (ad 33) 12 ro), (aI cI (ad 34) 6 aw), (aI cI (ad 35) 6 iw)] s.heap.size = A at hD ⊢
  have hA : ∀ q : Nat, s.heap.size ≤ q → A q := fun q h => by rw [← hAe]; exact Or.inr h
  have hS : va_S A s.heap s.heap [] := va_S.rf
  have hP : va_P D vwCl [(oC10 ad tn td lf), (oC1 ad cn), (aI cI (ad 32) 12 wo), (aI cI (ad 33) 12 ro), (aI cI (ad 34) 6 aw), (aI cI (ad 35) 6 iw)] s.heap := hP
  have hl := lv_entry ([.ref (ad 0), .int k, .int q]) (n := 4) (Nat.le_of_ble_eq_true rfl)
  rw [lg_entry_eq]
  generalize (lg_sl ([.ref (ad 0), .int k, .int q]) ++ List.replicate (4 - (lg_sl ([.ref (ad 0), .int k, .int q])).length) Slot.unset).toArray = ls at hl ⊢
  have hl : lv_has ls 4 [(0, .ref (ad 0)), (1, .int k), (2, .int q)] := hl
  have km1000003 : (-1000003 : Int32).toInt = -1000003 := by decide
  have km1000002 : (-1000002 : Int32).toInt = -1000002 := by decide
  have km1000001 : (-1000001 : Int32).toInt = -1000001 := by decide
  have km1000000 : (-1000000 : Int32).toInt = -1000000 := by decide
  have k0 : (0 : Int32).toInt = 0 := by decide
  have k6 : (6 : Int32).toInt = 6 := by decide
  refine lv_aload_n hx hb dX10_move_0 rfl (lv_at hl 0 rfl) ?_
  refine lv_iload_n hx hb dX10_move_1 rfl (lv_at hl 1 rfl) ?_
  refine st_i1 (va_runV (C := RX10) (As := [.int k]) (rest := []) ⟨hx, hb, hml, hown, hts⟩ (ct_X10_isCrate l D cI cY cJ cQ _ ad tn td lf cn k) (cwV 1 hts gX10_move_X10_isCrate rfl rfl rfl ⟨rfl, cdX10_isCrate⟩ ⟨Nat.le_of_ble_eq_true rfl, Nat.le_of_ble_eq_true rfl⟩) (cPreV (hP.sub [0, 1] rfl) hK (hD.sub [0, 1] (by decide +kernel) rfl) hN (ci := 10) (q0 := 0) rfl rfl) rfl rfl hl.1 rfl (lv_room (Nat.le_of_ble_eq_true rfl)) dX10_move_2 ⟨Nat.le_of_ble_eq_true rfl, Nat.le_of_ble_eq_true rfl⟩) hP hD hS hA [0, 1] rfl (fun _ => rfl) (fun r3 u1 H locs hw2 => ?_)
  clear hP hS
  intro hP hS
  replace hw2 : r3 = if 0 ≤ k.toInt ∧ k.toInt < cn.toInt then 1 else 0 := hw2
  refine lv_if_eq (tgt := 23) hx hb dX10_move_5 (by decide) (fun c4 => ?_) (fun c4 => ?_)
  · skip
    have f5 := bo_f hw2 c4
    refine lv_ldc hx hb hown (hts (Cond.constant RX10 89 (-1000001)) (wm_t (wm_l (wm_i 1 rfl)))) dX10_move_23 ?_
    have hP9 := hP
    have hD9 := hD
    exact W.iret (v := (-1000001)) hx hb hr (fun t ht hW => ⟨⟨(-1000001), ro, rfl, (by unfold sp_move; (repeat' split) <;> first | rfl | (exfalso; omega) | (subst_vars; rfl)), by rw [ht]; exact hP9, va_K.moved hW.alike hK, hD9⟩, hS.F ht⟩) hS.2.2 dX10_move_25
  · skip
    have f6 := bo_t hw2 c4
    refine lv_iload_n hx hb dX10_move_8 rfl (lv_at hl 2 rfl) ?_
    refine lv_ldc hx hb hown (hts (Cond.constant RX10 169 (-1000000)) (wm_t (wm_l (wm_i 0 rfl)))) dX10_move_9 ?_
    refine lv_icmp_eq (tgt := 26) hx hb dX10_move_11 (by decide) (fun c7 => ?_) (fun c7 => ?_)
    · skip
      have f8 := i_eq c7
      refine lv_aload_n hx hb dX10_move_26 rfl (lv_at hl 0 rfl) ?_
      refine va_get (D := D) (ci := 10) (v := .ref (ad 3)) (C := RX10) (T := TX10) (N := 14) hx hb hts inX10_move_X10 hown hK hP 0 rfl rfl 2 (by decide) (hts (Cond.fieldLink RX10 26 "PortRooms" "crates" "LPortRooms$Crates;") (wm_t (wm_l (wm_i 2 rfl)))) (fun _ h9 => h9) rfl dX10_move_27 ?_
      refine va_get (D := D) (ci := 1) (v := .ref (ad 33)) (C := RX1) (T := TX1) (N := 6) hx hb hts inX10_move_X1 hown hK hP 1 rfl rfl 2 (by decide) (hts (Cond.fieldLink RX10 255 "PortRooms$Crates" "room" "[I") (wm_t (wm_l (wm_i 3 rfl)))) (fun _ h9 => h9) rfl dX10_move_30 ?_
      refine lv_iload_n hx hb dX10_move_33 rfl (lv_at hl 1 rfl) ?_
      refine va_iald hx hb hK hP 3 0 rfl rfl (i_in (by omega) (by omega)) dX10_move_34 ?_
      refine lv_topi (fun v9 ev9 => ?_)
      have tlv9 : v9.toInt = (ro k.toNatClampNeg).toInt := by rw [ev9]
      refine lv_istore_n (lv' := [(3, .int v9), (0, .ref (ad 0)), (1, .int k), (2, .int q)]) hx hb dX10_move_35 rfl hl (by decide) rfl (fun ls hl => ?_)
      refine lv_iload_n hx hb dX10_move_36 rfl (lv_at hl 0 rfl) ?_
      refine lv_iload_n hx hb dX10_move_37 rfl (lv_at hl 3 rfl) ?_
      refine lv_icmp_ne (tgt := 45) hx hb dX10_move_38 (by decide) (fun c10 => ?_) (fun c10 => ?_)
      · skip
        have f11 := i_ne c10
        refine lv_iload_n hx hb dX10_move_45 rfl (lv_at hl 3 rfl) ?_
        refine lv_ldc hx hb hown (hts (Cond.constant RX10 169 (-1000000)) (wm_t (wm_l (wm_i 0 rfl)))) dX10_move_46 ?_
        refine lv_icmp_eq (tgt := 66) hx hb dX10_move_48 (by decide) (fun c12 => ?_) (fun c12 => ?_)
        · skip
          have f13 := i_eq c12
          refine lv_aload_n hx hb dX10_move_66 rfl (lv_at hl 1 rfl) ?_
          refine va_get (D := D) (ci := 10) (v := .ref (ad 3)) (C := RX10) (T := TX10) (N := 14) hx hb hts inX10_move_X10 hown hK hP 0 rfl rfl 2 (by decide) (hts (Cond.fieldLink RX10 26 "PortRooms" "crates" "LPortRooms$Crates;") (wm_t (wm_l (wm_i 2 rfl)))) (fun _ h9 => h9) rfl dX10_move_67 ?_
          refine va_get (D := D) (ci := 1) (v := .ref (ad 33)) (C := RX1) (T := TX1) (N := 6) hx hb hts inX10_move_X1 hown hK hP 1 rfl rfl 2 (by decide) (hts (Cond.fieldLink RX10 255 "PortRooms$Crates" "room" "[I") (wm_t (wm_l (wm_i 3 rfl)))) (fun _ h9 => h9) rfl dX10_move_70 ?_
          refine lv_iload_n hx hb dX10_move_73 rfl (lv_at hl 2 rfl) ?_
          refine lv_iload_n hx hb dX10_move_74 rfl (lv_at hl 3 rfl) ?_
          refine va_iast hx hb hK hP hD hS 3 0 rfl rfl (i_in (by omega) (by omega)) dX10_move_75 (fun H locs => ?_)
          clear hP hD hS
          intro hP hD hS
          replace hP : va_P D vwCl [(oC10 ad tn td lf), (oC1 ad cn), (aI cI (ad 32) 12 wo), (aI cI (ad 33) 12 (upd ro k.toNatClampNeg q)), (aI cI (ad 34) 6 aw), (aI cI (ad 35) 6 iw)] H := hP
          replace hD : va_D A [(oC10 ad tn td lf), (oC1 ad cn), (aI cI (ad 32) 12 wo), (aI cI (ad 33) 12 (upd ro k.toNatClampNeg q)), (aI cI (ad 34) 6 aw), (aI cI (ad 35) 6 iw)] := hD
          refine lv_iload_n hx hb dX10_move_76 rfl (lv_at hl 0 rfl) ?_
          have hP9 := hP
          have hD9 := hD
          exact W.iret (v := v9) hx hb hr (fun t ht hW => ⟨⟨v9, upd ro k.toNatClampNeg q, rfl, (by unfold sp_move; (repeat' split) <;> first | rfl | (exfalso; omega) | (subst_vars; rfl)), by rw [ht]; exact hP9, va_K.moved hW.alike hK, hD9⟩, hS.F ht⟩) hS.2.2 dX10_move_77
        · skip
          have f14 := i_ne c12
          refine lv_aload_n hx hb dX10_move_51 rfl (lv_at hl 1 rfl) ?_
          refine va_get (D := D) (ci := 10) (v := .ref (ad 3)) (C := RX10) (T := TX10) (N := 14) hx hb hts inX10_move_X10 hown hK hP 0 rfl rfl 2 (by decide) (hts (Cond.fieldLink RX10 26 "PortRooms" "crates" "LPortRooms$Crates;") (wm_t (wm_l (wm_i 2 rfl)))) (fun _ h9 => h9) rfl dX10_move_52 ?_
          refine lv_iload_n hx hb dX10_move_55 rfl (lv_at hl 2 rfl) ?_
          refine lv_iload_n hx hb dX10_move_56 rfl (lv_at hl 3 rfl) ?_
          refine st_i1 (va_runV (C := RX1) (As := [.int k, .int q]) (rest := []) ⟨hx, hb, hml, hown, hts⟩ (ct_X1_fits l D cI cY cJ cQ _ ad cn wo ro aw iw k q h1 h2 (by omega) (by omega) (by omega) (by omega)) (cwV 2 hts gX10_move_X1_fits rfl rfl rfl ⟨rfl, cdX1_fits⟩ ⟨Nat.le_of_ble_eq_true rfl, Nat.le_of_ble_eq_true rfl⟩) (cPreV (hP.sub [1, 2, 3, 4, 5] rfl) hK (hD.sub [1, 2, 3, 4, 5] (by decide +kernel) rfl) hN (ci := 1) (q0 := 0) rfl rfl) rfl rfl hl.1 rfl (lv_room (Nat.le_of_ble_eq_true rfl)) dX10_move_57 ⟨Nat.le_of_ble_eq_true rfl, Nat.le_of_ble_eq_true rfl⟩) hP hD hS hA [1, 2, 3, 4, 5] rfl (fun _ => rfl) (fun r17 u15 H locs hw16 => ?_)
          clear hP hS
          intro hP hS
          replace hw16 : r17 = if (bcf (setV ro q cn.toNatClampNeg)).toInt < (aw q.toNatClampNeg).toInt ∧ (woV wo (setV ro q cn.toNatClampNeg) cn.toNatClampNeg + wo k.toNatClampNeg).toInt ≤ (iw q.toNatClampNeg).toInt then 1 else 0 := hw16
          refine lv_if_ne (tgt := 66) hx hb dX10_move_60 (by decide) (fun c18 => ?_) (fun c18 => ?_)
          · skip
            have f19 := bo_t hw16 c18
            refine lv_aload_n hx hb dX10_move_66 rfl (lv_at hl 1 rfl) ?_
            refine va_get (D := D) (ci := 10) (v := .ref (ad 3)) (C := RX10) (T := TX10) (N := 14) hx hb hts inX10_move_X10 hown hK hP 0 rfl rfl 2 (by decide) (hts (Cond.fieldLink RX10 26 "PortRooms" "crates" "LPortRooms$Crates;") (wm_t (wm_l (wm_i 2 rfl)))) (fun _ h9 => h9) rfl dX10_move_67 ?_
            refine va_get (D := D) (ci := 1) (v := .ref (ad 33)) (C := RX1) (T := TX1) (N := 6) hx hb hts inX10_move_X1 hown hK hP 1 rfl rfl 2 (by decide) (hts (Cond.fieldLink RX10 255 "PortRooms$Crates" "room" "[I") (wm_t (wm_l (wm_i 3 rfl)))) (fun _ h9 => h9) rfl dX10_move_70 ?_
            refine lv_iload_n hx hb dX10_move_73 rfl (lv_at hl 2 rfl) ?_
            refine lv_iload_n hx hb dX10_move_74 rfl (lv_at hl 3 rfl) ?_
            refine va_iast hx hb hK hP hD hS 3 0 rfl rfl (i_in (by omega) (by omega)) dX10_move_75 (fun H locs => ?_)
            clear hP hD hS
            intro hP hD hS
            replace hP : va_P D vwCl [(oC10 ad tn td lf), (oC1 ad cn), (aI cI (ad 32) 12 wo), (aI cI (ad 33) 12 (upd ro k.toNatClampNeg q)), (aI cI (ad 34) 6 aw), (aI cI (ad 35) 6 iw)] H := hP
            replace hD : va_D A [(oC10 ad tn td lf), (oC1 ad cn), (aI cI (ad 32) 12 wo), (aI cI (ad 33) 12 (upd ro k.toNatClampNeg q)), (aI cI (ad 34) 6 aw), (aI cI (ad 35) 6 iw)] := hD
            refine lv_iload_n hx hb dX10_move_76 rfl (lv_at hl 0 rfl) ?_
            have hP9 := hP
            have hD9 := hD
            exact W.iret (v := v9) hx hb hr (fun t ht hW => ⟨⟨v9, upd ro k.toNatClampNeg q, rfl, (by unfold sp_move; (repeat' split) <;> first | rfl | (exfalso; omega) | (subst_vars; rfl)), by rw [ht]; exact hP9, va_K.moved hW.alike hK, hD9⟩, hS.F ht⟩) hS.2.2 dX10_move_77
          · skip
            have f20 := bo_f hw16 c18
            refine lv_ldc hx hb hown (hts (Cond.constant RX10 145 (-1000003)) (wm_t (wm_l (wm_i 5 rfl)))) dX10_move_63 ?_
            have hP9 := hP
            have hD9 := hD
            exact W.iret (v := (-1000003)) hx hb hr (fun t ht hW => ⟨⟨(-1000003), ro, rfl, (by unfold sp_move; (repeat' split) <;> first | rfl | (exfalso; omega) | (subst_vars; rfl)), by rw [ht]; exact hP9, va_K.moved hW.alike hK, hD9⟩, hS.F ht⟩) hS.2.2 dX10_move_65
      · skip
        have f21 := i_eq c10
        refine lv_ldcw hx hb hown (hts (Cond.constant RX10 258 (-1000002)) (wm_t (wm_l (wm_i 4 rfl)))) dX10_move_41 ?_
        have hP9 := hP
        have hD9 := hD
        exact W.iret (v := (-1000002)) hx hb hr (fun t ht hW => ⟨⟨(-1000002), ro, rfl, (by unfold sp_move; (repeat' split) <;> first | rfl | (exfalso; omega) | (subst_vars; rfl)), by rw [ht]; exact hP9, va_K.moved hW.alike hK, hD9⟩, hS.F ht⟩) hS.2.2 dX10_move_44
    · skip
      have f22 := i_ne c7
      refine lv_iload_n hx hb dX10_move_14 rfl (lv_at hl 2 rfl) ?_
      refine lv_bipush (v := 6) hx hb dX10_move_15 (by decide) ?_
      refine st_i1 (va_runS (As := [.int q, .int 6]) (rest := []) ⟨hx, hb, hml, hown, hts⟩ (ct_X10_isBelow l D cI cY cJ cQ _ q (6 : Int32)) (va_cwS 2 hts gX10_move_X10_isBelow rfl rfl rfl cdX10_isBelow ⟨Nat.le_of_ble_eq_true rfl, Nat.le_of_ble_eq_true rfl⟩) (cPreS (hP.sub [] rfl) hK (hD.sub [] (by decide +kernel) rfl) hN) rfl rfl hl.1 rfl (lv_room (Nat.le_of_ble_eq_true rfl)) dX10_move_17 ⟨Nat.le_of_ble_eq_true rfl, Nat.le_of_ble_eq_true rfl⟩) hP hD hS hA [] rfl (fun _ => rfl) (fun r25 u23 H locs hw24 => ?_)
      clear hP hS
      intro hP hS
      replace hw24 : r25 = if 0 ≤ q.toInt ∧ q.toInt < (6 : Int32).toInt then 1 else 0 := hw24
      refine lv_if_ne (tgt := 26) hx hb dX10_move_20 (by decide) (fun c26 => ?_) (fun c26 => ?_)
      · skip
        have f27 := bo_t hw24 c26
        refine lv_aload_n hx hb dX10_move_26 rfl (lv_at hl 0 rfl) ?_
        refine va_get (D := D) (ci := 10) (v := .ref (ad 3)) (C := RX10) (T := TX10) (N := 14) hx hb hts inX10_move_X10 hown hK hP 0 rfl rfl 2 (by decide) (hts (Cond.fieldLink RX10 26 "PortRooms" "crates" "LPortRooms$Crates;") (wm_t (wm_l (wm_i 2 rfl)))) (fun _ h9 => h9) rfl dX10_move_27 ?_
        refine va_get (D := D) (ci := 1) (v := .ref (ad 33)) (C := RX1) (T := TX1) (N := 6) hx hb hts inX10_move_X1 hown hK hP 1 rfl rfl 2 (by decide) (hts (Cond.fieldLink RX10 255 "PortRooms$Crates" "room" "[I") (wm_t (wm_l (wm_i 3 rfl)))) (fun _ h9 => h9) rfl dX10_move_30 ?_
        refine lv_iload_n hx hb dX10_move_33 rfl (lv_at hl 1 rfl) ?_
        refine va_iald hx hb hK hP 3 0 rfl rfl (i_in (by omega) (by omega)) dX10_move_34 ?_
        refine lv_topi (fun v28 ev28 => ?_)
        have tlv28 : v28.toInt = (ro k.toNatClampNeg).toInt := by rw [ev28]
        refine lv_istore_n (lv' := [(3, .int v28), (0, .ref (ad 0)), (1, .int k), (2, .int q)]) hx hb dX10_move_35 rfl hl (by decide) rfl (fun ls hl => ?_)
        refine lv_iload_n hx hb dX10_move_36 rfl (lv_at hl 0 rfl) ?_
        refine lv_iload_n hx hb dX10_move_37 rfl (lv_at hl 3 rfl) ?_
        refine lv_icmp_ne (tgt := 45) hx hb dX10_move_38 (by decide) (fun c29 => ?_) (fun c29 => ?_)
        · skip
          have f30 := i_ne c29
          refine lv_iload_n hx hb dX10_move_45 rfl (lv_at hl 3 rfl) ?_
          refine lv_ldc hx hb hown (hts (Cond.constant RX10 169 (-1000000)) (wm_t (wm_l (wm_i 0 rfl)))) dX10_move_46 ?_
          refine lv_icmp_eq (tgt := 66) hx hb dX10_move_48 (by decide) (fun c31 => ?_) (fun c31 => ?_)
          · skip
            have f32 := i_eq c31
            refine lv_aload_n hx hb dX10_move_66 rfl (lv_at hl 1 rfl) ?_
            refine va_get (D := D) (ci := 10) (v := .ref (ad 3)) (C := RX10) (T := TX10) (N := 14) hx hb hts inX10_move_X10 hown hK hP 0 rfl rfl 2 (by decide) (hts (Cond.fieldLink RX10 26 "PortRooms" "crates" "LPortRooms$Crates;") (wm_t (wm_l (wm_i 2 rfl)))) (fun _ h9 => h9) rfl dX10_move_67 ?_
            refine va_get (D := D) (ci := 1) (v := .ref (ad 33)) (C := RX1) (T := TX1) (N := 6) hx hb hts inX10_move_X1 hown hK hP 1 rfl rfl 2 (by decide) (hts (Cond.fieldLink RX10 255 "PortRooms$Crates" "room" "[I") (wm_t (wm_l (wm_i 3 rfl)))) (fun _ h9 => h9) rfl dX10_move_70 ?_
            refine lv_iload_n hx hb dX10_move_73 rfl (lv_at hl 2 rfl) ?_
            refine lv_iload_n hx hb dX10_move_74 rfl (lv_at hl 3 rfl) ?_
            refine va_iast hx hb hK hP hD hS 3 0 rfl rfl (i_in (by omega) (by omega)) dX10_move_75 (fun H locs => ?_)
            clear hP hD hS
            intro hP hD hS
            replace hP : va_P D vwCl [(oC10 ad tn td lf), (oC1 ad cn), (aI cI (ad 32) 12 wo), (aI cI (ad 33) 12 (upd ro k.toNatClampNeg q)), (aI cI (ad 34) 6 aw), (aI cI (ad 35) 6 iw)] H := hP
            replace hD : va_D A [(oC10 ad tn td lf), (oC1 ad cn), (aI cI (ad 32) 12 wo), (aI cI (ad 33) 12 (upd ro k.toNatClampNeg q)), (aI cI (ad 34) 6 aw), (aI cI (ad 35) 6 iw)] := hD
            refine lv_iload_n hx hb dX10_move_76 rfl (lv_at hl 0 rfl) ?_
            have hP9 := hP
            have hD9 := hD
            exact W.iret (v := v28) hx hb hr (fun t ht hW => ⟨⟨v28, upd ro k.toNatClampNeg q, rfl, (by unfold sp_move; (repeat' split) <;> first | rfl | (exfalso; omega) | (subst_vars; rfl)), by rw [ht]; exact hP9, va_K.moved hW.alike hK, hD9⟩, hS.F ht⟩) hS.2.2 dX10_move_77
          · skip
            have f33 := i_ne c31
            refine lv_aload_n hx hb dX10_move_51 rfl (lv_at hl 1 rfl) ?_
            refine va_get (D := D) (ci := 10) (v := .ref (ad 3)) (C := RX10) (T := TX10) (N := 14) hx hb hts inX10_move_X10 hown hK hP 0 rfl rfl 2 (by decide) (hts (Cond.fieldLink RX10 26 "PortRooms" "crates" "LPortRooms$Crates;") (wm_t (wm_l (wm_i 2 rfl)))) (fun _ h9 => h9) rfl dX10_move_52 ?_
            refine lv_iload_n hx hb dX10_move_55 rfl (lv_at hl 2 rfl) ?_
            refine lv_iload_n hx hb dX10_move_56 rfl (lv_at hl 3 rfl) ?_
            refine st_i1 (va_runV (C := RX1) (As := [.int k, .int q]) (rest := []) ⟨hx, hb, hml, hown, hts⟩ (ct_X1_fits l D cI cY cJ cQ _ ad cn wo ro aw iw k q h1 h2 (by omega) (by omega) (by omega) (by omega)) (cwV 2 hts gX10_move_X1_fits rfl rfl rfl ⟨rfl, cdX1_fits⟩ ⟨Nat.le_of_ble_eq_true rfl, Nat.le_of_ble_eq_true rfl⟩) (cPreV (hP.sub [1, 2, 3, 4, 5] rfl) hK (hD.sub [1, 2, 3, 4, 5] (by decide +kernel) rfl) hN (ci := 1) (q0 := 0) rfl rfl) rfl rfl hl.1 rfl (lv_room (Nat.le_of_ble_eq_true rfl)) dX10_move_57 ⟨Nat.le_of_ble_eq_true rfl, Nat.le_of_ble_eq_true rfl⟩) hP hD hS hA [1, 2, 3, 4, 5] rfl (fun _ => rfl) (fun r36 u34 H locs hw35 => ?_)
            clear hP hS
            intro hP hS
            replace hw35 : r36 = if (bcf (setV ro q cn.toNatClampNeg)).toInt < (aw q.toNatClampNeg).toInt ∧ (woV wo (setV ro q cn.toNatClampNeg) cn.toNatClampNeg + wo k.toNatClampNeg).toInt ≤ (iw q.toNatClampNeg).toInt then 1 else 0 := hw35
            refine lv_if_ne (tgt := 66) hx hb dX10_move_60 (by decide) (fun c37 => ?_) (fun c37 => ?_)
            · skip
              have f38 := bo_t hw35 c37
              refine lv_aload_n hx hb dX10_move_66 rfl (lv_at hl 1 rfl) ?_
              refine va_get (D := D) (ci := 10) (v := .ref (ad 3)) (C := RX10) (T := TX10) (N := 14) hx hb hts inX10_move_X10 hown hK hP 0 rfl rfl 2 (by decide) (hts (Cond.fieldLink RX10 26 "PortRooms" "crates" "LPortRooms$Crates;") (wm_t (wm_l (wm_i 2 rfl)))) (fun _ h9 => h9) rfl dX10_move_67 ?_
              refine va_get (D := D) (ci := 1) (v := .ref (ad 33)) (C := RX1) (T := TX1) (N := 6) hx hb hts inX10_move_X1 hown hK hP 1 rfl rfl 2 (by decide) (hts (Cond.fieldLink RX10 255 "PortRooms$Crates" "room" "[I") (wm_t (wm_l (wm_i 3 rfl)))) (fun _ h9 => h9) rfl dX10_move_70 ?_
              refine lv_iload_n hx hb dX10_move_73 rfl (lv_at hl 2 rfl) ?_
              refine lv_iload_n hx hb dX10_move_74 rfl (lv_at hl 3 rfl) ?_
              refine va_iast hx hb hK hP hD hS 3 0 rfl rfl (i_in (by omega) (by omega)) dX10_move_75 (fun H locs => ?_)
              clear hP hD hS
              intro hP hD hS
              replace hP : va_P D vwCl [(oC10 ad tn td lf), (oC1 ad cn), (aI cI (ad 32) 12 wo), (aI cI (ad 33) 12 (upd ro k.toNatClampNeg q)), (aI cI (ad 34) 6 aw), (aI cI (ad 35) 6 iw)] H := hP
              replace hD : va_D A [(oC10 ad tn td lf), (oC1 ad cn), (aI cI (ad 32) 12 wo), (aI cI (ad 33) 12 (upd ro k.toNatClampNeg q)), (aI cI (ad 34) 6 aw), (aI cI (ad 35) 6 iw)] := hD
              refine lv_iload_n hx hb dX10_move_76 rfl (lv_at hl 0 rfl) ?_
              have hP9 := hP
              have hD9 := hD
              exact W.iret (v := v28) hx hb hr (fun t ht hW => ⟨⟨v28, upd ro k.toNatClampNeg q, rfl, (by unfold sp_move; (repeat' split) <;> first | rfl | (exfalso; omega) | (subst_vars; rfl)), by rw [ht]; exact hP9, va_K.moved hW.alike hK, hD9⟩, hS.F ht⟩) hS.2.2 dX10_move_77
            · skip
              have f39 := bo_f hw35 c37
              refine lv_ldc hx hb hown (hts (Cond.constant RX10 145 (-1000003)) (wm_t (wm_l (wm_i 5 rfl)))) dX10_move_63 ?_
              have hP9 := hP
              have hD9 := hD
              exact W.iret (v := (-1000003)) hx hb hr (fun t ht hW => ⟨⟨(-1000003), ro, rfl, (by unfold sp_move; (repeat' split) <;> first | rfl | (exfalso; omega) | (subst_vars; rfl)), by rw [ht]; exact hP9, va_K.moved hW.alike hK, hD9⟩, hS.F ht⟩) hS.2.2 dX10_move_65
        · skip
          have f40 := i_eq c29
          refine lv_ldcw hx hb hown (hts (Cond.constant RX10 258 (-1000002)) (wm_t (wm_l (wm_i 4 rfl)))) dX10_move_41 ?_
          have hP9 := hP
          have hD9 := hD
          exact W.iret (v := (-1000002)) hx hb hr (fun t ht hW => ⟨⟨(-1000002), ro, rfl, (by unfold sp_move; (repeat' split) <;> first | rfl | (exfalso; omega) | (subst_vars; rfl)), by rw [ht]; exact hP9, va_K.moved hW.alike hK, hD9⟩, hS.F ht⟩) hS.2.2 dX10_move_44
      · skip
        have f41 := bo_f hw24 c26
        refine lv_ldc hx hb hown (hts (Cond.constant RX10 89 (-1000001)) (wm_t (wm_l (wm_i 1 rfl)))) dX10_move_23 ?_
        have hP9 := hP
        have hD9 := hD
        exact W.iret (v := (-1000001)) hx hb hr (fun t ht hW => ⟨⟨(-1000001), ro, rfl, (by unfold sp_move; (repeat' split) <;> first | rfl | (exfalso; omega) | (subst_vars; rfl)), by rw [ht]; exact hP9, va_K.moved hW.alike hK, hD9⟩, hS.F ht⟩) hS.2.2 dX10_move_25

set_option maxHeartbeats 4000000 in
set_option maxRecDepth 100000 in
theorem ct_X10_inside (l : Launch) (D : va_G) (cI cY cJ cQ : ClassId) (sz : Nat) (ad : Nat → Nat) (tn td lf cn : Int32) (wo ro : Nat → Int32) (q : Int32) (w : Int32)  (h1 : 0 ≤ cn.toInt) (h2 : cn.toInt ≤ 12)  : Met l yX10_inside wsX10_inside ({ frames := 2, cells := 0, slots := 0, locals := 44 }) (cPre D (ty4 cI cY cJ cQ) [(oC10 ad tn td lf), (oC1 ad cn), (aI cI (ad 32) 12 wo), (aI cI (ad 33) 12 ro)] sz [.ref (ad 0), .int q, .int w]) (va_Qi (fun (r : Int32) (u : Unit) => r = sp_inside cn wo ro q w) (cB D (ty4 cI cY cJ cQ) (fun (u : Unit) => [(oC10 ad tn td lf), (oC1 ad cn), (aI cI (ad 32) 12 wo), (aI cI (ad 33) 12 ro)]) (va_A [(oC10 ad tn td lf), (oC1 ad cn), (aI cI (ad 32) 12 wo), (aI cI (ad 33) 12 ro)] sz)) (va_A [(oC10 ad tn td lf), (oC1 ad cn), (aI cI (ad 32) 12 wo), (aI cI (ad 33) 12 ro)] sz)) 0 0 (va_A [(oC10 ad tn td lf), (oC1 ad cn), (aI cI (ad 32) 12 wo), (aI cI (ad 33) 12 ro)] sz) := by
  refine Met.ofW (cc := cX10_inside) (maxL := 4) (ret := (some .int)) (by decide) rfl ?_
  intro p e s m args below meth c s₁ B hml hv
  obtain ⟨rfl, hsz, hP, hK, hD0, hN⟩ := hv
  have hx := B.exec
  have hb := B.bytes
  have hr := B.returns
  have hts := atoms_spec (ws := wsX10_inside) B.pre
  have hown : s.vm.findClass RX10 = some m.cls := findClass_of_methodNamed B.named
  have hlocks := B.notSynchronized
  subst hsz
  have hD := hD0.self (sz := s.heap.size)
  generalize hAe : va_A [(oC10 ad tn td lf), (oC1 ad cn), (aI cI (ad 32) 12 wo), (aI cI (ad 33) 12 ro)] s.heap.size = A at hD ⊢
  have hA : ∀ q : Nat, s.heap.size ≤ q → A q := fun q h => by rw [← hAe]; exact Or.inr h
  have hS : va_S A s.heap s.heap [] := va_S.rf
  have hP : va_P D vwCl [(oC10 ad tn td lf), (oC1 ad cn), (aI cI (ad 32) 12 wo), (aI cI (ad 33) 12 ro)] s.heap := hP
  have hl := lv_entry ([.ref (ad 0), .int q, .int w]) (n := 4) (Nat.le_of_ble_eq_true rfl)
  rw [lg_entry_eq]
  generalize (lg_sl ([.ref (ad 0), .int q, .int w]) ++ List.replicate (4 - (lg_sl ([.ref (ad 0), .int q, .int w])).length) Slot.unset).toArray = ls at hl ⊢
  have hl : lv_has ls 4 [(0, .ref (ad 0)), (1, .int q), (2, .int w)] := hl
  have km1000001 : (-1000001 : Int32).toInt = -1000001 := by decide
  have k0 : (0 : Int32).toInt = 0 := by decide
  have k1 : (1 : Int32).toInt = 1 := by decide
  have k3 : (3 : Int32).toInt = 3 := by decide
  have k6 : (6 : Int32).toInt = 6 := by decide
  refine lv_iload_n hx hb dX10_inside_0 rfl (lv_at hl 1 rfl) ?_
  refine lv_bipush (v := 6) hx hb dX10_inside_1 (by decide) ?_
  refine st_i1 (va_runS (As := [.int q, .int 6]) (rest := []) ⟨hx, hb, hml, hown, hts⟩ (ct_X10_isBelow l D cI cY cJ cQ _ q (6 : Int32)) (va_cwS 2 hts gX10_inside_X10_isBelow rfl rfl rfl cdX10_isBelow ⟨Nat.le_of_ble_eq_true rfl, Nat.le_of_ble_eq_true rfl⟩) (cPreS (hP.sub [] rfl) hK (hD.sub [] (by decide +kernel) rfl) hN) rfl rfl hl.1 rfl (lv_room (Nat.le_of_ble_eq_true rfl)) dX10_inside_3 ⟨Nat.le_of_ble_eq_true rfl, Nat.le_of_ble_eq_true rfl⟩) hP hD hS hA [] rfl (fun _ => rfl) (fun r3 u1 H locs hw2 => ?_)
  clear hP hS
  intro hP hS
  replace hw2 : r3 = if 0 ≤ q.toInt ∧ q.toInt < (6 : Int32).toInt then 1 else 0 := hw2
  refine lv_if_eq (tgt := 17) hx hb dX10_inside_6 (by decide) (fun c4 => ?_) (fun c4 => ?_)
  · skip
    have f5 := bo_f hw2 c4
    refine lv_ldc hx hb hown (hts (Cond.constant RX10 89 (-1000001)) (wm_t (wm_l (wm_i 0 rfl)))) dX10_inside_17 ?_
    have hP9 := hP
    have hD9 := hD
    exact W.iret (v := (-1000001)) hx hb hr (fun t ht hW => ⟨⟨(-1000001), (), rfl, (by unfold sp_inside; (repeat' split) <;> first | rfl | (exfalso; omega) | (subst_vars; rfl)), by rw [ht]; exact hP9, va_K.moved hW.alike hK, hD9⟩, hS.F ht⟩) hS.2.2 dX10_inside_19
  · skip
    have f6 := bo_t hw2 c4
    refine lv_iload_n hx hb dX10_inside_9 rfl (lv_at hl 2 rfl) ?_
    refine lv_iconst (v := 3) hx hb dX10_inside_10 (by decide) ?_
    refine st_i1 (va_runS (As := [.int w, .int 3]) (rest := []) ⟨hx, hb, hml, hown, hts⟩ (ct_X10_isBelow l D cI cY cJ cQ _ w (3 : Int32)) (va_cwS 2 hts gX10_inside_X10_isBelow rfl rfl rfl cdX10_isBelow ⟨Nat.le_of_ble_eq_true rfl, Nat.le_of_ble_eq_true rfl⟩) (cPreS (hP.sub [] rfl) hK (hD.sub [] (by decide +kernel) rfl) hN) rfl rfl hl.1 rfl (lv_room (Nat.le_of_ble_eq_true rfl)) dX10_inside_11 ⟨Nat.le_of_ble_eq_true rfl, Nat.le_of_ble_eq_true rfl⟩) hP hD hS hA [] rfl (fun _ => rfl) (fun r9 u7 H locs hw8 => ?_)
    clear hP hS
    intro hP hS
    replace hw8 : r9 = if 0 ≤ w.toInt ∧ w.toInt < (3 : Int32).toInt then 1 else 0 := hw8
    refine lv_if_ne (tgt := 20) hx hb dX10_inside_14 (by decide) (fun c10 => ?_) (fun c10 => ?_)
    · skip
      have f11 := bo_t hw8 c10
      refine lv_aload_n hx hb dX10_inside_20 rfl (lv_at hl 0 rfl) ?_
      refine va_get (D := D) (ci := 10) (v := .ref (ad 3)) (C := RX10) (T := TX10) (N := 14) hx hb hts inX10_inside_X10 hown hK hP 0 rfl rfl 2 (by decide) (hts (Cond.fieldLink RX10 26 "PortRooms" "crates" "LPortRooms$Crates;") (wm_t (wm_l (wm_i 1 rfl)))) (fun _ h9 => h9) rfl dX10_inside_21 ?_
      refine lv_iload_n hx hb dX10_inside_24 rfl (lv_at hl 1 rfl) ?_
      refine st_i1 (va_runV (C := RX1) (As := [.int q]) (rest := []) ⟨hx, hb, hml, hown, hts⟩ (ct_X1_setIn l D cI cY cJ cQ _ ad cn ro q h1 h2) (cwV 1 hts gX10_inside_X1_setIn rfl rfl rfl ⟨rfl, cdX1_setIn⟩ ⟨Nat.le_of_ble_eq_true rfl, Nat.le_of_ble_eq_true rfl⟩) (cPreV (hP.sub [1, 3] rfl) hK (hD.sub [1, 3] (by decide +kernel) rfl) hN (ci := 1) (q0 := 0) rfl rfl) rfl rfl hl.1 rfl (lv_room (Nat.le_of_ble_eq_true rfl)) dX10_inside_25 ⟨Nat.le_of_ble_eq_true rfl, Nat.le_of_ble_eq_true rfl⟩) hP hD hS hA [1, 3] rfl (fun _ => rfl) (fun r14 u12 H locs hw13 => ?_)
      clear hP hS
      intro hP hS
      replace hw13 : r14 = setV ro q cn.toNatClampNeg := hw13
      subst hw13
      refine lv_istore_n (lv' := [(3, .int (setV ro q cn.toNatClampNeg)), (0, .ref (ad 0)), (1, .int q), (2, .int w)]) hx hb dX10_inside_28 rfl hl (by decide) rfl (fun ls hl => ?_)
      refine lv_iload_n hx hb dX10_inside_29 rfl (lv_at hl 3 rfl) ?_
      refine lv_if_ne (tgt := 38) hx hb dX10_inside_30 (by decide) (fun c15 => ?_) (fun c15 => ?_)
      · skip
        have f16 := i_ne c15
        refine lv_iload_n hx hb dX10_inside_38 rfl (lv_at hl 3 rfl) ?_
        refine lv_iconst (v := 1) hx hb dX10_inside_39 (by decide) ?_
        refine lv_icmp_ne (tgt := 54) hx hb dX10_inside_40 (by decide) (fun c17 => ?_) (fun c17 => ?_)
        · skip
          have f18 := i_ne c17
          refine lv_iload_n hx hb dX10_inside_54 rfl (lv_at hl 0 rfl) ?_
          have hP9 := hP
          have hD9 := hD
          exact W.iret (v := setV ro q cn.toNatClampNeg) hx hb hr (fun t ht hW => ⟨⟨setV ro q cn.toNatClampNeg, (), rfl, (by unfold sp_inside; (repeat' split) <;> first | rfl | (exfalso; omega) | (subst_vars; rfl)), by rw [ht]; exact hP9, va_K.moved hW.alike hK, hD9⟩, hS.F ht⟩) hS.2.2 dX10_inside_55
        · skip
          have f19 := i_eq c17
          refine lv_aload_n hx hb dX10_inside_43 rfl (lv_at hl 1 rfl) ?_
          refine va_get (D := D) (ci := 10) (v := .ref (ad 3)) (C := RX10) (T := TX10) (N := 14) hx hb hts inX10_inside_X10 hown hK hP 0 rfl rfl 2 (by decide) (hts (Cond.fieldLink RX10 26 "PortRooms" "crates" "LPortRooms$Crates;") (wm_t (wm_l (wm_i 1 rfl)))) (fun _ h9 => h9) rfl dX10_inside_44 ?_
          refine lv_iload_n hx hb dX10_inside_47 rfl (lv_at hl 0 rfl) ?_
          refine st_i1 (va_runV (C := RX1) (As := [.int (setV ro q cn.toNatClampNeg)]) (rest := []) ⟨hx, hb, hml, hown, hts⟩ (ct_X1_worthsOf l D cI cY cJ cQ _ ad cn wo (setV ro q cn.toNatClampNeg) h1 h2) (cwV 1 hts gX10_inside_X1_worthsOf rfl rfl rfl ⟨rfl, cdX1_worthsOf⟩ ⟨Nat.le_of_ble_eq_true rfl, Nat.le_of_ble_eq_true rfl⟩) (cPreV (hP.sub [1, 2] rfl) hK (hD.sub [1, 2] (by decide +kernel) rfl) hN (ci := 1) (q0 := 0) rfl rfl) rfl rfl hl.1 rfl (lv_room (Nat.le_of_ble_eq_true rfl)) dX10_inside_48 ⟨Nat.le_of_ble_eq_true rfl, Nat.le_of_ble_eq_true rfl⟩) hP hD hS hA [1, 2] rfl (fun _ => rfl) (fun r22 u20 H locs hw21 => ?_)
          clear hP hS
          intro hP hS
          replace hw21 : r22 = woV wo (setV ro q cn.toNatClampNeg) cn.toNatClampNeg := hw21
          subst hw21
          refine lv_goto (tgt := 55) hx hb dX10_inside_51 (by decide) ?_
          have hP9 := hP
          have hD9 := hD
          exact W.iret (v := woV wo (setV ro q cn.toNatClampNeg) cn.toNatClampNeg) hx hb hr (fun t ht hW => ⟨⟨woV wo (setV ro q cn.toNatClampNeg) cn.toNatClampNeg, (), rfl, (by unfold sp_inside; (repeat' split) <;> first | rfl | (exfalso; omega) | (subst_vars; rfl)), by rw [ht]; exact hP9, va_K.moved hW.alike hK, hD9⟩, hS.F ht⟩) hS.2.2 dX10_inside_55
      · skip
        have f23 := i_eq c15
        refine lv_iload_n hx hb dX10_inside_33 rfl (lv_at hl 0 rfl) ?_
        refine st_i1 (va_runS (As := [.int (setV ro q cn.toNatClampNeg)]) (rest := []) ⟨hx, hb, hml, hown, hts⟩ (ct_bitCount l D cI cY cJ cQ _ (setV ro q cn.toNatClampNeg)) (va_cwS 1 hts gX10_inside_J6_bitCount_0f7a4 rfl rfl rfl cdJ6_bitCount_0f7a4 ⟨Nat.le_of_ble_eq_true rfl, Nat.le_of_ble_eq_true rfl⟩) (cPreS (hP.sub [] rfl) hK (hD.sub [] (by decide +kernel) rfl) hN) rfl rfl hl.1 rfl (lv_room (Nat.le_of_ble_eq_true rfl)) dX10_inside_34 ⟨Nat.le_of_ble_eq_true rfl, Nat.le_of_ble_eq_true rfl⟩) hP hD hS hA [] rfl (fun _ => rfl) (fun r26 u24 H locs hw25 => ?_)
        clear hP hS
        intro hP hS
        replace hw25 : r26 = bcf (setV ro q cn.toNatClampNeg) := hw25
        subst hw25
        have hP9 := hP
        have hD9 := hD
        exact W.iret (v := bcf (setV ro q cn.toNatClampNeg)) hx hb hr (fun t ht hW => ⟨⟨bcf (setV ro q cn.toNatClampNeg), (), rfl, (by unfold sp_inside; (repeat' split) <;> first | rfl | (exfalso; omega) | (subst_vars; rfl)), by rw [ht]; exact hP9, va_K.moved hW.alike hK, hD9⟩, hS.F ht⟩) hS.2.2 dX10_inside_37
    · skip
      have f27 := bo_f hw8 c10
      refine lv_ldc hx hb hown (hts (Cond.constant RX10 89 (-1000001)) (wm_t (wm_l (wm_i 0 rfl)))) dX10_inside_17 ?_
      have hP9 := hP
      have hD9 := hD
      exact W.iret (v := (-1000001)) hx hb hr (fun t ht hW => ⟨⟨(-1000001), (), rfl, (by unfold sp_inside; (repeat' split) <;> first | rfl | (exfalso; omega) | (subst_vars; rfl)), by rw [ht]; exact hP9, va_K.moved hW.alike hK, hD9⟩, hS.F ht⟩) hS.2.2 dX10_inside_19
end

section
theorem cdX1_setInRooms : yX1_setInRooms.cls ≠ "java/lang/invoke/MethodHandle" ∧ yX1_setInRooms.cls ≠ "java/lang/invoke/VarHandle" ∧ (parseMethodDescriptor yX1_setInRooms.desc).map (fun d => d.parameters.length) = some 0 := by decide +kernel
theorem Gd_X50 : gdA wsX50 := gd_all (by decide +kernel)
theorem cdX5_lotOf : yX5_lotOf.cls ≠ "java/lang/invoke/MethodHandle" ∧ yX5_lotOf.cls ≠ "java/lang/invoke/VarHandle" ∧ (parseMethodDescriptor yX5_lotOf.desc).map (fun d => d.parameters.length) = some 2 := by decide +kernel
theorem cdX5_drawLots : yX5_drawLots.cls ≠ "java/lang/invoke/MethodHandle" ∧ yX5_drawLots.cls ≠ "java/lang/invoke/VarHandle" ∧ (parseMethodDescriptor yX5_drawLots.desc).map (fun d => d.parameters.length) = some 2 := by decide +kernel
theorem cdX5_howManyAhead : yX5_howManyAhead.cls ≠ "java/lang/invoke/MethodHandle" ∧ yX5_howManyAhead.cls ≠ "java/lang/invoke/VarHandle" ∧ (parseMethodDescriptor yX5_howManyAhead.desc).map (fun d => d.parameters.length) = some 2 := by decide +kernel
theorem Gd_X1_setInRooms : gdA wsX1_setInRooms := gd_cons (by decide +kernel) (gd_app (gd_all (ws := wsX1_setInRooms_o1) (by decide +kernel)) (gd_app Gd_X10 Gd_X1_setIn))
theorem Gd_X5_lotOf : gdA wsX5_lotOf := gd_cons (by decide +kernel) (gd_app (gd_all (ws := wsX5_lotOf_o1) (by decide +kernel)) Gd_X50)
theorem inX5_lotOf_X5 : ∀ w ∈ u_ws RX5 TX5 2, w ∈ wsX5_lotOf := fun _ h => (List.mem_cons_of_mem _ (List.mem_append_right _ h))
theorem Gd_X5_drawLots : gdA wsX5_drawLots := gd_cons (by decide +kernel) (gd_app (gd_all (ws := wsX5_drawLots_o1) (by decide +kernel)) (gd_app (gd_app Gd_X50 Gd_X10_hasBit) Gd_X5_lotOf))
theorem inX5_drawLots_X5 : ∀ w ∈ u_ws RX5 TX5 2, w ∈ wsX5_drawLots := fun _ h => (List.mem_cons_of_mem _ (List.mem_append_right _ (List.mem_append_left _ (List.mem_append_left _ h))))
theorem Gd_X5_howManyAhead : gdA wsX5_howManyAhead := gd_cons (by decide +kernel) (gd_app (gd_all (ws := wsX5_howManyAhead_o1) (by decide +kernel)) (gd_app Gd_X50 Gd_X10_hasBit))
theorem inX5_howManyAhead_X5 : ∀ w ∈ u_ws RX5 TX5 2, w ∈ wsX5_howManyAhead := fun _ h => (List.mem_cons_of_mem _ (List.mem_append_right _ (List.mem_append_left _ h)))
theorem inX10_lot_X10 : ∀ w ∈ u_ws RX10 TX10 14, w ∈ wsX10_lot := fun _ h => (List.mem_cons_of_mem _ (List.mem_append_right _ (List.mem_append_left _ (List.mem_append_left _ (List.mem_append_left _ h)))))
theorem inX10_drawn_X10 : ∀ w ∈ u_ws RX10 TX10 14, w ∈ wsX10_drawn := fun _ h => (List.mem_cons_of_mem _ (List.mem_append_right _ (List.mem_append_left _ (List.mem_append_left _ (List.mem_append_left _ (List.mem_append_left _ h))))))
theorem inX10_often_X10 : ∀ w ∈ u_ws RX10 TX10 14, w ∈ wsX10_often := fun _ h => (List.mem_cons_of_mem _ (List.mem_append_right _ (List.mem_append_left _ (List.mem_append_left _ (List.mem_append_left _ (List.mem_append_left _ h))))))
theorem dX5_lotOf_all0 : decode cX5_lotOf 0 = .ok (.aload_n 0, 1) ∧ decode cX5_lotOf 1 = .ok (.getfield 15, 3) ∧ decode cX5_lotOf 4 = .ok (.i2l, 1) ∧ decode cX5_lotOf 5 = .ok (.iload_n 1, 1) ∧ decode cX5_lotOf 6 = .ok (.i2l, 1) ∧ decode cX5_lotOf 7 = .ok (.ldc2_w 19, 3) ∧ decode cX5_lotOf 10 = .ok (.lmul, 1) ∧ decode cX5_lotOf 11 = .ok (.ladd, 1) ∧ decode cX5_lotOf 12 = .ok (.iload_n 2, 1) ∧ decode cX5_lotOf 13 = .ok (.i2l, 1) ∧ decode cX5_lotOf 14 = .ok (.ldc2_w 21, 3) ∧ decode cX5_lotOf 17 = .ok (.lmul, 1) := by decide +kernel
theorem dX5_lotOf_0 : decode cX5_lotOf 0 = .ok (.aload_n 0, 1) := dX5_lotOf_all0.1
theorem dX5_lotOf_1 : decode cX5_lotOf 1 = .ok (.getfield 15, 3) := dX5_lotOf_all0.2.1
theorem dX5_lotOf_4 : decode cX5_lotOf 4 = .ok (.i2l, 1) := dX5_lotOf_all0.2.2.1
theorem dX5_lotOf_5 : decode cX5_lotOf 5 = .ok (.iload_n 1, 1) := dX5_lotOf_all0.2.2.2.1
theorem dX5_lotOf_6 : decode cX5_lotOf 6 = .ok (.i2l, 1) := dX5_lotOf_all0.2.2.2.2.1
theorem dX5_lotOf_7 : decode cX5_lotOf 7 = .ok (.ldc2_w 19, 3) := dX5_lotOf_all0.2.2.2.2.2.1
theorem dX5_lotOf_10 : decode cX5_lotOf 10 = .ok (.lmul, 1) := dX5_lotOf_all0.2.2.2.2.2.2.1
theorem dX5_lotOf_11 : decode cX5_lotOf 11 = .ok (.ladd, 1) := dX5_lotOf_all0.2.2.2.2.2.2.2.1
theorem dX5_lotOf_12 : decode cX5_lotOf 12 = .ok (.iload_n 2, 1) := dX5_lotOf_all0.2.2.2.2.2.2.2.2.1
theorem dX5_lotOf_13 : decode cX5_lotOf 13 = .ok (.i2l, 1) := dX5_lotOf_all0.2.2.2.2.2.2.2.2.2.1
theorem dX5_lotOf_14 : decode cX5_lotOf 14 = .ok (.ldc2_w 21, 3) := dX5_lotOf_all0.2.2.2.2.2.2.2.2.2.2.1
theorem dX5_lotOf_17 : decode cX5_lotOf 17 = .ok (.lmul, 1) := dX5_lotOf_all0.2.2.2.2.2.2.2.2.2.2.2
theorem dX5_lotOf_all1 : decode cX5_lotOf 18 = .ok (.ladd, 1) ∧ decode cX5_lotOf 19 = .ok (.lstore_n 3, 1) ∧ decode cX5_lotOf 20 = .ok (.lload_n 3, 1) ∧ decode cX5_lotOf 21 = .ok (.ldc2_w 23, 3) ∧ decode cX5_lotOf 24 = .ok (.lmul, 1) ∧ decode cX5_lotOf 25 = .ok (.lstore_n 3, 1) ∧ decode cX5_lotOf 26 = .ok (.lload_n 3, 1) ∧ decode cX5_lotOf 27 = .ok (.lload_n 3, 1) ∧ decode cX5_lotOf 28 = .ok (.bipush 29, 2) ∧ decode cX5_lotOf 30 = .ok (.lushr, 1) ∧ decode cX5_lotOf 31 = .ok (.lxor, 1) ∧ decode cX5_lotOf 32 = .ok (.lstore_n 3, 1) := by decide +kernel
theorem dX5_lotOf_18 : decode cX5_lotOf 18 = .ok (.ladd, 1) := dX5_lotOf_all1.1
theorem dX5_lotOf_19 : decode cX5_lotOf 19 = .ok (.lstore_n 3, 1) := dX5_lotOf_all1.2.1
theorem dX5_lotOf_20 : decode cX5_lotOf 20 = .ok (.lload_n 3, 1) := dX5_lotOf_all1.2.2.1
theorem dX5_lotOf_21 : decode cX5_lotOf 21 = .ok (.ldc2_w 23, 3) := dX5_lotOf_all1.2.2.2.1
theorem dX5_lotOf_24 : decode cX5_lotOf 24 = .ok (.lmul, 1) := dX5_lotOf_all1.2.2.2.2.1
theorem dX5_lotOf_25 : decode cX5_lotOf 25 = .ok (.lstore_n 3, 1) := dX5_lotOf_all1.2.2.2.2.2.1
theorem dX5_lotOf_26 : decode cX5_lotOf 26 = .ok (.lload_n 3, 1) := dX5_lotOf_all1.2.2.2.2.2.2.1
theorem dX5_lotOf_27 : decode cX5_lotOf 27 = .ok (.lload_n 3, 1) := dX5_lotOf_all1.2.2.2.2.2.2.2.1
theorem dX5_lotOf_28 : decode cX5_lotOf 28 = .ok (.bipush 29, 2) := dX5_lotOf_all1.2.2.2.2.2.2.2.2.1
theorem dX5_lotOf_30 : decode cX5_lotOf 30 = .ok (.lushr, 1) := dX5_lotOf_all1.2.2.2.2.2.2.2.2.2.1
theorem dX5_lotOf_31 : decode cX5_lotOf 31 = .ok (.lxor, 1) := dX5_lotOf_all1.2.2.2.2.2.2.2.2.2.2.1
theorem dX5_lotOf_32 : decode cX5_lotOf 32 = .ok (.lstore_n 3, 1) := dX5_lotOf_all1.2.2.2.2.2.2.2.2.2.2.2
theorem dX5_lotOf_all2 : decode cX5_lotOf 33 = .ok (.lload_n 3, 1) ∧ decode cX5_lotOf 34 = .ok (.ldc2_w 25, 3) ∧ decode cX5_lotOf 37 = .ok (.lmul, 1) ∧ decode cX5_lotOf 38 = .ok (.lstore_n 3, 1) ∧ decode cX5_lotOf 39 = .ok (.lload_n 3, 1) ∧ decode cX5_lotOf 40 = .ok (.lload_n 3, 1) ∧ decode cX5_lotOf 41 = .ok (.bipush 32, 2) ∧ decode cX5_lotOf 43 = .ok (.lushr, 1) ∧ decode cX5_lotOf 44 = .ok (.lxor, 1) ∧ decode cX5_lotOf 45 = .ok (.lstore_n 3, 1) ∧ decode cX5_lotOf 46 = .ok (.lload_n 3, 1) ∧ decode cX5_lotOf 47 = .ok (.ldc2_w 27, 3) := by decide +kernel
theorem dX5_lotOf_33 : decode cX5_lotOf 33 = .ok (.lload_n 3, 1) := dX5_lotOf_all2.1
theorem dX5_lotOf_34 : decode cX5_lotOf 34 = .ok (.ldc2_w 25, 3) := dX5_lotOf_all2.2.1
theorem dX5_lotOf_37 : decode cX5_lotOf 37 = .ok (.lmul, 1) := dX5_lotOf_all2.2.2.1
theorem dX5_lotOf_38 : decode cX5_lotOf 38 = .ok (.lstore_n 3, 1) := dX5_lotOf_all2.2.2.2.1
theorem dX5_lotOf_39 : decode cX5_lotOf 39 = .ok (.lload_n 3, 1) := dX5_lotOf_all2.2.2.2.2.1
theorem dX5_lotOf_40 : decode cX5_lotOf 40 = .ok (.lload_n 3, 1) := dX5_lotOf_all2.2.2.2.2.2.1
theorem dX5_lotOf_41 : decode cX5_lotOf 41 = .ok (.bipush 32, 2) := dX5_lotOf_all2.2.2.2.2.2.2.1
theorem dX5_lotOf_43 : decode cX5_lotOf 43 = .ok (.lushr, 1) := dX5_lotOf_all2.2.2.2.2.2.2.2.1
theorem dX5_lotOf_44 : decode cX5_lotOf 44 = .ok (.lxor, 1) := dX5_lotOf_all2.2.2.2.2.2.2.2.2.1
theorem dX5_lotOf_45 : decode cX5_lotOf 45 = .ok (.lstore_n 3, 1) := dX5_lotOf_all2.2.2.2.2.2.2.2.2.2.1
theorem dX5_lotOf_46 : decode cX5_lotOf 46 = .ok (.lload_n 3, 1) := dX5_lotOf_all2.2.2.2.2.2.2.2.2.2.2.1
theorem dX5_lotOf_47 : decode cX5_lotOf 47 = .ok (.ldc2_w 27, 3) := dX5_lotOf_all2.2.2.2.2.2.2.2.2.2.2.2
theorem dX5_lotOf_all3 : decode cX5_lotOf 50 = .ok (.land, 1) ∧ decode cX5_lotOf 51 = .ok (.lreturn, 1) := by decide +kernel
theorem dX5_lotOf_50 : decode cX5_lotOf 50 = .ok (.land, 1) := dX5_lotOf_all3.1
theorem dX5_lotOf_51 : decode cX5_lotOf 51 = .ok (.lreturn, 1) := dX5_lotOf_all3.2
theorem ggX5_drawLots_X10_hasBit : GoodIn wsX5_drawLots wsX10_hasBit := goodIn_s (fun _ h => wm_t (wm_r (wm_l (wm_r h)))) Gd_X10_hasBit
set_option maxRecDepth 20000 in
theorem gX5_drawLots_X10_hasBit_n29 : GoodIn wsX5_drawLots (wsX10_hasBit) := ggX5_drawLots_X10_hasBit
theorem ggX5_drawLots_X5_lotOf : GoodIn wsX5_drawLots wsX5_lotOf := goodIn_s (fun _ h => wm_t (wm_r (wm_r h))) Gd_X5_lotOf
theorem gX5_drawLots_X5_lotOf : GoodIn wsX5_drawLots (wsV RX5 33 RX5 yX5_lotOf wsX5_lotOf) := goodIn_V (own := RX5) (idx := 33) (C := RX5) (y := yX5_lotOf) (wm_t (wm_l (wm_i 3 rfl))) (wm_t (wm_l (wm_i 4 rfl))) (wm_t (wm_l (wm_i 5 rfl))) (wm_t (wm_l (wm_i 6 rfl))) ggX5_drawLots_X5_lotOf
theorem dX5_drawLots_all0 : decode cX5_drawLots 0 = .ok (.iconst 0, 1) ∧ decode cX5_drawLots 1 = .ok (.istore_n 3, 1) ∧ decode cX5_drawLots 2 = .ok (.iload_n 3, 1) ∧ decode cX5_drawLots 3 = .ok (.bipush 12, 2) ∧ decode cX5_drawLots 5 = .ok (.if_icmp .ge 29, 3) ∧ decode cX5_drawLots 8 = .ok (.iload_n 1, 1) ∧ decode cX5_drawLots 9 = .ok (.iload_n 3, 1) ∧ decode cX5_drawLots 10 = .ok (.invokestatic 29, 3) ∧ decode cX5_drawLots 13 = .ok (.ifCond .eq 15, 3) ∧ decode cX5_drawLots 16 = .ok (.aload_n 0, 1) ∧ decode cX5_drawLots 17 = .ok (.getfield 9, 3) ∧ decode cX5_drawLots 20 = .ok (.iload_n 3, 1) := by decide +kernel
theorem dX5_drawLots_0 : decode cX5_drawLots 0 = .ok (.iconst 0, 1) := dX5_drawLots_all0.1
theorem dX5_drawLots_1 : decode cX5_drawLots 1 = .ok (.istore_n 3, 1) := dX5_drawLots_all0.2.1
theorem dX5_drawLots_2 : decode cX5_drawLots 2 = .ok (.iload_n 3, 1) := dX5_drawLots_all0.2.2.1
theorem dX5_drawLots_3 : decode cX5_drawLots 3 = .ok (.bipush 12, 2) := dX5_drawLots_all0.2.2.2.1
theorem dX5_drawLots_5 : decode cX5_drawLots 5 = .ok (.if_icmp .ge 29, 3) := dX5_drawLots_all0.2.2.2.2.1
theorem dX5_drawLots_8 : decode cX5_drawLots 8 = .ok (.iload_n 1, 1) := dX5_drawLots_all0.2.2.2.2.2.1
theorem dX5_drawLots_9 : decode cX5_drawLots 9 = .ok (.iload_n 3, 1) := dX5_drawLots_all0.2.2.2.2.2.2.1
theorem dX5_drawLots_10 : decode cX5_drawLots 10 = .ok (.invokestatic 29, 3) := dX5_drawLots_all0.2.2.2.2.2.2.2.1
theorem dX5_drawLots_13 : decode cX5_drawLots 13 = .ok (.ifCond .eq 15, 3) := dX5_drawLots_all0.2.2.2.2.2.2.2.2.1
theorem dX5_drawLots_16 : decode cX5_drawLots 16 = .ok (.aload_n 0, 1) := dX5_drawLots_all0.2.2.2.2.2.2.2.2.2.1
theorem dX5_drawLots_17 : decode cX5_drawLots 17 = .ok (.getfield 9, 3) := dX5_drawLots_all0.2.2.2.2.2.2.2.2.2.2.1
theorem dX5_drawLots_20 : decode cX5_drawLots 20 = .ok (.iload_n 3, 1) := dX5_drawLots_all0.2.2.2.2.2.2.2.2.2.2.2
theorem dX5_drawLots_all1 : decode cX5_drawLots 21 = .ok (.aload_n 0, 1) ∧ decode cX5_drawLots 22 = .ok (.iload_n 3, 1) ∧ decode cX5_drawLots 23 = .ok (.iload_n 2, 1) ∧ decode cX5_drawLots 24 = .ok (.invokevirtual 33, 3) ∧ decode cX5_drawLots 27 = .ok (.lastore, 1) ∧ decode cX5_drawLots 28 = .ok (.iinc 3 1, 3) ∧ decode cX5_drawLots 31 = .ok (.goto (-29), 3) ∧ decode cX5_drawLots 34 = .ok (.return_, 1) := by decide +kernel
theorem dX5_drawLots_21 : decode cX5_drawLots 21 = .ok (.aload_n 0, 1) := dX5_drawLots_all1.1
theorem dX5_drawLots_22 : decode cX5_drawLots 22 = .ok (.iload_n 3, 1) := dX5_drawLots_all1.2.1
theorem dX5_drawLots_23 : decode cX5_drawLots 23 = .ok (.iload_n 2, 1) := dX5_drawLots_all1.2.2.1
theorem dX5_drawLots_24 : decode cX5_drawLots 24 = .ok (.invokevirtual 33, 3) := dX5_drawLots_all1.2.2.2.1
theorem dX5_drawLots_27 : decode cX5_drawLots 27 = .ok (.lastore, 1) := dX5_drawLots_all1.2.2.2.2.1
theorem dX5_drawLots_28 : decode cX5_drawLots 28 = .ok (.iinc 3 1, 3) := dX5_drawLots_all1.2.2.2.2.2.1
theorem dX5_drawLots_31 : decode cX5_drawLots 31 = .ok (.goto (-29), 3) := dX5_drawLots_all1.2.2.2.2.2.2.1
theorem dX5_drawLots_34 : decode cX5_drawLots 34 = .ok (.return_, 1) := dX5_drawLots_all1.2.2.2.2.2.2.2
theorem ggX5_howManyAhead_X10_hasBit : GoodIn wsX5_howManyAhead wsX10_hasBit := goodIn_s (fun _ h => wm_t (wm_r (wm_r h))) Gd_X10_hasBit
set_option maxRecDepth 20000 in
theorem gX5_howManyAhead_X10_hasBit_n29 : GoodIn wsX5_howManyAhead (wsX10_hasBit) := ggX5_howManyAhead_X10_hasBit
theorem dX5_howManyAhead_all0 : decode cX5_howManyAhead 0 = .ok (.iconst 0, 1) ∧ decode cX5_howManyAhead 1 = .ok (.istore_n 3, 1) ∧ decode cX5_howManyAhead 2 = .ok (.iconst 0, 1) ∧ decode cX5_howManyAhead 3 = .ok (.istore 4, 2) ∧ decode cX5_howManyAhead 5 = .ok (.iload 4, 2) ∧ decode cX5_howManyAhead 7 = .ok (.bipush 12, 2) ∧ decode cX5_howManyAhead 9 = .ok (.if_icmp .ge 61, 3) ∧ decode cX5_howManyAhead 12 = .ok (.iload_n 1, 1) ∧ decode cX5_howManyAhead 13 = .ok (.iload 4, 2) ∧ decode cX5_howManyAhead 15 = .ok (.invokestatic 29, 3) ∧ decode cX5_howManyAhead 18 = .ok (.ifCond .eq 46, 3) ∧ decode cX5_howManyAhead 21 = .ok (.aload_n 0, 1) := by decide +kernel
theorem dX5_howManyAhead_0 : decode cX5_howManyAhead 0 = .ok (.iconst 0, 1) := dX5_howManyAhead_all0.1
theorem dX5_howManyAhead_1 : decode cX5_howManyAhead 1 = .ok (.istore_n 3, 1) := dX5_howManyAhead_all0.2.1
theorem dX5_howManyAhead_2 : decode cX5_howManyAhead 2 = .ok (.iconst 0, 1) := dX5_howManyAhead_all0.2.2.1
theorem dX5_howManyAhead_3 : decode cX5_howManyAhead 3 = .ok (.istore 4, 2) := dX5_howManyAhead_all0.2.2.2.1
theorem dX5_howManyAhead_5 : decode cX5_howManyAhead 5 = .ok (.iload 4, 2) := dX5_howManyAhead_all0.2.2.2.2.1
theorem dX5_howManyAhead_7 : decode cX5_howManyAhead 7 = .ok (.bipush 12, 2) := dX5_howManyAhead_all0.2.2.2.2.2.1
theorem dX5_howManyAhead_9 : decode cX5_howManyAhead 9 = .ok (.if_icmp .ge 61, 3) := dX5_howManyAhead_all0.2.2.2.2.2.2.1
theorem dX5_howManyAhead_12 : decode cX5_howManyAhead 12 = .ok (.iload_n 1, 1) := dX5_howManyAhead_all0.2.2.2.2.2.2.2.1
theorem dX5_howManyAhead_13 : decode cX5_howManyAhead 13 = .ok (.iload 4, 2) := dX5_howManyAhead_all0.2.2.2.2.2.2.2.2.1
theorem dX5_howManyAhead_15 : decode cX5_howManyAhead 15 = .ok (.invokestatic 29, 3) := dX5_howManyAhead_all0.2.2.2.2.2.2.2.2.2.1
theorem dX5_howManyAhead_18 : decode cX5_howManyAhead 18 = .ok (.ifCond .eq 46, 3) := dX5_howManyAhead_all0.2.2.2.2.2.2.2.2.2.2.1
theorem dX5_howManyAhead_21 : decode cX5_howManyAhead 21 = .ok (.aload_n 0, 1) := dX5_howManyAhead_all0.2.2.2.2.2.2.2.2.2.2.2
theorem dX5_howManyAhead_all1 : decode cX5_howManyAhead 22 = .ok (.getfield 9, 3) ∧ decode cX5_howManyAhead 25 = .ok (.iload 4, 2) ∧ decode cX5_howManyAhead 27 = .ok (.laload, 1) ∧ decode cX5_howManyAhead 28 = .ok (.aload_n 0, 1) ∧ decode cX5_howManyAhead 29 = .ok (.getfield 9, 3) ∧ decode cX5_howManyAhead 32 = .ok (.iload_n 2, 1) ∧ decode cX5_howManyAhead 33 = .ok (.laload, 1) ∧ decode cX5_howManyAhead 34 = .ok (.lcmp, 1) ∧ decode cX5_howManyAhead 35 = .ok (.ifCond .lt 26, 3) ∧ decode cX5_howManyAhead 38 = .ok (.aload_n 0, 1) ∧ decode cX5_howManyAhead 39 = .ok (.getfield 9, 3) ∧ decode cX5_howManyAhead 42 = .ok (.iload 4, 2) := by decide +kernel
theorem dX5_howManyAhead_22 : decode cX5_howManyAhead 22 = .ok (.getfield 9, 3) := dX5_howManyAhead_all1.1
theorem dX5_howManyAhead_25 : decode cX5_howManyAhead 25 = .ok (.iload 4, 2) := dX5_howManyAhead_all1.2.1
theorem dX5_howManyAhead_27 : decode cX5_howManyAhead 27 = .ok (.laload, 1) := dX5_howManyAhead_all1.2.2.1
theorem dX5_howManyAhead_28 : decode cX5_howManyAhead 28 = .ok (.aload_n 0, 1) := dX5_howManyAhead_all1.2.2.2.1
theorem dX5_howManyAhead_29 : decode cX5_howManyAhead 29 = .ok (.getfield 9, 3) := dX5_howManyAhead_all1.2.2.2.2.1
theorem dX5_howManyAhead_32 : decode cX5_howManyAhead 32 = .ok (.iload_n 2, 1) := dX5_howManyAhead_all1.2.2.2.2.2.1
theorem dX5_howManyAhead_33 : decode cX5_howManyAhead 33 = .ok (.laload, 1) := dX5_howManyAhead_all1.2.2.2.2.2.2.1
theorem dX5_howManyAhead_34 : decode cX5_howManyAhead 34 = .ok (.lcmp, 1) := dX5_howManyAhead_all1.2.2.2.2.2.2.2.1
theorem dX5_howManyAhead_35 : decode cX5_howManyAhead 35 = .ok (.ifCond .lt 26, 3) := dX5_howManyAhead_all1.2.2.2.2.2.2.2.2.1
theorem dX5_howManyAhead_38 : decode cX5_howManyAhead 38 = .ok (.aload_n 0, 1) := dX5_howManyAhead_all1.2.2.2.2.2.2.2.2.2.1
theorem dX5_howManyAhead_39 : decode cX5_howManyAhead 39 = .ok (.getfield 9, 3) := dX5_howManyAhead_all1.2.2.2.2.2.2.2.2.2.2.1
theorem dX5_howManyAhead_42 : decode cX5_howManyAhead 42 = .ok (.iload 4, 2) := dX5_howManyAhead_all1.2.2.2.2.2.2.2.2.2.2.2
theorem dX5_howManyAhead_all2 : decode cX5_howManyAhead 44 = .ok (.laload, 1) ∧ decode cX5_howManyAhead 45 = .ok (.aload_n 0, 1) ∧ decode cX5_howManyAhead 46 = .ok (.getfield 9, 3) ∧ decode cX5_howManyAhead 49 = .ok (.iload_n 2, 1) ∧ decode cX5_howManyAhead 50 = .ok (.laload, 1) ∧ decode cX5_howManyAhead 51 = .ok (.lcmp, 1) ∧ decode cX5_howManyAhead 52 = .ok (.ifCond .ne 12, 3) ∧ decode cX5_howManyAhead 55 = .ok (.iload 4, 2) ∧ decode cX5_howManyAhead 57 = .ok (.iload_n 2, 1) ∧ decode cX5_howManyAhead 58 = .ok (.if_icmp .ge 6, 3) ∧ decode cX5_howManyAhead 61 = .ok (.iinc 3 1, 3) ∧ decode cX5_howManyAhead 64 = .ok (.iinc 4 1, 3) := by decide +kernel
theorem dX5_howManyAhead_44 : decode cX5_howManyAhead 44 = .ok (.laload, 1) := dX5_howManyAhead_all2.1
theorem dX5_howManyAhead_45 : decode cX5_howManyAhead 45 = .ok (.aload_n 0, 1) := dX5_howManyAhead_all2.2.1
theorem dX5_howManyAhead_46 : decode cX5_howManyAhead 46 = .ok (.getfield 9, 3) := dX5_howManyAhead_all2.2.2.1
theorem dX5_howManyAhead_49 : decode cX5_howManyAhead 49 = .ok (.iload_n 2, 1) := dX5_howManyAhead_all2.2.2.2.1
theorem dX5_howManyAhead_50 : decode cX5_howManyAhead 50 = .ok (.laload, 1) := dX5_howManyAhead_all2.2.2.2.2.1
theorem dX5_howManyAhead_51 : decode cX5_howManyAhead 51 = .ok (.lcmp, 1) := dX5_howManyAhead_all2.2.2.2.2.2.1
theorem dX5_howManyAhead_52 : decode cX5_howManyAhead 52 = .ok (.ifCond .ne 12, 3) := dX5_howManyAhead_all2.2.2.2.2.2.2.1
theorem dX5_howManyAhead_55 : decode cX5_howManyAhead 55 = .ok (.iload 4, 2) := dX5_howManyAhead_all2.2.2.2.2.2.2.2.1
theorem dX5_howManyAhead_57 : decode cX5_howManyAhead 57 = .ok (.iload_n 2, 1) := dX5_howManyAhead_all2.2.2.2.2.2.2.2.2.1
theorem dX5_howManyAhead_58 : decode cX5_howManyAhead 58 = .ok (.if_icmp .ge 6, 3) := dX5_howManyAhead_all2.2.2.2.2.2.2.2.2.2.1
theorem dX5_howManyAhead_61 : decode cX5_howManyAhead 61 = .ok (.iinc 3 1, 3) := dX5_howManyAhead_all2.2.2.2.2.2.2.2.2.2.2.1
theorem dX5_howManyAhead_64 : decode cX5_howManyAhead 64 = .ok (.iinc 4 1, 3) := dX5_howManyAhead_all2.2.2.2.2.2.2.2.2.2.2.2
theorem dX5_howManyAhead_all3 : decode cX5_howManyAhead 67 = .ok (.goto (-62), 3) ∧ decode cX5_howManyAhead 70 = .ok (.iload_n 3, 1) ∧ decode cX5_howManyAhead 71 = .ok (.ireturn, 1) := by decide +kernel
theorem dX5_howManyAhead_67 : decode cX5_howManyAhead 67 = .ok (.goto (-62), 3) := dX5_howManyAhead_all3.1
theorem dX5_howManyAhead_70 : decode cX5_howManyAhead 70 = .ok (.iload_n 3, 1) := dX5_howManyAhead_all3.2.1
theorem dX5_howManyAhead_71 : decode cX5_howManyAhead 71 = .ok (.ireturn, 1) := dX5_howManyAhead_all3.2.2
theorem ggX10_lot_X10_isBelow : GoodIn wsX10_lot wsX10_isBelow := goodIn_s (fun _ h => wm_t (wm_r (wm_l (wm_r h)))) Gd_X10_isBelow
theorem gX10_lot_X10_isBelow : GoodIn wsX10_lot (va_wsS RX10 85 yX10_isBelow wsX10_isBelow) := goodIn_S (own := RX10) (idx := 85) (y := yX10_isBelow) (wm_t (wm_l (wm_i 3 rfl))) (wm_t (wm_l (wm_i 4 rfl))) (wm_t (wm_l (wm_i 5 rfl))) ggX10_lot_X10_isBelow
theorem ggX10_lot_X10_isDay : GoodIn wsX10_lot wsX10_isDay := goodIn_s (fun _ h => wm_t (wm_r (wm_r (wm_l (wm_l h))))) Gd_X10_isDay
theorem gX10_lot_X10_isDay : GoodIn wsX10_lot (va_wsS RX10 138 yX10_isDay wsX10_isDay) := goodIn_S (own := RX10) (idx := 138) (y := yX10_isDay) (wm_t (wm_l (wm_i 6 rfl))) (wm_t (wm_l (wm_i 7 rfl))) (wm_t (wm_l (wm_i 5 rfl))) ggX10_lot_X10_isDay
theorem ggX10_lot_X10_isFrom : GoodIn wsX10_lot wsX10_isFrom := goodIn_s (fun _ h => wm_t (wm_r (wm_r (wm_l (wm_r h))))) Gd_X10_isFrom
theorem gX10_lot_X10_isFrom : GoodIn wsX10_lot (va_wsS RX10 135 yX10_isFrom wsX10_isFrom) := goodIn_S (own := RX10) (idx := 135) (y := yX10_isFrom) (wm_t (wm_l (wm_i 8 rfl))) (wm_t (wm_l (wm_i 9 rfl))) (wm_t (wm_l (wm_i 5 rfl))) ggX10_lot_X10_isFrom
theorem ggX10_lot_X5_lotOf : GoodIn wsX10_lot wsX5_lotOf := goodIn_s (fun _ h => wm_t (wm_r (wm_r (wm_r h)))) Gd_X5_lotOf
theorem gX10_lot_X5_lotOf : GoodIn wsX10_lot (wsV RX10 273 RX5 yX5_lotOf wsX5_lotOf) := goodIn_V (own := RX10) (idx := 273) (C := RX5) (y := yX5_lotOf) (wm_t (wm_l (wm_i 10 rfl))) (wm_t (wm_l (wm_i 11 rfl))) (wm_t (wm_l (wm_i 12 rfl))) (wm_t (wm_l (wm_i 13 rfl))) ggX10_lot_X5_lotOf
theorem dX10_lot_all0 : decode cX10_lot 0 = .ok (.iload_n 1, 1) ∧ decode cX10_lot 1 = .ok (.bipush 12, 2) ∧ decode cX10_lot 3 = .ok (.invokestatic 85, 3) ∧ decode cX10_lot 6 = .ok (.ifCond .eq 20, 3) ∧ decode cX10_lot 9 = .ok (.iload_n 2, 1) ∧ decode cX10_lot 10 = .ok (.invokestatic 138, 3) ∧ decode cX10_lot 13 = .ok (.ifCond .eq 13, 3) ∧ decode cX10_lot 16 = .ok (.iload_n 3, 1) ∧ decode cX10_lot 17 = .ok (.iconst 1, 1) ∧ decode cX10_lot 18 = .ok (.ldc 248, 2) ∧ decode cX10_lot 20 = .ok (.invokestatic 135, 3) ∧ decode cX10_lot 23 = .ok (.ifCond .ne 6, 3) := by decide +kernel
theorem dX10_lot_0 : decode cX10_lot 0 = .ok (.iload_n 1, 1) := dX10_lot_all0.1
theorem dX10_lot_1 : decode cX10_lot 1 = .ok (.bipush 12, 2) := dX10_lot_all0.2.1
theorem dX10_lot_3 : decode cX10_lot 3 = .ok (.invokestatic 85, 3) := dX10_lot_all0.2.2.1
theorem dX10_lot_6 : decode cX10_lot 6 = .ok (.ifCond .eq 20, 3) := dX10_lot_all0.2.2.2.1
theorem dX10_lot_9 : decode cX10_lot 9 = .ok (.iload_n 2, 1) := dX10_lot_all0.2.2.2.2.1
theorem dX10_lot_10 : decode cX10_lot 10 = .ok (.invokestatic 138, 3) := dX10_lot_all0.2.2.2.2.2.1
theorem dX10_lot_13 : decode cX10_lot 13 = .ok (.ifCond .eq 13, 3) := dX10_lot_all0.2.2.2.2.2.2.1
theorem dX10_lot_16 : decode cX10_lot 16 = .ok (.iload_n 3, 1) := dX10_lot_all0.2.2.2.2.2.2.2.1
theorem dX10_lot_17 : decode cX10_lot 17 = .ok (.iconst 1, 1) := dX10_lot_all0.2.2.2.2.2.2.2.2.1
theorem dX10_lot_18 : decode cX10_lot 18 = .ok (.ldc 248, 2) := dX10_lot_all0.2.2.2.2.2.2.2.2.2.1
theorem dX10_lot_20 : decode cX10_lot 20 = .ok (.invokestatic 135, 3) := dX10_lot_all0.2.2.2.2.2.2.2.2.2.2.1
theorem dX10_lot_23 : decode cX10_lot 23 = .ok (.ifCond .ne 6, 3) := dX10_lot_all0.2.2.2.2.2.2.2.2.2.2.2
theorem dX10_lot_all1 : decode cX10_lot 26 = .ok (.ldc 89, 2) ∧ decode cX10_lot 28 = .ok (.ireturn, 1) ∧ decode cX10_lot 29 = .ok (.aload_n 0, 1) ∧ decode cX10_lot 30 = .ok (.getfield 81, 3) ∧ decode cX10_lot 33 = .ok (.iload_n 1, 1) ∧ decode cX10_lot 34 = .ok (.iload_n 2, 1) ∧ decode cX10_lot 35 = .ok (.invokevirtual 273, 3) ∧ decode cX10_lot 38 = .ok (.iload_n 3, 1) ∧ decode cX10_lot 39 = .ok (.i2l, 1) ∧ decode cX10_lot 40 = .ok (.lrem, 1) ∧ decode cX10_lot 41 = .ok (.l2i, 1) ∧ decode cX10_lot 42 = .ok (.ireturn, 1) := by decide +kernel
theorem dX10_lot_26 : decode cX10_lot 26 = .ok (.ldc 89, 2) := dX10_lot_all1.1
theorem dX10_lot_28 : decode cX10_lot 28 = .ok (.ireturn, 1) := dX10_lot_all1.2.1
theorem dX10_lot_29 : decode cX10_lot 29 = .ok (.aload_n 0, 1) := dX10_lot_all1.2.2.1
theorem dX10_lot_30 : decode cX10_lot 30 = .ok (.getfield 81, 3) := dX10_lot_all1.2.2.2.1
theorem dX10_lot_33 : decode cX10_lot 33 = .ok (.iload_n 1, 1) := dX10_lot_all1.2.2.2.2.1
theorem dX10_lot_34 : decode cX10_lot 34 = .ok (.iload_n 2, 1) := dX10_lot_all1.2.2.2.2.2.1
theorem dX10_lot_35 : decode cX10_lot 35 = .ok (.invokevirtual 273, 3) := dX10_lot_all1.2.2.2.2.2.2.1
theorem dX10_lot_38 : decode cX10_lot 38 = .ok (.iload_n 3, 1) := dX10_lot_all1.2.2.2.2.2.2.2.1
theorem dX10_lot_39 : decode cX10_lot 39 = .ok (.i2l, 1) := dX10_lot_all1.2.2.2.2.2.2.2.2.1
theorem dX10_lot_40 : decode cX10_lot 40 = .ok (.lrem, 1) := dX10_lot_all1.2.2.2.2.2.2.2.2.2.1
theorem dX10_lot_41 : decode cX10_lot 41 = .ok (.l2i, 1) := dX10_lot_all1.2.2.2.2.2.2.2.2.2.2.1
theorem dX10_lot_42 : decode cX10_lot 42 = .ok (.ireturn, 1) := dX10_lot_all1.2.2.2.2.2.2.2.2.2.2.2
theorem ggX10_drawn_X10_isDay : GoodIn wsX10_drawn wsX10_isDay := goodIn_s (fun _ h => wm_t (wm_r (wm_l (wm_r (wm_l h))))) Gd_X10_isDay
theorem gX10_drawn_X10_isDay : GoodIn wsX10_drawn (va_wsS RX10 138 yX10_isDay wsX10_isDay) := goodIn_S (own := RX10) (idx := 138) (y := yX10_isDay) (wm_t (wm_l (wm_i 3 rfl))) (wm_t (wm_l (wm_i 4 rfl))) (wm_t (wm_l (wm_i 5 rfl))) ggX10_drawn_X10_isDay
theorem ggX10_drawn_X10_isFrom : GoodIn wsX10_drawn wsX10_isFrom := goodIn_s (fun _ h => wm_t (wm_r (wm_l (wm_r (wm_r h))))) Gd_X10_isFrom
theorem gX10_drawn_X10_isFrom : GoodIn wsX10_drawn (va_wsS RX10 135 yX10_isFrom wsX10_isFrom) := goodIn_S (own := RX10) (idx := 135) (y := yX10_isFrom) (wm_t (wm_l (wm_i 6 rfl))) (wm_t (wm_l (wm_i 7 rfl))) (wm_t (wm_l (wm_i 5 rfl))) ggX10_drawn_X10_isFrom
theorem ggX10_drawn_X1_setInRooms : GoodIn wsX10_drawn wsX1_setInRooms := goodIn_s (fun _ h => wm_t (wm_r (wm_r (wm_l (wm_l h))))) Gd_X1_setInRooms
theorem gX10_drawn_X1_setInRooms : GoodIn wsX10_drawn (wsV RX10 277 RX1 yX1_setInRooms wsX1_setInRooms) := goodIn_V (own := RX10) (idx := 277) (C := RX1) (y := yX1_setInRooms) (wm_t (wm_l (wm_i 8 rfl))) (wm_t (wm_l (wm_i 9 rfl))) (wm_t (wm_l (wm_i 10 rfl))) (wm_t (wm_l (wm_i 11 rfl))) ggX10_drawn_X1_setInRooms
theorem ggX10_drawn_X5_drawLots : GoodIn wsX10_drawn wsX5_drawLots := goodIn_s (fun _ h => wm_t (wm_r (wm_r (wm_l (wm_r h))))) Gd_X5_drawLots
theorem gX10_drawn_X5_drawLots : GoodIn wsX10_drawn (wsV RX10 280 RX5 yX5_drawLots wsX5_drawLots) := goodIn_V (own := RX10) (idx := 280) (C := RX5) (y := yX5_drawLots) (wm_t (wm_l (wm_i 12 rfl))) (wm_t (wm_l (wm_i 13 rfl))) (wm_t (wm_l (wm_i 14 rfl))) (wm_t (wm_l (wm_i 15 rfl))) ggX10_drawn_X5_drawLots
theorem ggX10_drawn_X10_hasBit : GoodIn wsX10_drawn wsX10_hasBit := goodIn_s (fun _ h => wm_t (wm_r (wm_r (wm_r (wm_l h))))) Gd_X10_hasBit
theorem gX10_drawn_X10_hasBit : GoodIn wsX10_drawn (va_wsS RX10 173 yX10_hasBit wsX10_hasBit) := goodIn_S (own := RX10) (idx := 173) (y := yX10_hasBit) (wm_t (wm_l (wm_i 17 rfl))) (wm_t (wm_l (wm_i 16 rfl))) (wm_t (wm_l (wm_i 5 rfl))) ggX10_drawn_X10_hasBit
theorem ggX10_drawn_X5_howManyAhead : GoodIn wsX10_drawn wsX5_howManyAhead := goodIn_s (fun _ h => wm_t (wm_r (wm_r (wm_r (wm_r h))))) Gd_X5_howManyAhead
theorem gX10_drawn_X5_howManyAhead : GoodIn wsX10_drawn (wsV RX10 284 RX5 yX5_howManyAhead wsX5_howManyAhead) := goodIn_V (own := RX10) (idx := 284) (C := RX5) (y := yX5_howManyAhead) (wm_t (wm_l (wm_i 18 rfl))) (wm_t (wm_l (wm_i 19 rfl))) (wm_t (wm_l (wm_i 20 rfl))) (wm_t (wm_l (wm_i 15 rfl))) ggX10_drawn_X5_howManyAhead
theorem dX10_drawn_all0 : decode cX10_drawn 0 = .ok (.iload_n 1, 1) ∧ decode cX10_drawn 1 = .ok (.invokestatic 138, 3) ∧ decode cX10_drawn 4 = .ok (.ifCond .eq 13, 3) ∧ decode cX10_drawn 7 = .ok (.iload_n 2, 1) ∧ decode cX10_drawn 8 = .ok (.iconst 0, 1) ∧ decode cX10_drawn 9 = .ok (.bipush 12, 2) ∧ decode cX10_drawn 11 = .ok (.invokestatic 135, 3) ∧ decode cX10_drawn 14 = .ok (.ifCond .ne 6, 3) ∧ decode cX10_drawn 17 = .ok (.ldc 89, 2) ∧ decode cX10_drawn 19 = .ok (.ireturn, 1) ∧ decode cX10_drawn 20 = .ok (.aload_n 0, 1) ∧ decode cX10_drawn 21 = .ok (.getfield 26, 3) := by decide +kernel
theorem dX10_drawn_0 : decode cX10_drawn 0 = .ok (.iload_n 1, 1) := dX10_drawn_all0.1
theorem dX10_drawn_1 : decode cX10_drawn 1 = .ok (.invokestatic 138, 3) := dX10_drawn_all0.2.1
theorem dX10_drawn_4 : decode cX10_drawn 4 = .ok (.ifCond .eq 13, 3) := dX10_drawn_all0.2.2.1
theorem dX10_drawn_7 : decode cX10_drawn 7 = .ok (.iload_n 2, 1) := dX10_drawn_all0.2.2.2.1
theorem dX10_drawn_8 : decode cX10_drawn 8 = .ok (.iconst 0, 1) := dX10_drawn_all0.2.2.2.2.1
theorem dX10_drawn_9 : decode cX10_drawn 9 = .ok (.bipush 12, 2) := dX10_drawn_all0.2.2.2.2.2.1
theorem dX10_drawn_11 : decode cX10_drawn 11 = .ok (.invokestatic 135, 3) := dX10_drawn_all0.2.2.2.2.2.2.1
theorem dX10_drawn_14 : decode cX10_drawn 14 = .ok (.ifCond .ne 6, 3) := dX10_drawn_all0.2.2.2.2.2.2.2.1
theorem dX10_drawn_17 : decode cX10_drawn 17 = .ok (.ldc 89, 2) := dX10_drawn_all0.2.2.2.2.2.2.2.2.1
theorem dX10_drawn_19 : decode cX10_drawn 19 = .ok (.ireturn, 1) := dX10_drawn_all0.2.2.2.2.2.2.2.2.2.1
theorem dX10_drawn_20 : decode cX10_drawn 20 = .ok (.aload_n 0, 1) := dX10_drawn_all0.2.2.2.2.2.2.2.2.2.2.1
theorem dX10_drawn_21 : decode cX10_drawn 21 = .ok (.getfield 26, 3) := dX10_drawn_all0.2.2.2.2.2.2.2.2.2.2.2
theorem dX10_drawn_all1 : decode cX10_drawn 24 = .ok (.invokevirtual 277, 3) ∧ decode cX10_drawn 27 = .ok (.istore_n 3, 1) ∧ decode cX10_drawn 28 = .ok (.aload_n 0, 1) ∧ decode cX10_drawn 29 = .ok (.getfield 81, 3) ∧ decode cX10_drawn 32 = .ok (.iload_n 3, 1) ∧ decode cX10_drawn 33 = .ok (.iload_n 1, 1) ∧ decode cX10_drawn 34 = .ok (.invokevirtual 280, 3) ∧ decode cX10_drawn 37 = .ok (.iconst 0, 1) ∧ decode cX10_drawn 38 = .ok (.istore 4, 2) ∧ decode cX10_drawn 40 = .ok (.iconst 0, 1) ∧ decode cX10_drawn 41 = .ok (.istore 5, 2) ∧ decode cX10_drawn 43 = .ok (.iload 5, 2) := by decide +kernel
theorem dX10_drawn_24 : decode cX10_drawn 24 = .ok (.invokevirtual 277, 3) := dX10_drawn_all1.1
theorem dX10_drawn_27 : decode cX10_drawn 27 = .ok (.istore_n 3, 1) := dX10_drawn_all1.2.1
theorem dX10_drawn_28 : decode cX10_drawn 28 = .ok (.aload_n 0, 1) := dX10_drawn_all1.2.2.1
theorem dX10_drawn_29 : decode cX10_drawn 29 = .ok (.getfield 81, 3) := dX10_drawn_all1.2.2.2.1
theorem dX10_drawn_32 : decode cX10_drawn 32 = .ok (.iload_n 3, 1) := dX10_drawn_all1.2.2.2.2.1
theorem dX10_drawn_33 : decode cX10_drawn 33 = .ok (.iload_n 1, 1) := dX10_drawn_all1.2.2.2.2.2.1
theorem dX10_drawn_34 : decode cX10_drawn 34 = .ok (.invokevirtual 280, 3) := dX10_drawn_all1.2.2.2.2.2.2.1
theorem dX10_drawn_37 : decode cX10_drawn 37 = .ok (.iconst 0, 1) := dX10_drawn_all1.2.2.2.2.2.2.2.1
theorem dX10_drawn_38 : decode cX10_drawn 38 = .ok (.istore 4, 2) := dX10_drawn_all1.2.2.2.2.2.2.2.2.1
theorem dX10_drawn_40 : decode cX10_drawn 40 = .ok (.iconst 0, 1) := dX10_drawn_all1.2.2.2.2.2.2.2.2.2.1
theorem dX10_drawn_41 : decode cX10_drawn 41 = .ok (.istore 5, 2) := dX10_drawn_all1.2.2.2.2.2.2.2.2.2.2.1
theorem dX10_drawn_43 : decode cX10_drawn 43 = .ok (.iload 5, 2) := dX10_drawn_all1.2.2.2.2.2.2.2.2.2.2.2
theorem dX10_drawn_all2 : decode cX10_drawn 45 = .ok (.bipush 12, 2) ∧ decode cX10_drawn 47 = .ok (.if_icmp .ge 41, 3) ∧ decode cX10_drawn 50 = .ok (.iload_n 3, 1) ∧ decode cX10_drawn 51 = .ok (.iload 5, 2) ∧ decode cX10_drawn 53 = .ok (.invokestatic 173, 3) ∧ decode cX10_drawn 56 = .ok (.ifCond .eq 26, 3) ∧ decode cX10_drawn 59 = .ok (.aload_n 0, 1) ∧ decode cX10_drawn 60 = .ok (.getfield 81, 3) ∧ decode cX10_drawn 63 = .ok (.iload_n 3, 1) ∧ decode cX10_drawn 64 = .ok (.iload 5, 2) ∧ decode cX10_drawn 66 = .ok (.invokevirtual 284, 3) ∧ decode cX10_drawn 69 = .ok (.iload_n 2, 1) := by decide +kernel
theorem dX10_drawn_45 : decode cX10_drawn 45 = .ok (.bipush 12, 2) := dX10_drawn_all2.1
theorem dX10_drawn_47 : decode cX10_drawn 47 = .ok (.if_icmp .ge 41, 3) := dX10_drawn_all2.2.1
theorem dX10_drawn_50 : decode cX10_drawn 50 = .ok (.iload_n 3, 1) := dX10_drawn_all2.2.2.1
theorem dX10_drawn_51 : decode cX10_drawn 51 = .ok (.iload 5, 2) := dX10_drawn_all2.2.2.2.1
theorem dX10_drawn_53 : decode cX10_drawn 53 = .ok (.invokestatic 173, 3) := dX10_drawn_all2.2.2.2.2.1
theorem dX10_drawn_56 : decode cX10_drawn 56 = .ok (.ifCond .eq 26, 3) := dX10_drawn_all2.2.2.2.2.2.1
theorem dX10_drawn_59 : decode cX10_drawn 59 = .ok (.aload_n 0, 1) := dX10_drawn_all2.2.2.2.2.2.2.1
theorem dX10_drawn_60 : decode cX10_drawn 60 = .ok (.getfield 81, 3) := dX10_drawn_all2.2.2.2.2.2.2.2.1
theorem dX10_drawn_63 : decode cX10_drawn 63 = .ok (.iload_n 3, 1) := dX10_drawn_all2.2.2.2.2.2.2.2.2.1
theorem dX10_drawn_64 : decode cX10_drawn 64 = .ok (.iload 5, 2) := dX10_drawn_all2.2.2.2.2.2.2.2.2.2.1
theorem dX10_drawn_66 : decode cX10_drawn 66 = .ok (.invokevirtual 284, 3) := dX10_drawn_all2.2.2.2.2.2.2.2.2.2.2.1
theorem dX10_drawn_69 : decode cX10_drawn 69 = .ok (.iload_n 2, 1) := dX10_drawn_all2.2.2.2.2.2.2.2.2.2.2.2
theorem dX10_drawn_all3 : decode cX10_drawn 70 = .ok (.if_icmp .ge 12, 3) ∧ decode cX10_drawn 73 = .ok (.iload 4, 2) ∧ decode cX10_drawn 75 = .ok (.iconst 1, 1) ∧ decode cX10_drawn 76 = .ok (.iload 5, 2) ∧ decode cX10_drawn 78 = .ok (.ishl, 1) ∧ decode cX10_drawn 79 = .ok (.ior, 1) ∧ decode cX10_drawn 80 = .ok (.istore 4, 2) ∧ decode cX10_drawn 82 = .ok (.iinc 5 1, 3) ∧ decode cX10_drawn 85 = .ok (.goto (-42), 3) ∧ decode cX10_drawn 88 = .ok (.iload 4, 2) ∧ decode cX10_drawn 90 = .ok (.ireturn, 1) := by decide +kernel
theorem dX10_drawn_70 : decode cX10_drawn 70 = .ok (.if_icmp .ge 12, 3) := dX10_drawn_all3.1
theorem dX10_drawn_73 : decode cX10_drawn 73 = .ok (.iload 4, 2) := dX10_drawn_all3.2.1
theorem dX10_drawn_75 : decode cX10_drawn 75 = .ok (.iconst 1, 1) := dX10_drawn_all3.2.2.1
theorem dX10_drawn_76 : decode cX10_drawn 76 = .ok (.iload 5, 2) := dX10_drawn_all3.2.2.2.1
theorem dX10_drawn_78 : decode cX10_drawn 78 = .ok (.ishl, 1) := dX10_drawn_all3.2.2.2.2.1
theorem dX10_drawn_79 : decode cX10_drawn 79 = .ok (.ior, 1) := dX10_drawn_all3.2.2.2.2.2.1
theorem dX10_drawn_80 : decode cX10_drawn 80 = .ok (.istore 4, 2) := dX10_drawn_all3.2.2.2.2.2.2.1
theorem dX10_drawn_82 : decode cX10_drawn 82 = .ok (.iinc 5 1, 3) := dX10_drawn_all3.2.2.2.2.2.2.2.1
theorem dX10_drawn_85 : decode cX10_drawn 85 = .ok (.goto (-42), 3) := dX10_drawn_all3.2.2.2.2.2.2.2.2.1
theorem dX10_drawn_88 : decode cX10_drawn 88 = .ok (.iload 4, 2) := dX10_drawn_all3.2.2.2.2.2.2.2.2.2.1
theorem dX10_drawn_90 : decode cX10_drawn 90 = .ok (.ireturn, 1) := dX10_drawn_all3.2.2.2.2.2.2.2.2.2.2
theorem ggX10_often_X10_isCrate : GoodIn wsX10_often wsX10_isCrate := goodIn_s (fun _ h => wm_t (wm_r (wm_l (wm_r (wm_l h))))) Gd_X10_isCrate
theorem gX10_often_X10_isCrate : GoodIn wsX10_often (wsV RX10 180 RX10 yX10_isCrate wsX10_isCrate) := goodIn_V (own := RX10) (idx := 180) (C := RX10) (y := yX10_isCrate) (wm_t (wm_l (wm_i 3 rfl))) (wm_t (wm_l (wm_i 4 rfl))) (wm_t (wm_l (wm_i 5 rfl))) (wm_t (wm_l (wm_i 6 rfl))) ggX10_often_X10_isCrate
theorem ggX10_often_X10_areDays : GoodIn wsX10_often wsX10_areDays := goodIn_s (fun _ h => wm_t (wm_r (wm_l (wm_r (wm_r h))))) Gd_X10_areDays
theorem gX10_often_X10_areDays : GoodIn wsX10_often (va_wsS RX10 183 yX10_areDays wsX10_areDays) := goodIn_S (own := RX10) (idx := 183) (y := yX10_areDays) (wm_t (wm_l (wm_i 7 rfl))) (wm_t (wm_l (wm_i 8 rfl))) (wm_t (wm_l (wm_i 6 rfl))) ggX10_often_X10_areDays
theorem ggX10_often_X10_isFrom : GoodIn wsX10_often wsX10_isFrom := goodIn_s (fun _ h => wm_t (wm_r (wm_r (wm_l (wm_l (wm_l h)))))) Gd_X10_isFrom
theorem gX10_often_X10_isFrom : GoodIn wsX10_often (va_wsS RX10 135 yX10_isFrom wsX10_isFrom) := goodIn_S (own := RX10) (idx := 135) (y := yX10_isFrom) (wm_t (wm_l (wm_i 9 rfl))) (wm_t (wm_l (wm_i 10 rfl))) (wm_t (wm_l (wm_i 6 rfl))) ggX10_often_X10_isFrom
theorem ggX10_often_X1_setInRooms : GoodIn wsX10_often wsX1_setInRooms := goodIn_s (fun _ h => wm_t (wm_r (wm_r (wm_l (wm_l (wm_r h)))))) Gd_X1_setInRooms
theorem gX10_often_X1_setInRooms : GoodIn wsX10_often (wsV RX10 277 RX1 yX1_setInRooms wsX1_setInRooms) := goodIn_V (own := RX10) (idx := 277) (C := RX1) (y := yX1_setInRooms) (wm_t (wm_l (wm_i 11 rfl))) (wm_t (wm_l (wm_i 12 rfl))) (wm_t (wm_l (wm_i 13 rfl))) (wm_t (wm_l (wm_i 14 rfl))) ggX10_often_X1_setInRooms
theorem ggX10_often_X10_hasBit : GoodIn wsX10_often wsX10_hasBit := goodIn_s (fun _ h => wm_t (wm_r (wm_r (wm_l (wm_r h))))) Gd_X10_hasBit
theorem gX10_often_X10_hasBit : GoodIn wsX10_often (va_wsS RX10 173 yX10_hasBit wsX10_hasBit) := goodIn_S (own := RX10) (idx := 173) (y := yX10_hasBit) (wm_t (wm_l (wm_i 15 rfl))) (wm_t (wm_l (wm_i 16 rfl))) (wm_t (wm_l (wm_i 6 rfl))) ggX10_often_X10_hasBit
theorem ggX10_often_X5_drawLots : GoodIn wsX10_often wsX5_drawLots := goodIn_s (fun _ h => wm_t (wm_r (wm_r (wm_r (wm_l h))))) Gd_X5_drawLots
theorem gX10_often_X5_drawLots : GoodIn wsX10_often (wsV RX10 280 RX5 yX5_drawLots wsX5_drawLots) := goodIn_V (own := RX10) (idx := 280) (C := RX5) (y := yX5_drawLots) (wm_t (wm_l (wm_i 17 rfl))) (wm_t (wm_l (wm_i 18 rfl))) (wm_t (wm_l (wm_i 19 rfl))) (wm_t (wm_l (wm_i 20 rfl))) ggX10_often_X5_drawLots
theorem ggX10_often_X5_howManyAhead : GoodIn wsX10_often wsX5_howManyAhead := goodIn_s (fun _ h => wm_t (wm_r (wm_r (wm_r (wm_r h))))) Gd_X5_howManyAhead
theorem gX10_often_X5_howManyAhead : GoodIn wsX10_often (wsV RX10 284 RX5 yX5_howManyAhead wsX5_howManyAhead) := goodIn_V (own := RX10) (idx := 284) (C := RX5) (y := yX5_howManyAhead) (wm_t (wm_l (wm_i 21 rfl))) (wm_t (wm_l (wm_i 22 rfl))) (wm_t (wm_l (wm_i 23 rfl))) (wm_t (wm_l (wm_i 20 rfl))) ggX10_often_X5_howManyAhead
theorem dX10_often_all0 : decode cX10_often 0 = .ok (.aload_n 0, 1) ∧ decode cX10_often 1 = .ok (.iload_n 1, 1) ∧ decode cX10_often 2 = .ok (.invokevirtual 180, 3) ∧ decode cX10_often 5 = .ok (.ifCond .eq 31, 3) ∧ decode cX10_often 8 = .ok (.iload_n 2, 1) ∧ decode cX10_often 9 = .ok (.iload_n 3, 1) ∧ decode cX10_often 10 = .ok (.invokestatic 183, 3) ∧ decode cX10_often 13 = .ok (.ifCond .eq 23, 3) ∧ decode cX10_often 16 = .ok (.iload_n 3, 1) ∧ decode cX10_often 17 = .ok (.iload_n 2, 1) ∧ decode cX10_often 18 = .ok (.isub, 1) ∧ decode cX10_often 19 = .ok (.sipush 400, 3) := by decide +kernel
theorem dX10_often_0 : decode cX10_often 0 = .ok (.aload_n 0, 1) := dX10_often_all0.1
theorem dX10_often_1 : decode cX10_often 1 = .ok (.iload_n 1, 1) := dX10_often_all0.2.1
theorem dX10_often_2 : decode cX10_often 2 = .ok (.invokevirtual 180, 3) := dX10_often_all0.2.2.1
theorem dX10_often_5 : decode cX10_often 5 = .ok (.ifCond .eq 31, 3) := dX10_often_all0.2.2.2.1
theorem dX10_often_8 : decode cX10_often 8 = .ok (.iload_n 2, 1) := dX10_often_all0.2.2.2.2.1
theorem dX10_often_9 : decode cX10_often 9 = .ok (.iload_n 3, 1) := dX10_often_all0.2.2.2.2.2.1
theorem dX10_often_10 : decode cX10_often 10 = .ok (.invokestatic 183, 3) := dX10_often_all0.2.2.2.2.2.2.1
theorem dX10_often_13 : decode cX10_often 13 = .ok (.ifCond .eq 23, 3) := dX10_often_all0.2.2.2.2.2.2.2.1
theorem dX10_often_16 : decode cX10_often 16 = .ok (.iload_n 3, 1) := dX10_often_all0.2.2.2.2.2.2.2.2.1
theorem dX10_often_17 : decode cX10_often 17 = .ok (.iload_n 2, 1) := dX10_often_all0.2.2.2.2.2.2.2.2.2.1
theorem dX10_often_18 : decode cX10_often 18 = .ok (.isub, 1) := dX10_often_all0.2.2.2.2.2.2.2.2.2.2.1
theorem dX10_often_19 : decode cX10_often 19 = .ok (.sipush 400, 3) := dX10_often_all0.2.2.2.2.2.2.2.2.2.2.2
theorem dX10_often_all1 : decode cX10_often 22 = .ok (.if_icmp .ge 14, 3) ∧ decode cX10_often 25 = .ok (.iload 4, 2) ∧ decode cX10_often 27 = .ok (.iconst 0, 1) ∧ decode cX10_often 28 = .ok (.bipush 12, 2) ∧ decode cX10_often 30 = .ok (.invokestatic 135, 3) ∧ decode cX10_often 33 = .ok (.ifCond .ne 6, 3) ∧ decode cX10_often 36 = .ok (.ldc 89, 2) ∧ decode cX10_often 38 = .ok (.ireturn, 1) ∧ decode cX10_often 39 = .ok (.aload_n 0, 1) ∧ decode cX10_often 40 = .ok (.getfield 26, 3) ∧ decode cX10_often 43 = .ok (.invokevirtual 277, 3) ∧ decode cX10_often 46 = .ok (.istore 5, 2) := by decide +kernel
theorem dX10_often_22 : decode cX10_often 22 = .ok (.if_icmp .ge 14, 3) := dX10_often_all1.1
theorem dX10_often_25 : decode cX10_often 25 = .ok (.iload 4, 2) := dX10_often_all1.2.1
theorem dX10_often_27 : decode cX10_often 27 = .ok (.iconst 0, 1) := dX10_often_all1.2.2.1
theorem dX10_often_28 : decode cX10_often 28 = .ok (.bipush 12, 2) := dX10_often_all1.2.2.2.1
theorem dX10_often_30 : decode cX10_often 30 = .ok (.invokestatic 135, 3) := dX10_often_all1.2.2.2.2.1
theorem dX10_often_33 : decode cX10_often 33 = .ok (.ifCond .ne 6, 3) := dX10_often_all1.2.2.2.2.2.1
theorem dX10_often_36 : decode cX10_often 36 = .ok (.ldc 89, 2) := dX10_often_all1.2.2.2.2.2.2.1
theorem dX10_often_38 : decode cX10_often 38 = .ok (.ireturn, 1) := dX10_often_all1.2.2.2.2.2.2.2.1
theorem dX10_often_39 : decode cX10_often 39 = .ok (.aload_n 0, 1) := dX10_often_all1.2.2.2.2.2.2.2.2.1
theorem dX10_often_40 : decode cX10_often 40 = .ok (.getfield 26, 3) := dX10_often_all1.2.2.2.2.2.2.2.2.2.1
theorem dX10_often_43 : decode cX10_often 43 = .ok (.invokevirtual 277, 3) := dX10_often_all1.2.2.2.2.2.2.2.2.2.2.1
theorem dX10_often_46 : decode cX10_often 46 = .ok (.istore 5, 2) := dX10_often_all1.2.2.2.2.2.2.2.2.2.2.2
theorem dX10_often_all2 : decode cX10_often 48 = .ok (.iload 5, 2) ∧ decode cX10_often 50 = .ok (.iload_n 1, 1) ∧ decode cX10_often 51 = .ok (.invokestatic 173, 3) ∧ decode cX10_often 54 = .ok (.ifCond .ne 5, 3) ∧ decode cX10_often 57 = .ok (.iconst 0, 1) ∧ decode cX10_often 58 = .ok (.ireturn, 1) ∧ decode cX10_often 59 = .ok (.iconst 0, 1) ∧ decode cX10_often 60 = .ok (.istore 6, 2) ∧ decode cX10_often 62 = .ok (.iload_n 2, 1) ∧ decode cX10_often 63 = .ok (.istore 7, 2) ∧ decode cX10_often 65 = .ok (.iload 7, 2) ∧ decode cX10_often 67 = .ok (.iload_n 3, 1) := by decide +kernel
theorem dX10_often_48 : decode cX10_often 48 = .ok (.iload 5, 2) := dX10_often_all2.1
theorem dX10_often_50 : decode cX10_often 50 = .ok (.iload_n 1, 1) := dX10_often_all2.2.1
theorem dX10_often_51 : decode cX10_often 51 = .ok (.invokestatic 173, 3) := dX10_often_all2.2.2.1
theorem dX10_often_54 : decode cX10_often 54 = .ok (.ifCond .ne 5, 3) := dX10_often_all2.2.2.2.1
theorem dX10_often_57 : decode cX10_often 57 = .ok (.iconst 0, 1) := dX10_often_all2.2.2.2.2.1
theorem dX10_often_58 : decode cX10_often 58 = .ok (.ireturn, 1) := dX10_often_all2.2.2.2.2.2.1
theorem dX10_often_59 : decode cX10_often 59 = .ok (.iconst 0, 1) := dX10_often_all2.2.2.2.2.2.2.1
theorem dX10_often_60 : decode cX10_often 60 = .ok (.istore 6, 2) := dX10_often_all2.2.2.2.2.2.2.2.1
theorem dX10_often_62 : decode cX10_often 62 = .ok (.iload_n 2, 1) := dX10_often_all2.2.2.2.2.2.2.2.2.1
theorem dX10_often_63 : decode cX10_often 63 = .ok (.istore 7, 2) := dX10_often_all2.2.2.2.2.2.2.2.2.2.1
theorem dX10_often_65 : decode cX10_often 65 = .ok (.iload 7, 2) := dX10_often_all2.2.2.2.2.2.2.2.2.2.2.1
theorem dX10_often_67 : decode cX10_often 67 = .ok (.iload_n 3, 1) := dX10_often_all2.2.2.2.2.2.2.2.2.2.2.2
theorem dX10_often_all3 : decode cX10_often 68 = .ok (.if_icmp .gt 38, 3) ∧ decode cX10_often 71 = .ok (.aload_n 0, 1) ∧ decode cX10_often 72 = .ok (.getfield 81, 3) ∧ decode cX10_often 75 = .ok (.iload 5, 2) ∧ decode cX10_often 77 = .ok (.iload 7, 2) ∧ decode cX10_often 79 = .ok (.invokevirtual 280, 3) ∧ decode cX10_often 82 = .ok (.aload_n 0, 1) ∧ decode cX10_often 83 = .ok (.getfield 81, 3) ∧ decode cX10_often 86 = .ok (.iload 5, 2) ∧ decode cX10_often 88 = .ok (.iload_n 1, 1) ∧ decode cX10_often 89 = .ok (.invokevirtual 284, 3) ∧ decode cX10_often 92 = .ok (.iload 4, 2) := by decide +kernel
theorem dX10_often_68 : decode cX10_often 68 = .ok (.if_icmp .gt 38, 3) := dX10_often_all3.1
theorem dX10_often_71 : decode cX10_often 71 = .ok (.aload_n 0, 1) := dX10_often_all3.2.1
theorem dX10_often_72 : decode cX10_often 72 = .ok (.getfield 81, 3) := dX10_often_all3.2.2.1
theorem dX10_often_75 : decode cX10_often 75 = .ok (.iload 5, 2) := dX10_often_all3.2.2.2.1
theorem dX10_often_77 : decode cX10_often 77 = .ok (.iload 7, 2) := dX10_often_all3.2.2.2.2.1
theorem dX10_often_79 : decode cX10_often 79 = .ok (.invokevirtual 280, 3) := dX10_often_all3.2.2.2.2.2.1
theorem dX10_often_82 : decode cX10_often 82 = .ok (.aload_n 0, 1) := dX10_often_all3.2.2.2.2.2.2.1
theorem dX10_often_83 : decode cX10_often 83 = .ok (.getfield 81, 3) := dX10_often_all3.2.2.2.2.2.2.2.1
theorem dX10_often_86 : decode cX10_often 86 = .ok (.iload 5, 2) := dX10_often_all3.2.2.2.2.2.2.2.2.1
theorem dX10_often_88 : decode cX10_often 88 = .ok (.iload_n 1, 1) := dX10_often_all3.2.2.2.2.2.2.2.2.2.1
theorem dX10_often_89 : decode cX10_often 89 = .ok (.invokevirtual 284, 3) := dX10_often_all3.2.2.2.2.2.2.2.2.2.2.1
theorem dX10_often_92 : decode cX10_often 92 = .ok (.iload 4, 2) := dX10_often_all3.2.2.2.2.2.2.2.2.2.2.2
theorem dX10_often_all4 : decode cX10_often 94 = .ok (.if_icmp .ge 6, 3) ∧ decode cX10_often 97 = .ok (.iinc 6 1, 3) ∧ decode cX10_often 100 = .ok (.iinc 7 1, 3) ∧ decode cX10_often 103 = .ok (.goto (-38), 3) ∧ decode cX10_often 106 = .ok (.iload 6, 2) ∧ decode cX10_often 108 = .ok (.ireturn, 1) := by decide +kernel
theorem dX10_often_94 : decode cX10_often 94 = .ok (.if_icmp .ge 6, 3) := dX10_often_all4.1
theorem dX10_often_97 : decode cX10_often 97 = .ok (.iinc 6 1, 3) := dX10_often_all4.2.1
theorem dX10_often_100 : decode cX10_often 100 = .ok (.iinc 7 1, 3) := dX10_often_all4.2.2.1
theorem dX10_often_103 : decode cX10_often 103 = .ok (.goto (-38), 3) := dX10_often_all4.2.2.2.1
theorem dX10_often_106 : decode cX10_often 106 = .ok (.iload 6, 2) := dX10_often_all4.2.2.2.2.1
theorem dX10_often_108 : decode cX10_often 108 = .ok (.ireturn, 1) := dX10_often_all4.2.2.2.2.2
/-- the number drawn for a crate on a day -/
def an_lot (sd a d : Int32) : Int64 :=
  let z0 : Int64 := sd.toInt64 + a.toInt64 * 1000003 + d.toInt64 * 8191
  let z1 : Int64 := z0 * (-7046029254386353131)
  let z2 : Int64 := z1 ^^^ (z1.toUInt64 >>> ((29 : Int32).toInt64.toUInt64 &&& Int64.toUInt64 63)).toInt64
  let z3 : Int64 := z2 * (-4658895280553007687)
  let z4 : Int64 := z3 ^^^ (z3.toUInt64 >>> ((32 : Int32).toInt64.toUInt64 &&& Int64.toUInt64 63)).toInt64
  z4 &&& 9223372036854775807
def an_lotn (sd a d n : Int32) : Int32 := if 0 ≤ a.toInt ∧ a.toInt < 12 ∧ 0 ≤ d.toInt ∧ d.toInt < 10000 ∧ 1 ≤ n.toInt ∧ n.toInt ≤ 1000000 then (an_lot sd a d - an_lot sd a d / n.toInt64 * n.toInt64).toInt32 else -1000001

set_option maxHeartbeats 4000000 in
set_option maxRecDepth 100000 in
theorem ct_X5_lotOf (l : Launch) (D : va_G) (cI cY cJ cQ : ClassId) (sz : Nat) (ad : Nat → Nat) (sd : Int32) (a : Int32) (d : Int32)   : Met l yX5_lotOf wsX5_lotOf ({ frames := 0, cells := 0, slots := 0, locals := 0 }) (cPre D (ty4 cI cY cJ cQ) [(oC5 ad sd)] sz [.ref (ad 8), .int a, .int d]) (va_Ql (fun (r : Int64) (u : Unit) => r = an_lot sd a d) (cB D (ty4 cI cY cJ cQ) (fun (u : Unit) => [(oC5 ad sd)]) (va_A [(oC5 ad sd)] sz)) (va_A [(oC5 ad sd)] sz)) 0 0 (va_A [(oC5 ad sd)] sz) := by
  refine Met.ofW (cc := cX5_lotOf) (maxL := 5) (ret := (some .long)) (by decide) rfl ?_
  intro p e s m args below meth c s₁ B hml hv
  obtain ⟨rfl, hsz, hP, hK, hD0, hN⟩ := hv
  have hx := B.exec
  have hb := B.bytes
  have hr := B.returns
  have hts := atoms_spec (ws := wsX5_lotOf) B.pre
  have hown : s.vm.findClass RX5 = some m.cls := findClass_of_methodNamed B.named
  have hlocks := B.notSynchronized
  subst hsz
  have hD := hD0.self (sz := s.heap.size)
  generalize hAe : va_A [(oC5 ad sd)] s.heap.size = A at hD ⊢
  have hA : ∀ q : Nat, s.heap.size ≤ q → A q := fun q h => by rw [← hAe]; exact Or.inr h
  have hS : va_S A s.heap s.heap [] := va_S.rf
  have hP : va_P D vwCl [(oC5 ad sd)] s.heap := hP
  have hl := lv_entry ([.ref (ad 8), .int a, .int d]) (n := 5) (Nat.le_of_ble_eq_true rfl)
  rw [lg_entry_eq]
  generalize (lg_sl ([.ref (ad 8), .int a, .int d]) ++ List.replicate (5 - (lg_sl ([.ref (ad 8), .int a, .int d])).length) Slot.unset).toArray = ls at hl ⊢
  have hl : lv_has ls 5 [(0, .ref (ad 8)), (1, .int a), (2, .int d)] := hl
  refine lv_aload_n hx hb dX5_lotOf_0 rfl (lv_at hl 0 rfl) ?_
  refine va_get (D := D) (ci := 5) (v := .int sd) (C := RX5) (T := TX5) (N := 2) hx hb hts inX5_lotOf_X5 hown hK hP 0 rfl rfl 0 (by decide) (hts (Cond.fieldLink RX5 15 "PortRooms$Looks" "seed" "I") (wm_t (wm_l (wm_i 0 rfl)))) (fun _ h9 => h9) rfl dX5_lotOf_1 ?_
  refine lv_i2l hx hb dX5_lotOf_4 rfl ?_
  refine lv_iload_n hx hb dX5_lotOf_5 rfl (lv_at hl 1 rfl) ?_
  refine lv_i2l hx hb dX5_lotOf_6 rfl ?_
  refine lv_ldc2 hx hb hown (hts (Cond.constantLong RX5 19 (1000003)) (wm_t (wm_l (wm_i 1 rfl)))) dX5_lotOf_7 ?_
  refine lv_lmul hx hb dX5_lotOf_10 ?_
  refine lv_topl (fun z1 ez1 => ?_)
  refine lv_ladd hx hb dX5_lotOf_11 ?_
  refine lv_topl (fun z2 ez2 => ?_)
  refine lv_iload_n hx hb dX5_lotOf_12 rfl (lv_at hl 2 rfl) ?_
  refine lv_i2l hx hb dX5_lotOf_13 rfl ?_
  refine lv_ldc2 hx hb hown (hts (Cond.constantLong RX5 21 (8191)) (wm_t (wm_l (wm_i 2 rfl)))) dX5_lotOf_14 ?_
  refine lv_lmul hx hb dX5_lotOf_17 ?_
  refine lv_topl (fun z3 ez3 => ?_)
  refine lv_ladd hx hb dX5_lotOf_18 ?_
  refine lv_topl (fun z4 ez4 => ?_)
  refine lv_lstore_n (lv' := [(3, .long z4), (0, .ref (ad 8)), (1, .int a), (2, .int d)]) hx hb dX5_lotOf_19 rfl hl (by decide) rfl (fun ls hl => ?_)
  refine lv_lload_n hx hb dX5_lotOf_20 rfl (lv_at hl 0 rfl) ?_
  refine lv_ldc2 hx hb hown (hts (Cond.constantLong RX5 23 (-7046029254386353131)) (wm_t (wm_l (wm_i 3 rfl)))) dX5_lotOf_21 ?_
  refine lv_lmul hx hb dX5_lotOf_24 ?_
  refine lv_topl (fun z5 ez5 => ?_)
  refine lv_lstore_n (lv' := [(3, .long z5), (0, .ref (ad 8)), (1, .int a), (2, .int d)]) hx hb dX5_lotOf_25 rfl hl (by decide) rfl (fun ls hl => ?_)
  refine lv_lload_n hx hb dX5_lotOf_26 rfl (lv_at hl 0 rfl) ?_
  refine lv_lload_n hx hb dX5_lotOf_27 rfl (lv_at hl 0 rfl) ?_
  refine lv_bipush (v := 29) hx hb dX5_lotOf_28 (by decide) ?_
  refine lv_lushr hx hb dX5_lotOf_30 rfl ?_
  refine lv_topl (fun z6 ez6 => ?_)
  refine lv_lxor hx hb dX5_lotOf_31 ?_
  refine lv_topl (fun z7 ez7 => ?_)
  refine lv_lstore_n (lv' := [(3, .long z7), (0, .ref (ad 8)), (1, .int a), (2, .int d)]) hx hb dX5_lotOf_32 rfl hl (by decide) rfl (fun ls hl => ?_)
  refine lv_lload_n hx hb dX5_lotOf_33 rfl (lv_at hl 0 rfl) ?_
  refine lv_ldc2 hx hb hown (hts (Cond.constantLong RX5 25 (-4658895280553007687)) (wm_t (wm_l (wm_i 4 rfl)))) dX5_lotOf_34 ?_
  refine lv_lmul hx hb dX5_lotOf_37 ?_
  refine lv_topl (fun z8 ez8 => ?_)
  refine lv_lstore_n (lv' := [(3, .long z8), (0, .ref (ad 8)), (1, .int a), (2, .int d)]) hx hb dX5_lotOf_38 rfl hl (by decide) rfl (fun ls hl => ?_)
  refine lv_lload_n hx hb dX5_lotOf_39 rfl (lv_at hl 0 rfl) ?_
  refine lv_lload_n hx hb dX5_lotOf_40 rfl (lv_at hl 0 rfl) ?_
  refine lv_bipush (v := 32) hx hb dX5_lotOf_41 (by decide) ?_
  refine lv_lushr hx hb dX5_lotOf_43 rfl ?_
  refine lv_topl (fun z9 ez9 => ?_)
  refine lv_lxor hx hb dX5_lotOf_44 ?_
  refine lv_topl (fun z10 ez10 => ?_)
  refine lv_lstore_n (lv' := [(3, .long z10), (0, .ref (ad 8)), (1, .int a), (2, .int d)]) hx hb dX5_lotOf_45 rfl hl (by decide) rfl (fun ls hl => ?_)
  refine lv_lload_n hx hb dX5_lotOf_46 rfl (lv_at hl 0 rfl) ?_
  refine lv_ldc2 hx hb hown (hts (Cond.constantLong RX5 27 (9223372036854775807)) (wm_t (wm_l (wm_i 5 rfl)))) dX5_lotOf_47 ?_
  refine lv_land hx hb dX5_lotOf_50 ?_
  refine lv_topl (fun z11 ez11 => ?_)
  have hP9 := hP
  have hD9 := hD
  exact W.lret (v := z11) hx hb hr (fun t ht hW => ⟨⟨z11, (), rfl, (by subst_vars; rfl), by rw [ht]; exact hP9, va_K.moved hW.alike hK, hD9⟩, hS.F ht⟩) hS.2.2 dX5_lotOf_51

set_option maxHeartbeats 4000000 in
set_option maxRecDepth 100000 in
theorem ct_X10_lot (l : Launch) (D : va_G) (cI cY cJ cQ : ClassId) (sz : Nat) (ad : Nat → Nat) (sd : Int32) (tn td lf : Int32) (a : Int32) (d : Int32) (n : Int32)   : Met l yX10_lot wsX10_lot ({ frames := 2, cells := 0, slots := 0, locals := 41 }) (cPre D (ty4 cI cY cJ cQ) [(oC10 ad tn td lf), (oC5 ad sd)] sz [.ref (ad 0), .int a, .int d, .int n]) (va_Qi (fun (r : Int32) (u : Unit) => r = an_lotn sd a d n) (cB D (ty4 cI cY cJ cQ) (fun (u : Unit) => [(oC10 ad tn td lf), (oC5 ad sd)]) (va_A [(oC10 ad tn td lf), (oC5 ad sd)] sz)) (va_A [(oC10 ad tn td lf), (oC5 ad sd)] sz)) 0 0 (va_A [(oC10 ad tn td lf), (oC5 ad sd)] sz) := by
  refine Met.ofW (cc := cX10_lot) (maxL := 4) (ret := (some .int)) (by decide) rfl ?_
  intro p e s m args below meth c s₁ B hml hv
  obtain ⟨rfl, hsz, hP, hK, hD0, hN⟩ := hv
  have hx := B.exec
  have hb := B.bytes
  have hr := B.returns
  have hts := atoms_spec (ws := wsX10_lot) B.pre
  have hown : s.vm.findClass RX10 = some m.cls := findClass_of_methodNamed B.named
  have hlocks := B.notSynchronized
  subst hsz
  have hD := hD0.self (sz := s.heap.size)
  generalize hAe : va_A [(oC10 ad tn td lf), (oC5 ad sd)] s.heap.size = A at hD ⊢
  have hA : ∀ q : Nat, s.heap.size ≤ q → A q := fun q h => by rw [← hAe]; exact Or.inr h
  have hS : va_S A s.heap s.heap [] := va_S.rf
  have hP : va_P D vwCl [(oC10 ad tn td lf), (oC5 ad sd)] s.heap := hP
  have hl := lv_entry ([.ref (ad 0), .int a, .int d, .int n]) (n := 4) (Nat.le_of_ble_eq_true rfl)
  rw [lg_entry_eq]
  generalize (lg_sl ([.ref (ad 0), .int a, .int d, .int n]) ++ List.replicate (4 - (lg_sl ([.ref (ad 0), .int a, .int d, .int n])).length) Slot.unset).toArray = ls at hl ⊢
  have hl : lv_has ls 4 [(0, .ref (ad 0)), (1, .int a), (2, .int d), (3, .int n)] := hl
  have k0 : (0 : Int32).toInt = 0 := by decide
  have k1 : (1 : Int32).toInt = 1 := by decide
  have k12 : (12 : Int32).toInt = 12 := by decide
  have k1000000 : (1000000 : Int32).toInt = 1000000 := by decide
  refine lv_iload_n hx hb dX10_lot_0 rfl (lv_at hl 1 rfl) ?_
  refine lv_bipush (v := 12) hx hb dX10_lot_1 (by decide) ?_
  refine st_i1 (va_runS (As := [.int a, .int 12]) (rest := []) ⟨hx, hb, hml, hown, hts⟩ (ct_X10_isBelow l D cI cY cJ cQ _ a (12 : Int32)) (va_cwS 2 hts gX10_lot_X10_isBelow rfl rfl rfl cdX10_isBelow ⟨Nat.le_of_ble_eq_true rfl, Nat.le_of_ble_eq_true rfl⟩) (cPreS (hP.sub [] rfl) hK (hD.sub [] (by decide +kernel) rfl) hN) rfl rfl hl.1 rfl (lv_room (Nat.le_of_ble_eq_true rfl)) dX10_lot_3 ⟨Nat.le_of_ble_eq_true rfl, Nat.le_of_ble_eq_true rfl⟩) hP hD hS hA [] rfl (fun _ => rfl) (fun r3 u1 H locs hw2 => ?_)
  clear hP hS
  intro hP hS
  replace hw2 : r3 = if 0 ≤ a.toInt ∧ a.toInt < (12 : Int32).toInt then 1 else 0 := hw2
  refine lv_if_eq (tgt := 26) hx hb dX10_lot_6 (by decide) (fun c4 => ?_) (fun c4 => ?_)
  · skip
    have f5 := bo_f hw2 c4
    refine lv_ldc hx hb hown (hts (Cond.constant RX10 89 (-1000001)) (wm_t (wm_l (wm_i 1 rfl)))) dX10_lot_26 ?_
    have hP9 := hP
    have hD9 := hD
    exact W.iret (v := (-1000001)) hx hb hr (fun t ht hW => ⟨⟨(-1000001), (), rfl, (by unfold an_lotn; rw [if_neg (by omega)]), by rw [ht]; exact hP9, va_K.moved hW.alike hK, hD9⟩, hS.F ht⟩) hS.2.2 dX10_lot_28
  · skip
    have f6 := bo_t hw2 c4
    refine lv_iload_n hx hb dX10_lot_9 rfl (lv_at hl 2 rfl) ?_
    refine st_i1 (va_runS (As := [.int d]) (rest := []) ⟨hx, hb, hml, hown, hts⟩ (ct_X10_isDay l D cI cY cJ cQ _ d) (va_cwS 1 hts gX10_lot_X10_isDay rfl rfl rfl cdX10_isDay ⟨Nat.le_of_ble_eq_true rfl, Nat.le_of_ble_eq_true rfl⟩) (cPreS (hP.sub [] rfl) hK (hD.sub [] (by decide +kernel) rfl) hN) rfl rfl hl.1 rfl (lv_room (Nat.le_of_ble_eq_true rfl)) dX10_lot_10 ⟨Nat.le_of_ble_eq_true rfl, Nat.le_of_ble_eq_true rfl⟩) hP hD hS hA [] rfl (fun _ => rfl) (fun r9 u7 H locs hw8 => ?_)
    clear hP hS
    intro hP hS
    replace hw8 : r9 = if 0 ≤ d.toInt ∧ d.toInt < 10000 then 1 else 0 := hw8
    refine lv_if_eq (tgt := 26) hx hb dX10_lot_13 (by decide) (fun c10 => ?_) (fun c10 => ?_)
    · skip
      have f11 := bo_f hw8 c10
      refine lv_ldc hx hb hown (hts (Cond.constant RX10 89 (-1000001)) (wm_t (wm_l (wm_i 1 rfl)))) dX10_lot_26 ?_
      have hP9 := hP
      have hD9 := hD
      exact W.iret (v := (-1000001)) hx hb hr (fun t ht hW => ⟨⟨(-1000001), (), rfl, (by unfold an_lotn; rw [if_neg (by omega)]), by rw [ht]; exact hP9, va_K.moved hW.alike hK, hD9⟩, hS.F ht⟩) hS.2.2 dX10_lot_28
    · skip
      have f12 := bo_t hw8 c10
      refine lv_iload_n hx hb dX10_lot_16 rfl (lv_at hl 3 rfl) ?_
      refine lv_iconst (v := 1) hx hb dX10_lot_17 (by decide) ?_
      refine lv_ldc hx hb hown (hts (Cond.constant RX10 248 (1000000)) (wm_t (wm_l (wm_i 0 rfl)))) dX10_lot_18 ?_
      refine st_i1 (va_runS (As := [.int n, .int 1, .int 1000000]) (rest := []) ⟨hx, hb, hml, hown, hts⟩ (ct_X10_isFrom l D cI cY cJ cQ _ n (1 : Int32) (1000000 : Int32)) (va_cwS 3 hts gX10_lot_X10_isFrom rfl rfl rfl cdX10_isFrom ⟨Nat.le_of_ble_eq_true rfl, Nat.le_of_ble_eq_true rfl⟩) (cPreS (hP.sub [] rfl) hK (hD.sub [] (by decide +kernel) rfl) hN) rfl rfl hl.1 rfl (lv_room (Nat.le_of_ble_eq_true rfl)) dX10_lot_20 ⟨Nat.le_of_ble_eq_true rfl, Nat.le_of_ble_eq_true rfl⟩) hP hD hS hA [] rfl (fun _ => rfl) (fun r15 u13 H locs hw14 => ?_)
      clear hP hS
      intro hP hS
      replace hw14 : r15 = if (1 : Int32).toInt ≤ n.toInt ∧ n.toInt ≤ (1000000 : Int32).toInt then 1 else 0 := hw14
      refine lv_if_ne (tgt := 29) hx hb dX10_lot_23 (by decide) (fun c16 => ?_) (fun c16 => ?_)
      · skip
        have f17 := bo_t hw14 c16
        refine lv_aload_n hx hb dX10_lot_29 rfl (lv_at hl 0 rfl) ?_
        refine va_get (D := D) (ci := 10) (v := .ref (ad 8)) (C := RX10) (T := TX10) (N := 14) hx hb hts inX10_lot_X10 hown hK hP 0 rfl rfl 7 (by decide) (hts (Cond.fieldLink RX10 81 "PortRooms" "looks" "LPortRooms$Looks;") (wm_t (wm_l (wm_i 2 rfl)))) (fun _ h9 => h9) rfl dX10_lot_30 ?_
        refine lv_iload_n hx hb dX10_lot_33 rfl (lv_at hl 1 rfl) ?_
        refine lv_iload_n hx hb dX10_lot_34 rfl (lv_at hl 2 rfl) ?_
        refine st_l1 (va_runV (C := RX5) (As := [.int a, .int d]) (rest := []) ⟨hx, hb, hml, hown, hts⟩ (ct_X5_lotOf l D cI cY cJ cQ _ ad sd a d) (cwV 2 hts gX10_lot_X5_lotOf rfl rfl rfl ⟨rfl, cdX5_lotOf⟩ ⟨Nat.le_of_ble_eq_true rfl, Nat.le_of_ble_eq_true rfl⟩) (cPreV (hP.sub [1] rfl) hK (hD.sub [1] (by decide +kernel) rfl) hN (ci := 5) (q0 := 0) rfl rfl) rfl rfl hl.1 rfl (lv_room (Nat.le_of_ble_eq_true rfl)) dX10_lot_35 ⟨Nat.le_of_ble_eq_true rfl, Nat.le_of_ble_eq_true rfl⟩) hP hD hS hA [1] rfl (fun _ => rfl) (fun r20 u18 H locs hw19 => ?_)
        clear hP hS
        intro hP hS
        replace hw19 : r20 = an_lot sd a d := hw19
        refine lv_iload_n hx hb dX10_lot_38 rfl (lv_at hl 3 rfl) ?_
        refine lv_i2l hx hb dX10_lot_39 rfl ?_
        refine lv_lrem hx hb dX10_lot_40 (fun h => by have := congrArg Int64.toInt h; rw [i_w] at this; have h0 : (0 : Int64).toInt = 0 := rfl; omega) ?_
        refine lv_topl (fun z21 ez21 => ?_)
        refine lv_l2i hx hb dX10_lot_41 rfl ?_
        refine lv_topi (fun v22 ev22 => ?_)
        have hP9 := hP
        have hD9 := hD
        exact W.iret (v := v22) hx hb hr (fun t ht hW => ⟨⟨v22, (), rfl, (by unfold an_lotn; rw [if_pos (by omega)]; subst_vars; rfl), by rw [ht]; exact hP9, va_K.moved hW.alike hK, hD9⟩, hS.F ht⟩) hS.2.2 dX10_lot_42
      · skip
        have f23 := bo_f hw14 c16
        refine lv_ldc hx hb hown (hts (Cond.constant RX10 89 (-1000001)) (wm_t (wm_l (wm_i 1 rfl)))) dX10_lot_26 ?_
        have hP9 := hP
        have hD9 := hD
        exact W.iret (v := (-1000001)) hx hb hr (fun t ht hW => ⟨⟨(-1000001), (), rfl, (by unfold an_lotn; rw [if_neg (by omega)]), by rw [ht]; exact hP9, va_K.moved hW.alike hK, hD9⟩, hS.F ht⟩) hS.2.2 dX10_lot_28


/-- the lots of a day -/
def lotF (sd d : Int32) : Nat → Int64 := fun c => an_lot sd (nI c) d
theorem lotF_e (sd d : Int32) (c : Nat) : lotF sd d c = an_lot sd (nI c) d := rfl
/-- how many crates of a set stand ahead of one -/
def hmV (lo : Nat → Int64) (a k : Int32) : Nat → Int32
  | 0 => 0
  | n + 1 => if hbP a (nI n) ∧ ((lo n).toInt < (lo k.toNatClampNeg).toInt ∨ ((lo n).toInt = (lo k.toNatClampNeg).toInt ∧ (n : Int) < k.toInt)) then hmV lo a k n + 1 else hmV lo a k n
theorem hmV_s (lo : Nat → Int64) (a k : Int32) (n : Nat) : hmV lo a k (n + 1) = if hbP a (nI n) ∧ ((lo n).toInt < (lo k.toNatClampNeg).toInt ∨ ((lo n).toInt = (lo k.toNatClampNeg).toInt ∧ (n : Int) < k.toInt)) then hmV lo a k n + 1 else hmV lo a k n := rfl
theorem hm_cong {lo : Nat → Int64} {sd d a k : Int32} (h : ∀ c : Nat, c < 12 → hbP a (nI c) → lo c = an_lot sd (nI c) d) (hk : hbP a k) (k0 : 0 ≤ k.toInt) (k1 : k.toInt < 12) (n : Nat) (hn : n ≤ 12) : hmV lo a k n = hmV (lotF sd d) a k n := by
  have ck := i_cl k0
  have ek : lo k.toNatClampNeg = lotF sd d k.toNatClampNeg := by rw [lotF_e]; exact h _ (by omega) (by rw [i_nI k0]; exact hk)
  induction n with
  | zero =>
    show (0 : Int32) = 0
    rfl
  | succ n ih =>
    rw [hmV_s, hmV_s, ih (by omega), ek]
    by_cases hb : hbP a (nI n)
    · have en : lo n = lotF sd d n := by rw [lotF_e]; exact h n (by omega) hb
      rw [en]
    · rw [if_neg (fun z => hb z.1), if_neg (fun z => hb z.1)]
/-- the crates drawn -/
def drV (lo : Nat → Int64) (a m : Int32) : Nat → Int32
  | 0 => 0
  | n + 1 => if hbP a (nI n) ∧ (hmV lo a (nI n) 12).toInt < m.toInt then drV lo a m n ||| ((1 : Int32) <<< (nI n &&& 31)) else drV lo a m n
theorem drV_s (lo : Nat → Int64) (a m : Int32) (n : Nat) : drV lo a m (n + 1) = if hbP a (nI n) ∧ (hmV lo a (nI n) 12).toInt < m.toInt then drV lo a m n ||| ((1 : Int32) <<< (nI n &&& 31)) else drV lo a m n := rfl
def sp_drawn (sd cn : Int32) (ro : Nat → Int32) (d n : Int32) : Int32 := if 0 ≤ d.toInt ∧ d.toInt < 10000 ∧ 0 ≤ n.toInt ∧ n.toInt ≤ 12 then drV (lotF sd d) (stV cn ro) n 12 else -1000001
/-- on how many days a crate is drawn -/
def ofV (sd a k n : Int32) (A : Nat) : Nat → Int32
  | 0 => 0
  | j + 1 => if (hmV (lotF sd (nI (A + j))) a k 12).toInt < n.toInt then ofV sd a k n A j + 1 else ofV sd a k n A j
theorem ofV_s (sd a k n : Int32) (A j : Nat) : ofV sd a k n A (j + 1) = if (hmV (lotF sd (nI (A + j))) a k 12).toInt < n.toInt then ofV sd a k n A j + 1 else ofV sd a k n A j := rfl
def sp_often (sd cn : Int32) (ro : Nat → Int32) (k a b n : Int32) : Int32 := if 0 ≤ k.toInt ∧ k.toInt < cn.toInt ∧ 0 ≤ a.toInt ∧ b.toInt < 10000 ∧ a.toInt ≤ b.toInt ∧ b.toInt - a.toInt < 400 ∧ 0 ≤ n.toInt ∧ n.toInt ≤ 12 then (if hbP (stV cn ro) k then ofV sd (stV cn ro) k n a.toNatClampNeg (b.toNatClampNeg - a.toNatClampNeg + 1) else 0) else -1000001

set_option maxHeartbeats 4000000 in
set_option maxRecDepth 100000 in
theorem ct_X5_drawLots (l : Launch) (D : va_G) (cI cY cJ cQ : ClassId) (sz : Nat) (ad : Nat → Nat) (sd : Int32) (lo : Nat → Int64) (a : Int32) (d : Int32)   : Met l yX5_drawLots wsX5_drawLots ({ frames := 1, cells := 0, slots := 0, locals := 24 }) (cPre D (ty4 cI cY cJ cQ) [(oC5 ad sd), (aJ cJ (ad 58) 12 lo)] sz [.ref (ad 8), .int a, .int d]) (va_Qv (fun (u : (Nat → Int64)) => ∀ c : Nat, c < 12 → hbP a (nI c) → u c = an_lot sd (nI c) d) (cB D (ty4 cI cY cJ cQ) (fun (u : (Nat → Int64)) => [(oC5 ad sd), (aJ cJ (ad 58) 12 u)]) (va_A [(oC5 ad sd), (aJ cJ (ad 58) 12 lo)] sz)) (va_A [(oC5 ad sd), (aJ cJ (ad 58) 12 lo)] sz)) 0 0 (va_A [(oC5 ad sd), (aJ cJ (ad 58) 12 lo)] sz) := by
  refine Met.ofW (cc := cX5_drawLots) (maxL := 4) (ret := none) (by decide) rfl ?_
  intro p e s m args below meth c s₁ B hml hv
  obtain ⟨rfl, hsz, hP, hK, hD0, hN⟩ := hv
  have hx := B.exec
  have hb := B.bytes
  have hr := B.returns
  have hts := atoms_spec (ws := wsX5_drawLots) B.pre
  have hown : s.vm.findClass RX5 = some m.cls := findClass_of_methodNamed B.named
  have hlocks := B.notSynchronized
  subst hsz
  have hD := hD0.self (sz := s.heap.size)
  generalize hAe : va_A [(oC5 ad sd), (aJ cJ (ad 58) 12 lo)] s.heap.size = A at hD ⊢
  have hA : ∀ q : Nat, s.heap.size ≤ q → A q := fun q h => by rw [← hAe]; exact Or.inr h
  have hS : va_S A s.heap s.heap [] := va_S.rf
  have hP : va_P D vwCl [(oC5 ad sd), (aJ cJ (ad 58) 12 lo)] s.heap := hP
  have hl := lv_entry ([.ref (ad 8), .int a, .int d]) (n := 4) (Nat.le_of_ble_eq_true rfl)
  rw [lg_entry_eq]
  generalize (lg_sl ([.ref (ad 8), .int a, .int d]) ++ List.replicate (4 - (lg_sl ([.ref (ad 8), .int a, .int d])).length) Slot.unset).toArray = ls at hl ⊢
  have hl : lv_has ls 4 [(0, .ref (ad 8)), (1, .int a), (2, .int d)] := hl
  have k0 : (0 : Int32).toInt = 0 := by decide
  have k1 : (1 : Int32).toInt = 1 := by decide
  have k12 : (12 : Int32).toInt = 12 := by decide
  refine lv_iconst (v := 0) hx hb dX5_drawLots_0 (by decide) ?_
  refine lv_istore_n (lv' := [(3, .int 0), (0, .ref (ad 8)), (1, .int a), (2, .int d)]) hx hb dX5_drawLots_1 rfl hl (by decide) rfl (fun ls hl => ?_)
  refine st_loop 2 (fun _ => []) (fun (z : Int32 × (Nat → Int64)) (ls : Array Slot) (H : Heap) (locs : List Loc) => match z with | (q2_3, loq) => (0 ≤ q2_3.toInt) ∧ (q2_3.toInt ≤ 12) ∧ (∀ c : Nat, (c : Int) < q2_3.toInt → hbP a (nI c) → loq c = an_lot sd (nI c) d) ∧ lv_has ls 4 [(0, .ref (ad 8)), (1, .int a), (2, .int d), (3, .int q2_3)] ∧ va_P D vwCl [(oC5 ad sd), (aJ cJ (ad 58) 12 loq)] H ∧ va_D A [(oC5 ad sd), (aJ cJ (ad 58) 12 loq)] ∧ va_S A s.heap H locs) (fun (z : Int32 × (Nat → Int64)) => match z with | (q2_3, loq) => 12 - q2_3.toInt) ?_ ?_ ((0 : Int32), lo) ⟨(by omega), (by omega), (by intro c hc; exfalso; omega), lv_sub hl [1, 2, 3, 0] rfl, hP, hD, hS⟩
  · rintro ⟨q2_3, loq⟩ ls H locs ⟨g1, g2, g3, hl, hP, hD, hS⟩
    show (0 : Int) ≤ 12 - q2_3.toInt
    omega
  · rintro n6 ih4 ⟨q2_3, loq⟩ ls H locs ⟨g1, g2, g3, hl, hP, hD, hS⟩ hm5
    have hm5 : 12 - q2_3.toInt < (n6 : Int) + 1 := hm5
    replace hl : lv_has ls 4 [(0, .ref (ad 8)), (1, .int a), (2, .int d), (3, .int q2_3)] := hl
    replace hP : va_P D vwCl [(oC5 ad sd), (aJ cJ (ad 58) 12 loq)] H := hP
    replace hD : va_D A [(oC5 ad sd), (aJ cJ (ad 58) 12 loq)] := hD
    show W _ _ _ _ _ _ _ _ _ _ _ _ _ _ _ (F0 m 2 ls [])
    refine lv_iload_n hx hb dX5_drawLots_2 rfl (lv_at hl 3 rfl) ?_
    refine lv_bipush (v := 12) hx hb dX5_drawLots_3 (by decide) ?_
    refine lv_icmp_ge (tgt := 34) hx hb dX5_drawLots_5 (by decide) (fun c7 => ?_) (fun c7 => ?_)
    · skip
      have f8 := i_le c7
      have hP9 := hP
      have hD9 := hD
      exact W.vret hx hb hr (fun t ht hW => ⟨⟨loq, rfl, (fun c hc hb => g3 c (by omega) hb), by rw [ht]; exact hP9, va_K.moved hW.alike hK, hD9⟩, hS.F ht⟩) hS.2.2 dX5_drawLots_34
    · skip
      have f9 := i_nle c7
      refine lv_iload_n hx hb dX5_drawLots_8 rfl (lv_at hl 1 rfl) ?_
      refine lv_iload_n hx hb dX5_drawLots_9 rfl (lv_at hl 3 rfl) ?_
      refine st_i1 (va_runSN (As := [.int a, .int q2_3]) (rest := []) ⟨hx, hb, hml, hown, hts⟩ (ct_X10_hasBit l D cI cY cJ cQ _ a q2_3) ⟨va_cnB 2 hts gX5_drawLots_X10_hasBit_n29 rfl rfl rfl (hN.1 (RX5, 29, yX10_hasBit, "PortRooms") (by decide +kernel)) (hts (Cond.initialized RX10) (wm_t (wm_l (wm_i 2 rfl)))) cdX10_hasBit ⟨Nat.le_of_ble_eq_true rfl, Nat.le_of_ble_eq_true rfl⟩, (hts (Cond.static yX10_hasBit) (wm_t (wm_l (wm_i 1 rfl)))), trivial⟩ (cPreS (hP.sub [] rfl) hK (hD.sub [] (by decide +kernel) rfl) hN) rfl rfl hl.1 rfl (lv_room (Nat.le_of_ble_eq_true rfl)) dX5_drawLots_10 ⟨Nat.le_of_ble_eq_true rfl, Nat.le_of_ble_eq_true rfl⟩) hP hD hS hA [] rfl (fun _ => rfl) (fun r12 u10 H locs hw11 => ?_)
      clear hP hS
      intro hP hS
      replace hw11 : r12 = if hbP a q2_3 then 1 else 0 := hw11
      refine lv_if_eq (tgt := 28) hx hb dX5_drawLots_13 (by decide) (fun c13 => ?_) (fun c13 => ?_)
      · skip
        have f14 := bo_f hw11 c13
        obtain ⟨v15, ev15⟩ : ∃ y : Int32, y = q2_3 + 1 := ⟨_, rfl⟩
        try have tv15 : v15.toInt = q2_3.toInt + 1 := by rw [ev15]; exact (i_add (x := q2_3) (y := (1 : Int32)) (by rw [k1]; omega) (by rw [k1]; omega)).trans (by rw [k1])
        refine lv_iinc (v := v15) (lv' := [(3, .int v15), (0, .ref (ad 8)), (1, .int a), (2, .int d)]) hx hb dX5_drawLots_28 hl (k := 3) rfl (by rw [ev15]; rfl) (by decide) rfl (fun ls hl => ?_)
        refine lv_goto (tgt := 2) hx hb dX5_drawLots_31 (by decide) ?_
        exact ih4 (v15, loq) ls H locs ⟨(by omega), (by omega), (by exact fun c hc hb => if e9 : c = q2_3.toNatClampNeg then (by rw [e9, i_nI (by omega)] at hb; exact absurd hb f14) else g3 c (by have := i_cl (x := q2_3) (by omega); omega) hb), lv_sub hl [1, 2, 3, 0] rfl, hP.sub [0, 1] rfl, hD.sub [0, 1] (by decide +kernel) rfl, hS⟩ (by show 12 - v15.toInt < _; omega)
      · skip
        have f16 := bo_t hw11 c13
        refine lv_aload_n hx hb dX5_drawLots_16 rfl (lv_at hl 0 rfl) ?_
        refine va_get (D := D) (ci := 5) (v := .ref (ad 58)) (C := RX5) (T := TX5) (N := 2) hx hb hts inX5_drawLots_X5 hown hK hP 0 rfl rfl 1 (by decide) (hts (Cond.fieldLink RX5 9 "PortRooms$Looks" "lots" "[J") (wm_t (wm_l (wm_i 0 rfl)))) (fun _ h9 => h9) rfl dX5_drawLots_17 ?_
        refine lv_iload_n hx hb dX5_drawLots_20 rfl (lv_at hl 3 rfl) ?_
        refine lv_aload_n hx hb dX5_drawLots_21 rfl (lv_at hl 0 rfl) ?_
        refine lv_iload_n hx hb dX5_drawLots_22 rfl (lv_at hl 3 rfl) ?_
        refine lv_iload_n hx hb dX5_drawLots_23 rfl (lv_at hl 2 rfl) ?_
        refine st_l1 (va_runV (C := RX5) (As := [.int q2_3, .int d]) (rest := [.int q2_3, .ref (ad 58)]) ⟨hx, hb, hml, hown, hts⟩ (ct_X5_lotOf l D cI cY cJ cQ _ ad sd q2_3 d) (cwV 2 hts gX5_drawLots_X5_lotOf rfl rfl rfl ⟨rfl, cdX5_lotOf⟩ ⟨Nat.le_of_ble_eq_true rfl, Nat.le_of_ble_eq_true rfl⟩) (cPreV (hP.sub [0] rfl) hK (hD.sub [0] (by decide +kernel) rfl) hN (ci := 5) (q0 := 0) rfl rfl) rfl rfl hl.1 rfl (lv_room (Nat.le_of_ble_eq_true rfl)) dX5_drawLots_24 ⟨Nat.le_of_ble_eq_true rfl, Nat.le_of_ble_eq_true rfl⟩) hP hD hS hA [0] rfl (fun _ => rfl) (fun r19 u17 H locs hw18 => ?_)
        clear hP hS
        intro hP hS
        replace hw18 : r19 = an_lot sd q2_3 d := hw18
        refine va_last hx hb hK hP hD hS 1 2 rfl rfl (i_in (by omega) (by omega)) dX5_drawLots_27 (fun H locs => ?_)
        clear hP hD hS
        intro hP hD hS
        replace hP : va_P D vwCl [(oC5 ad sd), (aJ cJ (ad 58) 12 (vp_updL loq q2_3.toNatClampNeg r19))] H := hP
        replace hD : va_D A [(oC5 ad sd), (aJ cJ (ad 58) 12 (vp_updL loq q2_3.toNatClampNeg r19))] := hD
        obtain ⟨v20, ev20⟩ : ∃ y : Int32, y = q2_3 + 1 := ⟨_, rfl⟩
        try have tv20 : v20.toInt = q2_3.toInt + 1 := by rw [ev20]; exact (i_add (x := q2_3) (y := (1 : Int32)) (by rw [k1]; omega) (by rw [k1]; omega)).trans (by rw [k1])
        refine lv_iinc (v := v20) (lv' := [(3, .int v20), (0, .ref (ad 8)), (1, .int a), (2, .int d)]) hx hb dX5_drawLots_28 hl (k := 3) rfl (by rw [ev20]; rfl) (by decide) rfl (fun ls hl => ?_)
        refine lv_goto (tgt := 2) hx hb dX5_drawLots_31 (by decide) ?_
        exact ih4 (v20, vp_updL loq q2_3.toNatClampNeg r19) ls H locs ⟨(by omega), (by omega), (by exact fun c hc hb => if e9 : c = q2_3.toNatClampNeg then (by rw [e9, pk_uLs, i_nI (by omega)]; exact hw18) else (by rw [pk_uLn e9]; exact g3 c (by have := i_cl (x := q2_3) (by omega); omega) hb)), lv_sub hl [1, 2, 3, 0] rfl, hP.sub [0, 1] rfl, hD.sub [0, 1] (by decide +kernel) rfl, hS⟩ (by show 12 - v20.toInt < _; omega)

set_option maxHeartbeats 4000000 in
set_option maxRecDepth 100000 in
theorem ct_X5_howManyAhead (l : Launch) (D : va_G) (cI cY cJ cQ : ClassId) (sz : Nat) (ad : Nat → Nat) (sd : Int32) (lo : Nat → Int64) (a : Int32) (k : Int32)  (h1 : 0 ≤ k.toInt) (h2 : k.toInt < 12)  : Met l yX5_howManyAhead wsX5_howManyAhead ({ frames := 1, cells := 0, slots := 0, locals := 21 }) (cPre D (ty4 cI cY cJ cQ) [(oC5 ad sd), (aJ cJ (ad 58) 12 lo)] sz [.ref (ad 8), .int a, .int k]) (va_Qi (fun (r : Int32) (u : Unit) => r = hmV lo a k 12) (cB D (ty4 cI cY cJ cQ) (fun (u : Unit) => [(oC5 ad sd), (aJ cJ (ad 58) 12 lo)]) (va_A [(oC5 ad sd), (aJ cJ (ad 58) 12 lo)] sz)) (va_A [(oC5 ad sd), (aJ cJ (ad 58) 12 lo)] sz)) 0 0 (va_A [(oC5 ad sd), (aJ cJ (ad 58) 12 lo)] sz) := by
  refine Met.ofW (cc := cX5_howManyAhead) (maxL := 5) (ret := (some .int)) (by decide) rfl ?_
  intro p e s m args below meth c s₁ B hml hv
  obtain ⟨rfl, hsz, hP, hK, hD0, hN⟩ := hv
  have hx := B.exec
  have hb := B.bytes
  have hr := B.returns
  have hts := atoms_spec (ws := wsX5_howManyAhead) B.pre
  have hown : s.vm.findClass RX5 = some m.cls := findClass_of_methodNamed B.named
  have hlocks := B.notSynchronized
  subst hsz
  have hD := hD0.self (sz := s.heap.size)
  generalize hAe : va_A [(oC5 ad sd), (aJ cJ (ad 58) 12 lo)] s.heap.size = A at hD ⊢
  have hA : ∀ q : Nat, s.heap.size ≤ q → A q := fun q h => by rw [← hAe]; exact Or.inr h
  have hS : va_S A s.heap s.heap [] := va_S.rf
  have hP : va_P D vwCl [(oC5 ad sd), (aJ cJ (ad 58) 12 lo)] s.heap := hP
  have hl := lv_entry ([.ref (ad 8), .int a, .int k]) (n := 5) (Nat.le_of_ble_eq_true rfl)
  rw [lg_entry_eq]
  generalize (lg_sl ([.ref (ad 8), .int a, .int k]) ++ List.replicate (5 - (lg_sl ([.ref (ad 8), .int a, .int k])).length) Slot.unset).toArray = ls at hl ⊢
  have hl : lv_has ls 5 [(0, .ref (ad 8)), (1, .int a), (2, .int k)] := hl
  have k0 : (0 : Int32).toInt = 0 := by decide
  have k1 : (1 : Int32).toInt = 1 := by decide
  have k12 : (12 : Int32).toInt = 12 := by decide
  refine lv_iconst (v := 0) hx hb dX5_howManyAhead_0 (by decide) ?_
  refine lv_istore_n (lv' := [(3, .int 0), (0, .ref (ad 8)), (1, .int a), (2, .int k)]) hx hb dX5_howManyAhead_1 rfl hl (by decide) rfl (fun ls hl => ?_)
  refine lv_iconst (v := 0) hx hb dX5_howManyAhead_2 (by decide) ?_
  refine lv_istore (lv' := [(4, .int 0), (3, .int 0), (0, .ref (ad 8)), (1, .int a), (2, .int k)]) hx hb dX5_howManyAhead_3 hl (by decide) rfl (fun ls hl => ?_)
  refine st_loop 5 (fun _ => []) (fun (z : Int32 × Int32) (ls : Array Slot) (H : Heap) (locs : List Loc) => match z with | (q5_3, q5_4) => (0 ≤ q5_4.toInt) ∧ (q5_4.toInt ≤ 12) ∧ (0 ≤ q5_3.toInt) ∧ (q5_3.toInt ≤ q5_4.toInt) ∧ (q5_3 = hmV lo a k q5_4.toNatClampNeg) ∧ lv_has ls 5 [(0, .ref (ad 8)), (1, .int a), (2, .int k), (3, .int q5_3), (4, .int q5_4)] ∧ va_P D vwCl [(oC5 ad sd), (aJ cJ (ad 58) 12 lo)] H ∧ va_D A [(oC5 ad sd), (aJ cJ (ad 58) 12 lo)] ∧ va_S A s.heap H locs) (fun (z : Int32 × Int32) => match z with | (q5_3, q5_4) => 12 - q5_4.toInt) ?_ ?_ ((0 : Int32), (0 : Int32)) ⟨(by omega), (by omega), (by omega), (by omega), (by rfl), lv_sub hl [2, 3, 4, 1, 0] rfl, hP, hD, hS⟩
  · rintro ⟨q5_3, q5_4⟩ ls H locs ⟨g1, g2, g3, g4, g5, hl, hP, hD, hS⟩
    show (0 : Int) ≤ 12 - q5_4.toInt
    omega
  · rintro n8 ih6 ⟨q5_3, q5_4⟩ ls H locs ⟨g1, g2, g3, g4, g5, hl, hP, hD, hS⟩ hm7
    have hm7 : 12 - q5_4.toInt < (n8 : Int) + 1 := hm7
    replace hl : lv_has ls 5 [(0, .ref (ad 8)), (1, .int a), (2, .int k), (3, .int q5_3), (4, .int q5_4)] := hl
    replace hP : va_P D vwCl [(oC5 ad sd), (aJ cJ (ad 58) 12 lo)] H := hP
    replace hD : va_D A [(oC5 ad sd), (aJ cJ (ad 58) 12 lo)] := hD
    show W _ _ _ _ _ _ _ _ _ _ _ _ _ _ _ (F0 m 5 ls [])
    refine lv_iload hx hb dX5_howManyAhead_5 (lv_at hl 4 rfl) ?_
    refine lv_bipush (v := 12) hx hb dX5_howManyAhead_7 (by decide) ?_
    refine lv_icmp_ge (tgt := 70) hx hb dX5_howManyAhead_9 (by decide) (fun c9 => ?_) (fun c9 => ?_)
    · skip
      have f10 := i_le c9
      refine lv_iload_n hx hb dX5_howManyAhead_70 rfl (lv_at hl 3 rfl) ?_
      have ce9 := i_cl (x := q5_4) (by omega)
      have ee9 : q5_4.toNatClampNeg = 12 := by omega
      have hz9 := g5
      rw [ee9] at hz9
      have hP9 := hP
      have hD9 := hD
      exact W.iret (v := q5_3) hx hb hr (fun t ht hW => ⟨⟨q5_3, (), rfl, hz9, by rw [ht]; exact hP9, va_K.moved hW.alike hK, hD9⟩, hS.F ht⟩) hS.2.2 dX5_howManyAhead_71
    · skip
      have f11 := i_nle c9
      refine lv_iload_n hx hb dX5_howManyAhead_12 rfl (lv_at hl 1 rfl) ?_
      refine lv_iload hx hb dX5_howManyAhead_13 (lv_at hl 4 rfl) ?_
      refine st_i1 (va_runSN (As := [.int a, .int q5_4]) (rest := []) ⟨hx, hb, hml, hown, hts⟩ (ct_X10_hasBit l D cI cY cJ cQ _ a q5_4) ⟨va_cnB 2 hts gX5_howManyAhead_X10_hasBit_n29 rfl rfl rfl (hN.1 (RX5, 29, yX10_hasBit, "PortRooms") (by decide +kernel)) (hts (Cond.initialized RX10) (wm_t (wm_l (wm_i 2 rfl)))) cdX10_hasBit ⟨Nat.le_of_ble_eq_true rfl, Nat.le_of_ble_eq_true rfl⟩, (hts (Cond.static yX10_hasBit) (wm_t (wm_l (wm_i 1 rfl)))), trivial⟩ (cPreS (hP.sub [] rfl) hK (hD.sub [] (by decide +kernel) rfl) hN) rfl rfl hl.1 rfl (lv_room (Nat.le_of_ble_eq_true rfl)) dX5_howManyAhead_15 ⟨Nat.le_of_ble_eq_true rfl, Nat.le_of_ble_eq_true rfl⟩) hP hD hS hA [] rfl (fun _ => rfl) (fun r14 u12 H locs hw13 => ?_)
      clear hP hS
      intro hP hS
      replace hw13 : r14 = if hbP a q5_4 then 1 else 0 := hw13
      refine lv_if_eq (tgt := 64) hx hb dX5_howManyAhead_18 (by decide) (fun c15 => ?_) (fun c15 => ?_)
      · skip
        have f16 := bo_f hw13 c15
        obtain ⟨v17, ev17⟩ : ∃ y : Int32, y = q5_4 + 1 := ⟨_, rfl⟩
        try have tv17 : v17.toInt = q5_4.toInt + 1 := by rw [ev17]; exact (i_add (x := q5_4) (y := (1 : Int32)) (by rw [k1]; omega) (by rw [k1]; omega)).trans (by rw [k1])
        refine lv_iinc (v := v17) (lv' := [(4, .int v17), (0, .ref (ad 8)), (1, .int a), (2, .int k), (3, .int q5_3)]) hx hb dX5_howManyAhead_64 hl (k := 4) rfl (by rw [ev17]; rfl) (by decide) rfl (fun ls hl => ?_)
        refine lv_goto (tgt := 5) hx hb dX5_howManyAhead_67 (by decide) ?_
        have clk8 := i_cl (x := q5_4) (by omega)
        have clk9 := i_cl (x := v17) (by omega)
        have ek9 : v17.toNatClampNeg = q5_4.toNatClampNeg + 1 := by omega
        have nk9 : nI q5_4.toNatClampNeg = q5_4 := i_nI (by omega)
        exact ih6 (q5_3, v17) ls H locs ⟨(by omega), (by omega), (by omega), (by omega), (by rw [ek9, hmV_s, nk9, ← g5]; first | (rw [if_pos ⟨by assumption, by omega⟩]; assumption) | (rw [if_neg (fun z9 => by have z8 := z9.1; contradiction)]) | (rw [if_neg (fun z9 => by have z8 := z9.2; omega)])), lv_sub hl [1, 2, 3, 4, 0] rfl, hP.sub [0, 1] rfl, hD.sub [0, 1] (by decide +kernel) rfl, hS⟩ (by show 12 - v17.toInt < _; omega)
      · skip
        have f18 := bo_t hw13 c15
        refine lv_aload_n hx hb dX5_howManyAhead_21 rfl (lv_at hl 0 rfl) ?_
        refine va_get (D := D) (ci := 5) (v := .ref (ad 58)) (C := RX5) (T := TX5) (N := 2) hx hb hts inX5_howManyAhead_X5 hown hK hP 0 rfl rfl 1 (by decide) (hts (Cond.fieldLink RX5 9 "PortRooms$Looks" "lots" "[J") (wm_t (wm_l (wm_i 0 rfl)))) (fun _ h9 => h9) rfl dX5_howManyAhead_22 ?_
        refine lv_iload hx hb dX5_howManyAhead_25 (lv_at hl 4 rfl) ?_
        refine va_lald hx hb hK hP 1 2 rfl rfl (i_in (by omega) (by omega)) dX5_howManyAhead_27 ?_
        refine lv_topl (fun z19 ez19 => ?_)
        have tlz19 : z19.toInt = (lo q5_4.toNatClampNeg).toInt := by rw [ez19]
        refine lv_aload_n hx hb dX5_howManyAhead_28 rfl (lv_at hl 0 rfl) ?_
        refine va_get (D := D) (ci := 5) (v := .ref (ad 58)) (C := RX5) (T := TX5) (N := 2) hx hb hts inX5_howManyAhead_X5 hown hK hP 0 rfl rfl 1 (by decide) (hts (Cond.fieldLink RX5 9 "PortRooms$Looks" "lots" "[J") (wm_t (wm_l (wm_i 0 rfl)))) (fun _ h9 => h9) rfl dX5_howManyAhead_29 ?_
        refine lv_iload_n hx hb dX5_howManyAhead_32 rfl (lv_at hl 2 rfl) ?_
        refine va_lald hx hb hK hP 1 2 rfl rfl (i_in (by omega) (by omega)) dX5_howManyAhead_33 ?_
        refine lv_topl (fun z20 ez20 => ?_)
        have tlz20 : z20.toInt = (lo k.toNatClampNeg).toInt := by rw [ez20]
        refine W.lcmp hx hb dX5_howManyAhead_34 ?_
        refine lv_topi (fun v21 ev21 => ?_)
        refine lv_if_lt (tgt := 61) hx hb dX5_howManyAhead_35 (by decide) (fun c22 => ?_) (fun c22 => ?_)
        · skip
          have f23 := lc_lt ev21 c22
          obtain ⟨v24, ev24⟩ : ∃ y : Int32, y = q5_3 + 1 := ⟨_, rfl⟩
          try have tv24 : v24.toInt = q5_3.toInt + 1 := by rw [ev24]; exact (i_add (x := q5_3) (y := (1 : Int32)) (by rw [k1]; omega) (by rw [k1]; omega)).trans (by rw [k1])
          refine lv_iinc (v := v24) (lv' := [(3, .int v24), (0, .ref (ad 8)), (1, .int a), (2, .int k), (4, .int q5_4)]) hx hb dX5_howManyAhead_61 hl (k := 3) rfl (by rw [ev24]; rfl) (by decide) rfl (fun ls hl => ?_)
          obtain ⟨v25, ev25⟩ : ∃ y : Int32, y = q5_4 + 1 := ⟨_, rfl⟩
          try have tv25 : v25.toInt = q5_4.toInt + 1 := by rw [ev25]; exact (i_add (x := q5_4) (y := (1 : Int32)) (by rw [k1]; omega) (by rw [k1]; omega)).trans (by rw [k1])
          refine lv_iinc (v := v25) (lv' := [(4, .int v25), (3, .int v24), (0, .ref (ad 8)), (1, .int a), (2, .int k)]) hx hb dX5_howManyAhead_64 hl (k := 4) rfl (by rw [ev25]; rfl) (by decide) rfl (fun ls hl => ?_)
          refine lv_goto (tgt := 5) hx hb dX5_howManyAhead_67 (by decide) ?_
          have clk8 := i_cl (x := q5_4) (by omega)
          have clk9 := i_cl (x := v25) (by omega)
          have ek9 : v25.toNatClampNeg = q5_4.toNatClampNeg + 1 := by omega
          have nk9 : nI q5_4.toNatClampNeg = q5_4 := i_nI (by omega)
          exact ih6 (v24, v25) ls H locs ⟨(by omega), (by omega), (by omega), (by omega), (by rw [ek9, hmV_s, nk9, ← g5]; first | (rw [if_pos ⟨by assumption, by omega⟩]; assumption) | (rw [if_neg (fun z9 => by have z8 := z9.1; contradiction)]) | (rw [if_neg (fun z9 => by have z8 := z9.2; omega)])), lv_sub hl [2, 3, 4, 1, 0] rfl, hP.sub [0, 1] rfl, hD.sub [0, 1] (by decide +kernel) rfl, hS⟩ (by show 12 - v25.toInt < _; omega)
        · skip
          have f26 := lc_ltN ev21 c22
          refine lv_aload_n hx hb dX5_howManyAhead_38 rfl (lv_at hl 0 rfl) ?_
          refine va_get (D := D) (ci := 5) (v := .ref (ad 58)) (C := RX5) (T := TX5) (N := 2) hx hb hts inX5_howManyAhead_X5 hown hK hP 0 rfl rfl 1 (by decide) (hts (Cond.fieldLink RX5 9 "PortRooms$Looks" "lots" "[J") (wm_t (wm_l (wm_i 0 rfl)))) (fun _ h9 => h9) rfl dX5_howManyAhead_39 ?_
          refine lv_iload hx hb dX5_howManyAhead_42 (lv_at hl 4 rfl) ?_
          refine va_lald hx hb hK hP 1 2 rfl rfl (i_in (by omega) (by omega)) dX5_howManyAhead_44 ?_
          refine lv_topl (fun z27 ez27 => ?_)
          have tlz27 : z27.toInt = (lo q5_4.toNatClampNeg).toInt := by rw [ez27]
          refine lv_aload_n hx hb dX5_howManyAhead_45 rfl (lv_at hl 0 rfl) ?_
          refine va_get (D := D) (ci := 5) (v := .ref (ad 58)) (C := RX5) (T := TX5) (N := 2) hx hb hts inX5_howManyAhead_X5 hown hK hP 0 rfl rfl 1 (by decide) (hts (Cond.fieldLink RX5 9 "PortRooms$Looks" "lots" "[J") (wm_t (wm_l (wm_i 0 rfl)))) (fun _ h9 => h9) rfl dX5_howManyAhead_46 ?_
          refine lv_iload_n hx hb dX5_howManyAhead_49 rfl (lv_at hl 2 rfl) ?_
          refine va_lald hx hb hK hP 1 2 rfl rfl (i_in (by omega) (by omega)) dX5_howManyAhead_50 ?_
          refine lv_topl (fun z28 ez28 => ?_)
          have tlz28 : z28.toInt = (lo k.toNatClampNeg).toInt := by rw [ez28]
          refine W.lcmp hx hb dX5_howManyAhead_51 ?_
          refine lv_topi (fun v29 ev29 => ?_)
          refine lv_if_ne (tgt := 64) hx hb dX5_howManyAhead_52 (by decide) (fun c30 => ?_) (fun c30 => ?_)
          · skip
            have f31 := lc_ne ev29 c30
            obtain ⟨v32, ev32⟩ : ∃ y : Int32, y = q5_4 + 1 := ⟨_, rfl⟩
            try have tv32 : v32.toInt = q5_4.toInt + 1 := by rw [ev32]; exact (i_add (x := q5_4) (y := (1 : Int32)) (by rw [k1]; omega) (by rw [k1]; omega)).trans (by rw [k1])
            refine lv_iinc (v := v32) (lv' := [(4, .int v32), (0, .ref (ad 8)), (1, .int a), (2, .int k), (3, .int q5_3)]) hx hb dX5_howManyAhead_64 hl (k := 4) rfl (by rw [ev32]; rfl) (by decide) rfl (fun ls hl => ?_)
            refine lv_goto (tgt := 5) hx hb dX5_howManyAhead_67 (by decide) ?_
            have clk8 := i_cl (x := q5_4) (by omega)
            have clk9 := i_cl (x := v32) (by omega)
            have ek9 : v32.toNatClampNeg = q5_4.toNatClampNeg + 1 := by omega
            have nk9 : nI q5_4.toNatClampNeg = q5_4 := i_nI (by omega)
            exact ih6 (q5_3, v32) ls H locs ⟨(by omega), (by omega), (by omega), (by omega), (by rw [ek9, hmV_s, nk9, ← g5]; first | (rw [if_pos ⟨by assumption, by omega⟩]; assumption) | (rw [if_neg (fun z9 => by have z8 := z9.1; contradiction)]) | (rw [if_neg (fun z9 => by have z8 := z9.2; omega)])), lv_sub hl [1, 2, 3, 4, 0] rfl, hP.sub [0, 1] rfl, hD.sub [0, 1] (by decide +kernel) rfl, hS⟩ (by show 12 - v32.toInt < _; omega)
          · skip
            have f33 := lc_eq ev29 c30
            refine lv_iload hx hb dX5_howManyAhead_55 (lv_at hl 4 rfl) ?_
            refine lv_iload_n hx hb dX5_howManyAhead_57 rfl (lv_at hl 2 rfl) ?_
            refine lv_icmp_ge (tgt := 64) hx hb dX5_howManyAhead_58 (by decide) (fun c34 => ?_) (fun c34 => ?_)
            · skip
              have f35 := i_le c34
              obtain ⟨v36, ev36⟩ : ∃ y : Int32, y = q5_4 + 1 := ⟨_, rfl⟩
              try have tv36 : v36.toInt = q5_4.toInt + 1 := by rw [ev36]; exact (i_add (x := q5_4) (y := (1 : Int32)) (by rw [k1]; omega) (by rw [k1]; omega)).trans (by rw [k1])
              refine lv_iinc (v := v36) (lv' := [(4, .int v36), (0, .ref (ad 8)), (1, .int a), (2, .int k), (3, .int q5_3)]) hx hb dX5_howManyAhead_64 hl (k := 4) rfl (by rw [ev36]; rfl) (by decide) rfl (fun ls hl => ?_)
              refine lv_goto (tgt := 5) hx hb dX5_howManyAhead_67 (by decide) ?_
              have clk8 := i_cl (x := q5_4) (by omega)
              have clk9 := i_cl (x := v36) (by omega)
              have ek9 : v36.toNatClampNeg = q5_4.toNatClampNeg + 1 := by omega
              have nk9 : nI q5_4.toNatClampNeg = q5_4 := i_nI (by omega)
              exact ih6 (q5_3, v36) ls H locs ⟨(by omega), (by omega), (by omega), (by omega), (by rw [ek9, hmV_s, nk9, ← g5]; first | (rw [if_pos ⟨by assumption, by omega⟩]; assumption) | (rw [if_neg (fun z9 => by have z8 := z9.1; contradiction)]) | (rw [if_neg (fun z9 => by have z8 := z9.2; omega)])), lv_sub hl [1, 2, 3, 4, 0] rfl, hP.sub [0, 1] rfl, hD.sub [0, 1] (by decide +kernel) rfl, hS⟩ (by show 12 - v36.toInt < _; omega)
            · skip
              have f37 := i_nle c34
              obtain ⟨v38, ev38⟩ : ∃ y : Int32, y = q5_3 + 1 := ⟨_, rfl⟩
              try have tv38 : v38.toInt = q5_3.toInt + 1 := by rw [ev38]; exact (i_add (x := q5_3) (y := (1 : Int32)) (by rw [k1]; omega) (by rw [k1]; omega)).trans (by rw [k1])
              refine lv_iinc (v := v38) (lv' := [(3, .int v38), (0, .ref (ad 8)), (1, .int a), (2, .int k), (4, .int q5_4)]) hx hb dX5_howManyAhead_61 hl (k := 3) rfl (by rw [ev38]; rfl) (by decide) rfl (fun ls hl => ?_)
              obtain ⟨v39, ev39⟩ : ∃ y : Int32, y = q5_4 + 1 := ⟨_, rfl⟩
              try have tv39 : v39.toInt = q5_4.toInt + 1 := by rw [ev39]; exact (i_add (x := q5_4) (y := (1 : Int32)) (by rw [k1]; omega) (by rw [k1]; omega)).trans (by rw [k1])
              refine lv_iinc (v := v39) (lv' := [(4, .int v39), (3, .int v38), (0, .ref (ad 8)), (1, .int a), (2, .int k)]) hx hb dX5_howManyAhead_64 hl (k := 4) rfl (by rw [ev39]; rfl) (by decide) rfl (fun ls hl => ?_)
              refine lv_goto (tgt := 5) hx hb dX5_howManyAhead_67 (by decide) ?_
              have clk8 := i_cl (x := q5_4) (by omega)
              have clk9 := i_cl (x := v39) (by omega)
              have ek9 : v39.toNatClampNeg = q5_4.toNatClampNeg + 1 := by omega
              have nk9 : nI q5_4.toNatClampNeg = q5_4 := i_nI (by omega)
              exact ih6 (v38, v39) ls H locs ⟨(by omega), (by omega), (by omega), (by omega), (by rw [ek9, hmV_s, nk9, ← g5]; first | (rw [if_pos ⟨by assumption, by omega⟩]; assumption) | (rw [if_neg (fun z9 => by have z8 := z9.1; contradiction)]) | (rw [if_neg (fun z9 => by have z8 := z9.2; omega)])), lv_sub hl [2, 3, 4, 1, 0] rfl, hP.sub [0, 1] rfl, hD.sub [0, 1] (by decide +kernel) rfl, hS⟩ (by show 12 - v39.toInt < _; omega)

set_option maxHeartbeats 4000000 in
set_option maxRecDepth 100000 in
theorem ct_X10_drawn (l : Launch) (D : va_G) (cI cY cJ cQ : ClassId) (sz : Nat) (ad : Nat → Nat) (sd : Int32) (tn td lf cn : Int32) (ro : Nat → Int32) (lo : Nat → Int64) (d : Int32) (n : Int32)  (h1 : 0 ≤ cn.toInt) (h2 : cn.toInt ≤ 12)  : Met l yX10_drawn wsX10_drawn ({ frames := 2, cells := 0, slots := 0, locals := 47 }) (cPre D (ty4 cI cY cJ cQ) [(oC10 ad tn td lf), (oC1 ad cn), (aI cI (ad 33) 12 ro), (oC5 ad sd), (aJ cJ (ad 58) 12 lo)] sz [.ref (ad 0), .int d, .int n]) (va_Qi (fun (r : Int32) (u : (Nat → Int64)) => r = sp_drawn sd cn ro d n) (cB D (ty4 cI cY cJ cQ) (fun (u : (Nat → Int64)) => [(oC10 ad tn td lf), (oC1 ad cn), (aI cI (ad 33) 12 ro), (oC5 ad sd), (aJ cJ (ad 58) 12 u)]) (va_A [(oC10 ad tn td lf), (oC1 ad cn), (aI cI (ad 33) 12 ro), (oC5 ad sd), (aJ cJ (ad 58) 12 lo)] sz)) (va_A [(oC10 ad tn td lf), (oC1 ad cn), (aI cI (ad 33) 12 ro), (oC5 ad sd), (aJ cJ (ad 58) 12 lo)] sz)) 0 0 (va_A [(oC10 ad tn td lf), (oC1 ad cn), (aI cI (ad 33) 12 ro), (oC5 ad sd), (aJ cJ (ad 58) 12 lo)] sz) := by
  refine Met.ofW (cc := cX10_drawn) (maxL := 6) (ret := (some .int)) (by decide) rfl ?_
  intro p e s m args below meth c s₁ B hml hv
  obtain ⟨rfl, hsz, hP, hK, hD0, hN⟩ := hv
  have hx := B.exec
  have hb := B.bytes
  have hr := B.returns
  have hts := atoms_spec (ws := wsX10_drawn) B.pre
  have hown : s.vm.findClass RX10 = some m.cls := findClass_of_methodNamed B.named
  have hlocks := B.notSynchronized
  subst hsz
  have hD := hD0.self (sz := s.heap.size)
  generalize hAe : va_A [(oC10 ad tn td lf), (oC1 ad cn), (aI cI (ad 33) 12 ro), (oC5 ad sd), (aJ cJ (ad 58) 12 lo)] s.heap.size = A at hD ⊢
  have hA : ∀ q : Nat, s.heap.size ≤ q → A q := fun q h => by rw [← hAe]; exact Or.inr h
  have hS : va_S A s.heap s.heap [] := va_S.rf
  have hP : va_P D vwCl [(oC10 ad tn td lf), (oC1 ad cn), (aI cI (ad 33) 12 ro), (oC5 ad sd), (aJ cJ (ad 58) 12 lo)] s.heap := hP
  have hl := lv_entry ([.ref (ad 0), .int d, .int n]) (n := 6) (Nat.le_of_ble_eq_true rfl)
  rw [lg_entry_eq]
  generalize (lg_sl ([.ref (ad 0), .int d, .int n]) ++ List.replicate (6 - (lg_sl ([.ref (ad 0), .int d, .int n])).length) Slot.unset).toArray = ls at hl ⊢
  have hl : lv_has ls 6 [(0, .ref (ad 0)), (1, .int d), (2, .int n)] := hl
  have k0 : (0 : Int32).toInt = 0 := by decide
  have k1 : (1 : Int32).toInt = 1 := by decide
  have k12 : (12 : Int32).toInt = 12 := by decide
  refine lv_iload_n hx hb dX10_drawn_0 rfl (lv_at hl 1 rfl) ?_
  refine st_i1 (va_runS (As := [.int d]) (rest := []) ⟨hx, hb, hml, hown, hts⟩ (ct_X10_isDay l D cI cY cJ cQ _ d) (va_cwS 1 hts gX10_drawn_X10_isDay rfl rfl rfl cdX10_isDay ⟨Nat.le_of_ble_eq_true rfl, Nat.le_of_ble_eq_true rfl⟩) (cPreS (hP.sub [] rfl) hK (hD.sub [] (by decide +kernel) rfl) hN) rfl rfl hl.1 rfl (lv_room (Nat.le_of_ble_eq_true rfl)) dX10_drawn_1 ⟨Nat.le_of_ble_eq_true rfl, Nat.le_of_ble_eq_true rfl⟩) hP hD hS hA [] rfl (fun _ => rfl) (fun r3 u1 H locs hw2 => ?_)
  clear hP hS
  intro hP hS
  replace hw2 : r3 = if 0 ≤ d.toInt ∧ d.toInt < 10000 then 1 else 0 := hw2
  refine lv_if_eq (tgt := 17) hx hb dX10_drawn_4 (by decide) (fun c4 => ?_) (fun c4 => ?_)
  · skip
    have f5 := bo_f hw2 c4
    refine lv_ldc hx hb hown (hts (Cond.constant RX10 89 (-1000001)) (wm_t (wm_l (wm_i 0 rfl)))) dX10_drawn_17 ?_
    have hP9 := hP
    have hD9 := hD
    exact W.iret (v := (-1000001)) hx hb hr (fun t ht hW => ⟨⟨(-1000001), lo, rfl, (by unfold sp_drawn; rw [if_neg (by omega)]), by rw [ht]; exact hP9, va_K.moved hW.alike hK, hD9⟩, hS.F ht⟩) hS.2.2 dX10_drawn_19
  · skip
    have f6 := bo_t hw2 c4
    refine lv_iload_n hx hb dX10_drawn_7 rfl (lv_at hl 2 rfl) ?_
    refine lv_iconst (v := 0) hx hb dX10_drawn_8 (by decide) ?_
    refine lv_bipush (v := 12) hx hb dX10_drawn_9 (by decide) ?_
    refine st_i1 (va_runS (As := [.int n, .int 0, .int 12]) (rest := []) ⟨hx, hb, hml, hown, hts⟩ (ct_X10_isFrom l D cI cY cJ cQ _ n (0 : Int32) (12 : Int32)) (va_cwS 3 hts gX10_drawn_X10_isFrom rfl rfl rfl cdX10_isFrom ⟨Nat.le_of_ble_eq_true rfl, Nat.le_of_ble_eq_true rfl⟩) (cPreS (hP.sub [] rfl) hK (hD.sub [] (by decide +kernel) rfl) hN) rfl rfl hl.1 rfl (lv_room (Nat.le_of_ble_eq_true rfl)) dX10_drawn_11 ⟨Nat.le_of_ble_eq_true rfl, Nat.le_of_ble_eq_true rfl⟩) hP hD hS hA [] rfl (fun _ => rfl) (fun r9 u7 H locs hw8 => ?_)
    clear hP hS
    intro hP hS
    replace hw8 : r9 = if (0 : Int32).toInt ≤ n.toInt ∧ n.toInt ≤ (12 : Int32).toInt then 1 else 0 := hw8
    refine lv_if_ne (tgt := 20) hx hb dX10_drawn_14 (by decide) (fun c10 => ?_) (fun c10 => ?_)
    · skip
      have f11 := bo_t hw8 c10
      refine lv_aload_n hx hb dX10_drawn_20 rfl (lv_at hl 0 rfl) ?_
      refine va_get (D := D) (ci := 10) (v := .ref (ad 3)) (C := RX10) (T := TX10) (N := 14) hx hb hts inX10_drawn_X10 hown hK hP 0 rfl rfl 2 (by decide) (hts (Cond.fieldLink RX10 26 "PortRooms" "crates" "LPortRooms$Crates;") (wm_t (wm_l (wm_i 1 rfl)))) (fun _ h9 => h9) rfl dX10_drawn_21 ?_
      refine st_i1 (va_runV (C := RX1) (As := []) (rest := []) ⟨hx, hb, hml, hown, hts⟩ (ct_X1_setInRooms l D cI cY cJ cQ _ ad cn ro h1 h2) (cwV 0 hts gX10_drawn_X1_setInRooms rfl rfl rfl ⟨rfl, cdX1_setInRooms⟩ ⟨Nat.le_of_ble_eq_true rfl, Nat.le_of_ble_eq_true rfl⟩) (cPreV (hP.sub [1, 2] rfl) hK (hD.sub [1, 2] (by decide +kernel) rfl) hN (ci := 1) (q0 := 0) rfl rfl) rfl rfl hl.1 rfl (lv_room (Nat.le_of_ble_eq_true rfl)) dX10_drawn_24 ⟨Nat.le_of_ble_eq_true rfl, Nat.le_of_ble_eq_true rfl⟩) hP hD hS hA [1, 2] rfl (fun _ => rfl) (fun r14 u12 H locs hw13 => ?_)
      clear hP hS
      intro hP hS
      replace hw13 : r14 = stV cn ro := hw13
      subst hw13
      refine lv_istore_n (lv' := [(3, .int (stV cn ro)), (0, .ref (ad 0)), (1, .int d), (2, .int n)]) hx hb dX10_drawn_27 rfl hl (by decide) rfl (fun ls hl => ?_)
      refine lv_aload_n hx hb dX10_drawn_28 rfl (lv_at hl 1 rfl) ?_
      refine va_get (D := D) (ci := 10) (v := .ref (ad 8)) (C := RX10) (T := TX10) (N := 14) hx hb hts inX10_drawn_X10 hown hK hP 0 rfl rfl 7 (by decide) (hts (Cond.fieldLink RX10 81 "PortRooms" "looks" "LPortRooms$Looks;") (wm_t (wm_l (wm_i 2 rfl)))) (fun _ h9 => h9) rfl dX10_drawn_29 ?_
      refine lv_iload_n hx hb dX10_drawn_32 rfl (lv_at hl 0 rfl) ?_
      refine lv_iload_n hx hb dX10_drawn_33 rfl (lv_at hl 2 rfl) ?_
      refine st_v (wr := [(oC10 ad tn td lf), (oC1 ad cn), (aI cI (ad 33) 12 ro)]) (va_runV (C := RX5) (As := [.int (stV cn ro), .int d]) (rest := []) ⟨hx, hb, hml, hown, hts⟩ (ct_X5_drawLots l D cI cY cJ cQ _ ad sd lo (stV cn ro) d) (cwV 2 hts gX10_drawn_X5_drawLots rfl rfl rfl ⟨rfl, cdX5_drawLots⟩ ⟨Nat.le_of_ble_eq_true rfl, Nat.le_of_ble_eq_true rfl⟩) (cPreV (hP.sub [3, 4] rfl) hK (hD.sub [3, 4] (by decide +kernel) rfl) hN (ci := 5) (q0 := 0) rfl rfl) rfl rfl hl.1 rfl (lv_room (Nat.le_of_ble_eq_true rfl)) dX10_drawn_34 ⟨Nat.le_of_ble_eq_true rfl, Nat.le_of_ble_eq_true rfl⟩) hP hD hS hA [3, 4] [0, 1, 2] rfl rfl (by decide +kernel) (by decide +kernel) (fun u15 H locs hw16 => ?_)
      clear hP hD hS
      intro hP hD hS
      replace hw16 : ∀ c : Nat, c < 12 → hbP (stV cn ro) (nI c) → u15 c = an_lot sd (nI c) d := hw16
      replace hP : va_P D vwCl [(oC10 ad tn td lf), (oC1 ad cn), (aI cI (ad 33) 12 ro), (oC5 ad sd), (aJ cJ (ad 58) 12 u15)] H := hP
      replace hD : va_D A [(oC10 ad tn td lf), (oC1 ad cn), (aI cI (ad 33) 12 ro), (oC5 ad sd), (aJ cJ (ad 58) 12 u15)] := hD
      refine lv_iconst (v := 0) hx hb dX10_drawn_37 (by decide) ?_
      refine lv_istore (lv' := [(4, .int 0), (3, .int (stV cn ro)), (0, .ref (ad 0)), (1, .int d), (2, .int n)]) hx hb dX10_drawn_38 hl (by decide) rfl (fun ls hl => ?_)
      refine lv_iconst (v := 0) hx hb dX10_drawn_40 (by decide) ?_
      refine lv_istore (lv' := [(5, .int 0), (4, .int 0), (3, .int (stV cn ro)), (0, .ref (ad 0)), (1, .int d), (2, .int n)]) hx hb dX10_drawn_41 hl (by decide) rfl (fun ls hl => ?_)
      refine st_loop 43 (fun _ => []) (fun (z : Int32 × Int32) (ls : Array Slot) (H : Heap) (locs : List Loc) => match z with | (q43_4, q43_5) => (0 ≤ q43_5.toInt) ∧ (q43_5.toInt ≤ 12) ∧ (q43_4 = drV (lotF sd d) (stV cn ro) n q43_5.toNatClampNeg) ∧ lv_has ls 6 [(0, .ref (ad 0)), (1, .int d), (2, .int n), (3, .int (stV cn ro)), (4, .int q43_4), (5, .int q43_5)] ∧ va_P D vwCl [(oC10 ad tn td lf), (oC1 ad cn), (aI cI (ad 33) 12 ro), (oC5 ad sd), (aJ cJ (ad 58) 12 u15)] H ∧ va_D A [(oC10 ad tn td lf), (oC1 ad cn), (aI cI (ad 33) 12 ro), (oC5 ad sd), (aJ cJ (ad 58) 12 u15)] ∧ va_S A s.heap H locs) (fun (z : Int32 × Int32) => match z with | (q43_4, q43_5) => 12 - q43_5.toInt) ?_ ?_ ((0 : Int32), (0 : Int32)) ⟨(by omega), (by omega), (by rfl), lv_sub hl [3, 4, 5, 2, 1, 0] rfl, hP, hD, hS⟩
      · rintro ⟨q43_4, q43_5⟩ ls H locs ⟨g18, g19, g20, hl, hP, hD, hS⟩
        show (0 : Int) ≤ 12 - q43_5.toInt
        omega
      · rintro n23 ih21 ⟨q43_4, q43_5⟩ ls H locs ⟨g18, g19, g20, hl, hP, hD, hS⟩ hm22
        have hm22 : 12 - q43_5.toInt < (n23 : Int) + 1 := hm22
        replace hl : lv_has ls 6 [(0, .ref (ad 0)), (1, .int d), (2, .int n), (3, .int (stV cn ro)), (4, .int q43_4), (5, .int q43_5)] := hl
        replace hP : va_P D vwCl [(oC10 ad tn td lf), (oC1 ad cn), (aI cI (ad 33) 12 ro), (oC5 ad sd), (aJ cJ (ad 58) 12 u15)] H := hP
        replace hD : va_D A [(oC10 ad tn td lf), (oC1 ad cn), (aI cI (ad 33) 12 ro), (oC5 ad sd), (aJ cJ (ad 58) 12 u15)] := hD
        show W _ _ _ _ _ _ _ _ _ _ _ _ _ _ _ (F0 m 43 ls [])
        refine lv_iload hx hb dX10_drawn_43 (lv_at hl 5 rfl) ?_
        refine lv_bipush (v := 12) hx hb dX10_drawn_45 (by decide) ?_
        refine lv_icmp_ge (tgt := 88) hx hb dX10_drawn_47 (by decide) (fun c24 => ?_) (fun c24 => ?_)
        · skip
          have f25 := i_le c24
          refine lv_iload hx hb dX10_drawn_88 (lv_at hl 4 rfl) ?_
          have ce9 := i_cl (x := q43_5) (by omega)
          have ee9 : q43_5.toNatClampNeg = 12 := by omega
          have hz9 := g20
          rw [ee9] at hz9
          have hP9 := hP
          have hD9 := hD
          exact W.iret (v := q43_4) hx hb hr (fun t ht hW => ⟨⟨q43_4, u15, rfl, (by unfold sp_drawn; rw [if_pos (by omega)]; exact hz9), by rw [ht]; exact hP9, va_K.moved hW.alike hK, hD9⟩, hS.F ht⟩) hS.2.2 dX10_drawn_90
        · skip
          have f26 := i_nle c24
          refine lv_iload_n hx hb dX10_drawn_50 rfl (lv_at hl 3 rfl) ?_
          refine lv_iload hx hb dX10_drawn_51 (lv_at hl 5 rfl) ?_
          refine st_i1 (va_runS (As := [.int (stV cn ro), .int q43_5]) (rest := []) ⟨hx, hb, hml, hown, hts⟩ (ct_X10_hasBit l D cI cY cJ cQ _ (stV cn ro) q43_5) (va_cwS 2 hts gX10_drawn_X10_hasBit rfl rfl rfl cdX10_hasBit ⟨Nat.le_of_ble_eq_true rfl, Nat.le_of_ble_eq_true rfl⟩) (cPreS (hP.sub [] rfl) hK (hD.sub [] (by decide +kernel) rfl) hN) rfl rfl hl.1 rfl (lv_room (Nat.le_of_ble_eq_true rfl)) dX10_drawn_53 ⟨Nat.le_of_ble_eq_true rfl, Nat.le_of_ble_eq_true rfl⟩) hP hD hS hA [] rfl (fun _ => rfl) (fun r29 u27 H locs hw28 => ?_)
          clear hP hS
          intro hP hS
          replace hw28 : r29 = if hbP (stV cn ro) q43_5 then 1 else 0 := hw28
          refine lv_if_eq (tgt := 82) hx hb dX10_drawn_56 (by decide) (fun c30 => ?_) (fun c30 => ?_)
          · skip
            have f31 := bo_f hw28 c30
            obtain ⟨v32, ev32⟩ : ∃ y : Int32, y = q43_5 + 1 := ⟨_, rfl⟩
            try have tv32 : v32.toInt = q43_5.toInt + 1 := by rw [ev32]; exact (i_add (x := q43_5) (y := (1 : Int32)) (by rw [k1]; omega) (by rw [k1]; omega)).trans (by rw [k1])
            refine lv_iinc (v := v32) (lv' := [(5, .int v32), (0, .ref (ad 0)), (1, .int d), (2, .int n), (3, .int (stV cn ro)), (4, .int q43_4)]) hx hb dX10_drawn_82 hl (k := 5) rfl (by rw [ev32]; rfl) (by decide) rfl (fun ls hl => ?_)
            refine lv_goto (tgt := 43) hx hb dX10_drawn_85 (by decide) ?_
            have clk8 := i_cl (x := q43_5) (by omega)
            have clk9 := i_cl (x := v32) (by omega)
            have ek9 : v32.toNatClampNeg = q43_5.toNatClampNeg + 1 := by omega
            have nk9 : nI q43_5.toNatClampNeg = q43_5 := i_nI (by omega)
            exact ih21 (q43_4, v32) ls H locs ⟨(by omega), (by omega), (by rw [ek9, drV_s, nk9, ← g20]; rw [if_neg (fun z9 => by have z8 := z9.1; contradiction)]), lv_sub hl [1, 2, 3, 4, 5, 0] rfl, hP.sub [0, 1, 2, 3, 4] rfl, hD.sub [0, 1, 2, 3, 4] (by decide +kernel) rfl, hS⟩ (by show 12 - v32.toInt < _; omega)
          · skip
            have f33 := bo_t hw28 c30
            refine lv_aload_n hx hb dX10_drawn_59 rfl (lv_at hl 0 rfl) ?_
            refine va_get (D := D) (ci := 10) (v := .ref (ad 8)) (C := RX10) (T := TX10) (N := 14) hx hb hts inX10_drawn_X10 hown hK hP 0 rfl rfl 7 (by decide) (hts (Cond.fieldLink RX10 81 "PortRooms" "looks" "LPortRooms$Looks;") (wm_t (wm_l (wm_i 2 rfl)))) (fun _ h9 => h9) rfl dX10_drawn_60 ?_
            refine lv_iload_n hx hb dX10_drawn_63 rfl (lv_at hl 3 rfl) ?_
            refine lv_iload hx hb dX10_drawn_64 (lv_at hl 5 rfl) ?_
            refine st_i1 (va_runV (C := RX5) (As := [.int (stV cn ro), .int q43_5]) (rest := []) ⟨hx, hb, hml, hown, hts⟩ (ct_X5_howManyAhead l D cI cY cJ cQ _ ad sd u15 (stV cn ro) q43_5 (by omega) (by omega)) (cwV 2 hts gX10_drawn_X5_howManyAhead rfl rfl rfl ⟨rfl, cdX5_howManyAhead⟩ ⟨Nat.le_of_ble_eq_true rfl, Nat.le_of_ble_eq_true rfl⟩) (cPreV (hP.sub [3, 4] rfl) hK (hD.sub [3, 4] (by decide +kernel) rfl) hN (ci := 5) (q0 := 0) rfl rfl) rfl rfl hl.1 rfl (lv_room (Nat.le_of_ble_eq_true rfl)) dX10_drawn_66 ⟨Nat.le_of_ble_eq_true rfl, Nat.le_of_ble_eq_true rfl⟩) hP hD hS hA [3, 4] rfl (fun _ => rfl) (fun r36 u34 H locs hw35 => ?_)
            clear hP hS
            intro hP hS
            replace hw35 : r36 = hmV u15 (stV cn ro) q43_5 12 := hw35
            subst hw35
            refine lv_iload_n hx hb dX10_drawn_69 rfl (lv_at hl 2 rfl) ?_
            refine lv_icmp_ge (tgt := 82) hx hb dX10_drawn_70 (by decide) (fun c37 => ?_) (fun c37 => ?_)
            · skip
              have f38 := i_le c37
              obtain ⟨v39, ev39⟩ : ∃ y : Int32, y = q43_5 + 1 := ⟨_, rfl⟩
              try have tv39 : v39.toInt = q43_5.toInt + 1 := by rw [ev39]; exact (i_add (x := q43_5) (y := (1 : Int32)) (by rw [k1]; omega) (by rw [k1]; omega)).trans (by rw [k1])
              refine lv_iinc (v := v39) (lv' := [(5, .int v39), (0, .ref (ad 0)), (1, .int d), (2, .int n), (3, .int (stV cn ro)), (4, .int q43_4)]) hx hb dX10_drawn_82 hl (k := 5) rfl (by rw [ev39]; rfl) (by decide) rfl (fun ls hl => ?_)
              refine lv_goto (tgt := 43) hx hb dX10_drawn_85 (by decide) ?_
              have clk8 := i_cl (x := q43_5) (by omega)
              have clk9 := i_cl (x := v39) (by omega)
              have ek9 : v39.toNatClampNeg = q43_5.toNatClampNeg + 1 := by omega
              have nk9 : nI q43_5.toNatClampNeg = q43_5 := i_nI (by omega)
              have hc9 := congrArg Int32.toInt (hm_cong hw16 f33 (by omega) (by omega) 12 (by omega))
              exact ih21 (q43_4, v39) ls H locs ⟨(by omega), (by omega), (by rw [ek9, drV_s, nk9, ← g20]; rw [if_neg (fun z9 => by have z8 := z9.2; omega)]), lv_sub hl [1, 2, 3, 4, 5, 0] rfl, hP.sub [0, 1, 2, 3, 4] rfl, hD.sub [0, 1, 2, 3, 4] (by decide +kernel) rfl, hS⟩ (by show 12 - v39.toInt < _; omega)
            · skip
              have f40 := i_nle c37
              refine lv_iload hx hb dX10_drawn_73 (lv_at hl 4 rfl) ?_
              refine lv_iconst (v := 1) hx hb dX10_drawn_75 (by decide) ?_
              refine lv_iload hx hb dX10_drawn_76 (lv_at hl 5 rfl) ?_
              refine lv_ishl hx hb dX10_drawn_78 ?_
              refine lv_topi (fun v41 ev41 => ?_)
              refine lv_ior hx hb dX10_drawn_79 ?_
              refine lv_topi (fun v42 ev42 => ?_)
              refine lv_istore (lv' := [(4, .int v42), (0, .ref (ad 0)), (1, .int d), (2, .int n), (3, .int (stV cn ro)), (5, .int q43_5)]) hx hb dX10_drawn_80 hl (by decide) rfl (fun ls hl => ?_)
              obtain ⟨v43, ev43⟩ : ∃ y : Int32, y = q43_5 + 1 := ⟨_, rfl⟩
              try have tv43 : v43.toInt = q43_5.toInt + 1 := by rw [ev43]; exact (i_add (x := q43_5) (y := (1 : Int32)) (by rw [k1]; omega) (by rw [k1]; omega)).trans (by rw [k1])
              refine lv_iinc (v := v43) (lv' := [(5, .int v43), (4, .int v42), (0, .ref (ad 0)), (1, .int d), (2, .int n), (3, .int (stV cn ro))]) hx hb dX10_drawn_82 hl (k := 5) rfl (by rw [ev43]; rfl) (by decide) rfl (fun ls hl => ?_)
              refine lv_goto (tgt := 43) hx hb dX10_drawn_85 (by decide) ?_
              have clk8 := i_cl (x := q43_5) (by omega)
              have clk9 := i_cl (x := v43) (by omega)
              have ek9 : v43.toNatClampNeg = q43_5.toNatClampNeg + 1 := by omega
              have nk9 : nI q43_5.toNatClampNeg = q43_5 := i_nI (by omega)
              have hc9 := congrArg Int32.toInt (hm_cong hw16 f33 (by omega) (by omega) 12 (by omega))
              exact ih21 (v42, v43) ls H locs ⟨(by omega), (by omega), (by rw [ek9, drV_s, nk9, ← g20]; rw [if_pos ⟨by assumption, by omega⟩, ev42, ev41]), lv_sub hl [2, 3, 4, 5, 1, 0] rfl, hP.sub [0, 1, 2, 3, 4] rfl, hD.sub [0, 1, 2, 3, 4] (by decide +kernel) rfl, hS⟩ (by show 12 - v43.toInt < _; omega)
    · skip
      have f44 := bo_f hw8 c10
      refine lv_ldc hx hb hown (hts (Cond.constant RX10 89 (-1000001)) (wm_t (wm_l (wm_i 0 rfl)))) dX10_drawn_17 ?_
      have hP9 := hP
      have hD9 := hD
      exact W.iret (v := (-1000001)) hx hb hr (fun t ht hW => ⟨⟨(-1000001), lo, rfl, (by unfold sp_drawn; rw [if_neg (by omega)]), by rw [ht]; exact hP9, va_K.moved hW.alike hK, hD9⟩, hS.F ht⟩) hS.2.2 dX10_drawn_19

set_option maxHeartbeats 4000000 in
set_option maxRecDepth 100000 in
theorem ct_X10_often (l : Launch) (D : va_G) (cI cY cJ cQ : ClassId) (sz : Nat) (ad : Nat → Nat) (sd : Int32) (tn td lf cn : Int32) (ro : Nat → Int32) (lo : Nat → Int64) (k : Int32) (a : Int32) (b : Int32) (n : Int32)  (h1 : 0 ≤ cn.toInt) (h2 : cn.toInt ≤ 12)  : Met l yX10_often wsX10_often ({ frames := 3, cells := 0, slots := 0, locals := 62 }) (cPre D (ty4 cI cY cJ cQ) [(oC10 ad tn td lf), (oC1 ad cn), (aI cI (ad 33) 12 ro), (oC5 ad sd), (aJ cJ (ad 58) 12 lo)] sz [.ref (ad 0), .int k, .int a, .int b, .int n]) (va_Qi (fun (r : Int32) (u : (Nat → Int64)) => r = sp_often sd cn ro k a b n) (cB D (ty4 cI cY cJ cQ) (fun (u : (Nat → Int64)) => [(oC10 ad tn td lf), (oC1 ad cn), (aI cI (ad 33) 12 ro), (oC5 ad sd), (aJ cJ (ad 58) 12 u)]) (va_A [(oC10 ad tn td lf), (oC1 ad cn), (aI cI (ad 33) 12 ro), (oC5 ad sd), (aJ cJ (ad 58) 12 lo)] sz)) (va_A [(oC10 ad tn td lf), (oC1 ad cn), (aI cI (ad 33) 12 ro), (oC5 ad sd), (aJ cJ (ad 58) 12 lo)] sz)) 0 0 (va_A [(oC10 ad tn td lf), (oC1 ad cn), (aI cI (ad 33) 12 ro), (oC5 ad sd), (aJ cJ (ad 58) 12 lo)] sz) := by
  refine Met.ofW (cc := cX10_often) (maxL := 8) (ret := (some .int)) (by decide) rfl ?_
  intro p e s m args below meth c s₁ B hml hv
  obtain ⟨rfl, hsz, hP, hK, hD0, hN⟩ := hv
  have hx := B.exec
  have hb := B.bytes
  have hr := B.returns
  have hts := atoms_spec (ws := wsX10_often) B.pre
  have hown : s.vm.findClass RX10 = some m.cls := findClass_of_methodNamed B.named
  have hlocks := B.notSynchronized
  subst hsz
  have hD := hD0.self (sz := s.heap.size)
  generalize hAe : va_A [(oC10 ad tn td lf), (oC1 ad cn), (aI cI (ad 33) 12 ro), (oC5 ad sd), (aJ cJ (ad 58) 12 lo)] s.heap.size = A at hD ⊢
  have hA : ∀ q : Nat, s.heap.size ≤ q → A q := fun q h => by rw [← hAe]; exact Or.inr h
  have hS : va_S A s.heap s.heap [] := va_S.rf
  have hP : va_P D vwCl [(oC10 ad tn td lf), (oC1 ad cn), (aI cI (ad 33) 12 ro), (oC5 ad sd), (aJ cJ (ad 58) 12 lo)] s.heap := hP
  have hl := lv_entry ([.ref (ad 0), .int k, .int a, .int b, .int n]) (n := 8) (Nat.le_of_ble_eq_true rfl)
  rw [lg_entry_eq]
  generalize (lg_sl ([.ref (ad 0), .int k, .int a, .int b, .int n]) ++ List.replicate (8 - (lg_sl ([.ref (ad 0), .int k, .int a, .int b, .int n])).length) Slot.unset).toArray = ls at hl ⊢
  have hl : lv_has ls 8 [(0, .ref (ad 0)), (1, .int k), (2, .int a), (3, .int b), (4, .int n)] := hl
  have k0 : (0 : Int32).toInt = 0 := by decide
  have k1 : (1 : Int32).toInt = 1 := by decide
  have k12 : (12 : Int32).toInt = 12 := by decide
  have k400 : (400 : Int32).toInt = 400 := by decide
  refine lv_aload_n hx hb dX10_often_0 rfl (lv_at hl 0 rfl) ?_
  refine lv_iload_n hx hb dX10_often_1 rfl (lv_at hl 1 rfl) ?_
  refine st_i1 (va_runV (C := RX10) (As := [.int k]) (rest := []) ⟨hx, hb, hml, hown, hts⟩ (ct_X10_isCrate l D cI cY cJ cQ _ ad tn td lf cn k) (cwV 1 hts gX10_often_X10_isCrate rfl rfl rfl ⟨rfl, cdX10_isCrate⟩ ⟨Nat.le_of_ble_eq_true rfl, Nat.le_of_ble_eq_true rfl⟩) (cPreV (hP.sub [0, 1] rfl) hK (hD.sub [0, 1] (by decide +kernel) rfl) hN (ci := 10) (q0 := 0) rfl rfl) rfl rfl hl.1 rfl (lv_room (Nat.le_of_ble_eq_true rfl)) dX10_often_2 ⟨Nat.le_of_ble_eq_true rfl, Nat.le_of_ble_eq_true rfl⟩) hP hD hS hA [0, 1] rfl (fun _ => rfl) (fun r3 u1 H locs hw2 => ?_)
  clear hP hS
  intro hP hS
  replace hw2 : r3 = if 0 ≤ k.toInt ∧ k.toInt < cn.toInt then 1 else 0 := hw2
  refine lv_if_eq (tgt := 36) hx hb dX10_often_5 (by decide) (fun c4 => ?_) (fun c4 => ?_)
  · skip
    have f5 := bo_f hw2 c4
    refine lv_ldc hx hb hown (hts (Cond.constant RX10 89 (-1000001)) (wm_t (wm_l (wm_i 0 rfl)))) dX10_often_36 ?_
    have hP9 := hP
    have hD9 := hD
    exact W.iret (v := (-1000001)) hx hb hr (fun t ht hW => ⟨⟨(-1000001), lo, rfl, (by unfold sp_often; rw [if_neg (by omega)]), by rw [ht]; exact hP9, va_K.moved hW.alike hK, hD9⟩, hS.F ht⟩) hS.2.2 dX10_often_38
  · skip
    have f6 := bo_t hw2 c4
    refine lv_iload_n hx hb dX10_often_8 rfl (lv_at hl 2 rfl) ?_
    refine lv_iload_n hx hb dX10_often_9 rfl (lv_at hl 3 rfl) ?_
    refine st_i1 (va_runS (As := [.int a, .int b]) (rest := []) ⟨hx, hb, hml, hown, hts⟩ (ct_X10_areDays l D cI cY cJ cQ _ a b) (va_cwS 2 hts gX10_often_X10_areDays rfl rfl rfl cdX10_areDays ⟨Nat.le_of_ble_eq_true rfl, Nat.le_of_ble_eq_true rfl⟩) (cPreS (hP.sub [] rfl) hK (hD.sub [] (by decide +kernel) rfl) hN) rfl rfl hl.1 rfl (lv_room (Nat.le_of_ble_eq_true rfl)) dX10_often_10 ⟨Nat.le_of_ble_eq_true rfl, Nat.le_of_ble_eq_true rfl⟩) hP hD hS hA [] rfl (fun _ => rfl) (fun r9 u7 H locs hw8 => ?_)
    clear hP hS
    intro hP hS
    replace hw8 : r9 = if 0 ≤ a.toInt ∧ b.toInt < 10000 ∧ a.toInt ≤ b.toInt then 1 else 0 := hw8
    refine lv_if_eq (tgt := 36) hx hb dX10_often_13 (by decide) (fun c10 => ?_) (fun c10 => ?_)
    · skip
      have f11 := bo_f hw8 c10
      refine lv_ldc hx hb hown (hts (Cond.constant RX10 89 (-1000001)) (wm_t (wm_l (wm_i 0 rfl)))) dX10_often_36 ?_
      have hP9 := hP
      have hD9 := hD
      exact W.iret (v := (-1000001)) hx hb hr (fun t ht hW => ⟨⟨(-1000001), lo, rfl, (by unfold sp_often; rw [if_neg (by omega)]), by rw [ht]; exact hP9, va_K.moved hW.alike hK, hD9⟩, hS.F ht⟩) hS.2.2 dX10_often_38
    · skip
      have f12 := bo_t hw8 c10
      refine lv_iload_n hx hb dX10_often_16 rfl (lv_at hl 3 rfl) ?_
      refine lv_iload_n hx hb dX10_often_17 rfl (lv_at hl 2 rfl) ?_
      refine lv_isub hx hb dX10_often_18 ?_
      refine lv_topi (fun v13 ev13 => ?_)
      try have tv13 : v13.toInt = b.toInt - a.toInt := by rw [ev13]; exact (i_sub (x := b) (y := a) (by omega) (by omega))
      refine lv_sipush (v := 400) hx hb dX10_often_19 (by decide) ?_
      refine lv_icmp_ge (tgt := 36) hx hb dX10_often_22 (by decide) (fun c14 => ?_) (fun c14 => ?_)
      · skip
        have f15 := i_le c14
        refine lv_ldc hx hb hown (hts (Cond.constant RX10 89 (-1000001)) (wm_t (wm_l (wm_i 0 rfl)))) dX10_often_36 ?_
        have hP9 := hP
        have hD9 := hD
        exact W.iret (v := (-1000001)) hx hb hr (fun t ht hW => ⟨⟨(-1000001), lo, rfl, (by unfold sp_often; rw [if_neg (by omega)]), by rw [ht]; exact hP9, va_K.moved hW.alike hK, hD9⟩, hS.F ht⟩) hS.2.2 dX10_often_38
      · skip
        have f16 := i_nle c14
        refine lv_iload hx hb dX10_often_25 (lv_at hl 4 rfl) ?_
        refine lv_iconst (v := 0) hx hb dX10_often_27 (by decide) ?_
        refine lv_bipush (v := 12) hx hb dX10_often_28 (by decide) ?_
        refine st_i1 (va_runS (As := [.int n, .int 0, .int 12]) (rest := []) ⟨hx, hb, hml, hown, hts⟩ (ct_X10_isFrom l D cI cY cJ cQ _ n (0 : Int32) (12 : Int32)) (va_cwS 3 hts gX10_often_X10_isFrom rfl rfl rfl cdX10_isFrom ⟨Nat.le_of_ble_eq_true rfl, Nat.le_of_ble_eq_true rfl⟩) (cPreS (hP.sub [] rfl) hK (hD.sub [] (by decide +kernel) rfl) hN) rfl rfl hl.1 rfl (lv_room (Nat.le_of_ble_eq_true rfl)) dX10_often_30 ⟨Nat.le_of_ble_eq_true rfl, Nat.le_of_ble_eq_true rfl⟩) hP hD hS hA [] rfl (fun _ => rfl) (fun r19 u17 H locs hw18 => ?_)
        clear hP hS
        intro hP hS
        replace hw18 : r19 = if (0 : Int32).toInt ≤ n.toInt ∧ n.toInt ≤ (12 : Int32).toInt then 1 else 0 := hw18
        refine lv_if_ne (tgt := 39) hx hb dX10_often_33 (by decide) (fun c20 => ?_) (fun c20 => ?_)
        · skip
          have f21 := bo_t hw18 c20
          refine lv_aload_n hx hb dX10_often_39 rfl (lv_at hl 0 rfl) ?_
          refine va_get (D := D) (ci := 10) (v := .ref (ad 3)) (C := RX10) (T := TX10) (N := 14) hx hb hts inX10_often_X10 hown hK hP 0 rfl rfl 2 (by decide) (hts (Cond.fieldLink RX10 26 "PortRooms" "crates" "LPortRooms$Crates;") (wm_t (wm_l (wm_i 1 rfl)))) (fun _ h9 => h9) rfl dX10_often_40 ?_
          refine st_i1 (va_runV (C := RX1) (As := []) (rest := []) ⟨hx, hb, hml, hown, hts⟩ (ct_X1_setInRooms l D cI cY cJ cQ _ ad cn ro h1 h2) (cwV 0 hts gX10_often_X1_setInRooms rfl rfl rfl ⟨rfl, cdX1_setInRooms⟩ ⟨Nat.le_of_ble_eq_true rfl, Nat.le_of_ble_eq_true rfl⟩) (cPreV (hP.sub [1, 2] rfl) hK (hD.sub [1, 2] (by decide +kernel) rfl) hN (ci := 1) (q0 := 0) rfl rfl) rfl rfl hl.1 rfl (lv_room (Nat.le_of_ble_eq_true rfl)) dX10_often_43 ⟨Nat.le_of_ble_eq_true rfl, Nat.le_of_ble_eq_true rfl⟩) hP hD hS hA [1, 2] rfl (fun _ => rfl) (fun r24 u22 H locs hw23 => ?_)
          clear hP hS
          intro hP hS
          replace hw23 : r24 = stV cn ro := hw23
          subst hw23
          refine lv_istore (lv' := [(5, .int (stV cn ro)), (0, .ref (ad 0)), (1, .int k), (2, .int a), (3, .int b), (4, .int n)]) hx hb dX10_often_46 hl (by decide) rfl (fun ls hl => ?_)
          refine lv_iload hx hb dX10_often_48 (lv_at hl 0 rfl) ?_
          refine lv_iload_n hx hb dX10_often_50 rfl (lv_at hl 2 rfl) ?_
          refine st_i1 (va_runS (As := [.int (stV cn ro), .int k]) (rest := []) ⟨hx, hb, hml, hown, hts⟩ (ct_X10_hasBit l D cI cY cJ cQ _ (stV cn ro) k) (va_cwS 2 hts gX10_often_X10_hasBit rfl rfl rfl cdX10_hasBit ⟨Nat.le_of_ble_eq_true rfl, Nat.le_of_ble_eq_true rfl⟩) (cPreS (hP.sub [] rfl) hK (hD.sub [] (by decide +kernel) rfl) hN) rfl rfl hl.1 rfl (lv_room (Nat.le_of_ble_eq_true rfl)) dX10_often_51 ⟨Nat.le_of_ble_eq_true rfl, Nat.le_of_ble_eq_true rfl⟩) hP hD hS hA [] rfl (fun _ => rfl) (fun r27 u25 H locs hw26 => ?_)
          clear hP hS
          intro hP hS
          replace hw26 : r27 = if hbP (stV cn ro) k then 1 else 0 := hw26
          refine lv_if_ne (tgt := 59) hx hb dX10_often_54 (by decide) (fun c28 => ?_) (fun c28 => ?_)
          · skip
            have f29 := bo_t hw26 c28
            refine lv_iconst (v := 0) hx hb dX10_often_59 (by decide) ?_
            refine lv_istore (lv' := [(6, .int 0), (5, .int (stV cn ro)), (0, .ref (ad 0)), (1, .int k), (2, .int a), (3, .int b), (4, .int n)]) hx hb dX10_often_60 hl (by decide) rfl (fun ls hl => ?_)
            refine lv_iload_n hx hb dX10_often_62 rfl (lv_at hl 4 rfl) ?_
            refine lv_istore (lv' := [(7, .int a), (6, .int 0), (5, .int (stV cn ro)), (0, .ref (ad 0)), (1, .int k), (2, .int a), (3, .int b), (4, .int n)]) hx hb dX10_often_63 hl (by decide) rfl (fun ls hl => ?_)
            refine st_loop 65 (fun _ => []) (fun (z : Int32 × Int32 × (Nat → Int64)) (ls : Array Slot) (H : Heap) (locs : List Loc) => match z with | (q65_6, q65_7, loq) => (0 ≤ q65_7.toInt) ∧ (q65_7.toInt ≤ b.toInt + 1) ∧ (a.toInt ≤ q65_7.toInt) ∧ (q65_6 = ofV sd (stV cn ro) k n a.toNatClampNeg (q65_7.toNatClampNeg - a.toNatClampNeg)) ∧ lv_has ls 8 [(0, .ref (ad 0)), (1, .int k), (2, .int a), (3, .int b), (4, .int n), (5, .int (stV cn ro)), (6, .int q65_6), (7, .int q65_7)] ∧ va_P D vwCl [(oC10 ad tn td lf), (oC1 ad cn), (aI cI (ad 33) 12 ro), (oC5 ad sd), (aJ cJ (ad 58) 12 loq)] H ∧ va_D A [(oC10 ad tn td lf), (oC1 ad cn), (aI cI (ad 33) 12 ro), (oC5 ad sd), (aJ cJ (ad 58) 12 loq)] ∧ va_S A s.heap H locs) (fun (z : Int32 × Int32 × (Nat → Int64)) => match z with | (q65_6, q65_7, loq) => b.toInt + 1 - q65_7.toInt) ?_ ?_ ((0 : Int32), a, lo) ⟨(by omega), (by omega), (by omega), (by rw [Nat.sub_self]; rfl), lv_sub hl [3, 4, 5, 6, 7, 2, 1, 0] rfl, hP, hD, hS⟩
            · rintro ⟨q65_6, q65_7, loq⟩ ls H locs ⟨g30, g31, g32, g33, hl, hP, hD, hS⟩
              show (0 : Int) ≤ b.toInt + 1 - q65_7.toInt
              omega
            · rintro n36 ih34 ⟨q65_6, q65_7, loq⟩ ls H locs ⟨g30, g31, g32, g33, hl, hP, hD, hS⟩ hm35
              have hm35 : b.toInt + 1 - q65_7.toInt < (n36 : Int) + 1 := hm35
              replace hl : lv_has ls 8 [(0, .ref (ad 0)), (1, .int k), (2, .int a), (3, .int b), (4, .int n), (5, .int (stV cn ro)), (6, .int q65_6), (7, .int q65_7)] := hl
              replace hP : va_P D vwCl [(oC10 ad tn td lf), (oC1 ad cn), (aI cI (ad 33) 12 ro), (oC5 ad sd), (aJ cJ (ad 58) 12 loq)] H := hP
              replace hD : va_D A [(oC10 ad tn td lf), (oC1 ad cn), (aI cI (ad 33) 12 ro), (oC5 ad sd), (aJ cJ (ad 58) 12 loq)] := hD
              show W _ _ _ _ _ _ _ _ _ _ _ _ _ _ _ (F0 m 65 ls [])
              refine lv_iload hx hb dX10_often_65 (lv_at hl 7 rfl) ?_
              refine lv_iload_n hx hb dX10_often_67 rfl (lv_at hl 3 rfl) ?_
              refine lv_icmp_gt (tgt := 106) hx hb dX10_often_68 (by decide) (fun c37 => ?_) (fun c37 => ?_)
              · skip
                have f38 := i_lt c37
                refine lv_iload hx hb dX10_often_106 (lv_at hl 6 rfl) ?_
                have cea9 := i_cl (x := a) (by omega)
                have ceb9 := i_cl (x := b) (by omega)
                have ce9 := i_cl (x := q65_7) (by omega)
                have ee9 : q65_7.toNatClampNeg - a.toNatClampNeg = b.toNatClampNeg - a.toNatClampNeg + 1 := by omega
                have hz9 := g33
                rw [ee9] at hz9
                have hP9 := hP
                have hD9 := hD
                exact W.iret (v := q65_6) hx hb hr (fun t ht hW => ⟨⟨q65_6, loq, rfl, (by unfold sp_often; rw [if_pos (by omega), if_pos (by assumption)]; exact hz9), by rw [ht]; exact hP9, va_K.moved hW.alike hK, hD9⟩, hS.F ht⟩) hS.2.2 dX10_often_108
              · skip
                have f39 := i_nlt c37
                refine lv_aload_n hx hb dX10_often_71 rfl (lv_at hl 0 rfl) ?_
                refine va_get (D := D) (ci := 10) (v := .ref (ad 8)) (C := RX10) (T := TX10) (N := 14) hx hb hts inX10_often_X10 hown hK hP 0 rfl rfl 7 (by decide) (hts (Cond.fieldLink RX10 81 "PortRooms" "looks" "LPortRooms$Looks;") (wm_t (wm_l (wm_i 2 rfl)))) (fun _ h9 => h9) rfl dX10_often_72 ?_
                refine lv_iload hx hb dX10_often_75 (lv_at hl 5 rfl) ?_
                refine lv_iload hx hb dX10_often_77 (lv_at hl 7 rfl) ?_
                refine st_v (wr := [(oC10 ad tn td lf), (oC1 ad cn), (aI cI (ad 33) 12 ro)]) (va_runV (C := RX5) (As := [.int (stV cn ro), .int q65_7]) (rest := []) ⟨hx, hb, hml, hown, hts⟩ (ct_X5_drawLots l D cI cY cJ cQ _ ad sd loq (stV cn ro) q65_7) (cwV 2 hts gX10_often_X5_drawLots rfl rfl rfl ⟨rfl, cdX5_drawLots⟩ ⟨Nat.le_of_ble_eq_true rfl, Nat.le_of_ble_eq_true rfl⟩) (cPreV (hP.sub [3, 4] rfl) hK (hD.sub [3, 4] (by decide +kernel) rfl) hN (ci := 5) (q0 := 0) rfl rfl) rfl rfl hl.1 rfl (lv_room (Nat.le_of_ble_eq_true rfl)) dX10_often_79 ⟨Nat.le_of_ble_eq_true rfl, Nat.le_of_ble_eq_true rfl⟩) hP hD hS hA [3, 4] [0, 1, 2] rfl rfl (by decide +kernel) (by decide +kernel) (fun u40 H locs hw41 => ?_)
                clear hP hD hS
                intro hP hD hS
                replace hw41 : ∀ c : Nat, c < 12 → hbP (stV cn ro) (nI c) → u40 c = an_lot sd (nI c) q65_7 := hw41
                replace hP : va_P D vwCl [(oC10 ad tn td lf), (oC1 ad cn), (aI cI (ad 33) 12 ro), (oC5 ad sd), (aJ cJ (ad 58) 12 u40)] H := hP
                replace hD : va_D A [(oC10 ad tn td lf), (oC1 ad cn), (aI cI (ad 33) 12 ro), (oC5 ad sd), (aJ cJ (ad 58) 12 u40)] := hD
                refine lv_aload_n hx hb dX10_often_82 rfl (lv_at hl 0 rfl) ?_
                refine va_get (D := D) (ci := 10) (v := .ref (ad 8)) (C := RX10) (T := TX10) (N := 14) hx hb hts inX10_often_X10 hown hK hP 0 rfl rfl 7 (by decide) (hts (Cond.fieldLink RX10 81 "PortRooms" "looks" "LPortRooms$Looks;") (wm_t (wm_l (wm_i 2 rfl)))) (fun _ h9 => h9) rfl dX10_often_83 ?_
                refine lv_iload hx hb dX10_often_86 (lv_at hl 5 rfl) ?_
                refine lv_iload_n hx hb dX10_often_88 rfl (lv_at hl 1 rfl) ?_
                refine st_i1 (va_runV (C := RX5) (As := [.int (stV cn ro), .int k]) (rest := []) ⟨hx, hb, hml, hown, hts⟩ (ct_X5_howManyAhead l D cI cY cJ cQ _ ad sd u40 (stV cn ro) k (by omega) (by omega)) (cwV 2 hts gX10_often_X5_howManyAhead rfl rfl rfl ⟨rfl, cdX5_howManyAhead⟩ ⟨Nat.le_of_ble_eq_true rfl, Nat.le_of_ble_eq_true rfl⟩) (cPreV (hP.sub [3, 4] rfl) hK (hD.sub [3, 4] (by decide +kernel) rfl) hN (ci := 5) (q0 := 0) rfl rfl) rfl rfl hl.1 rfl (lv_room (Nat.le_of_ble_eq_true rfl)) dX10_often_89 ⟨Nat.le_of_ble_eq_true rfl, Nat.le_of_ble_eq_true rfl⟩) hP hD hS hA [3, 4] rfl (fun _ => rfl) (fun r45 u43 H locs hw44 => ?_)
                clear hP hS
                intro hP hS
                replace hw44 : r45 = hmV u40 (stV cn ro) k 12 := hw44
                subst hw44
                refine lv_iload hx hb dX10_often_92 (lv_at hl 4 rfl) ?_
                refine lv_icmp_ge (tgt := 100) hx hb dX10_often_94 (by decide) (fun c46 => ?_) (fun c46 => ?_)
                · skip
                  have f47 := i_le c46
                  obtain ⟨v48, ev48⟩ : ∃ y : Int32, y = q65_7 + 1 := ⟨_, rfl⟩
                  try have tv48 : v48.toInt = q65_7.toInt + 1 := by rw [ev48]; exact (i_add (x := q65_7) (y := (1 : Int32)) (by rw [k1]; omega) (by rw [k1]; omega)).trans (by rw [k1])
                  refine lv_iinc (v := v48) (lv' := [(7, .int v48), (0, .ref (ad 0)), (1, .int k), (2, .int a), (3, .int b), (4, .int n), (5, .int (stV cn ro)), (6, .int q65_6)]) hx hb dX10_often_100 hl (k := 7) rfl (by rw [ev48]; rfl) (by decide) rfl (fun ls hl => ?_)
                  refine lv_goto (tgt := 65) hx hb dX10_often_103 (by decide) ?_
                  have cla8 := i_cl (x := a) (by omega)
                  have clk8 := i_cl (x := q65_7) (by omega)
                  have clk9 := i_cl (x := v48) (by omega)
                  have ek9 : v48.toNatClampNeg - a.toNatClampNeg = (q65_7.toNatClampNeg - a.toNatClampNeg) + 1 := by omega
                  have ea9 : a.toNatClampNeg + (q65_7.toNatClampNeg - a.toNatClampNeg) = q65_7.toNatClampNeg := by omega
                  have nk9 : nI q65_7.toNatClampNeg = q65_7 := i_nI (by omega)
                  have hc9 := congrArg Int32.toInt (hm_cong hw41 f29 (by omega) (by omega) 12 (by omega))
                  exact ih34 (q65_6, v48, u40) ls H locs ⟨(by omega), (by omega), (by omega), (by rw [ek9, ofV_s, ea9, nk9, ← g33]; first | (rw [if_pos (by omega)]; assumption) | (rw [if_neg (by omega)])), lv_sub hl [1, 2, 3, 4, 5, 6, 7, 0] rfl, hP.sub [0, 1, 2, 3, 4] rfl, hD.sub [0, 1, 2, 3, 4] (by decide +kernel) rfl, hS⟩ (by show b.toInt + 1 - v48.toInt < _; omega)
                · skip
                  have f49 := i_nle c46
                  obtain ⟨v50, ev50⟩ : ∃ y : Int32, y = q65_6 + 1 := ⟨_, rfl⟩
                  refine lv_iinc (v := v50) (lv' := [(6, .int v50), (0, .ref (ad 0)), (1, .int k), (2, .int a), (3, .int b), (4, .int n), (5, .int (stV cn ro)), (7, .int q65_7)]) hx hb dX10_often_97 hl (k := 6) rfl (by rw [ev50]; rfl) (by decide) rfl (fun ls hl => ?_)
                  obtain ⟨v51, ev51⟩ : ∃ y : Int32, y = q65_7 + 1 := ⟨_, rfl⟩
                  try have tv51 : v51.toInt = q65_7.toInt + 1 := by rw [ev51]; exact (i_add (x := q65_7) (y := (1 : Int32)) (by rw [k1]; omega) (by rw [k1]; omega)).trans (by rw [k1])
                  refine lv_iinc (v := v51) (lv' := [(7, .int v51), (6, .int v50), (0, .ref (ad 0)), (1, .int k), (2, .int a), (3, .int b), (4, .int n), (5, .int (stV cn ro))]) hx hb dX10_often_100 hl (k := 7) rfl (by rw [ev51]; rfl) (by decide) rfl (fun ls hl => ?_)
                  refine lv_goto (tgt := 65) hx hb dX10_often_103 (by decide) ?_
                  have cla8 := i_cl (x := a) (by omega)
                  have clk8 := i_cl (x := q65_7) (by omega)
                  have clk9 := i_cl (x := v51) (by omega)
                  have ek9 : v51.toNatClampNeg - a.toNatClampNeg = (q65_7.toNatClampNeg - a.toNatClampNeg) + 1 := by omega
                  have ea9 : a.toNatClampNeg + (q65_7.toNatClampNeg - a.toNatClampNeg) = q65_7.toNatClampNeg := by omega
                  have nk9 : nI q65_7.toNatClampNeg = q65_7 := i_nI (by omega)
                  have hc9 := congrArg Int32.toInt (hm_cong hw41 f29 (by omega) (by omega) 12 (by omega))
                  exact ih34 (v50, v51, u40) ls H locs ⟨(by omega), (by omega), (by omega), (by rw [ek9, ofV_s, ea9, nk9, ← g33]; first | (rw [if_pos (by omega)]; assumption) | (rw [if_neg (by omega)])), lv_sub hl [2, 3, 4, 5, 6, 7, 1, 0] rfl, hP.sub [0, 1, 2, 3, 4] rfl, hD.sub [0, 1, 2, 3, 4] (by decide +kernel) rfl, hS⟩ (by show b.toInt + 1 - v51.toInt < _; omega)
          · skip
            have f52 := bo_f hw26 c28
            refine lv_iconst (v := 0) hx hb dX10_often_57 (by decide) ?_
            have hP9 := hP
            have hD9 := hD
            exact W.iret (v := 0) hx hb hr (fun t ht hW => ⟨⟨0, lo, rfl, (by unfold sp_often; rw [if_pos (by omega), if_neg (by assumption)]), by rw [ht]; exact hP9, va_K.moved hW.alike hK, hD9⟩, hS.F ht⟩) hS.2.2 dX10_often_58
        · skip
          have f53 := bo_f hw18 c20
          refine lv_ldc hx hb hown (hts (Cond.constant RX10 89 (-1000001)) (wm_t (wm_l (wm_i 0 rfl)))) dX10_often_36 ?_
          have hP9 := hP
          have hD9 := hD
          exact W.iret (v := (-1000001)) hx hb hr (fun t ht hW => ⟨⟨(-1000001), lo, rfl, (by unfold sp_often; rw [if_neg (by omega)]), by rw [ht]; exact hP9, va_K.moved hW.alike hK, hD9⟩, hS.F ht⟩) hS.2.2 dX10_often_38
end
