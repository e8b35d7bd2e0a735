theorem Gd_X90 : gdA wsX90 := gd_all (by decide +kernel)
theorem cdX9_isMissing : yX9_isMissing.cls ≠ "java/lang/invoke/MethodHandle" ∧ yX9_isMissing.cls ≠ "java/lang/invoke/VarHandle" ∧ (parseMethodDescriptor yX9_isMissing.desc).map (fun d => d.parameters.length) = some 1 := by decide +kernel
theorem cdX9_hasPlaces : yX9_hasPlaces.cls ≠ "java/lang/invoke/MethodHandle" ∧ yX9_hasPlaces.cls ≠ "java/lang/invoke/VarHandle" ∧ (parseMethodDescriptor yX9_hasPlaces.desc).map (fun d => d.parameters.length) = some 3 := by decide +kernel
theorem cdX9_lay : yX9_lay.cls ≠ "java/lang/invoke/MethodHandle" ∧ yX9_lay.cls ≠ "java/lang/invoke/VarHandle" ∧ (parseMethodDescriptor yX9_lay.desc).map (fun d => d.parameters.length) = some 3 := by decide +kernel
theorem cdX9_put : yX9_put.cls ≠ "java/lang/invoke/MethodHandle" ∧ yX9_put.cls ≠ "java/lang/invoke/VarHandle" ∧ (parseMethodDescriptor yX9_put.desc).map (fun d => d.parameters.length) = some 3 := by decide +kernel
theorem cdX9_takeAway : yX9_takeAway.cls ≠ "java/lang/invoke/MethodHandle" ∧ yX9_takeAway.cls ≠ "java/lang/invoke/VarHandle" ∧ (parseMethodDescriptor yX9_takeAway.desc).map (fun d => d.parameters.length) = some 1 := by decide +kernel
theorem Gd_X9_isMissing : gdA wsX9_isMissing := gd_cons (by decide +kernel) (gd_app (gd_all (ws := wsX9_isMissing_o1) (by decide +kernel)) Gd_X90)
theorem inX9_isMissing_X9 : ∀ w ∈ u_ws RX9 TX9 3, w ∈ wsX9_isMissing := fun _ h => (List.mem_cons_of_mem _ (List.mem_append_right _ h))
theorem Gd_X9_hasPlaces : gdA wsX9_hasPlaces := gd_cons (by decide +kernel) (gd_app (gd_all (ws := wsX9_hasPlaces_o1) (by decide +kernel)) Gd_X90)
theorem inX9_hasPlaces_X9 : ∀ w ∈ u_ws RX9 TX9 3, w ∈ wsX9_hasPlaces := fun _ h => (List.mem_cons_of_mem _ (List.mem_append_right _ h))
theorem Gd_X9_lay : gdA wsX9_lay := gd_cons (by decide +kernel) (gd_app (gd_all (ws := wsX9_lay_o1) (by decide +kernel)) (gd_app Gd_X90 Gd_J7_fill_53178))
theorem inX9_lay_X9 : ∀ w ∈ u_ws RX9 TX9 3, w ∈ wsX9_lay := fun _ h => (List.mem_cons_of_mem _ (List.mem_append_right _ (List.mem_append_left _ h)))
theorem Gd_X9_put : gdA wsX9_put := gd_cons (by decide +kernel) (gd_app (gd_all (ws := wsX9_put_o1) (by decide +kernel)) Gd_X90)
theorem inX9_put_X9 : ∀ w ∈ u_ws RX9 TX9 3, w ∈ wsX9_put := fun _ h => (List.mem_cons_of_mem _ (List.mem_append_right _ h))
theorem Gd_X9_takeAway : gdA wsX9_takeAway := gd_cons (by decide +kernel) (gd_app (gd_all (ws := wsX9_takeAway_o1) (by decide +kernel)) Gd_X90)
theorem inX9_takeAway_X9 : ∀ w ∈ u_ws RX9 TX9 3, w ∈ wsX9_takeAway := fun _ h => (List.mem_cons_of_mem _ (List.mem_append_right _ h))
theorem inX10_sheet_X10 : ∀ w ∈ u_ws RX10 TX10 14, w ∈ wsX10_sheet := fun _ h => (List.mem_cons_of_mem _ (List.mem_append_right _ (List.mem_append_left _ (List.mem_append_left _ (List.mem_append_left _ h)))))
theorem inX10_set_X10 : ∀ w ∈ u_ws RX10 TX10 14, w ∈ wsX10_set := fun _ h => (List.mem_cons_of_mem _ (List.mem_append_right _ (List.mem_append_left _ (List.mem_append_left _ (List.mem_append_left _ h)))))
theorem inX10_copy_X10 : ∀ w ∈ u_ws RX10 TX10 14, w ∈ wsX10_copy := fun _ h => (List.mem_cons_of_mem _ (List.mem_append_right _ (List.mem_append_left _ (List.mem_append_left _ (List.mem_append_left _ h)))))
theorem inX10_copy_X9 : ∀ w ∈ u_ws RX9 TX9 3, w ∈ wsX10_copy := fun _ h => (List.mem_cons_of_mem _ (List.mem_append_right _ (List.mem_append_left _ (List.mem_append_left _ (List.mem_append_right _ h)))))
theorem inX10_drop_X9 : ∀ w ∈ u_ws RX9 TX9 3, w ∈ wsX10_drop := fun _ h => (List.mem_cons_of_mem _ (List.mem_append_right _ (List.mem_append_left _ (List.mem_append_left _ (List.mem_append_right _ h)))))
theorem inX10_drop_X10 : ∀ w ∈ u_ws RX10 TX10 14, w ∈ wsX10_drop := fun _ h => (List.mem_cons_of_mem _ (List.mem_append_right _ (List.mem_append_left _ (List.mem_append_left _ (List.mem_append_left _ h)))))
theorem dX9_isMissing_all0 : decode cX9_isMissing 0 = .ok (.aload_n 0, 1) ∧ decode cX9_isMissing 1 = .ok (.getfield 20, 3) ∧ decode cX9_isMissing 4 = .ok (.iload_n 1, 1) ∧ decode cX9_isMissing 5 = .ok (.iaload, 1) ∧ decode cX9_isMissing 6 = .ok (.iconst (-1), 1) ∧ decode cX9_isMissing 7 = .ok (.if_icmp .ne 7, 3) ∧ decode cX9_isMissing 10 = .ok (.iconst 1, 1) ∧ decode cX9_isMissing 11 = .ok (.goto 4, 3) ∧ decode cX9_isMissing 14 = .ok (.iconst 0, 1) ∧ decode cX9_isMissing 15 = .ok (.ireturn, 1) := by decide +kernel
theorem dX9_isMissing_0 : decode cX9_isMissing 0 = .ok (.aload_n 0, 1) := dX9_isMissing_all0.1
theorem dX9_isMissing_1 : decode cX9_isMissing 1 = .ok (.getfield 20, 3) := dX9_isMissing_all0.2.1
theorem dX9_isMissing_4 : decode cX9_isMissing 4 = .ok (.iload_n 1, 1) := dX9_isMissing_all0.2.2.1
theorem dX9_isMissing_5 : decode cX9_isMissing 5 = .ok (.iaload, 1) := dX9_isMissing_all0.2.2.2.1
theorem dX9_isMissing_6 : decode cX9_isMissing 6 = .ok (.iconst (-1), 1) := dX9_isMissing_all0.2.2.2.2.1
theorem dX9_isMissing_7 : decode cX9_isMissing 7 = .ok (.if_icmp .ne 7, 3) := dX9_isMissing_all0.2.2.2.2.2.1
theorem dX9_isMissing_10 : decode cX9_isMissing 10 = .ok (.iconst 1, 1) := dX9_isMissing_all0.2.2.2.2.2.2.1
theorem dX9_isMissing_11 : decode cX9_isMissing 11 = .ok (.goto 4, 3) := dX9_isMissing_all0.2.2.2.2.2.2.2.1
theorem dX9_isMissing_14 : decode cX9_isMissing 14 = .ok (.iconst 0, 1) := dX9_isMissing_all0.2.2.2.2.2.2.2.2.1
theorem dX9_isMissing_15 : decode cX9_isMissing 15 = .ok (.ireturn, 1) := dX9_isMissing_all0.2.2.2.2.2.2.2.2.2
theorem dX9_hasPlaces_all0 : decode cX9_hasPlaces 0 = .ok (.iload_n 2, 1) ∧ decode cX9_hasPlaces 1 = .ok (.ifCond .lt 33, 3) ∧ decode cX9_hasPlaces 4 = .ok (.iload_n 3, 1) ∧ decode cX9_hasPlaces 5 = .ok (.ifCond .lt 29, 3) ∧ decode cX9_hasPlaces 8 = .ok (.iload_n 2, 1) ∧ decode cX9_hasPlaces 9 = .ok (.aload_n 0, 1) ∧ decode cX9_hasPlaces 10 = .ok (.getfield 20, 3) ∧ decode cX9_hasPlaces 13 = .ok (.iload_n 1, 1) ∧ decode cX9_hasPlaces 14 = .ok (.iaload, 1) ∧ decode cX9_hasPlaces 15 = .ok (.if_icmp .gt 19, 3) ∧ decode cX9_hasPlaces 18 = .ok (.iload_n 3, 1) ∧ decode cX9_hasPlaces 19 = .ok (.aload_n 0, 1) := by decide +kernel
theorem dX9_hasPlaces_0 : decode cX9_hasPlaces 0 = .ok (.iload_n 2, 1) := dX9_hasPlaces_all0.1
theorem dX9_hasPlaces_1 : decode cX9_hasPlaces 1 = .ok (.ifCond .lt 33, 3) := dX9_hasPlaces_all0.2.1
theorem dX9_hasPlaces_4 : decode cX9_hasPlaces 4 = .ok (.iload_n 3, 1) := dX9_hasPlaces_all0.2.2.1
theorem dX9_hasPlaces_5 : decode cX9_hasPlaces 5 = .ok (.ifCond .lt 29, 3) := dX9_hasPlaces_all0.2.2.2.1
theorem dX9_hasPlaces_8 : decode cX9_hasPlaces 8 = .ok (.iload_n 2, 1) := dX9_hasPlaces_all0.2.2.2.2.1
theorem dX9_hasPlaces_9 : decode cX9_hasPlaces 9 = .ok (.aload_n 0, 1) := dX9_hasPlaces_all0.2.2.2.2.2.1
theorem dX9_hasPlaces_10 : decode cX9_hasPlaces 10 = .ok (.getfield 20, 3) := dX9_hasPlaces_all0.2.2.2.2.2.2.1
theorem dX9_hasPlaces_13 : decode cX9_hasPlaces 13 = .ok (.iload_n 1, 1) := dX9_hasPlaces_all0.2.2.2.2.2.2.2.1
theorem dX9_hasPlaces_14 : decode cX9_hasPlaces 14 = .ok (.iaload, 1) := dX9_hasPlaces_all0.2.2.2.2.2.2.2.2.1
theorem dX9_hasPlaces_15 : decode cX9_hasPlaces 15 = .ok (.if_icmp .gt 19, 3) := dX9_hasPlaces_all0.2.2.2.2.2.2.2.2.2.1
theorem dX9_hasPlaces_18 : decode cX9_hasPlaces 18 = .ok (.iload_n 3, 1) := dX9_hasPlaces_all0.2.2.2.2.2.2.2.2.2.2.1
theorem dX9_hasPlaces_19 : decode cX9_hasPlaces 19 = .ok (.aload_n 0, 1) := dX9_hasPlaces_all0.2.2.2.2.2.2.2.2.2.2.2
theorem dX9_hasPlaces_all1 : decode cX9_hasPlaces 20 = .ok (.getfield 20, 3) ∧ decode cX9_hasPlaces 23 = .ok (.iload_n 1, 1) ∧ decode cX9_hasPlaces 24 = .ok (.iaload, 1) ∧ decode cX9_hasPlaces 25 = .ok (.iload_n 2, 1) ∧ decode cX9_hasPlaces 26 = .ok (.isub, 1) ∧ decode cX9_hasPlaces 27 = .ok (.if_icmp .gt 7, 3) ∧ decode cX9_hasPlaces 30 = .ok (.iconst 1, 1) ∧ decode cX9_hasPlaces 31 = .ok (.goto 4, 3) ∧ decode cX9_hasPlaces 34 = .ok (.iconst 0, 1) ∧ decode cX9_hasPlaces 35 = .ok (.ireturn, 1) := by decide +kernel
theorem dX9_hasPlaces_20 : decode cX9_hasPlaces 20 = .ok (.getfield 20, 3) := dX9_hasPlaces_all1.1
theorem dX9_hasPlaces_23 : decode cX9_hasPlaces 23 = .ok (.iload_n 1, 1) := dX9_hasPlaces_all1.2.1
theorem dX9_hasPlaces_24 : decode cX9_hasPlaces 24 = .ok (.iaload, 1) := dX9_hasPlaces_all1.2.2.1
theorem dX9_hasPlaces_25 : decode cX9_hasPlaces 25 = .ok (.iload_n 2, 1) := dX9_hasPlaces_all1.2.2.2.1
theorem dX9_hasPlaces_26 : decode cX9_hasPlaces 26 = .ok (.isub, 1) := dX9_hasPlaces_all1.2.2.2.2.1
theorem dX9_hasPlaces_27 : decode cX9_hasPlaces 27 = .ok (.if_icmp .gt 7, 3) := dX9_hasPlaces_all1.2.2.2.2.2.1
theorem dX9_hasPlaces_30 : decode cX9_hasPlaces 30 = .ok (.iconst 1, 1) := dX9_hasPlaces_all1.2.2.2.2.2.2.1
theorem dX9_hasPlaces_31 : decode cX9_hasPlaces 31 = .ok (.goto 4, 3) := dX9_hasPlaces_all1.2.2.2.2.2.2.2.1
theorem dX9_hasPlaces_34 : decode cX9_hasPlaces 34 = .ok (.iconst 0, 1) := dX9_hasPlaces_all1.2.2.2.2.2.2.2.2.1
theorem dX9_hasPlaces_35 : decode cX9_hasPlaces 35 = .ok (.ireturn, 1) := dX9_hasPlaces_all1.2.2.2.2.2.2.2.2.2
theorem ggX9_lay_J7_fill_53178 : GoodIn wsX9_lay wsJ7_fill_53178 := goodIn_s (fun _ h => wm_t (wm_r (wm_r h))) Gd_J7_fill_53178
theorem gX9_lay_J7_fill_53178 : GoodIn wsX9_lay (va_wsS RX9 23 yJ7_fill_53178 wsJ7_fill_53178) := goodIn_S (own := RX9) (idx := 23) (y := yJ7_fill_53178) (wm_t (wm_l (wm_i 3 rfl))) (wm_t (wm_l (wm_i 4 rfl))) (wm_t (wm_l (wm_i 5 rfl))) ggX9_lay_J7_fill_53178
theorem dX9_lay_all0 : decode cX9_lay 0 = .ok (.aload_n 0, 1) ∧ decode cX9_lay 1 = .ok (.getfield 11, 3) ∧ decode cX9_lay 4 = .ok (.iload_n 1, 1) ∧ decode cX9_lay 5 = .ok (.aaload, 1) ∧ decode cX9_lay 6 = .ok (.iconst 0, 1) ∧ decode cX9_lay 7 = .ok (.invokestatic 23, 3) ∧ decode cX9_lay 10 = .ok (.aload_n 0, 1) ∧ decode cX9_lay 11 = .ok (.getfield 16, 3) ∧ decode cX9_lay 14 = .ok (.iload_n 1, 1) ∧ decode cX9_lay 15 = .ok (.iload_n 2, 1) ∧ decode cX9_lay 16 = .ok (.iastore, 1) ∧ decode cX9_lay 17 = .ok (.aload_n 0, 1) := by decide +kernel
theorem dX9_lay_0 : decode cX9_lay 0 = .ok (.aload_n 0, 1) := dX9_lay_all0.1
theorem dX9_lay_1 : decode cX9_lay 1 = .ok (.getfield 11, 3) := dX9_lay_all0.2.1
theorem dX9_lay_4 : decode cX9_lay 4 = .ok (.iload_n 1, 1) := dX9_lay_all0.2.2.1
theorem dX9_lay_5 : decode cX9_lay 5 = .ok (.aaload, 1) := dX9_lay_all0.2.2.2.1
theorem dX9_lay_6 : decode cX9_lay 6 = .ok (.iconst 0, 1) := dX9_lay_all0.2.2.2.2.1
theorem dX9_lay_7 : decode cX9_lay 7 = .ok (.invokestatic 23, 3) := dX9_lay_all0.2.2.2.2.2.1
theorem dX9_lay_10 : decode cX9_lay 10 = .ok (.aload_n 0, 1) := dX9_lay_all0.2.2.2.2.2.2.1
theorem dX9_lay_11 : decode cX9_lay 11 = .ok (.getfield 16, 3) := dX9_lay_all0.2.2.2.2.2.2.2.1
theorem dX9_lay_14 : decode cX9_lay 14 = .ok (.iload_n 1, 1) := dX9_lay_all0.2.2.2.2.2.2.2.2.1
theorem dX9_lay_15 : decode cX9_lay 15 = .ok (.iload_n 2, 1) := dX9_lay_all0.2.2.2.2.2.2.2.2.2.1
theorem dX9_lay_16 : decode cX9_lay 16 = .ok (.iastore, 1) := dX9_lay_all0.2.2.2.2.2.2.2.2.2.2.1
theorem dX9_lay_17 : decode cX9_lay 17 = .ok (.aload_n 0, 1) := dX9_lay_all0.2.2.2.2.2.2.2.2.2.2.2
theorem dX9_lay_all1 : decode cX9_lay 18 = .ok (.getfield 20, 3) ∧ decode cX9_lay 21 = .ok (.iload_n 1, 1) ∧ decode cX9_lay 22 = .ok (.iload_n 3, 1) ∧ decode cX9_lay 23 = .ok (.iastore, 1) ∧ decode cX9_lay 24 = .ok (.return_, 1) := by decide +kernel
theorem dX9_lay_18 : decode cX9_lay 18 = .ok (.getfield 20, 3) := dX9_lay_all1.1
theorem dX9_lay_21 : decode cX9_lay 21 = .ok (.iload_n 1, 1) := dX9_lay_all1.2.1
theorem dX9_lay_22 : decode cX9_lay 22 = .ok (.iload_n 3, 1) := dX9_lay_all1.2.2.1
theorem dX9_lay_23 : decode cX9_lay 23 = .ok (.iastore, 1) := dX9_lay_all1.2.2.2.1
theorem dX9_lay_24 : decode cX9_lay 24 = .ok (.return_, 1) := dX9_lay_all1.2.2.2.2
theorem dX9_put_all0 : decode cX9_put 0 = .ok (.aload_n 0, 1) ∧ decode cX9_put 1 = .ok (.getfield 16, 3) ∧ decode cX9_put 4 = .ok (.iload_n 1, 1) ∧ decode cX9_put 5 = .ok (.iaload, 1) ∧ decode cX9_put 6 = .ok (.ifCond .ne 8, 3) ∧ decode cX9_put 9 = .ok (.iload_n 3, 1) ∧ decode cX9_put 10 = .ok (.i2b, 1) ∧ decode cX9_put 11 = .ok (.goto 19, 3) ∧ decode cX9_put 14 = .ok (.aload_n 0, 1) ∧ decode cX9_put 15 = .ok (.getfield 16, 3) ∧ decode cX9_put 18 = .ok (.iload_n 1, 1) ∧ decode cX9_put 19 = .ok (.iaload, 1) := by decide +kernel
theorem dX9_put_0 : decode cX9_put 0 = .ok (.aload_n 0, 1) := dX9_put_all0.1
theorem dX9_put_1 : decode cX9_put 1 = .ok (.getfield 16, 3) := dX9_put_all0.2.1
theorem dX9_put_4 : decode cX9_put 4 = .ok (.iload_n 1, 1) := dX9_put_all0.2.2.1
theorem dX9_put_5 : decode cX9_put 5 = .ok (.iaload, 1) := dX9_put_all0.2.2.2.1
theorem dX9_put_6 : decode cX9_put 6 = .ok (.ifCond .ne 8, 3) := dX9_put_all0.2.2.2.2.1
theorem dX9_put_9 : decode cX9_put 9 = .ok (.iload_n 3, 1) := dX9_put_all0.2.2.2.2.2.1
theorem dX9_put_10 : decode cX9_put 10 = .ok (.i2b, 1) := dX9_put_all0.2.2.2.2.2.2.1
theorem dX9_put_11 : decode cX9_put 11 = .ok (.goto 19, 3) := dX9_put_all0.2.2.2.2.2.2.2.1
theorem dX9_put_14 : decode cX9_put 14 = .ok (.aload_n 0, 1) := dX9_put_all0.2.2.2.2.2.2.2.2.1
theorem dX9_put_15 : decode cX9_put 15 = .ok (.getfield 16, 3) := dX9_put_all0.2.2.2.2.2.2.2.2.2.1
theorem dX9_put_18 : decode cX9_put 18 = .ok (.iload_n 1, 1) := dX9_put_all0.2.2.2.2.2.2.2.2.2.2.1
theorem dX9_put_19 : decode cX9_put 19 = .ok (.iaload, 1) := dX9_put_all0.2.2.2.2.2.2.2.2.2.2.2
theorem dX9_put_all1 : decode cX9_put 20 = .ok (.iconst 1, 1) ∧ decode cX9_put 21 = .ok (.if_icmp .ne 8, 3) ∧ decode cX9_put 24 = .ok (.iload_n 3, 1) ∧ decode cX9_put 25 = .ok (.i2s, 1) ∧ decode cX9_put 26 = .ok (.goto 4, 3) ∧ decode cX9_put 29 = .ok (.iload_n 3, 1) ∧ decode cX9_put 30 = .ok (.istore 4, 2) ∧ decode cX9_put 32 = .ok (.aload_n 0, 1) ∧ decode cX9_put 33 = .ok (.getfield 11, 3) ∧ decode cX9_put 36 = .ok (.iload_n 1, 1) ∧ decode cX9_put 37 = .ok (.aaload, 1) ∧ decode cX9_put 38 = .ok (.iload_n 2, 1) := by decide +kernel
theorem dX9_put_20 : decode cX9_put 20 = .ok (.iconst 1, 1) := dX9_put_all1.1
theorem dX9_put_21 : decode cX9_put 21 = .ok (.if_icmp .ne 8, 3) := dX9_put_all1.2.1
theorem dX9_put_24 : decode cX9_put 24 = .ok (.iload_n 3, 1) := dX9_put_all1.2.2.1
theorem dX9_put_25 : decode cX9_put 25 = .ok (.i2s, 1) := dX9_put_all1.2.2.2.1
theorem dX9_put_26 : decode cX9_put 26 = .ok (.goto 4, 3) := dX9_put_all1.2.2.2.2.1
theorem dX9_put_29 : decode cX9_put 29 = .ok (.iload_n 3, 1) := dX9_put_all1.2.2.2.2.2.1
theorem dX9_put_30 : decode cX9_put 30 = .ok (.istore 4, 2) := dX9_put_all1.2.2.2.2.2.2.1
theorem dX9_put_32 : decode cX9_put 32 = .ok (.aload_n 0, 1) := dX9_put_all1.2.2.2.2.2.2.2.1
theorem dX9_put_33 : decode cX9_put 33 = .ok (.getfield 11, 3) := dX9_put_all1.2.2.2.2.2.2.2.2.1
theorem dX9_put_36 : decode cX9_put 36 = .ok (.iload_n 1, 1) := dX9_put_all1.2.2.2.2.2.2.2.2.2.1
theorem dX9_put_37 : decode cX9_put 37 = .ok (.aaload, 1) := dX9_put_all1.2.2.2.2.2.2.2.2.2.2.1
theorem dX9_put_38 : decode cX9_put 38 = .ok (.iload_n 2, 1) := dX9_put_all1.2.2.2.2.2.2.2.2.2.2.2
theorem dX9_put_all2 : decode cX9_put 39 = .ok (.iload 4, 2) ∧ decode cX9_put 41 = .ok (.iastore, 1) ∧ decode cX9_put 42 = .ok (.iload 4, 2) ∧ decode cX9_put 44 = .ok (.ireturn, 1) := by decide +kernel
theorem dX9_put_39 : decode cX9_put 39 = .ok (.iload 4, 2) := dX9_put_all2.1
theorem dX9_put_41 : decode cX9_put 41 = .ok (.iastore, 1) := dX9_put_all2.2.1
theorem dX9_put_42 : decode cX9_put 42 = .ok (.iload 4, 2) := dX9_put_all2.2.2.1
theorem dX9_put_44 : decode cX9_put 44 = .ok (.ireturn, 1) := dX9_put_all2.2.2.2
theorem dX9_takeAway_all0 : decode cX9_takeAway 0 = .ok (.aload_n 0, 1) ∧ decode cX9_takeAway 1 = .ok (.getfield 20, 3) ∧ decode cX9_takeAway 4 = .ok (.iload_n 1, 1) ∧ decode cX9_takeAway 5 = .ok (.iconst (-1), 1) ∧ decode cX9_takeAway 6 = .ok (.iastore, 1) ∧ decode cX9_takeAway 7 = .ok (.return_, 1) := by decide +kernel
theorem dX9_takeAway_0 : decode cX9_takeAway 0 = .ok (.aload_n 0, 1) := dX9_takeAway_all0.1
theorem dX9_takeAway_1 : decode cX9_takeAway 1 = .ok (.getfield 20, 3) := dX9_takeAway_all0.2.1
theorem dX9_takeAway_4 : decode cX9_takeAway 4 = .ok (.iload_n 1, 1) := dX9_takeAway_all0.2.2.1
theorem dX9_takeAway_5 : decode cX9_takeAway 5 = .ok (.iconst (-1), 1) := dX9_takeAway_all0.2.2.2.1
theorem dX9_takeAway_6 : decode cX9_takeAway 6 = .ok (.iastore, 1) := dX9_takeAway_all0.2.2.2.2.1
theorem dX9_takeAway_7 : decode cX9_takeAway 7 = .ok (.return_, 1) := dX9_takeAway_all0.2.2.2.2.2
theorem ggX9_howMany_X9_isMissing : GoodIn wsX9_howMany wsX9_isMissing := goodIn_s (fun _ h => wm_t (wm_r (wm_r h))) Gd_X9_isMissing
theorem gX9_howMany_X9_isMissing : GoodIn wsX9_howMany (wsV RX9 29 RX9 yX9_isMissing wsX9_isMissing) := goodIn_V (own := RX9) (idx := 29) (C := RX9) (y := yX9_isMissing) (wm_t (wm_l (wm_i 0 rfl))) (wm_t (wm_l (wm_i 1 rfl))) (wm_t (wm_l (wm_i 2 rfl))) (wm_t (wm_l (wm_i 3 rfl))) ggX9_howMany_X9_isMissing
theorem dX9_howMany_all0 : decode cX9_howMany 0 = .ok (.iconst 0, 1) ∧ decode cX9_howMany 1 = .ok (.istore_n 1, 1) ∧ decode cX9_howMany 2 = .ok (.iconst 0, 1) ∧ decode cX9_howMany 3 = .ok (.istore_n 2, 1) ∧ decode cX9_howMany 4 = .ok (.iload_n 2, 1) ∧ decode cX9_howMany 5 = .ok (.bipush 8, 2) ∧ decode cX9_howMany 7 = .ok (.if_icmp .ge 20, 3) ∧ decode cX9_howMany 10 = .ok (.aload_n 0, 1) ∧ decode cX9_howMany 11 = .ok (.iload_n 2, 1) ∧ decode cX9_howMany 12 = .ok (.invokevirtual 29, 3) ∧ decode cX9_howMany 15 = .ok (.ifCond .ne 6, 3) ∧ decode cX9_howMany 18 = .ok (.iinc 1 1, 3) := by decide +kernel
theorem dX9_howMany_0 : decode cX9_howMany 0 = .ok (.iconst 0, 1) := dX9_howMany_all0.1
theorem dX9_howMany_1 : decode cX9_howMany 1 = .ok (.istore_n 1, 1) := dX9_howMany_all0.2.1
theorem dX9_howMany_2 : decode cX9_howMany 2 = .ok (.iconst 0, 1) := dX9_howMany_all0.2.2.1
theorem dX9_howMany_3 : decode cX9_howMany 3 = .ok (.istore_n 2, 1) := dX9_howMany_all0.2.2.2.1
theorem dX9_howMany_4 : decode cX9_howMany 4 = .ok (.iload_n 2, 1) := dX9_howMany_all0.2.2.2.2.1
theorem dX9_howMany_5 : decode cX9_howMany 5 = .ok (.bipush 8, 2) := dX9_howMany_all0.2.2.2.2.2.1
theorem dX9_howMany_7 : decode cX9_howMany 7 = .ok (.if_icmp .ge 20, 3) := dX9_howMany_all0.2.2.2.2.2.2.1
theorem dX9_howMany_10 : decode cX9_howMany 10 = .ok (.aload_n 0, 1) := dX9_howMany_all0.2.2.2.2.2.2.2.1
theorem dX9_howMany_11 : decode cX9_howMany 11 = .ok (.iload_n 2, 1) := dX9_howMany_all0.2.2.2.2.2.2.2.2.1
theorem dX9_howMany_12 : decode cX9_howMany 12 = .ok (.invokevirtual 29, 3) := dX9_howMany_all0.2.2.2.2.2.2.2.2.2.1
theorem dX9_howMany_15 : decode cX9_howMany 15 = .ok (.ifCond .ne 6, 3) := dX9_howMany_all0.2.2.2.2.2.2.2.2.2.2.1
theorem dX9_howMany_18 : decode cX9_howMany 18 = .ok (.iinc 1 1, 3) := dX9_howMany_all0.2.2.2.2.2.2.2.2.2.2.2
theorem dX9_howMany_all1 : decode cX9_howMany 21 = .ok (.iinc 2 1, 3) ∧ decode cX9_howMany 24 = .ok (.goto (-20), 3) ∧ decode cX9_howMany 27 = .ok (.iload_n 1, 1) ∧ decode cX9_howMany 28 = .ok (.ireturn, 1) := by decide +kernel
theorem dX9_howMany_21 : decode cX9_howMany 21 = .ok (.iinc 2 1, 3) := dX9_howMany_all1.1
theorem dX9_howMany_24 : decode cX9_howMany 24 = .ok (.goto (-20), 3) := dX9_howMany_all1.2.1
theorem dX9_howMany_27 : decode cX9_howMany 27 = .ok (.iload_n 1, 1) := dX9_howMany_all1.2.2.1
theorem dX9_howMany_28 : decode cX9_howMany 28 = .ok (.ireturn, 1) := dX9_howMany_all1.2.2.2
theorem ggX10_sheet_X10_isBelow : GoodIn wsX10_sheet wsX10_isBelow := goodIn_s (fun _ h => wm_t (wm_r (wm_l (wm_r h)))) Gd_X10_isBelow
theorem gX10_sheet_X10_isBelow : GoodIn wsX10_sheet (va_wsS RX10 85 yX10_isBelow wsX10_isBelow) := goodIn_S (own := RX10) (idx := 85) (y := yX10_isBelow) (wm_t (wm_l (wm_i 2 rfl))) (wm_t (wm_l (wm_i 3 rfl))) (wm_t (wm_l (wm_i 4 rfl))) ggX10_sheet_X10_isBelow
theorem ggX10_sheet_X10_finding : GoodIn wsX10_sheet wsX10_finding := goodIn_s (fun _ h => wm_t (wm_r (wm_r (wm_l (wm_l h))))) Gd_X10_finding
theorem gX10_sheet_X10_finding : GoodIn wsX10_sheet (wsV RX10 90 RX10 yX10_finding wsX10_finding) := goodIn_V (own := RX10) (idx := 90) (C := RX10) (y := yX10_finding) (wm_t (wm_l (wm_i 5 rfl))) (wm_t (wm_l (wm_i 6 rfl))) (wm_t (wm_l (wm_i 7 rfl))) (wm_t (wm_l (wm_i 4 rfl))) ggX10_sheet_X10_finding
theorem ggX10_sheet_X9_lay : GoodIn wsX10_sheet wsX9_lay := goodIn_s (fun _ h => wm_t (wm_r (wm_r (wm_l (wm_r h))))) Gd_X9_lay
theorem gX10_sheet_X9_lay : GoodIn wsX10_sheet (wsV RX10 94 RX9 yX9_lay wsX9_lay) := goodIn_V (own := RX10) (idx := 94) (C := RX9) (y := yX9_lay) (wm_t (wm_l (wm_i 8 rfl))) (wm_t (wm_l (wm_i 9 rfl))) (wm_t (wm_l (wm_i 10 rfl))) (wm_t (wm_l (wm_i 11 rfl))) ggX10_sheet_X9_lay
theorem ggX10_sheet_X10_passed : GoodIn wsX10_sheet wsX10_passed := goodIn_s (fun _ h => wm_t (wm_r (wm_r (wm_r h)))) Gd_X10_passed
theorem gX10_sheet_X10_passed : GoodIn wsX10_sheet (wsV RX10 98 RX10 yX10_passed wsX10_passed) := goodIn_V (own := RX10) (idx := 98) (C := RX10) (y := yX10_passed) (wm_t (wm_l (wm_i 12 rfl))) (wm_t (wm_l (wm_i 13 rfl))) (wm_t (wm_l (wm_i 14 rfl))) (wm_t (wm_l (wm_i 4 rfl))) ggX10_sheet_X10_passed
theorem dX10_sheet_all0 : decode cX10_sheet 0 = .ok (.iload_n 1, 1) ∧ decode cX10_sheet 1 = .ok (.bipush 8, 2) ∧ decode cX10_sheet 3 = .ok (.invokestatic 85, 3) ∧ decode cX10_sheet 6 = .ok (.ifCond .eq 17, 3) ∧ decode cX10_sheet 9 = .ok (.iload_n 2, 1) ∧ decode cX10_sheet 10 = .ok (.iconst 3, 1) ∧ decode cX10_sheet 11 = .ok (.invokestatic 85, 3) ∧ decode cX10_sheet 14 = .ok (.ifCond .eq 9, 3) ∧ decode cX10_sheet 17 = .ok (.iload_n 3, 1) ∧ decode cX10_sheet 18 = .ok (.bipush 60, 2) ∧ decode cX10_sheet 20 = .ok (.if_icmp .le 6, 3) ∧ decode cX10_sheet 23 = .ok (.ldc 89, 2) := by decide +kernel
theorem dX10_sheet_0 : decode cX10_sheet 0 = .ok (.iload_n 1, 1) := dX10_sheet_all0.1
theorem dX10_sheet_1 : decode cX10_sheet 1 = .ok (.bipush 8, 2) := dX10_sheet_all0.2.1
theorem dX10_sheet_3 : decode cX10_sheet 3 = .ok (.invokestatic 85, 3) := dX10_sheet_all0.2.2.1
theorem dX10_sheet_6 : decode cX10_sheet 6 = .ok (.ifCond .eq 17, 3) := dX10_sheet_all0.2.2.2.1
theorem dX10_sheet_9 : decode cX10_sheet 9 = .ok (.iload_n 2, 1) := dX10_sheet_all0.2.2.2.2.1
theorem dX10_sheet_10 : decode cX10_sheet 10 = .ok (.iconst 3, 1) := dX10_sheet_all0.2.2.2.2.2.1
theorem dX10_sheet_11 : decode cX10_sheet 11 = .ok (.invokestatic 85, 3) := dX10_sheet_all0.2.2.2.2.2.2.1
theorem dX10_sheet_14 : decode cX10_sheet 14 = .ok (.ifCond .eq 9, 3) := dX10_sheet_all0.2.2.2.2.2.2.2.1
theorem dX10_sheet_17 : decode cX10_sheet 17 = .ok (.iload_n 3, 1) := dX10_sheet_all0.2.2.2.2.2.2.2.2.1
theorem dX10_sheet_18 : decode cX10_sheet 18 = .ok (.bipush 60, 2) := dX10_sheet_all0.2.2.2.2.2.2.2.2.2.1
theorem dX10_sheet_20 : decode cX10_sheet 20 = .ok (.if_icmp .le 6, 3) := dX10_sheet_all0.2.2.2.2.2.2.2.2.2.2.1
theorem dX10_sheet_23 : decode cX10_sheet 23 = .ok (.ldc 89, 2) := dX10_sheet_all0.2.2.2.2.2.2.2.2.2.2.2
theorem dX10_sheet_all1 : decode cX10_sheet 25 = .ok (.ireturn, 1) ∧ decode cX10_sheet 26 = .ok (.iload_n 3, 1) ∧ decode cX10_sheet 27 = .ok (.ifCond .ge 9, 3) ∧ decode cX10_sheet 30 = .ok (.aload_n 0, 1) ∧ decode cX10_sheet 31 = .ok (.iconst 4, 1) ∧ decode cX10_sheet 32 = .ok (.invokevirtual 90, 3) ∧ decode cX10_sheet 35 = .ok (.ireturn, 1) ∧ decode cX10_sheet 36 = .ok (.aload_n 0, 1) ∧ decode cX10_sheet 37 = .ok (.getfield 10, 3) ∧ decode cX10_sheet 40 = .ok (.iload_n 1, 1) ∧ decode cX10_sheet 41 = .ok (.iload_n 2, 1) ∧ decode cX10_sheet 42 = .ok (.iload_n 3, 1) := by decide +kernel
theorem dX10_sheet_25 : decode cX10_sheet 25 = .ok (.ireturn, 1) := dX10_sheet_all1.1
theorem dX10_sheet_26 : decode cX10_sheet 26 = .ok (.iload_n 3, 1) := dX10_sheet_all1.2.1
theorem dX10_sheet_27 : decode cX10_sheet 27 = .ok (.ifCond .ge 9, 3) := dX10_sheet_all1.2.2.1
theorem dX10_sheet_30 : decode cX10_sheet 30 = .ok (.aload_n 0, 1) := dX10_sheet_all1.2.2.2.1
theorem dX10_sheet_31 : decode cX10_sheet 31 = .ok (.iconst 4, 1) := dX10_sheet_all1.2.2.2.2.1
theorem dX10_sheet_32 : decode cX10_sheet 32 = .ok (.invokevirtual 90, 3) := dX10_sheet_all1.2.2.2.2.2.1
theorem dX10_sheet_35 : decode cX10_sheet 35 = .ok (.ireturn, 1) := dX10_sheet_all1.2.2.2.2.2.2.1
theorem dX10_sheet_36 : decode cX10_sheet 36 = .ok (.aload_n 0, 1) := dX10_sheet_all1.2.2.2.2.2.2.2.1
theorem dX10_sheet_37 : decode cX10_sheet 37 = .ok (.getfield 10, 3) := dX10_sheet_all1.2.2.2.2.2.2.2.2.1
theorem dX10_sheet_40 : decode cX10_sheet 40 = .ok (.iload_n 1, 1) := dX10_sheet_all1.2.2.2.2.2.2.2.2.2.1
theorem dX10_sheet_41 : decode cX10_sheet 41 = .ok (.iload_n 2, 1) := dX10_sheet_all1.2.2.2.2.2.2.2.2.2.2.1
theorem dX10_sheet_42 : decode cX10_sheet 42 = .ok (.iload_n 3, 1) := dX10_sheet_all1.2.2.2.2.2.2.2.2.2.2.2
theorem dX10_sheet_all2 : decode cX10_sheet 43 = .ok (.invokevirtual 94, 3) ∧ decode cX10_sheet 46 = .ok (.aload_n 0, 1) ∧ decode cX10_sheet 47 = .ok (.iload_n 3, 1) ∧ decode cX10_sheet 48 = .ok (.invokevirtual 98, 3) ∧ decode cX10_sheet 51 = .ok (.ireturn, 1) := by decide +kernel
theorem dX10_sheet_43 : decode cX10_sheet 43 = .ok (.invokevirtual 94, 3) := dX10_sheet_all2.1
theorem dX10_sheet_46 : decode cX10_sheet 46 = .ok (.aload_n 0, 1) := dX10_sheet_all2.2.1
theorem dX10_sheet_47 : decode cX10_sheet 47 = .ok (.iload_n 3, 1) := dX10_sheet_all2.2.2.1
theorem dX10_sheet_48 : decode cX10_sheet 48 = .ok (.invokevirtual 98, 3) := dX10_sheet_all2.2.2.2.1
theorem dX10_sheet_51 : decode cX10_sheet 51 = .ok (.ireturn, 1) := dX10_sheet_all2.2.2.2.2
theorem ggX10_set_X10_isBelow : GoodIn wsX10_set wsX10_isBelow := goodIn_s (fun _ h => wm_t (wm_r (wm_l (wm_r (wm_l h))))) Gd_X10_isBelow
theorem gX10_set_X10_isBelow : GoodIn wsX10_set (va_wsS RX10 85 yX10_isBelow wsX10_isBelow) := goodIn_S (own := RX10) (idx := 85) (y := yX10_isBelow) (wm_t (wm_l (wm_i 2 rfl))) (wm_t (wm_l (wm_i 3 rfl))) (wm_t (wm_l (wm_i 4 rfl))) ggX10_set_X10_isBelow
theorem ggX10_set_X9_isMissing : GoodIn wsX10_set wsX9_isMissing := goodIn_s (fun _ h => wm_t (wm_r (wm_l (wm_r (wm_r h))))) Gd_X9_isMissing
theorem gX10_set_X9_isMissing : GoodIn wsX10_set (wsV RX10 101 RX9 yX9_isMissing wsX9_isMissing) := goodIn_V (own := RX10) (idx := 101) (C := RX9) (y := yX9_isMissing) (wm_t (wm_l (wm_i 5 rfl))) (wm_t (wm_l (wm_i 6 rfl))) (wm_t (wm_l (wm_i 7 rfl))) (wm_t (wm_l (wm_i 8 rfl))) ggX10_set_X9_isMissing
theorem ggX10_set_X10_finding : GoodIn wsX10_set wsX10_finding := goodIn_s (fun _ h => wm_t (wm_r (wm_r (wm_l (wm_l h))))) Gd_X10_finding
theorem gX10_set_X10_finding : GoodIn wsX10_set (wsV RX10 90 RX10 yX10_finding wsX10_finding) := goodIn_V (own := RX10) (idx := 90) (C := RX10) (y := yX10_finding) (wm_t (wm_l (wm_i 9 rfl))) (wm_t (wm_l (wm_i 10 rfl))) (wm_t (wm_l (wm_i 11 rfl))) (wm_t (wm_l (wm_i 4 rfl))) ggX10_set_X10_finding
theorem ggX10_set_X9_hasPlaces : GoodIn wsX10_set wsX9_hasPlaces := goodIn_s (fun _ h => wm_t (wm_r (wm_r (wm_l (wm_r h))))) Gd_X9_hasPlaces
theorem gX10_set_X9_hasPlaces : GoodIn wsX10_set (wsV RX10 105 RX9 yX9_hasPlaces wsX9_hasPlaces) := goodIn_V (own := RX10) (idx := 105) (C := RX9) (y := yX9_hasPlaces) (wm_t (wm_l (wm_i 12 rfl))) (wm_t (wm_l (wm_i 13 rfl))) (wm_t (wm_l (wm_i 14 rfl))) (wm_t (wm_l (wm_i 8 rfl))) ggX10_set_X9_hasPlaces
theorem ggX10_set_X9_put : GoodIn wsX10_set wsX9_put := goodIn_s (fun _ h => wm_t (wm_r (wm_r (wm_r (wm_l h))))) Gd_X9_put
theorem gX10_set_X9_put : GoodIn wsX10_set (wsV RX10 109 RX9 yX9_put wsX9_put) := goodIn_V (own := RX10) (idx := 109) (C := RX9) (y := yX9_put) (wm_t (wm_l (wm_i 15 rfl))) (wm_t (wm_l (wm_i 16 rfl))) (wm_t (wm_l (wm_i 17 rfl))) (wm_t (wm_l (wm_i 8 rfl))) ggX10_set_X9_put
theorem ggX10_set_X10_passed : GoodIn wsX10_set wsX10_passed := goodIn_s (fun _ h => wm_t (wm_r (wm_r (wm_r (wm_r h))))) Gd_X10_passed
theorem gX10_set_X10_passed : GoodIn wsX10_set (wsV RX10 98 RX10 yX10_passed wsX10_passed) := goodIn_V (own := RX10) (idx := 98) (C := RX10) (y := yX10_passed) (wm_t (wm_l (wm_i 18 rfl))) (wm_t (wm_l (wm_i 19 rfl))) (wm_t (wm_l (wm_i 20 rfl))) (wm_t (wm_l (wm_i 4 rfl))) ggX10_set_X10_passed
theorem dX10_set_all0 : decode cX10_set 0 = .ok (.iload_n 1, 1) ∧ decode cX10_set 1 = .ok (.bipush 8, 2) ∧ decode cX10_set 3 = .ok (.invokestatic 85, 3) ∧ decode cX10_set 6 = .ok (.ifCond .ne 6, 3) ∧ decode cX10_set 9 = .ok (.ldc 89, 2) ∧ decode cX10_set 11 = .ok (.ireturn, 1) ∧ decode cX10_set 12 = .ok (.aload_n 0, 1) ∧ decode cX10_set 13 = .ok (.getfield 10, 3) ∧ decode cX10_set 16 = .ok (.iload_n 1, 1) ∧ decode cX10_set 17 = .ok (.invokevirtual 101, 3) ∧ decode cX10_set 20 = .ok (.ifCond .eq 9, 3) ∧ decode cX10_set 23 = .ok (.aload_n 0, 1) := by decide +kernel
theorem dX10_set_0 : decode cX10_set 0 = .ok (.iload_n 1, 1) := dX10_set_all0.1
theorem dX10_set_1 : decode cX10_set 1 = .ok (.bipush 8, 2) := dX10_set_all0.2.1
theorem dX10_set_3 : decode cX10_set 3 = .ok (.invokestatic 85, 3) := dX10_set_all0.2.2.1
theorem dX10_set_6 : decode cX10_set 6 = .ok (.ifCond .ne 6, 3) := dX10_set_all0.2.2.2.1
theorem dX10_set_9 : decode cX10_set 9 = .ok (.ldc 89, 2) := dX10_set_all0.2.2.2.2.1
theorem dX10_set_11 : decode cX10_set 11 = .ok (.ireturn, 1) := dX10_set_all0.2.2.2.2.2.1
theorem dX10_set_12 : decode cX10_set 12 = .ok (.aload_n 0, 1) := dX10_set_all0.2.2.2.2.2.2.1
theorem dX10_set_13 : decode cX10_set 13 = .ok (.getfield 10, 3) := dX10_set_all0.2.2.2.2.2.2.2.1
theorem dX10_set_16 : decode cX10_set 16 = .ok (.iload_n 1, 1) := dX10_set_all0.2.2.2.2.2.2.2.2.1
theorem dX10_set_17 : decode cX10_set 17 = .ok (.invokevirtual 101, 3) := dX10_set_all0.2.2.2.2.2.2.2.2.2.1
theorem dX10_set_20 : decode cX10_set 20 = .ok (.ifCond .eq 9, 3) := dX10_set_all0.2.2.2.2.2.2.2.2.2.2.1
theorem dX10_set_23 : decode cX10_set 23 = .ok (.aload_n 0, 1) := dX10_set_all0.2.2.2.2.2.2.2.2.2.2.2
theorem dX10_set_all1 : decode cX10_set 24 = .ok (.iconst 1, 1) ∧ decode cX10_set 25 = .ok (.invokevirtual 90, 3) ∧ decode cX10_set 28 = .ok (.ireturn, 1) ∧ decode cX10_set 29 = .ok (.aload_n 0, 1) ∧ decode cX10_set 30 = .ok (.getfield 10, 3) ∧ decode cX10_set 33 = .ok (.iload_n 1, 1) ∧ decode cX10_set 34 = .ok (.iload_n 2, 1) ∧ decode cX10_set 35 = .ok (.iconst 1, 1) ∧ decode cX10_set 36 = .ok (.invokevirtual 105, 3) ∧ decode cX10_set 39 = .ok (.ifCond .ne 9, 3) ∧ decode cX10_set 42 = .ok (.aload_n 0, 1) ∧ decode cX10_set 43 = .ok (.iconst 2, 1) := by decide +kernel
theorem dX10_set_24 : decode cX10_set 24 = .ok (.iconst 1, 1) := dX10_set_all1.1
theorem dX10_set_25 : decode cX10_set 25 = .ok (.invokevirtual 90, 3) := dX10_set_all1.2.1
theorem dX10_set_28 : decode cX10_set 28 = .ok (.ireturn, 1) := dX10_set_all1.2.2.1
theorem dX10_set_29 : decode cX10_set 29 = .ok (.aload_n 0, 1) := dX10_set_all1.2.2.2.1
theorem dX10_set_30 : decode cX10_set 30 = .ok (.getfield 10, 3) := dX10_set_all1.2.2.2.2.1
theorem dX10_set_33 : decode cX10_set 33 = .ok (.iload_n 1, 1) := dX10_set_all1.2.2.2.2.2.1
theorem dX10_set_34 : decode cX10_set 34 = .ok (.iload_n 2, 1) := dX10_set_all1.2.2.2.2.2.2.1
theorem dX10_set_35 : decode cX10_set 35 = .ok (.iconst 1, 1) := dX10_set_all1.2.2.2.2.2.2.2.1
theorem dX10_set_36 : decode cX10_set 36 = .ok (.invokevirtual 105, 3) := dX10_set_all1.2.2.2.2.2.2.2.2.1
theorem dX10_set_39 : decode cX10_set 39 = .ok (.ifCond .ne 9, 3) := dX10_set_all1.2.2.2.2.2.2.2.2.2.1
theorem dX10_set_42 : decode cX10_set 42 = .ok (.aload_n 0, 1) := dX10_set_all1.2.2.2.2.2.2.2.2.2.2.1
theorem dX10_set_43 : decode cX10_set 43 = .ok (.iconst 2, 1) := dX10_set_all1.2.2.2.2.2.2.2.2.2.2.2
theorem dX10_set_all2 : decode cX10_set 44 = .ok (.invokevirtual 90, 3) ∧ decode cX10_set 47 = .ok (.ireturn, 1) ∧ decode cX10_set 48 = .ok (.aload_n 0, 1) ∧ decode cX10_set 49 = .ok (.aload_n 0, 1) ∧ decode cX10_set 50 = .ok (.getfield 10, 3) ∧ decode cX10_set 53 = .ok (.iload_n 1, 1) ∧ decode cX10_set 54 = .ok (.iload_n 2, 1) ∧ decode cX10_set 55 = .ok (.iload_n 3, 1) ∧ decode cX10_set 56 = .ok (.invokevirtual 109, 3) ∧ decode cX10_set 59 = .ok (.invokevirtual 98, 3) ∧ decode cX10_set 62 = .ok (.ireturn, 1) := by decide +kernel
theorem dX10_set_44 : decode cX10_set 44 = .ok (.invokevirtual 90, 3) := dX10_set_all2.1
theorem dX10_set_47 : decode cX10_set 47 = .ok (.ireturn, 1) := dX10_set_all2.2.1
theorem dX10_set_48 : decode cX10_set 48 = .ok (.aload_n 0, 1) := dX10_set_all2.2.2.1
theorem dX10_set_49 : decode cX10_set 49 = .ok (.aload_n 0, 1) := dX10_set_all2.2.2.2.1
theorem dX10_set_50 : decode cX10_set 50 = .ok (.getfield 10, 3) := dX10_set_all2.2.2.2.2.1
theorem dX10_set_53 : decode cX10_set 53 = .ok (.iload_n 1, 1) := dX10_set_all2.2.2.2.2.2.1
theorem dX10_set_54 : decode cX10_set 54 = .ok (.iload_n 2, 1) := dX10_set_all2.2.2.2.2.2.2.1
theorem dX10_set_55 : decode cX10_set 55 = .ok (.iload_n 3, 1) := dX10_set_all2.2.2.2.2.2.2.2.1
theorem dX10_set_56 : decode cX10_set 56 = .ok (.invokevirtual 109, 3) := dX10_set_all2.2.2.2.2.2.2.2.2.1
theorem dX10_set_59 : decode cX10_set 59 = .ok (.invokevirtual 98, 3) := dX10_set_all2.2.2.2.2.2.2.2.2.2.1
theorem dX10_set_62 : decode cX10_set 62 = .ok (.ireturn, 1) := dX10_set_all2.2.2.2.2.2.2.2.2.2.2
theorem ggX10_copy_X10_isBelow : GoodIn wsX10_copy wsX10_isBelow := goodIn_s (fun _ h => wm_t (wm_r (wm_l (wm_r (wm_l h))))) Gd_X10_isBelow
theorem gX10_copy_X10_isBelow : GoodIn wsX10_copy (va_wsS RX10 85 yX10_isBelow wsX10_isBelow) := goodIn_S (own := RX10) (idx := 85) (y := yX10_isBelow) (wm_t (wm_l (wm_i 8 rfl))) (wm_t (wm_l (wm_i 9 rfl))) (wm_t (wm_l (wm_i 10 rfl))) ggX10_copy_X10_isBelow
theorem ggX10_copy_X9_isMissing : GoodIn wsX10_copy wsX9_isMissing := goodIn_s (fun _ h => wm_t (wm_r (wm_l (wm_r (wm_r h))))) Gd_X9_isMissing
theorem gX10_copy_X9_isMissing : GoodIn wsX10_copy (wsV RX10 101 RX9 yX9_isMissing wsX9_isMissing) := goodIn_V (own := RX10) (idx := 101) (C := RX9) (y := yX9_isMissing) (wm_t (wm_l (wm_i 11 rfl))) (wm_t (wm_l (wm_i 12 rfl))) (wm_t (wm_l (wm_i 13 rfl))) (wm_t (wm_l (wm_i 14 rfl))) ggX10_copy_X9_isMissing
theorem ggX10_copy_X10_finding : GoodIn wsX10_copy wsX10_finding := goodIn_s (fun _ h => wm_t (wm_r (wm_r (wm_l (wm_l h))))) Gd_X10_finding
theorem gX10_copy_X10_finding : GoodIn wsX10_copy (wsV RX10 90 RX10 yX10_finding wsX10_finding) := goodIn_V (own := RX10) (idx := 90) (C := RX10) (y := yX10_finding) (wm_t (wm_l (wm_i 15 rfl))) (wm_t (wm_l (wm_i 16 rfl))) (wm_t (wm_l (wm_i 17 rfl))) (wm_t (wm_l (wm_i 10 rfl))) ggX10_copy_X10_finding
theorem ggX10_copy_X9_hasPlaces : GoodIn wsX10_copy wsX9_hasPlaces := goodIn_s (fun _ h => wm_t (wm_r (wm_r (wm_l (wm_r h))))) Gd_X9_hasPlaces
theorem gX10_copy_X9_hasPlaces : GoodIn wsX10_copy (wsV RX10 105 RX9 yX9_hasPlaces wsX9_hasPlaces) := goodIn_V (own := RX10) (idx := 105) (C := RX9) (y := yX9_hasPlaces) (wm_t (wm_l (wm_i 18 rfl))) (wm_t (wm_l (wm_i 19 rfl))) (wm_t (wm_l (wm_i 20 rfl))) (wm_t (wm_l (wm_i 14 rfl))) ggX10_copy_X9_hasPlaces
theorem ggX10_copy_X10_passed : GoodIn wsX10_copy wsX10_passed := goodIn_s (fun _ h => wm_t (wm_r (wm_r (wm_r h)))) Gd_X10_passed
theorem gX10_copy_X10_passed : GoodIn wsX10_copy (wsV RX10 98 RX10 yX10_passed wsX10_passed) := goodIn_V (own := RX10) (idx := 98) (C := RX10) (y := yX10_passed) (wm_t (wm_l (wm_i 21 rfl))) (wm_t (wm_l (wm_i 22 rfl))) (wm_t (wm_l (wm_i 23 rfl))) (wm_t (wm_l (wm_i 10 rfl))) ggX10_copy_X10_passed
theorem dX10_copy_all0 : decode cX10_copy 0 = .ok (.iload_n 1, 1) ∧ decode cX10_copy 1 = .ok (.bipush 8, 2) ∧ decode cX10_copy 3 = .ok (.invokestatic 85, 3) ∧ decode cX10_copy 6 = .ok (.ifCond .eq 12, 3) ∧ decode cX10_copy 9 = .ok (.iload_n 3, 1) ∧ decode cX10_copy 10 = .ok (.bipush 8, 2) ∧ decode cX10_copy 12 = .ok (.invokestatic 85, 3) ∧ decode cX10_copy 15 = .ok (.ifCond .ne 6, 3) ∧ decode cX10_copy 18 = .ok (.ldc 89, 2) ∧ decode cX10_copy 20 = .ok (.ireturn, 1) ∧ decode cX10_copy 21 = .ok (.aload_n 0, 1) ∧ decode cX10_copy 22 = .ok (.getfield 10, 3) := by decide +kernel
theorem dX10_copy_0 : decode cX10_copy 0 = .ok (.iload_n 1, 1) := dX10_copy_all0.1
theorem dX10_copy_1 : decode cX10_copy 1 = .ok (.bipush 8, 2) := dX10_copy_all0.2.1
theorem dX10_copy_3 : decode cX10_copy 3 = .ok (.invokestatic 85, 3) := dX10_copy_all0.2.2.1
theorem dX10_copy_6 : decode cX10_copy 6 = .ok (.ifCond .eq 12, 3) := dX10_copy_all0.2.2.2.1
theorem dX10_copy_9 : decode cX10_copy 9 = .ok (.iload_n 3, 1) := dX10_copy_all0.2.2.2.2.1
theorem dX10_copy_10 : decode cX10_copy 10 = .ok (.bipush 8, 2) := dX10_copy_all0.2.2.2.2.2.1
theorem dX10_copy_12 : decode cX10_copy 12 = .ok (.invokestatic 85, 3) := dX10_copy_all0.2.2.2.2.2.2.1
theorem dX10_copy_15 : decode cX10_copy 15 = .ok (.ifCond .ne 6, 3) := dX10_copy_all0.2.2.2.2.2.2.2.1
theorem dX10_copy_18 : decode cX10_copy 18 = .ok (.ldc 89, 2) := dX10_copy_all0.2.2.2.2.2.2.2.2.1
theorem dX10_copy_20 : decode cX10_copy 20 = .ok (.ireturn, 1) := dX10_copy_all0.2.2.2.2.2.2.2.2.2.1
theorem dX10_copy_21 : decode cX10_copy 21 = .ok (.aload_n 0, 1) := dX10_copy_all0.2.2.2.2.2.2.2.2.2.2.1
theorem dX10_copy_22 : decode cX10_copy 22 = .ok (.getfield 10, 3) := dX10_copy_all0.2.2.2.2.2.2.2.2.2.2.2
theorem dX10_copy_all1 : decode cX10_copy 25 = .ok (.iload_n 1, 1) ∧ decode cX10_copy 26 = .ok (.invokevirtual 101, 3) ∧ decode cX10_copy 29 = .ok (.ifCond .ne 14, 3) ∧ decode cX10_copy 32 = .ok (.aload_n 0, 1) ∧ decode cX10_copy 33 = .ok (.getfield 10, 3) ∧ decode cX10_copy 36 = .ok (.iload_n 3, 1) ∧ decode cX10_copy 37 = .ok (.invokevirtual 101, 3) ∧ decode cX10_copy 40 = .ok (.ifCond .eq 9, 3) ∧ decode cX10_copy 43 = .ok (.aload_n 0, 1) ∧ decode cX10_copy 44 = .ok (.iconst 1, 1) ∧ decode cX10_copy 45 = .ok (.invokevirtual 90, 3) ∧ decode cX10_copy 48 = .ok (.ireturn, 1) := by decide +kernel
theorem dX10_copy_25 : decode cX10_copy 25 = .ok (.iload_n 1, 1) := dX10_copy_all1.1
theorem dX10_copy_26 : decode cX10_copy 26 = .ok (.invokevirtual 101, 3) := dX10_copy_all1.2.1
theorem dX10_copy_29 : decode cX10_copy 29 = .ok (.ifCond .ne 14, 3) := dX10_copy_all1.2.2.1
theorem dX10_copy_32 : decode cX10_copy 32 = .ok (.aload_n 0, 1) := dX10_copy_all1.2.2.2.1
theorem dX10_copy_33 : decode cX10_copy 33 = .ok (.getfield 10, 3) := dX10_copy_all1.2.2.2.2.1
theorem dX10_copy_36 : decode cX10_copy 36 = .ok (.iload_n 3, 1) := dX10_copy_all1.2.2.2.2.2.1
theorem dX10_copy_37 : decode cX10_copy 37 = .ok (.invokevirtual 101, 3) := dX10_copy_all1.2.2.2.2.2.2.1
theorem dX10_copy_40 : decode cX10_copy 40 = .ok (.ifCond .eq 9, 3) := dX10_copy_all1.2.2.2.2.2.2.2.1
theorem dX10_copy_43 : decode cX10_copy 43 = .ok (.aload_n 0, 1) := dX10_copy_all1.2.2.2.2.2.2.2.2.1
theorem dX10_copy_44 : decode cX10_copy 44 = .ok (.iconst 1, 1) := dX10_copy_all1.2.2.2.2.2.2.2.2.2.1
theorem dX10_copy_45 : decode cX10_copy 45 = .ok (.invokevirtual 90, 3) := dX10_copy_all1.2.2.2.2.2.2.2.2.2.2.1
theorem dX10_copy_48 : decode cX10_copy 48 = .ok (.ireturn, 1) := dX10_copy_all1.2.2.2.2.2.2.2.2.2.2.2
theorem dX10_copy_all2 : decode cX10_copy 49 = .ok (.aload_n 0, 1) ∧ decode cX10_copy 50 = .ok (.getfield 10, 3) ∧ decode cX10_copy 53 = .ok (.getfield 113, 3) ∧ decode cX10_copy 56 = .ok (.iload_n 1, 1) ∧ decode cX10_copy 57 = .ok (.iaload, 1) ∧ decode cX10_copy 58 = .ok (.aload_n 0, 1) ∧ decode cX10_copy 59 = .ok (.getfield 10, 3) ∧ decode cX10_copy 62 = .ok (.getfield 113, 3) ∧ decode cX10_copy 65 = .ok (.iload_n 3, 1) ∧ decode cX10_copy 66 = .ok (.iaload, 1) ∧ decode cX10_copy 67 = .ok (.if_icmp .eq 9, 3) ∧ decode cX10_copy 70 = .ok (.aload_n 0, 1) := by decide +kernel
theorem dX10_copy_49 : decode cX10_copy 49 = .ok (.aload_n 0, 1) := dX10_copy_all2.1
theorem dX10_copy_50 : decode cX10_copy 50 = .ok (.getfield 10, 3) := dX10_copy_all2.2.1
theorem dX10_copy_53 : decode cX10_copy 53 = .ok (.getfield 113, 3) := dX10_copy_all2.2.2.1
theorem dX10_copy_56 : decode cX10_copy 56 = .ok (.iload_n 1, 1) := dX10_copy_all2.2.2.2.1
theorem dX10_copy_57 : decode cX10_copy 57 = .ok (.iaload, 1) := dX10_copy_all2.2.2.2.2.1
theorem dX10_copy_58 : decode cX10_copy 58 = .ok (.aload_n 0, 1) := dX10_copy_all2.2.2.2.2.2.1
theorem dX10_copy_59 : decode cX10_copy 59 = .ok (.getfield 10, 3) := dX10_copy_all2.2.2.2.2.2.2.1
theorem dX10_copy_62 : decode cX10_copy 62 = .ok (.getfield 113, 3) := dX10_copy_all2.2.2.2.2.2.2.2.1
theorem dX10_copy_65 : decode cX10_copy 65 = .ok (.iload_n 3, 1) := dX10_copy_all2.2.2.2.2.2.2.2.2.1
theorem dX10_copy_66 : decode cX10_copy 66 = .ok (.iaload, 1) := dX10_copy_all2.2.2.2.2.2.2.2.2.2.1
theorem dX10_copy_67 : decode cX10_copy 67 = .ok (.if_icmp .eq 9, 3) := dX10_copy_all2.2.2.2.2.2.2.2.2.2.2.1
theorem dX10_copy_70 : decode cX10_copy 70 = .ok (.aload_n 0, 1) := dX10_copy_all2.2.2.2.2.2.2.2.2.2.2.2
theorem dX10_copy_all3 : decode cX10_copy 71 = .ok (.iconst 5, 1) ∧ decode cX10_copy 72 = .ok (.invokevirtual 90, 3) ∧ decode cX10_copy 75 = .ok (.ireturn, 1) ∧ decode cX10_copy 76 = .ok (.aload_n 0, 1) ∧ decode cX10_copy 77 = .ok (.getfield 10, 3) ∧ decode cX10_copy 80 = .ok (.iload_n 1, 1) ∧ decode cX10_copy 81 = .ok (.iload_n 2, 1) ∧ decode cX10_copy 82 = .ok (.iload 5, 2) ∧ decode cX10_copy 84 = .ok (.invokevirtual 105, 3) ∧ decode cX10_copy 87 = .ok (.ifCond .eq 18, 3) ∧ decode cX10_copy 90 = .ok (.aload_n 0, 1) ∧ decode cX10_copy 91 = .ok (.getfield 10, 3) := by decide +kernel
theorem dX10_copy_71 : decode cX10_copy 71 = .ok (.iconst 5, 1) := dX10_copy_all3.1
theorem dX10_copy_72 : decode cX10_copy 72 = .ok (.invokevirtual 90, 3) := dX10_copy_all3.2.1
theorem dX10_copy_75 : decode cX10_copy 75 = .ok (.ireturn, 1) := dX10_copy_all3.2.2.1
theorem dX10_copy_76 : decode cX10_copy 76 = .ok (.aload_n 0, 1) := dX10_copy_all3.2.2.2.1
theorem dX10_copy_77 : decode cX10_copy 77 = .ok (.getfield 10, 3) := dX10_copy_all3.2.2.2.2.1
theorem dX10_copy_80 : decode cX10_copy 80 = .ok (.iload_n 1, 1) := dX10_copy_all3.2.2.2.2.2.1
theorem dX10_copy_81 : decode cX10_copy 81 = .ok (.iload_n 2, 1) := dX10_copy_all3.2.2.2.2.2.2.1
theorem dX10_copy_82 : decode cX10_copy 82 = .ok (.iload 5, 2) := dX10_copy_all3.2.2.2.2.2.2.2.1
theorem dX10_copy_84 : decode cX10_copy 84 = .ok (.invokevirtual 105, 3) := dX10_copy_all3.2.2.2.2.2.2.2.2.1
theorem dX10_copy_87 : decode cX10_copy 87 = .ok (.ifCond .eq 18, 3) := dX10_copy_all3.2.2.2.2.2.2.2.2.2.1
theorem dX10_copy_90 : decode cX10_copy 90 = .ok (.aload_n 0, 1) := dX10_copy_all3.2.2.2.2.2.2.2.2.2.2.1
theorem dX10_copy_91 : decode cX10_copy 91 = .ok (.getfield 10, 3) := dX10_copy_all3.2.2.2.2.2.2.2.2.2.2.2
theorem dX10_copy_all4 : decode cX10_copy 94 = .ok (.iload_n 3, 1) ∧ decode cX10_copy 95 = .ok (.iload 4, 2) ∧ decode cX10_copy 97 = .ok (.iload 5, 2) ∧ decode cX10_copy 99 = .ok (.invokevirtual 105, 3) ∧ decode cX10_copy 102 = .ok (.ifCond .ne 9, 3) ∧ decode cX10_copy 105 = .ok (.aload_n 0, 1) ∧ decode cX10_copy 106 = .ok (.iconst 2, 1) ∧ decode cX10_copy 107 = .ok (.invokevirtual 90, 3) ∧ decode cX10_copy 110 = .ok (.ireturn, 1) ∧ decode cX10_copy 111 = .ok (.aload_n 0, 1) ∧ decode cX10_copy 112 = .ok (.getfield 10, 3) ∧ decode cX10_copy 115 = .ok (.getfield 116, 3) := by decide +kernel
theorem dX10_copy_94 : decode cX10_copy 94 = .ok (.iload_n 3, 1) := dX10_copy_all4.1
theorem dX10_copy_95 : decode cX10_copy 95 = .ok (.iload 4, 2) := dX10_copy_all4.2.1
theorem dX10_copy_97 : decode cX10_copy 97 = .ok (.iload 5, 2) := dX10_copy_all4.2.2.1
theorem dX10_copy_99 : decode cX10_copy 99 = .ok (.invokevirtual 105, 3) := dX10_copy_all4.2.2.2.1
theorem dX10_copy_102 : decode cX10_copy 102 = .ok (.ifCond .ne 9, 3) := dX10_copy_all4.2.2.2.2.1
theorem dX10_copy_105 : decode cX10_copy 105 = .ok (.aload_n 0, 1) := dX10_copy_all4.2.2.2.2.2.1
theorem dX10_copy_106 : decode cX10_copy 106 = .ok (.iconst 2, 1) := dX10_copy_all4.2.2.2.2.2.2.1
theorem dX10_copy_107 : decode cX10_copy 107 = .ok (.invokevirtual 90, 3) := dX10_copy_all4.2.2.2.2.2.2.2.1
theorem dX10_copy_110 : decode cX10_copy 110 = .ok (.ireturn, 1) := dX10_copy_all4.2.2.2.2.2.2.2.2.1
theorem dX10_copy_111 : decode cX10_copy 111 = .ok (.aload_n 0, 1) := dX10_copy_all4.2.2.2.2.2.2.2.2.2.1
theorem dX10_copy_112 : decode cX10_copy 112 = .ok (.getfield 10, 3) := dX10_copy_all4.2.2.2.2.2.2.2.2.2.2.1
theorem dX10_copy_115 : decode cX10_copy 115 = .ok (.getfield 116, 3) := dX10_copy_all4.2.2.2.2.2.2.2.2.2.2.2
theorem dX10_copy_all5 : decode cX10_copy 118 = .ok (.iload_n 1, 1) ∧ decode cX10_copy 119 = .ok (.aaload, 1) ∧ decode cX10_copy 120 = .ok (.iload_n 2, 1) ∧ decode cX10_copy 121 = .ok (.aload_n 0, 1) ∧ decode cX10_copy 122 = .ok (.getfield 10, 3) ∧ decode cX10_copy 125 = .ok (.getfield 116, 3) ∧ decode cX10_copy 128 = .ok (.iload_n 3, 1) ∧ decode cX10_copy 129 = .ok (.aaload, 1) ∧ decode cX10_copy 130 = .ok (.iload 4, 2) ∧ decode cX10_copy 132 = .ok (.iload 5, 2) ∧ decode cX10_copy 134 = .ok (.invokestatic 120, 3) ∧ decode cX10_copy 137 = .ok (.aload_n 0, 1) := by decide +kernel
theorem dX10_copy_118 : decode cX10_copy 118 = .ok (.iload_n 1, 1) := dX10_copy_all5.1
theorem dX10_copy_119 : decode cX10_copy 119 = .ok (.aaload, 1) := dX10_copy_all5.2.1
theorem dX10_copy_120 : decode cX10_copy 120 = .ok (.iload_n 2, 1) := dX10_copy_all5.2.2.1
theorem dX10_copy_121 : decode cX10_copy 121 = .ok (.aload_n 0, 1) := dX10_copy_all5.2.2.2.1
theorem dX10_copy_122 : decode cX10_copy 122 = .ok (.getfield 10, 3) := dX10_copy_all5.2.2.2.2.1
theorem dX10_copy_125 : decode cX10_copy 125 = .ok (.getfield 116, 3) := dX10_copy_all5.2.2.2.2.2.1
theorem dX10_copy_128 : decode cX10_copy 128 = .ok (.iload_n 3, 1) := dX10_copy_all5.2.2.2.2.2.2.1
theorem dX10_copy_129 : decode cX10_copy 129 = .ok (.aaload, 1) := dX10_copy_all5.2.2.2.2.2.2.2.1
theorem dX10_copy_130 : decode cX10_copy 130 = .ok (.iload 4, 2) := dX10_copy_all5.2.2.2.2.2.2.2.2.1
theorem dX10_copy_132 : decode cX10_copy 132 = .ok (.iload 5, 2) := dX10_copy_all5.2.2.2.2.2.2.2.2.2.1
theorem dX10_copy_134 : decode cX10_copy 134 = .ok (.invokestatic 120, 3) := dX10_copy_all5.2.2.2.2.2.2.2.2.2.2.1
theorem dX10_copy_137 : decode cX10_copy 137 = .ok (.aload_n 0, 1) := dX10_copy_all5.2.2.2.2.2.2.2.2.2.2.2
theorem dX10_copy_all6 : decode cX10_copy 138 = .ok (.iload 5, 2) ∧ decode cX10_copy 140 = .ok (.invokevirtual 98, 3) ∧ decode cX10_copy 143 = .ok (.ireturn, 1) := by decide +kernel
theorem dX10_copy_138 : decode cX10_copy 138 = .ok (.iload 5, 2) := dX10_copy_all6.1
theorem dX10_copy_140 : decode cX10_copy 140 = .ok (.invokevirtual 98, 3) := dX10_copy_all6.2.1
theorem dX10_copy_143 : decode cX10_copy 143 = .ok (.ireturn, 1) := dX10_copy_all6.2.2
theorem ggX10_drop_X10_isBelow : GoodIn wsX10_drop wsX10_isBelow := goodIn_s (fun _ h => wm_t (wm_r (wm_l (wm_r (wm_l h))))) Gd_X10_isBelow
theorem gX10_drop_X10_isBelow : GoodIn wsX10_drop (va_wsS RX10 85 yX10_isBelow wsX10_isBelow) := goodIn_S (own := RX10) (idx := 85) (y := yX10_isBelow) (wm_t (wm_l (wm_i 3 rfl))) (wm_t (wm_l (wm_i 4 rfl))) (wm_t (wm_l (wm_i 5 rfl))) ggX10_drop_X10_isBelow
theorem ggX10_drop_X9_isMissing : GoodIn wsX10_drop wsX9_isMissing := goodIn_s (fun _ h => wm_t (wm_r (wm_l (wm_r (wm_r h))))) Gd_X9_isMissing
theorem gX10_drop_X9_isMissing : GoodIn wsX10_drop (wsV RX10 101 RX9 yX9_isMissing wsX9_isMissing) := goodIn_V (own := RX10) (idx := 101) (C := RX9) (y := yX9_isMissing) (wm_t (wm_l (wm_i 6 rfl))) (wm_t (wm_l (wm_i 7 rfl))) (wm_t (wm_l (wm_i 8 rfl))) (wm_t (wm_l (wm_i 9 rfl))) ggX10_drop_X9_isMissing
theorem ggX10_drop_X10_finding : GoodIn wsX10_drop wsX10_finding := goodIn_s (fun _ h => wm_t (wm_r (wm_r (wm_l (wm_l h))))) Gd_X10_finding
theorem gX10_drop_X10_finding : GoodIn wsX10_drop (wsV RX10 90 RX10 yX10_finding wsX10_finding) := goodIn_V (own := RX10) (idx := 90) (C := RX10) (y := yX10_finding) (wm_t (wm_l (wm_i 10 rfl))) (wm_t (wm_l (wm_i 11 rfl))) (wm_t (wm_l (wm_i 12 rfl))) (wm_t (wm_l (wm_i 5 rfl))) ggX10_drop_X10_finding
theorem ggX10_drop_X9_takeAway : GoodIn wsX10_drop wsX9_takeAway := goodIn_s (fun _ h => wm_t (wm_r (wm_r (wm_l (wm_r h))))) Gd_X9_takeAway
theorem gX10_drop_X9_takeAway : GoodIn wsX10_drop (wsV RX10 129 RX9 yX9_takeAway wsX9_takeAway) := goodIn_V (own := RX10) (idx := 129) (C := RX9) (y := yX9_takeAway) (wm_t (wm_l (wm_i 13 rfl))) (wm_t (wm_l (wm_i 14 rfl))) (wm_t (wm_l (wm_i 15 rfl))) (wm_t (wm_l (wm_i 9 rfl))) ggX10_drop_X9_takeAway
theorem ggX10_drop_X10_passed : GoodIn wsX10_drop wsX10_passed := goodIn_s (fun _ h => wm_t (wm_r (wm_r (wm_r h)))) Gd_X10_passed
theorem gX10_drop_X10_passed : GoodIn wsX10_drop (wsV RX10 98 RX10 yX10_passed wsX10_passed) := goodIn_V (own := RX10) (idx := 98) (C := RX10) (y := yX10_passed) (wm_t (wm_l (wm_i 16 rfl))) (wm_t (wm_l (wm_i 17 rfl))) (wm_t (wm_l (wm_i 18 rfl))) (wm_t (wm_l (wm_i 5 rfl))) ggX10_drop_X10_passed
theorem dX10_drop_all0 : decode cX10_drop 0 = .ok (.iload_n 1, 1) ∧ decode cX10_drop 1 = .ok (.bipush 8, 2) ∧ decode cX10_drop 3 = .ok (.invokestatic 85, 3) ∧ decode cX10_drop 6 = .ok (.ifCond .ne 6, 3) ∧ decode cX10_drop 9 = .ok (.ldc 89, 2) ∧ decode cX10_drop 11 = .ok (.ireturn, 1) ∧ decode cX10_drop 12 = .ok (.aload_n 0, 1) ∧ decode cX10_drop 13 = .ok (.getfield 10, 3) ∧ decode cX10_drop 16 = .ok (.iload_n 1, 1) ∧ decode cX10_drop 17 = .ok (.invokevirtual 101, 3) ∧ decode cX10_drop 20 = .ok (.ifCond .eq 9, 3) ∧ decode cX10_drop 23 = .ok (.aload_n 0, 1) := by decide +kernel
theorem dX10_drop_0 : decode cX10_drop 0 = .ok (.iload_n 1, 1) := dX10_drop_all0.1
theorem dX10_drop_1 : decode cX10_drop 1 = .ok (.bipush 8, 2) := dX10_drop_all0.2.1
theorem dX10_drop_3 : decode cX10_drop 3 = .ok (.invokestatic 85, 3) := dX10_drop_all0.2.2.1
theorem dX10_drop_6 : decode cX10_drop 6 = .ok (.ifCond .ne 6, 3) := dX10_drop_all0.2.2.2.1
theorem dX10_drop_9 : decode cX10_drop 9 = .ok (.ldc 89, 2) := dX10_drop_all0.2.2.2.2.1
theorem dX10_drop_11 : decode cX10_drop 11 = .ok (.ireturn, 1) := dX10_drop_all0.2.2.2.2.2.1
theorem dX10_drop_12 : decode cX10_drop 12 = .ok (.aload_n 0, 1) := dX10_drop_all0.2.2.2.2.2.2.1
theorem dX10_drop_13 : decode cX10_drop 13 = .ok (.getfield 10, 3) := dX10_drop_all0.2.2.2.2.2.2.2.1
theorem dX10_drop_16 : decode cX10_drop 16 = .ok (.iload_n 1, 1) := dX10_drop_all0.2.2.2.2.2.2.2.2.1
theorem dX10_drop_17 : decode cX10_drop 17 = .ok (.invokevirtual 101, 3) := dX10_drop_all0.2.2.2.2.2.2.2.2.2.1
theorem dX10_drop_20 : decode cX10_drop 20 = .ok (.ifCond .eq 9, 3) := dX10_drop_all0.2.2.2.2.2.2.2.2.2.2.1
theorem dX10_drop_23 : decode cX10_drop 23 = .ok (.aload_n 0, 1) := dX10_drop_all0.2.2.2.2.2.2.2.2.2.2.2
theorem dX10_drop_all1 : decode cX10_drop 24 = .ok (.iconst 1, 1) ∧ decode cX10_drop 25 = .ok (.invokevirtual 90, 3) ∧ decode cX10_drop 28 = .ok (.ireturn, 1) ∧ decode cX10_drop 29 = .ok (.aload_n 0, 1) ∧ decode cX10_drop 30 = .ok (.getfield 10, 3) ∧ decode cX10_drop 33 = .ok (.getfield 126, 3) ∧ decode cX10_drop 36 = .ok (.iload_n 1, 1) ∧ decode cX10_drop 37 = .ok (.iaload, 1) ∧ decode cX10_drop 38 = .ok (.istore_n 2, 1) ∧ decode cX10_drop 39 = .ok (.aload_n 0, 1) ∧ decode cX10_drop 40 = .ok (.getfield 10, 3) ∧ decode cX10_drop 43 = .ok (.iload_n 1, 1) := by decide +kernel
theorem dX10_drop_24 : decode cX10_drop 24 = .ok (.iconst 1, 1) := dX10_drop_all1.1
theorem dX10_drop_25 : decode cX10_drop 25 = .ok (.invokevirtual 90, 3) := dX10_drop_all1.2.1
theorem dX10_drop_28 : decode cX10_drop 28 = .ok (.ireturn, 1) := dX10_drop_all1.2.2.1
theorem dX10_drop_29 : decode cX10_drop 29 = .ok (.aload_n 0, 1) := dX10_drop_all1.2.2.2.1
theorem dX10_drop_30 : decode cX10_drop 30 = .ok (.getfield 10, 3) := dX10_drop_all1.2.2.2.2.1
theorem dX10_drop_33 : decode cX10_drop 33 = .ok (.getfield 126, 3) := dX10_drop_all1.2.2.2.2.2.1
theorem dX10_drop_36 : decode cX10_drop 36 = .ok (.iload_n 1, 1) := dX10_drop_all1.2.2.2.2.2.2.1
theorem dX10_drop_37 : decode cX10_drop 37 = .ok (.iaload, 1) := dX10_drop_all1.2.2.2.2.2.2.2.1
theorem dX10_drop_38 : decode cX10_drop 38 = .ok (.istore_n 2, 1) := dX10_drop_all1.2.2.2.2.2.2.2.2.1
theorem dX10_drop_39 : decode cX10_drop 39 = .ok (.aload_n 0, 1) := dX10_drop_all1.2.2.2.2.2.2.2.2.2.1
theorem dX10_drop_40 : decode cX10_drop 40 = .ok (.getfield 10, 3) := dX10_drop_all1.2.2.2.2.2.2.2.2.2.2.1
theorem dX10_drop_43 : decode cX10_drop 43 = .ok (.iload_n 1, 1) := dX10_drop_all1.2.2.2.2.2.2.2.2.2.2.2
theorem dX10_drop_all2 : decode cX10_drop 44 = .ok (.invokevirtual 129, 3) ∧ decode cX10_drop 47 = .ok (.aload_n 0, 1) ∧ decode cX10_drop 48 = .ok (.iload_n 2, 1) ∧ decode cX10_drop 49 = .ok (.invokevirtual 98, 3) ∧ decode cX10_drop 52 = .ok (.ireturn, 1) := by decide +kernel
theorem dX10_drop_44 : decode cX10_drop 44 = .ok (.invokevirtual 129, 3) := dX10_drop_all2.1
theorem dX10_drop_47 : decode cX10_drop 47 = .ok (.aload_n 0, 1) := dX10_drop_all2.2.1
theorem dX10_drop_48 : decode cX10_drop 48 = .ok (.iload_n 2, 1) := dX10_drop_all2.2.2.1
theorem dX10_drop_49 : decode cX10_drop 49 = .ok (.invokevirtual 98, 3) := dX10_drop_all2.2.2.2.1
theorem dX10_drop_52 : decode cX10_drop 52 = .ok (.ireturn, 1) := dX10_drop_all2.2.2.2.2
/-- a sheet's row is another one -/
def upR (rs : Nat → Nat → Int32) (j : Nat) (g : Nat → Int32) : Nat → Nat → Int32 := fun i => if i = j then g else rs i
theorem rows_at {rw : Nat → Nat} {cI : ClassId} {rs : Nat → Nat → Int32} {X : va_W} {j : Nat} (hj : j < 8) : (((rw 0, .inl (cI, 60, .inl (rs 0))) :: (rw 1, .inl (cI, 60, .inl (rs 1))) :: (rw 2, .inl (cI, 60, .inl (rs 2))) :: (rw 3, .inl (cI, 60, .inl (rs 3))) :: (rw 4, .inl (cI, 60, .inl (rs 4))) :: (rw 5, .inl (cI, 60, .inl (rs 5))) :: (rw 6, .inl (cI, 60, .inl (rs 6))) :: (rw 7, .inl (cI, 60, .inl (rs 7))) :: X) : va_W)[j]? = some (rw j, .inl (cI, 60, .inl (rs j))) := by
  rcases (show j = 0 ∨ j = 1 ∨ j = 2 ∨ j = 3 ∨ j = 4 ∨ j = 5 ∨ j = 6 ∨ j = 7 by omega) with rfl | rfl | rfl | rfl | rfl | rfl | rfl | rfl <;> rfl
theorem rows_set {rw : Nat → Nat} {cI : ClassId} {rs : Nat → Nat → Int32} {g : Nat → Int32} {X : va_W} {j : Nat} (hj : j < 8) : (((rw 0, .inl (cI, 60, .inl (rs 0))) :: (rw 1, .inl (cI, 60, .inl (rs 1))) :: (rw 2, .inl (cI, 60, .inl (rs 2))) :: (rw 3, .inl (cI, 60, .inl (rs 3))) :: (rw 4, .inl (cI, 60, .inl (rs 4))) :: (rw 5, .inl (cI, 60, .inl (rs 5))) :: (rw 6, .inl (cI, 60, .inl (rs 6))) :: (rw 7, .inl (cI, 60, .inl (rs 7))) :: X) : va_W).set j (rw j, .inl (cI, 60, .inl g)) = (rw 0, .inl (cI, 60, .inl (upR rs j g 0))) :: (rw 1, .inl (cI, 60, .inl (upR rs j g 1))) :: (rw 2, .inl (cI, 60, .inl (upR rs j g 2))) :: (rw 3, .inl (cI, 60, .inl (upR rs j g 3))) :: (rw 4, .inl (cI, 60, .inl (upR rs j g 4))) :: (rw 5, .inl (cI, 60, .inl (upR rs j g 5))) :: (rw 6, .inl (cI, 60, .inl (upR rs j g 6))) :: (rw 7, .inl (cI, 60, .inl (upR rs j g 7))) :: X := by
  rcases (show j = 0 ∨ j = 1 ∨ j = 2 ∨ j = 3 ∨ j = 4 ∨ j = 5 ∨ j = 6 ∨ j = 7 by omega) with rfl | rfl | rfl | rfl | rfl | rfl | rfl | rfl <;> rfl
section AALD
variable {p : Program} {l : Launch} {e : Env} {R : Room} {s : State} {m : MethodId} {args : Array Value} {below : List Frame} {meth : Method} {c : Code} {H : Heap} {locs : List Loc} {cells slots : Nat} {Q : State → Prop}
variable {pc : Nat} {ls : Array Slot} {rest : List Value} {D : va_G} {tys : List (ClassId × FieldType)} {ws : va_W}
theorem st_aaldR {cc : ByteArray} {q1 : Nat} {rw : Nat → Nat} (hexec : p.tables.exec = Jvm.exec) (hb : c.code = cc) {cl : List vw_C} (hK : va_K D cl tys s) (hP : va_P D cl ws H) (q0 t0 : Nat) {cA : ClassId} {ty : FieldType} (ha : ws[q0]? = some (q1, .inl (cA, 8, .inr (.inr (.inr (.inr (fun i => if i < 8 then some (rw i) else none))))))) (ht : tys[t0]? = some (cA, .array ty)) {i : Int32} (hin : vp_in i 8) (hdg : decode cc pc = .ok (.aaload, 1))
    (kk : W p l e R s m args below meth c H locs cells slots Q (F0 m (pc + 1) ls (.ref (rw i.toNatClampNeg) :: rest))) : W p l e R s m args below meth c H locs cells slots Q (F0 m pc ls (.int i :: .ref q1 :: rest)) := by
  have hlt : i.toNatClampNeg < 8 := Nat.not_le.mp fun q => hin (Or.inr q)
  refine st_aald hexec hb hK hP q0 t0 ha ht hin hdg ?_
  have e9 : (if i.toNatClampNeg < 8 then some (rw i.toNatClampNeg) else none) = some (rw i.toNatClampNeg) := if_pos hlt
  rw [e9]
  exact kk
end AALD


def okS (ss : Nat → Int32) : Prop := ∀ j : Nat, j < 8 → -1 ≤ (ss j).toInt ∧ (ss j).toInt ≤ 60
theorem okS_at {ss : Nat → Int32} (h : okS ss) {i v : Int32} (e : v = ss i.toNatClampNeg) (h0 : 0 ≤ i.toInt) (h1 : i.toInt < 8) : -1 ≤ v.toInt ∧ v.toInt ≤ 60 := by
  have := i_cl h0
  rw [e]
  exact h _ (by omega)
theorem okS_up {ss : Nat → Int32} (h : okS ss) {n : Int32} (k : Nat) (h0 : -1 ≤ n.toInt) (h1 : n.toInt ≤ 60) : okS (upd ss k n) := by
  intro j hj
  by_cases e : j = k
  · subst e; rw [upd_s]; exact ⟨h0, h1⟩
  · rw [upd_n _ _ e]; exact h j hj

set_option maxHeartbeats 4000000 in
set_option maxRecDepth 100000 in
theorem ct_X9_isMissing (l : Launch) (D : va_G) (cI cY cJ cQ : ClassId) (sz : Nat) (ad : Nat → Nat) (ss : Nat → Int32) (a : Int32)  (h1 : 0 ≤ a.toInt) (h2 : a.toInt < 8)  : Met l yX9_isMissing wsX9_isMissing ({ frames := 0, cells := 0, slots := 0, locals := 0 }) (cPre D (ty4 cI cY cJ cQ) [(oC9 ad ), (aI cI (ad 14) 8 ss)] sz [.ref (ad 1), .int a]) (va_Qi (fun (r : Int32) (u : Unit) => r = if (ss a.toNatClampNeg).toInt = -1 then 1 else 0) (cB D (ty4 cI cY cJ cQ) (fun (u : Unit) => [(oC9 ad ), (aI cI (ad 14) 8 ss)]) (va_A [(oC9 ad ), (aI cI (ad 14) 8 ss)] sz)) (va_A [(oC9 ad ), (aI cI (ad 14) 8 ss)] sz)) 0 0 (va_A [(oC9 ad ), (aI cI (ad 14) 8 ss)] sz) := by
  refine Met.ofW (cc := cX9_isMissing) (maxL := 2) (ret := (some .boolean)) (by decide) rfl ?_
  intro p e s m args below meth c s₁ B hml hv
  obtain ⟨rfl, hsz, hP, hK, hD0, hN⟩ := hv
  have hx := B.exec
  have hb := B.bytes
  have hr := B.returns
  have hts := atoms_spec (ws := wsX9_isMissing) B.pre
  have hown : s.vm.findClass RX9 = some m.cls := findClass_of_methodNamed B.named
  have hlocks := B.notSynchronized
  subst hsz
  have hD := hD0.self (sz := s.heap.size)
  generalize hAe : va_A [(oC9 ad ), (aI cI (ad 14) 8 ss)] s.heap.size = A at hD ⊢
  have hA : ∀ q : Nat, s.heap.size ≤ q → A q := fun q h => by rw [← hAe]; exact Or.inr h
  have hS : va_S A s.heap s.heap [] := va_S.rf
  have hP : va_P D vwCl [(oC9 ad ), (aI cI (ad 14) 8 ss)] s.heap := hP
  have hl := lv_entry ([.ref (ad 1), .int a]) (n := 2) (Nat.le_of_ble_eq_true rfl)
  rw [lg_entry_eq]
  generalize (lg_sl ([.ref (ad 1), .int a]) ++ List.replicate (2 - (lg_sl ([.ref (ad 1), .int a])).length) Slot.unset).toArray = ls at hl ⊢
  have hl : lv_has ls 2 [(0, .ref (ad 1)), (1, .int a)] := hl
  have km1 : (-1 : Int32).toInt = -1 := by decide
  refine lv_aload_n hx hb dX9_isMissing_0 rfl (lv_at hl 0 rfl) ?_
  refine va_get (D := D) (ci := 9) (v := .ref (ad 14)) (C := RX9) (T := TX9) (N := 3) hx hb hts inX9_isMissing_X9 hown hK hP 0 rfl rfl 2 (by decide) (hts (Cond.fieldLink RX9 20 "PortRooms$Sheets" "size" "[I") (wm_t (wm_l (wm_i 0 rfl)))) (fun _ h9 => h9) rfl dX9_isMissing_1 ?_
  refine lv_iload_n hx hb dX9_isMissing_4 rfl (lv_at hl 1 rfl) ?_
  refine va_iald hx hb hK hP 1 0 rfl rfl (i_in (by omega) (by omega)) dX9_isMissing_5 ?_
  refine lv_topi (fun v1 ev1 => ?_)
  have tlv1 : v1.toInt = (ss a.toNatClampNeg).toInt := by rw [ev1]
  refine lv_iconst (v := (-1)) hx hb dX9_isMissing_6 (by decide) ?_
  refine lv_icmp_ne (tgt := 14) hx hb dX9_isMissing_7 (by decide) (fun c2 => ?_) (fun c2 => ?_)
  · skip
    have f3 := i_ne c2
    refine lv_iconst (v := 0) hx hb dX9_isMissing_14 (by decide) ?_
    have hP9 := hP
    have hD9 := hD
    exact W.zret (v := 0) hx hb hr rfl (fun t ht hW => ⟨⟨0, (), rfl, bo_no (by omega), by rw [ht]; exact hP9, va_K.moved hW.alike hK, hD9⟩, hS.F ht⟩) hS.2.2 dX9_isMissing_15
  · skip
    have f4 := i_eq c2
    refine lv_iconst (v := 1) hx hb dX9_isMissing_10 (by decide) ?_
    refine lv_goto (tgt := 15) hx hb dX9_isMissing_11 (by decide) ?_
    have hP9 := hP
    have hD9 := hD
    exact W.zret (v := 1) hx hb hr rfl (fun t ht hW => ⟨⟨1, (), rfl, bo_yes (by omega), by rw [ht]; exact hP9, va_K.moved hW.alike hK, hD9⟩, hS.F ht⟩) hS.2.2 dX9_isMissing_15

set_option maxHeartbeats 4000000 in
set_option maxRecDepth 100000 in
theorem ct_X9_hasPlaces (l : Launch) (D : va_G) (cI cY cJ cQ : ClassId) (sz : Nat) (ad : Nat → Nat) (ss : Nat → Int32) (a : Int32) (i : Int32) (n : Int32)  (h1 : 0 ≤ a.toInt) (h2 : a.toInt < 8) (h3 : okS ss)  : Met l yX9_hasPlaces wsX9_hasPlaces ({ frames := 0, cells := 0, slots := 0, locals := 0 }) (cPre D (ty4 cI cY cJ cQ) [(oC9 ad ), (aI cI (ad 14) 8 ss)] sz [.ref (ad 1), .int a, .int i, .int n]) (va_Qi (fun (r : Int32) (u : Unit) => r = if 0 ≤ i.toInt ∧ 0 ≤ n.toInt ∧ i.toInt + n.toInt ≤ (ss a.toNatClampNeg).toInt then 1 else 0) (cB D (ty4 cI cY cJ cQ) (fun (u : Unit) => [(oC9 ad ), (aI cI (ad 14) 8 ss)]) (va_A [(oC9 ad ), (aI cI (ad 14) 8 ss)] sz)) (va_A [(oC9 ad ), (aI cI (ad 14) 8 ss)] sz)) 0 0 (va_A [(oC9 ad ), (aI cI (ad 14) 8 ss)] sz) := by
  refine Met.ofW (cc := cX9_hasPlaces) (maxL := 4) (ret := (some .boolean)) (by decide) rfl ?_
  intro p e s m args below meth c s₁ B hml hv
  obtain ⟨rfl, hsz, hP, hK, hD0, hN⟩ := hv
  have hx := B.exec
  have hb := B.bytes
  have hr := B.returns
  have hts := atoms_spec (ws := wsX9_hasPlaces) B.pre
  have hown : s.vm.findClass RX9 = some m.cls := findClass_of_methodNamed B.named
  have hlocks := B.notSynchronized
  subst hsz
  have hD := hD0.self (sz := s.heap.size)
  generalize hAe : va_A [(oC9 ad ), (aI cI (ad 14) 8 ss)] s.heap.size = A at hD ⊢
  have hA : ∀ q : Nat, s.heap.size ≤ q → A q := fun q h => by rw [← hAe]; exact Or.inr h
  have hS : va_S A s.heap s.heap [] := va_S.rf
  have hP : va_P D vwCl [(oC9 ad ), (aI cI (ad 14) 8 ss)] s.heap := hP
  have hl := lv_entry ([.ref (ad 1), .int a, .int i, .int n]) (n := 4) (Nat.le_of_ble_eq_true rfl)
  rw [lg_entry_eq]
  generalize (lg_sl ([.ref (ad 1), .int a, .int i, .int n]) ++ List.replicate (4 - (lg_sl ([.ref (ad 1), .int a, .int i, .int n])).length) Slot.unset).toArray = ls at hl ⊢
  have hl : lv_has ls 4 [(0, .ref (ad 1)), (1, .int a), (2, .int i), (3, .int n)] := hl
  have k0 : (0 : Int32).toInt = 0 := by decide
  refine lv_iload_n hx hb dX9_hasPlaces_0 rfl (lv_at hl 2 rfl) ?_
  refine lv_if_lt (tgt := 34) hx hb dX9_hasPlaces_1 (by decide) (fun c1 => ?_) (fun c1 => ?_)
  · skip
    have f2 := i_lt c1
    refine lv_iconst (v := 0) hx hb dX9_hasPlaces_34 (by decide) ?_
    have hP9 := hP
    have hD9 := hD
    exact W.zret (v := 0) hx hb hr rfl (fun t ht hW => ⟨⟨0, (), rfl, bo_no (by omega), by rw [ht]; exact hP9, va_K.moved hW.alike hK, hD9⟩, hS.F ht⟩) hS.2.2 dX9_hasPlaces_35
  · skip
    have f3 := i_nlt c1
    refine lv_iload_n hx hb dX9_hasPlaces_4 rfl (lv_at hl 3 rfl) ?_
    refine lv_if_lt (tgt := 34) hx hb dX9_hasPlaces_5 (by decide) (fun c4 => ?_) (fun c4 => ?_)
    · skip
      have f5 := i_lt c4
      refine lv_iconst (v := 0) hx hb dX9_hasPlaces_34 (by decide) ?_
      have hP9 := hP
      have hD9 := hD
      exact W.zret (v := 0) hx hb hr rfl (fun t ht hW => ⟨⟨0, (), rfl, bo_no (by omega), by rw [ht]; exact hP9, va_K.moved hW.alike hK, hD9⟩, hS.F ht⟩) hS.2.2 dX9_hasPlaces_35
    · skip
      have f6 := i_nlt c4
      refine lv_iload_n hx hb dX9_hasPlaces_8 rfl (lv_at hl 2 rfl) ?_
      refine lv_aload_n hx hb dX9_hasPlaces_9 rfl (lv_at hl 0 rfl) ?_
      refine va_get (D := D) (ci := 9) (v := .ref (ad 14)) (C := RX9) (T := TX9) (N := 3) hx hb hts inX9_hasPlaces_X9 hown hK hP 0 rfl rfl 2 (by decide) (hts (Cond.fieldLink RX9 20 "PortRooms$Sheets" "size" "[I") (wm_t (wm_l (wm_i 0 rfl)))) (fun _ h9 => h9) rfl dX9_hasPlaces_10 ?_
      refine lv_iload_n hx hb dX9_hasPlaces_13 rfl (lv_at hl 1 rfl) ?_
      refine va_iald hx hb hK hP 1 0 rfl rfl (i_in (by omega) (by omega)) dX9_hasPlaces_14 ?_
      refine lv_topi (fun v7 ev7 => ?_)
      have tlv7 : v7.toInt = (ss a.toNatClampNeg).toInt := by rw [ev7]
      have qv7 := okS_at h3 ev7 (by omega) (by omega)
      refine lv_icmp_gt (tgt := 34) hx hb dX9_hasPlaces_15 (by decide) (fun c8 => ?_) (fun c8 => ?_)
      · skip
        have f9 := i_lt c8
        refine lv_iconst (v := 0) hx hb dX9_hasPlaces_34 (by decide) ?_
        have hP9 := hP
        have hD9 := hD
        exact W.zret (v := 0) hx hb hr rfl (fun t ht hW => ⟨⟨0, (), rfl, bo_no (by omega), by rw [ht]; exact hP9, va_K.moved hW.alike hK, hD9⟩, hS.F ht⟩) hS.2.2 dX9_hasPlaces_35
      · skip
        have f10 := i_nlt c8
        refine lv_iload_n hx hb dX9_hasPlaces_18 rfl (lv_at hl 3 rfl) ?_
        refine lv_aload_n hx hb dX9_hasPlaces_19 rfl (lv_at hl 0 rfl) ?_
        refine va_get (D := D) (ci := 9) (v := .ref (ad 14)) (C := RX9) (T := TX9) (N := 3) hx hb hts inX9_hasPlaces_X9 hown hK hP 0 rfl rfl 2 (by decide) (hts (Cond.fieldLink RX9 20 "PortRooms$Sheets" "size" "[I") (wm_t (wm_l (wm_i 0 rfl)))) (fun _ h9 => h9) rfl dX9_hasPlaces_20 ?_
        refine lv_iload_n hx hb dX9_hasPlaces_23 rfl (lv_at hl 1 rfl) ?_
        refine va_iald hx hb hK hP 1 0 rfl rfl (i_in (by omega) (by omega)) dX9_hasPlaces_24 ?_
        refine lv_topi (fun v11 ev11 => ?_)
        have tlv11 : v11.toInt = (ss a.toNatClampNeg).toInt := by rw [ev11]
        have qv11 := okS_at h3 ev11 (by omega) (by omega)
        refine lv_iload_n hx hb dX9_hasPlaces_25 rfl (lv_at hl 2 rfl) ?_
        refine lv_isub hx hb dX9_hasPlaces_26 ?_
        refine lv_topi (fun v12 ev12 => ?_)
        try have tv12 : v12.toInt = v11.toInt - i.toInt := by rw [ev12]; exact (i_sub (x := v11) (y := i) (by omega) (by omega))
        refine lv_icmp_gt (tgt := 34) hx hb dX9_hasPlaces_27 (by decide) (fun c13 => ?_) (fun c13 => ?_)
        · skip
          have f14 := i_lt c13
          refine lv_iconst (v := 0) hx hb dX9_hasPlaces_34 (by decide) ?_
          have hP9 := hP
          have hD9 := hD
          exact W.zret (v := 0) hx hb hr rfl (fun t ht hW => ⟨⟨0, (), rfl, bo_no (by omega), by rw [ht]; exact hP9, va_K.moved hW.alike hK, hD9⟩, hS.F ht⟩) hS.2.2 dX9_hasPlaces_35
        · skip
          have f15 := i_nlt c13
          refine lv_iconst (v := 1) hx hb dX9_hasPlaces_30 (by decide) ?_
          refine lv_goto (tgt := 35) hx hb dX9_hasPlaces_31 (by decide) ?_
          have hP9 := hP
          have hD9 := hD
          exact W.zret (v := 1) hx hb hr rfl (fun t ht hW => ⟨⟨1, (), rfl, bo_yes (by omega), by rw [ht]; exact hP9, va_K.moved hW.alike hK, hD9⟩, hS.F ht⟩) hS.2.2 dX9_hasPlaces_35

set_option maxHeartbeats 4000000 in
set_option maxRecDepth 100000 in
theorem ct_X9_takeAway (l : Launch) (D : va_G) (cI cY cJ cQ : ClassId) (sz : Nat) (ad : Nat → Nat) (ss : Nat → Int32) (a : Int32)  (h1 : 0 ≤ a.toInt) (h2 : a.toInt < 8)  : Met l yX9_takeAway wsX9_takeAway ({ frames := 0, cells := 0, slots := 0, locals := 0 }) (cPre D (ty4 cI cY cJ cQ) [(oC9 ad ), (aI cI (ad 14) 8 ss)] sz [.ref (ad 1), .int a]) (va_Qv (fun (u : Unit) => True) (cB D (ty4 cI cY cJ cQ) (fun (u : Unit) => [(oC9 ad ), (aI cI (ad 14) 8 (upd ss a.toNatClampNeg (-1)))]) (va_A [(oC9 ad ), (aI cI (ad 14) 8 ss)] sz)) (va_A [(oC9 ad ), (aI cI (ad 14) 8 ss)] sz)) 0 0 (va_A [(oC9 ad ), (aI cI (ad 14) 8 ss)] sz) := by
  refine Met.ofW (cc := cX9_takeAway) (maxL := 2) (ret := none) (by decide) rfl ?_
  intro p e s m args below meth c s₁ B hml hv
  obtain ⟨rfl, hsz, hP, hK, hD0, hN⟩ := hv
  have hx := B.exec
  have hb := B.bytes
  have hr := B.returns
  have hts := atoms_spec (ws := wsX9_takeAway) B.pre
  have hown : s.vm.findClass RX9 = some m.cls := findClass_of_methodNamed B.named
  have hlocks := B.notSynchronized
  subst hsz
  have hD := hD0.self (sz := s.heap.size)
  generalize hAe : va_A [(oC9 ad ), (aI cI (ad 14) 8 ss)] s.heap.size = A at hD ⊢
  have hA : ∀ q : Nat, s.heap.size ≤ q → A q := fun q h => by rw [← hAe]; exact Or.inr h
  have hS : va_S A s.heap s.heap [] := va_S.rf
  have hP : va_P D vwCl [(oC9 ad ), (aI cI (ad 14) 8 ss)] s.heap := hP
  have hl := lv_entry ([.ref (ad 1), .int a]) (n := 2) (Nat.le_of_ble_eq_true rfl)
  rw [lg_entry_eq]
  generalize (lg_sl ([.ref (ad 1), .int a]) ++ List.replicate (2 - (lg_sl ([.ref (ad 1), .int a])).length) Slot.unset).toArray = ls at hl ⊢
  have hl : lv_has ls 2 [(0, .ref (ad 1)), (1, .int a)] := hl
  refine lv_aload_n hx hb dX9_takeAway_0 rfl (lv_at hl 0 rfl) ?_
  refine va_get (D := D) (ci := 9) (v := .ref (ad 14)) (C := RX9) (T := TX9) (N := 3) hx hb hts inX9_takeAway_X9 hown hK hP 0 rfl rfl 2 (by decide) (hts (Cond.fieldLink RX9 20 "PortRooms$Sheets" "size" "[I") (wm_t (wm_l (wm_i 0 rfl)))) (fun _ h9 => h9) rfl dX9_takeAway_1 ?_
  refine lv_iload_n hx hb dX9_takeAway_4 rfl (lv_at hl 1 rfl) ?_
  refine lv_iconst (v := (-1)) hx hb dX9_takeAway_5 (by decide) ?_
  refine va_iast hx hb hK hP hD hS 1 0 rfl rfl (i_in (by omega) (by omega)) dX9_takeAway_6 (fun H locs => ?_)
  clear hP hD hS
  intro hP hD hS
  replace hP : va_P D vwCl [(oC9 ad ), (aI cI (ad 14) 8 (upd ss a.toNatClampNeg (-1)))] H := hP
  replace hD : va_D A [(oC9 ad ), (aI cI (ad 14) 8 (upd ss a.toNatClampNeg (-1)))] := hD
  have hP9 := hP
  have hD9 := hD
  exact W.vret hx hb hr (fun t ht hW => ⟨⟨(), rfl, trivial, by rw [ht]; exact hP9, va_K.moved hW.alike hK, hD9⟩, hS.F ht⟩) hS.2.2 dX9_takeAway_7

set_option maxHeartbeats 4000000 in
set_option maxRecDepth 100000 in
theorem ct_X9_lay (l : Launch) (D : va_G) (cI cY cJ cQ : ClassId) (sz : Nat) (ad : Nat → Nat) (rw : Nat → Nat) (rs : Nat → Nat → Int32) (sl ss : Nat → Int32) (a : Int32) (b : Int32) (n : Int32) (j : Nat)  (h1 : 0 ≤ a.toInt) (h2 : a.toInt < 8) (h3 : a.toInt = (j : Int))  : Met l yX9_lay wsX9_lay ({ frames := 1, cells := 0, slots := 0, locals := 23 }) (cPre D (ty4 cI cY cJ cQ) [(aI cI (rw 0) 60 (rs 0)), (aI cI (rw 1) 60 (rs 1)), (aI cI (rw 2) 60 (rs 2)), (aI cI (rw 3) 60 (rs 3)), (aI cI (rw 4) 60 (rs 4)), (aI cI (rw 5) 60 (rs 5)), (aI cI (rw 6) 60 (rs 6)), (aI cI (rw 7) 60 (rs 7)), (oC9 ad ), ((ad 12), .inl (cQ, 8, .inr (.inr (.inr (.inr (fun i => if i < 8 then some (rw i) else none)))))), (aI cI (ad 13) 8 sl), (aI cI (ad 14) 8 ss)] sz [.ref (ad 1), .int a, .int b, .int n]) (va_Qv (fun (u : Unit) => True) (cB D (ty4 cI cY cJ cQ) (fun (u : Unit) => [(aI cI (rw 0) 60 ((upR rs j (fun _ => 0)) 0)), (aI cI (rw 1) 60 ((upR rs j (fun _ => 0)) 1)), (aI cI (rw 2) 60 ((upR rs j (fun _ => 0)) 2)), (aI cI (rw 3) 60 ((upR rs j (fun _ => 0)) 3)), (aI cI (rw 4) 60 ((upR rs j (fun _ => 0)) 4)), (aI cI (rw 5) 60 ((upR rs j (fun _ => 0)) 5)), (aI cI (rw 6) 60 ((upR rs j (fun _ => 0)) 6)), (aI cI (rw 7) 60 ((upR rs j (fun _ => 0)) 7)), (oC9 ad ), ((ad 12), .inl (cQ, 8, .inr (.inr (.inr (.inr (fun i => if i < 8 then some (rw i) else none)))))), (aI cI (ad 13) 8 (upd sl a.toNatClampNeg b)), (aI cI (ad 14) 8 (upd ss a.toNatClampNeg n))]) (va_A [(aI cI (rw 0) 60 (rs 0)), (aI cI (rw 1) 60 (rs 1)), (aI cI (rw 2) 60 (rs 2)), (aI cI (rw 3) 60 (rs 3)), (aI cI (rw 4) 60 (rs 4)), (aI cI (rw 5) 60 (rs 5)), (aI cI (rw 6) 60 (rs 6)), (aI cI (rw 7) 60 (rs 7)), (oC9 ad ), ((ad 12), .inl (cQ, 8, .inr (.inr (.inr (.inr (fun i => if i < 8 then some (rw i) else none)))))), (aI cI (ad 13) 8 sl), (aI cI (ad 14) 8 ss)] sz)) (va_A [(aI cI (rw 0) 60 (rs 0)), (aI cI (rw 1) 60 (rs 1)), (aI cI (rw 2) 60 (rs 2)), (aI cI (rw 3) 60 (rs 3)), (aI cI (rw 4) 60 (rs 4)), (aI cI (rw 5) 60 (rs 5)), (aI cI (rw 6) 60 (rs 6)), (aI cI (rw 7) 60 (rs 7)), (oC9 ad ), ((ad 12), .inl (cQ, 8, .inr (.inr (.inr (.inr (fun i => if i < 8 then some (rw i) else none)))))), (aI cI (ad 13) 8 sl), (aI cI (ad 14) 8 ss)] sz)) 0 0 (va_A [(aI cI (rw 0) 60 (rs 0)), (aI cI (rw 1) 60 (rs 1)), (aI cI (rw 2) 60 (rs 2)), (aI cI (rw 3) 60 (rs 3)), (aI cI (rw 4) 60 (rs 4)), (aI cI (rw 5) 60 (rs 5)), (aI cI (rw 6) 60 (rs 6)), (aI cI (rw 7) 60 (rs 7)), (oC9 ad ), ((ad 12), .inl (cQ, 8, .inr (.inr (.inr (.inr (fun i => if i < 8 then some (rw i) else none)))))), (aI cI (ad 13) 8 sl), (aI cI (ad 14) 8 ss)] sz) := by
  refine Met.ofW (cc := cX9_lay) (maxL := 4) (ret := none) (by decide) rfl ?_
  intro p e s m args below meth c s₁ B hml hv
  obtain ⟨rfl, hsz, hP, hK, hD0, hN⟩ := hv
  have hx := B.exec
  have hb := B.bytes
  have hr := B.returns
  have hts := atoms_spec (ws := wsX9_lay) B.pre
  have hown : s.vm.findClass RX9 = some m.cls := findClass_of_methodNamed B.named
  have hlocks := B.notSynchronized
  subst hsz
  have hD := hD0.self (sz := s.heap.size)
  generalize hAe : va_A [(aI cI (rw 0) 60 (rs 0)), (aI cI (rw 1) 60 (rs 1)), (aI cI (rw 2) 60 (rs 2)), (aI cI (rw 3) 60 (rs 3)), (aI cI (rw 4) 60 (rs 4)), (aI cI (rw 5) 60 (rs 5)), (aI cI (rw 6) 60 (rs 6)), (aI cI (rw 7) 60 (rs 7)), (oC9 ad ), ((ad 12), .inl (cQ, 8, .inr (.inr (.inr (.inr (fun i => if i < 8 then some (rw i) else none)))))), (aI cI (ad 13) 8 sl), (aI cI (ad 14) 8 ss)] s.heap.size = A at hD ⊢
  have hA : ∀ q : Nat, s.heap.size ≤ q → A q := fun q h => by rw [← hAe]; exact Or.inr h
  have hS : va_S A s.heap s.heap [] := va_S.rf
  have hP : va_P D vwCl [(aI cI (rw 0) 60 (rs 0)), (aI cI (rw 1) 60 (rs 1)), (aI cI (rw 2) 60 (rs 2)), (aI cI (rw 3) 60 (rs 3)), (aI cI (rw 4) 60 (rs 4)), (aI cI (rw 5) 60 (rs 5)), (aI cI (rw 6) 60 (rs 6)), (aI cI (rw 7) 60 (rs 7)), (oC9 ad ), ((ad 12), .inl (cQ, 8, .inr (.inr (.inr (.inr (fun i => if i < 8 then some (rw i) else none)))))), (aI cI (ad 13) 8 sl), (aI cI (ad 14) 8 ss)] s.heap := hP
  have hl := lv_entry ([.ref (ad 1), .int a, .int b, .int n]) (n := 4) (Nat.le_of_ble_eq_true rfl)
  rw [lg_entry_eq]
  generalize (lg_sl ([.ref (ad 1), .int a, .int b, .int n]) ++ List.replicate (4 - (lg_sl ([.ref (ad 1), .int a, .int b, .int n])).length) Slot.unset).toArray = ls at hl ⊢
  have hl : lv_has ls 4 [(0, .ref (ad 1)), (1, .int a), (2, .int b), (3, .int n)] := hl
  have k0 : (0 : Int32).toInt = 0 := by decide
  rcases (show j = 0 ∨ j = 1 ∨ j = 2 ∨ j = 3 ∨ j = 4 ∨ j = 5 ∨ j = 6 ∨ j = 7 by omega) with rfl | rfl | rfl | rfl | rfl | rfl | rfl | rfl
  · skip
    refine lv_aload_n hx hb dX9_lay_0 rfl (lv_at hl 0 rfl) ?_
    refine va_get (D := D) (ci := 9) (v := .ref (ad 12)) (C := RX9) (T := TX9) (N := 3) hx hb hts inX9_lay_X9 hown hK hP 8 rfl rfl 0 (by decide) (hts (Cond.fieldLink RX9 11 "PortRooms$Sheets" "items" "[[I") (wm_t (wm_l (wm_i 0 rfl)))) (fun _ h9 => h9) rfl dX9_lay_1 ?_
    refine lv_iload_n hx hb dX9_lay_4 rfl (lv_at hl 1 rfl) ?_
    refine st_aald hx hb hK hP 9 3 rfl rfl (i_in (by omega) (by omega)) dX9_lay_5 ?_
    have ej : (if a.toNatClampNeg < 8 then some (rw a.toNatClampNeg) else none) = some (rw 0) := by have := i_cl h1; rw [if_pos (by omega)]; congr 2; omega
    simp only [ej]
    show W _ _ _ _ _ _ _ _ _ _ _ _ _ _ _ (F0 m 6 ls [.ref (rw 0)])
    refine lv_iconst (v := 0) hx hb dX9_lay_6 (by decide) ?_
    refine st_v (wr := [(aI cI (rw 1) 60 (rs 1)), (aI cI (rw 2) 60 (rs 2)), (aI cI (rw 3) 60 (rs 3)), (aI cI (rw 4) 60 (rs 4)), (aI cI (rw 5) 60 (rs 5)), (aI cI (rw 6) 60 (rs 6)), (aI cI (rw 7) 60 (rs 7)), (oC9 ad ), ((ad 12), .inl (cQ, 8, .inr (.inr (.inr (.inr (fun i => if i < 8 then some (rw i) else none)))))), (aI cI (ad 13) 8 sl), (aI cI (ad 14) 8 ss)]) (va_runS (As := [.ref (rw 0), .int 0]) (rest := []) ⟨hx, hb, hml, hown, hts⟩ (cFill l D cI cY cJ cQ _ (rw 0) 60 (rs 0) (0 : Int32) (by decide)) (va_cwS 2 hts gX9_lay_J7_fill_53178 rfl rfl rfl cdJ7_fill_53178 ⟨Nat.le_of_ble_eq_true rfl, Nat.le_of_ble_eq_true rfl⟩) (cPreS (hP.sub [0] rfl) hK (hD.sub [0] (by decide +kernel) rfl) hN) rfl rfl hl.1 rfl (lv_room (Nat.le_of_ble_eq_true rfl)) dX9_lay_7 ⟨Nat.le_of_ble_eq_true rfl, Nat.le_of_ble_eq_true rfl⟩) hP hD hS hA [0] [1, 2, 3, 4, 5, 6, 7, 8, 9, 10, 11] rfl rfl (by decide +kernel) (by decide +kernel) (fun u1 H locs hw2 => ?_)
    clear hP hD hS
    intro hP hD hS
    replace hP : va_P D vwCl [(aI cI (rw 1) 60 (rs 1)), (aI cI (rw 2) 60 (rs 2)), (aI cI (rw 3) 60 (rs 3)), (aI cI (rw 4) 60 (rs 4)), (aI cI (rw 5) 60 (rs 5)), (aI cI (rw 6) 60 (rs 6)), (aI cI (rw 7) 60 (rs 7)), (oC9 ad ), ((ad 12), .inl (cQ, 8, .inr (.inr (.inr (.inr (fun i => if i < 8 then some (rw i) else none)))))), (aI cI (ad 13) 8 sl), (aI cI (ad 14) 8 ss), (aI cI (rw 0) 60 (fun _ => 0))] H := hP
    replace hD : va_D A [(aI cI (rw 1) 60 (rs 1)), (aI cI (rw 2) 60 (rs 2)), (aI cI (rw 3) 60 (rs 3)), (aI cI (rw 4) 60 (rs 4)), (aI cI (rw 5) 60 (rs 5)), (aI cI (rw 6) 60 (rs 6)), (aI cI (rw 7) 60 (rs 7)), (oC9 ad ), ((ad 12), .inl (cQ, 8, .inr (.inr (.inr (.inr (fun i => if i < 8 then some (rw i) else none)))))), (aI cI (ad 13) 8 sl), (aI cI (ad 14) 8 ss), (aI cI (rw 0) 60 (fun _ => 0))] := hD
    refine lv_aload_n hx hb dX9_lay_10 rfl (lv_at hl 0 rfl) ?_
    refine va_get (D := D) (ci := 9) (v := .ref (ad 13)) (C := RX9) (T := TX9) (N := 3) hx hb hts inX9_lay_X9 hown hK hP 7 rfl rfl 1 (by decide) (hts (Cond.fieldLink RX9 16 "PortRooms$Sheets" "lane" "[I") (wm_t (wm_l (wm_i 1 rfl)))) (fun _ h9 => h9) rfl dX9_lay_11 ?_
    refine lv_iload_n hx hb dX9_lay_14 rfl (lv_at hl 1 rfl) ?_
    refine lv_iload_n hx hb dX9_lay_15 rfl (lv_at hl 2 rfl) ?_
    refine va_iast hx hb hK hP hD hS 9 0 rfl rfl (i_in (by omega) (by omega)) dX9_lay_16 (fun H locs => ?_)
    clear hP hD hS
    intro hP hD hS
    replace hP : va_P D vwCl [(aI cI (rw 1) 60 (rs 1)), (aI cI (rw 2) 60 (rs 2)), (aI cI (rw 3) 60 (rs 3)), (aI cI (rw 4) 60 (rs 4)), (aI cI (rw 5) 60 (rs 5)), (aI cI (rw 6) 60 (rs 6)), (aI cI (rw 7) 60 (rs 7)), (oC9 ad ), ((ad 12), .inl (cQ, 8, .inr (.inr (.inr (.inr (fun i => if i < 8 then some (rw i) else none)))))), (aI cI (ad 13) 8 (upd sl a.toNatClampNeg b)), (aI cI (ad 14) 8 ss), (aI cI (rw 0) 60 (fun _ => 0))] H := hP
    replace hD : va_D A [(aI cI (rw 1) 60 (rs 1)), (aI cI (rw 2) 60 (rs 2)), (aI cI (rw 3) 60 (rs 3)), (aI cI (rw 4) 60 (rs 4)), (aI cI (rw 5) 60 (rs 5)), (aI cI (rw 6) 60 (rs 6)), (aI cI (rw 7) 60 (rs 7)), (oC9 ad ), ((ad 12), .inl (cQ, 8, .inr (.inr (.inr (.inr (fun i => if i < 8 then some (rw i) else none)))))), (aI cI (ad 13) 8 (upd sl a.toNatClampNeg b)), (aI cI (ad 14) 8 ss), (aI cI (rw 0) 60 (fun _ => 0))] := hD
    refine lv_aload_n hx hb dX9_lay_17 rfl (lv_at hl 0 rfl) ?_
    refine va_get (D := D) (ci := 9) (v := .ref (ad 14)) (C := RX9) (T := TX9) (N := 3) hx hb hts inX9_lay_X9 hown hK hP 7 rfl rfl 2 (by decide) (hts (Cond.fieldLink RX9 20 "PortRooms$Sheets" "size" "[I") (wm_t (wm_l (wm_i 2 rfl)))) (fun _ h9 => h9) rfl dX9_lay_18 ?_
    refine lv_iload_n hx hb dX9_lay_21 rfl (lv_at hl 1 rfl) ?_
    refine lv_iload_n hx hb dX9_lay_22 rfl (lv_at hl 3 rfl) ?_
    refine va_iast hx hb hK hP hD hS 10 0 rfl rfl (i_in (by omega) (by omega)) dX9_lay_23 (fun H locs => ?_)
    clear hP hD hS
    intro hP hD hS
    replace hP : va_P D vwCl [(aI cI (rw 1) 60 (rs 1)), (aI cI (rw 2) 60 (rs 2)), (aI cI (rw 3) 60 (rs 3)), (aI cI (rw 4) 60 (rs 4)), (aI cI (rw 5) 60 (rs 5)), (aI cI (rw 6) 60 (rs 6)), (aI cI (rw 7) 60 (rs 7)), (oC9 ad ), ((ad 12), .inl (cQ, 8, .inr (.inr (.inr (.inr (fun i => if i < 8 then some (rw i) else none)))))), (aI cI (ad 13) 8 (upd sl a.toNatClampNeg b)), (aI cI (ad 14) 8 (upd ss a.toNatClampNeg n)), (aI cI (rw 0) 60 (fun _ => 0))] H := hP
    replace hD : va_D A [(aI cI (rw 1) 60 (rs 1)), (aI cI (rw 2) 60 (rs 2)), (aI cI (rw 3) 60 (rs 3)), (aI cI (rw 4) 60 (rs 4)), (aI cI (rw 5) 60 (rs 5)), (aI cI (rw 6) 60 (rs 6)), (aI cI (rw 7) 60 (rs 7)), (oC9 ad ), ((ad 12), .inl (cQ, 8, .inr (.inr (.inr (.inr (fun i => if i < 8 then some (rw i) else none)))))), (aI cI (ad 13) 8 (upd sl a.toNatClampNeg b)), (aI cI (ad 14) 8 (upd ss a.toNatClampNeg n)), (aI cI (rw 0) 60 (fun _ => 0))] := hD
    have hP9 := hP.sub (ws' := [(aI cI (rw 0) 60 (upR rs 0 (fun _ => 0) 0)), (aI cI (rw 1) 60 (upR rs 0 (fun _ => 0) 1)), (aI cI (rw 2) 60 (upR rs 0 (fun _ => 0) 2)), (aI cI (rw 3) 60 (upR rs 0 (fun _ => 0) 3)), (aI cI (rw 4) 60 (upR rs 0 (fun _ => 0) 4)), (aI cI (rw 5) 60 (upR rs 0 (fun _ => 0) 5)), (aI cI (rw 6) 60 (upR rs 0 (fun _ => 0) 6)), (aI cI (rw 7) 60 (upR rs 0 (fun _ => 0) 7)), (oC9 ad ), ((ad 12), .inl (cQ, 8, .inr (.inr (.inr (.inr (fun i => if i < 8 then some (rw i) else none)))))), (aI cI (ad 13) 8 (upd sl a.toNatClampNeg b)), (aI cI (ad 14) 8 (upd ss a.toNatClampNeg n))]) [11, 0, 1, 2, 3, 4, 5, 6, 7, 8, 9, 10] rfl
    have hD9 := hD.sub (ws' := [(aI cI (rw 0) 60 (upR rs 0 (fun _ => 0) 0)), (aI cI (rw 1) 60 (upR rs 0 (fun _ => 0) 1)), (aI cI (rw 2) 60 (upR rs 0 (fun _ => 0) 2)), (aI cI (rw 3) 60 (upR rs 0 (fun _ => 0) 3)), (aI cI (rw 4) 60 (upR rs 0 (fun _ => 0) 4)), (aI cI (rw 5) 60 (upR rs 0 (fun _ => 0) 5)), (aI cI (rw 6) 60 (upR rs 0 (fun _ => 0) 6)), (aI cI (rw 7) 60 (upR rs 0 (fun _ => 0) 7)), (oC9 ad ), ((ad 12), .inl (cQ, 8, .inr (.inr (.inr (.inr (fun i => if i < 8 then some (rw i) else none)))))), (aI cI (ad 13) 8 (upd sl a.toNatClampNeg b)), (aI cI (ad 14) 8 (upd ss a.toNatClampNeg n))]) [11, 0, 1, 2, 3, 4, 5, 6, 7, 8, 9, 10] (by decide +kernel) rfl
    exact W.vret hx hb hr (fun t ht hW => ⟨⟨(), rfl, trivial, by rw [ht]; exact hP9, va_K.moved hW.alike hK, hD9⟩, hS.F ht⟩) hS.2.2 dX9_lay_24
  · skip
    refine lv_aload_n hx hb dX9_lay_0 rfl (lv_at hl 0 rfl) ?_
    refine va_get (D := D) (ci := 9) (v := .ref (ad 12)) (C := RX9) (T := TX9) (N := 3) hx hb hts inX9_lay_X9 hown hK hP 8 rfl rfl 0 (by decide) (hts (Cond.fieldLink RX9 11 "PortRooms$Sheets" "items" "[[I") (wm_t (wm_l (wm_i 0 rfl)))) (fun _ h9 => h9) rfl dX9_lay_1 ?_
    refine lv_iload_n hx hb dX9_lay_4 rfl (lv_at hl 1 rfl) ?_
    refine st_aald hx hb hK hP 9 3 rfl rfl (i_in (by omega) (by omega)) dX9_lay_5 ?_
    have ej : (if a.toNatClampNeg < 8 then some (rw a.toNatClampNeg) else none) = some (rw 1) := by have := i_cl h1; rw [if_pos (by omega)]; congr 2; omega
    simp only [ej]
    show W _ _ _ _ _ _ _ _ _ _ _ _ _ _ _ (F0 m 6 ls [.ref (rw 1)])
    refine lv_iconst (v := 0) hx hb dX9_lay_6 (by decide) ?_
    refine st_v (wr := [(aI cI (rw 0) 60 (rs 0)), (aI cI (rw 2) 60 (rs 2)), (aI cI (rw 3) 60 (rs 3)), (aI cI (rw 4) 60 (rs 4)), (aI cI (rw 5) 60 (rs 5)), (aI cI (rw 6) 60 (rs 6)), (aI cI (rw 7) 60 (rs 7)), (oC9 ad ), ((ad 12), .inl (cQ, 8, .inr (.inr (.inr (.inr (fun i => if i < 8 then some (rw i) else none)))))), (aI cI (ad 13) 8 sl), (aI cI (ad 14) 8 ss)]) (va_runS (As := [.ref (rw 1), .int 0]) (rest := []) ⟨hx, hb, hml, hown, hts⟩ (cFill l D cI cY cJ cQ _ (rw 1) 60 (rs 1) (0 : Int32) (by decide)) (va_cwS 2 hts gX9_lay_J7_fill_53178 rfl rfl rfl cdJ7_fill_53178 ⟨Nat.le_of_ble_eq_true rfl, Nat.le_of_ble_eq_true rfl⟩) (cPreS (hP.sub [1] rfl) hK (hD.sub [1] (by decide +kernel) rfl) hN) rfl rfl hl.1 rfl (lv_room (Nat.le_of_ble_eq_true rfl)) dX9_lay_7 ⟨Nat.le_of_ble_eq_true rfl, Nat.le_of_ble_eq_true rfl⟩) hP hD hS hA [1] [0, 2, 3, 4, 5, 6, 7, 8, 9, 10, 11] rfl rfl (by decide +kernel) (by decide +kernel) (fun u4 H locs hw5 => ?_)
    clear hP hD hS
    intro hP hD hS
    replace hP : va_P D vwCl [(aI cI (rw 0) 60 (rs 0)), (aI cI (rw 2) 60 (rs 2)), (aI cI (rw 3) 60 (rs 3)), (aI cI (rw 4) 60 (rs 4)), (aI cI (rw 5) 60 (rs 5)), (aI cI (rw 6) 60 (rs 6)), (aI cI (rw 7) 60 (rs 7)), (oC9 ad ), ((ad 12), .inl (cQ, 8, .inr (.inr (.inr (.inr (fun i => if i < 8 then some (rw i) else none)))))), (aI cI (ad 13) 8 sl), (aI cI (ad 14) 8 ss), (aI cI (rw 1) 60 (fun _ => 0))] H := hP
    replace hD : va_D A [(aI cI (rw 0) 60 (rs 0)), (aI cI (rw 2) 60 (rs 2)), (aI cI (rw 3) 60 (rs 3)), (aI cI (rw 4) 60 (rs 4)), (aI cI (rw 5) 60 (rs 5)), (aI cI (rw 6) 60 (rs 6)), (aI cI (rw 7) 60 (rs 7)), (oC9 ad ), ((ad 12), .inl (cQ, 8, .inr (.inr (.inr (.inr (fun i => if i < 8 then some (rw i) else none)))))), (aI cI (ad 13) 8 sl), (aI cI (ad 14) 8 ss), (aI cI (rw 1) 60 (fun _ => 0))] := hD
    refine lv_aload_n hx hb dX9_lay_10 rfl (lv_at hl 0 rfl) ?_
    refine va_get (D := D) (ci := 9) (v := .ref (ad 13)) (C := RX9) (T := TX9) (N := 3) hx hb hts inX9_lay_X9 hown hK hP 7 rfl rfl 1 (by decide) (hts (Cond.fieldLink RX9 16 "PortRooms$Sheets" "lane" "[I") (wm_t (wm_l (wm_i 1 rfl)))) (fun _ h9 => h9) rfl dX9_lay_11 ?_
    refine lv_iload_n hx hb dX9_lay_14 rfl (lv_at hl 1 rfl) ?_
    refine lv_iload_n hx hb dX9_lay_15 rfl (lv_at hl 2 rfl) ?_
    refine va_iast hx hb hK hP hD hS 9 0 rfl rfl (i_in (by omega) (by omega)) dX9_lay_16 (fun H locs => ?_)
    clear hP hD hS
    intro hP hD hS
    replace hP : va_P D vwCl [(aI cI (rw 0) 60 (rs 0)), (aI cI (rw 2) 60 (rs 2)), (aI cI (rw 3) 60 (rs 3)), (aI cI (rw 4) 60 (rs 4)), (aI cI (rw 5) 60 (rs 5)), (aI cI (rw 6) 60 (rs 6)), (aI cI (rw 7) 60 (rs 7)), (oC9 ad ), ((ad 12), .inl (cQ, 8, .inr (.inr (.inr (.inr (fun i => if i < 8 then some (rw i) else none)))))), (aI cI (ad 13) 8 (upd sl a.toNatClampNeg b)), (aI cI (ad 14) 8 ss), (aI cI (rw 1) 60 (fun _ => 0))] H := hP
    replace hD : va_D A [(aI cI (rw 0) 60 (rs 0)), (aI cI (rw 2) 60 (rs 2)), (aI cI (rw 3) 60 (rs 3)), (aI cI (rw 4) 60 (rs 4)), (aI cI (rw 5) 60 (rs 5)), (aI cI (rw 6) 60 (rs 6)), (aI cI (rw 7) 60 (rs 7)), (oC9 ad ), ((ad 12), .inl (cQ, 8, .inr (.inr (.inr (.inr (fun i => if i < 8 then some (rw i) else none)))))), (aI cI (ad 13) 8 (upd sl a.toNatClampNeg b)), (aI cI (ad 14) 8 ss), (aI cI (rw 1) 60 (fun _ => 0))] := hD
    refine lv_aload_n hx hb dX9_lay_17 rfl (lv_at hl 0 rfl) ?_
    refine va_get (D := D) (ci := 9) (v := .ref (ad 14)) (C := RX9) (T := TX9) (N := 3) hx hb hts inX9_lay_X9 hown hK hP 7 rfl rfl 2 (by decide) (hts (Cond.fieldLink RX9 20 "PortRooms$Sheets" "size" "[I") (wm_t (wm_l (wm_i 2 rfl)))) (fun _ h9 => h9) rfl dX9_lay_18 ?_
    refine lv_iload_n hx hb dX9_lay_21 rfl (lv_at hl 1 rfl) ?_
    refine lv_iload_n hx hb dX9_lay_22 rfl (lv_at hl 3 rfl) ?_
    refine va_iast hx hb hK hP hD hS 10 0 rfl rfl (i_in (by omega) (by omega)) dX9_lay_23 (fun H locs => ?_)
    clear hP hD hS
    intro hP hD hS
    replace hP : va_P D vwCl [(aI cI (rw 0) 60 (rs 0)), (aI cI (rw 2) 60 (rs 2)), (aI cI (rw 3) 60 (rs 3)), (aI cI (rw 4) 60 (rs 4)), (aI cI (rw 5) 60 (rs 5)), (aI cI (rw 6) 60 (rs 6)), (aI cI (rw 7) 60 (rs 7)), (oC9 ad ), ((ad 12), .inl (cQ, 8, .inr (.inr (.inr (.inr (fun i => if i < 8 then some (rw i) else none)))))), (aI cI (ad 13) 8 (upd sl a.toNatClampNeg b)), (aI cI (ad 14) 8 (upd ss a.toNatClampNeg n)), (aI cI (rw 1) 60 (fun _ => 0))] H := hP
    replace hD : va_D A [(aI cI (rw 0) 60 (rs 0)), (aI cI (rw 2) 60 (rs 2)), (aI cI (rw 3) 60 (rs 3)), (aI cI (rw 4) 60 (rs 4)), (aI cI (rw 5) 60 (rs 5)), (aI cI (rw 6) 60 (rs 6)), (aI cI (rw 7) 60 (rs 7)), (oC9 ad ), ((ad 12), .inl (cQ, 8, .inr (.inr (.inr (.inr (fun i => if i < 8 then some (rw i) else none)))))), (aI cI (ad 13) 8 (upd sl a.toNatClampNeg b)), (aI cI (ad 14) 8 (upd ss a.toNatClampNeg n)), (aI cI (rw 1) 60 (fun _ => 0))] := hD
    have hP9 := hP.sub (ws' := [(aI cI (rw 0) 60 (upR rs 1 (fun _ => 0) 0)), (aI cI (rw 1) 60 (upR rs 1 (fun _ => 0) 1)), (aI cI (rw 2) 60 (upR rs 1 (fun _ => 0) 2)), (aI cI (rw 3) 60 (upR rs 1 (fun _ => 0) 3)), (aI cI (rw 4) 60 (upR rs 1 (fun _ => 0) 4)), (aI cI (rw 5) 60 (upR rs 1 (fun _ => 0) 5)), (aI cI (rw 6) 60 (upR rs 1 (fun _ => 0) 6)), (aI cI (rw 7) 60 (upR rs 1 (fun _ => 0) 7)), (oC9 ad ), ((ad 12), .inl (cQ, 8, .inr (.inr (.inr (.inr (fun i => if i < 8 then some (rw i) else none)))))), (aI cI (ad 13) 8 (upd sl a.toNatClampNeg b)), (aI cI (ad 14) 8 (upd ss a.toNatClampNeg n))]) [0, 11, 1, 2, 3, 4, 5, 6, 7, 8, 9, 10] rfl
    have hD9 := hD.sub (ws' := [(aI cI (rw 0) 60 (upR rs 1 (fun _ => 0) 0)), (aI cI (rw 1) 60 (upR rs 1 (fun _ => 0) 1)), (aI cI (rw 2) 60 (upR rs 1 (fun _ => 0) 2)), (aI cI (rw 3) 60 (upR rs 1 (fun _ => 0) 3)), (aI cI (rw 4) 60 (upR rs 1 (fun _ => 0) 4)), (aI cI (rw 5) 60 (upR rs 1 (fun _ => 0) 5)), (aI cI (rw 6) 60 (upR rs 1 (fun _ => 0) 6)), (aI cI (rw 7) 60 (upR rs 1 (fun _ => 0) 7)), (oC9 ad ), ((ad 12), .inl (cQ, 8, .inr (.inr (.inr (.inr (fun i => if i < 8 then some (rw i) else none)))))), (aI cI (ad 13) 8 (upd sl a.toNatClampNeg b)), (aI cI (ad 14) 8 (upd ss a.toNatClampNeg n))]) [0, 11, 1, 2, 3, 4, 5, 6, 7, 8, 9, 10] (by decide +kernel) rfl
    exact W.vret hx hb hr (fun t ht hW => ⟨⟨(), rfl, trivial, by rw [ht]; exact hP9, va_K.moved hW.alike hK, hD9⟩, hS.F ht⟩) hS.2.2 dX9_lay_24
  · skip
    refine lv_aload_n hx hb dX9_lay_0 rfl (lv_at hl 0 rfl) ?_
    refine va_get (D := D) (ci := 9) (v := .ref (ad 12)) (C := RX9) (T := TX9) (N := 3) hx hb hts inX9_lay_X9 hown hK hP 8 rfl rfl 0 (by decide) (hts (Cond.fieldLink RX9 11 "PortRooms$Sheets" "items" "[[I") (wm_t (wm_l (wm_i 0 rfl)))) (fun _ h9 => h9) rfl dX9_lay_1 ?_
    refine lv_iload_n hx hb dX9_lay_4 rfl (lv_at hl 1 rfl) ?_
    refine st_aald hx hb hK hP 9 3 rfl rfl (i_in (by omega) (by omega)) dX9_lay_5 ?_
    have ej : (if a.toNatClampNeg < 8 then some (rw a.toNatClampNeg) else none) = some (rw 2) := by have := i_cl h1; rw [if_pos (by omega)]; congr 2; omega
    simp only [ej]
    show W _ _ _ _ _ _ _ _ _ _ _ _ _ _ _ (F0 m 6 ls [.ref (rw 2)])
    refine lv_iconst (v := 0) hx hb dX9_lay_6 (by decide) ?_
    refine st_v (wr := [(aI cI (rw 0) 60 (rs 0)), (aI cI (rw 1) 60 (rs 1)), (aI cI (rw 3) 60 (rs 3)), (aI cI (rw 4) 60 (rs 4)), (aI cI (rw 5) 60 (rs 5)), (aI cI (rw 6) 60 (rs 6)), (aI cI (rw 7) 60 (rs 7)), (oC9 ad ), ((ad 12), .inl (cQ, 8, .inr (.inr (.inr (.inr (fun i => if i < 8 then some (rw i) else none)))))), (aI cI (ad 13) 8 sl), (aI cI (ad 14) 8 ss)]) (va_runS (As := [.ref (rw 2), .int 0]) (rest := []) ⟨hx, hb, hml, hown, hts⟩ (cFill l D cI cY cJ cQ _ (rw 2) 60 (rs 2) (0 : Int32) (by decide)) (va_cwS 2 hts gX9_lay_J7_fill_53178 rfl rfl rfl cdJ7_fill_53178 ⟨Nat.le_of_ble_eq_true rfl, Nat.le_of_ble_eq_true rfl⟩) (cPreS (hP.sub [2] rfl) hK (hD.sub [2] (by decide +kernel) rfl) hN) rfl rfl hl.1 rfl (lv_room (Nat.le_of_ble_eq_true rfl)) dX9_lay_7 ⟨Nat.le_of_ble_eq_true rfl, Nat.le_of_ble_eq_true rfl⟩) hP hD hS hA [2] [0, 1, 3, 4, 5, 6, 7, 8, 9, 10, 11] rfl rfl (by decide +kernel) (by decide +kernel) (fun u7 H locs hw8 => ?_)
    clear hP hD hS
    intro hP hD hS
    replace hP : va_P D vwCl [(aI cI (rw 0) 60 (rs 0)), (aI cI (rw 1) 60 (rs 1)), (aI cI (rw 3) 60 (rs 3)), (aI cI (rw 4) 60 (rs 4)), (aI cI (rw 5) 60 (rs 5)), (aI cI (rw 6) 60 (rs 6)), (aI cI (rw 7) 60 (rs 7)), (oC9 ad ), ((ad 12), .inl (cQ, 8, .inr (.inr (.inr (.inr (fun i => if i < 8 then some (rw i) else none)))))), (aI cI (ad 13) 8 sl), (aI cI (ad 14) 8 ss), (aI cI (rw 2) 60 (fun _ => 0))] H := hP
    replace hD : va_D A [(aI cI (rw 0) 60 (rs 0)), (aI cI (rw 1) 60 (rs 1)), (aI cI (rw 3) 60 (rs 3)), (aI cI (rw 4) 60 (rs 4)), (aI cI (rw 5) 60 (rs 5)), (aI cI (rw 6) 60 (rs 6)), (aI cI (rw 7) 60 (rs 7)), (oC9 ad ), ((ad 12), .inl (cQ, 8, .inr (.inr (.inr (.inr (fun i => if i < 8 then some (rw i) else none)))))), (aI cI (ad 13) 8 sl), (aI cI (ad 14) 8 ss), (aI cI (rw 2) 60 (fun _ => 0))] := hD
    refine lv_aload_n hx hb dX9_lay_10 rfl (lv_at hl 0 rfl) ?_
    refine va_get (D := D) (ci := 9) (v := .ref (ad 13)) (C := RX9) (T := TX9) (N := 3) hx hb hts inX9_lay_X9 hown hK hP 7 rfl rfl 1 (by decide) (hts (Cond.fieldLink RX9 16 "PortRooms$Sheets" "lane" "[I") (wm_t (wm_l (wm_i 1 rfl)))) (fun _ h9 => h9) rfl dX9_lay_11 ?_
    refine lv_iload_n hx hb dX9_lay_14 rfl (lv_at hl 1 rfl) ?_
    refine lv_iload_n hx hb dX9_lay_15 rfl (lv_at hl 2 rfl) ?_
    refine va_iast hx hb hK hP hD hS 9 0 rfl rfl (i_in (by omega) (by omega)) dX9_lay_16 (fun H locs => ?_)
    clear hP hD hS
    intro hP hD hS
    replace hP : va_P D vwCl [(aI cI (rw 0) 60 (rs 0)), (aI cI (rw 1) 60 (rs 1)), (aI cI (rw 3) 60 (rs 3)), (aI cI (rw 4) 60 (rs 4)), (aI cI (rw 5) 60 (rs 5)), (aI cI (rw 6) 60 (rs 6)), (aI cI (rw 7) 60 (rs 7)), (oC9 ad ), ((ad 12), .inl (cQ, 8, .inr (.inr (.inr (.inr (fun i => if i < 8 then some (rw i) else none)))))), (aI cI (ad 13) 8 (upd sl a.toNatClampNeg b)), (aI cI (ad 14) 8 ss), (aI cI (rw 2) 60 (fun _ => 0))] H := hP
    replace hD : va_D A [(aI cI (rw 0) 60 (rs 0)), (aI cI (rw 1) 60 (rs 1)), (aI cI (rw 3) 60 (rs 3)), (aI cI (rw 4) 60 (rs 4)), (aI cI (rw 5) 60 (rs 5)), (aI cI (rw 6) 60 (rs 6)), (aI cI (rw 7) 60 (rs 7)), (oC9 ad ), ((ad 12), .inl (cQ, 8, .inr (.inr (.inr (.inr (fun i => if i < 8 then some (rw i) else none)))))), (aI cI (ad 13) 8 (upd sl a.toNatClampNeg b)), (aI cI (ad 14) 8 ss), (aI cI (rw 2) 60 (fun _ => 0))] := hD
    refine lv_aload_n hx hb dX9_lay_17 rfl (lv_at hl 0 rfl) ?_
    refine va_get (D := D) (ci := 9) (v := .ref (ad 14)) (C := RX9) (T := TX9) (N := 3) hx hb hts inX9_lay_X9 hown hK hP 7 rfl rfl 2 (by decide) (hts (Cond.fieldLink RX9 20 "PortRooms$Sheets" "size" "[I") (wm_t (wm_l (wm_i 2 rfl)))) (fun _ h9 => h9) rfl dX9_lay_18 ?_
    refine lv_iload_n hx hb dX9_lay_21 rfl (lv_at hl 1 rfl) ?_
    refine lv_iload_n hx hb dX9_lay_22 rfl (lv_at hl 3 rfl) ?_
    refine va_iast hx hb hK hP hD hS 10 0 rfl rfl (i_in (by omega) (by omega)) dX9_lay_23 (fun H locs => ?_)
    clear hP hD hS
    intro hP hD hS
    replace hP : va_P D vwCl [(aI cI (rw 0) 60 (rs 0)), (aI cI (rw 1) 60 (rs 1)), (aI cI (rw 3) 60 (rs 3)), (aI cI (rw 4) 60 (rs 4)), (aI cI (rw 5) 60 (rs 5)), (aI cI (rw 6) 60 (rs 6)), (aI cI (rw 7) 60 (rs 7)), (oC9 ad ), ((ad 12), .inl (cQ, 8, .inr (.inr (.inr (.inr (fun i => if i < 8 then some (rw i) else none)))))), (aI cI (ad 13) 8 (upd sl a.toNatClampNeg b)), (aI cI (ad 14) 8 (upd ss a.toNatClampNeg n)), (aI cI (rw 2) 60 (fun _ => 0))] H := hP
    replace hD : va_D A [(aI cI (rw 0) 60 (rs 0)), (aI cI (rw 1) 60 (rs 1)), (aI cI (rw 3) 60 (rs 3)), (aI cI (rw 4) 60 (rs 4)), (aI cI (rw 5) 60 (rs 5)), (aI cI (rw 6) 60 (rs 6)), (aI cI (rw 7) 60 (rs 7)), (oC9 ad ), ((ad 12), .inl (cQ, 8, .inr (.inr (.inr (.inr (fun i => if i < 8 then some (rw i) else none)))))), (aI cI (ad 13) 8 (upd sl a.toNatClampNeg b)), (aI cI (ad 14) 8 (upd ss a.toNatClampNeg n)), (aI cI (rw 2) 60 (fun _ => 0))] := hD
    have hP9 := hP.sub (ws' := [(aI cI (rw 0) 60 (upR rs 2 (fun _ => 0) 0)), (aI cI (rw 1) 60 (upR rs 2 (fun _ => 0) 1)), (aI cI (rw 2) 60 (upR rs 2 (fun _ => 0) 2)), (aI cI (rw 3) 60 (upR rs 2 (fun _ => 0) 3)), (aI cI (rw 4) 60 (upR rs 2 (fun _ => 0) 4)), (aI cI (rw 5) 60 (upR rs 2 (fun _ => 0) 5)), (aI cI (rw 6) 60 (upR rs 2 (fun _ => 0) 6)), (aI cI (rw 7) 60 (upR rs 2 (fun _ => 0) 7)), (oC9 ad ), ((ad 12), .inl (cQ, 8, .inr (.inr (.inr (.inr (fun i => if i < 8 then some (rw i) else none)))))), (aI cI (ad 13) 8 (upd sl a.toNatClampNeg b)), (aI cI (ad 14) 8 (upd ss a.toNatClampNeg n))]) [0, 1, 11, 2, 3, 4, 5, 6, 7, 8, 9, 10] rfl
    have hD9 := hD.sub (ws' := [(aI cI (rw 0) 60 (upR rs 2 (fun _ => 0) 0)), (aI cI (rw 1) 60 (upR rs 2 (fun _ => 0) 1)), (aI cI (rw 2) 60 (upR rs 2 (fun _ => 0) 2)), (aI cI (rw 3) 60 (upR rs 2 (fun _ => 0) 3)), (aI cI (rw 4) 60 (upR rs 2 (fun _ => 0) 4)), (aI cI (rw 5) 60 (upR rs 2 (fun _ => 0) 5)), (aI cI (rw 6) 60 (upR rs 2 (fun _ => 0) 6)), (aI cI (rw 7) 60 (upR rs 2 (fun _ => 0) 7)), (oC9 ad ), ((ad 12), .inl (cQ, 8, .inr (.inr (.inr (.inr (fun i => if i < 8 then some (rw i) else none)))))), (aI cI (ad 13) 8 (upd sl a.toNatClampNeg b)), (aI cI (ad 14) 8 (upd ss a.toNatClampNeg n))]) [0, 1, 11, 2, 3, 4, 5, 6, 7, 8, 9, 10] (by decide +kernel) rfl
    exact W.vret hx hb hr (fun t ht hW => ⟨⟨(), rfl, trivial, by rw [ht]; exact hP9, va_K.moved hW.alike hK, hD9⟩, hS.F ht⟩) hS.2.2 dX9_lay_24
  · skip
    refine lv_aload_n hx hb dX9_lay_0 rfl (lv_at hl 0 rfl) ?_
    refine va_get (D := D) (ci := 9) (v := .ref (ad 12)) (C := RX9) (T := TX9) (N := 3) hx hb hts inX9_lay_X9 hown hK hP 8 rfl rfl 0 (by decide) (hts (Cond.fieldLink RX9 11 "PortRooms$Sheets" "items" "[[I") (wm_t (wm_l (wm_i 0 rfl)))) (fun _ h9 => h9) rfl dX9_lay_1 ?_
    refine lv_iload_n hx hb dX9_lay_4 rfl (lv_at hl 1 rfl) ?_
    refine st_aald hx hb hK hP 9 3 rfl rfl (i_in (by omega) (by omega)) dX9_lay_5 ?_
    have ej : (if a.toNatClampNeg < 8 then some (rw a.toNatClampNeg) else none) = some (rw 3) := by have := i_cl h1; rw [if_pos (by omega)]; congr 2; omega
    simp only [ej]
    show W _ _ _ _ _ _ _ _ _ _ _ _ _ _ _ (F0 m 6 ls [.ref (rw 3)])
    refine lv_iconst (v := 0) hx hb dX9_lay_6 (by decide) ?_
    refine st_v (wr := [(aI cI (rw 0) 60 (rs 0)), (aI cI (rw 1) 60 (rs 1)), (aI cI (rw 2) 60 (rs 2)), (aI cI (rw 4) 60 (rs 4)), (aI cI (rw 5) 60 (rs 5)), (aI cI (rw 6) 60 (rs 6)), (aI cI (rw 7) 60 (rs 7)), (oC9 ad ), ((ad 12), .inl (cQ, 8, .inr (.inr (.inr (.inr (fun i => if i < 8 then some (rw i) else none)))))), (aI cI (ad 13) 8 sl), (aI cI (ad 14) 8 ss)]) (va_runS (As := [.ref (rw 3), .int 0]) (rest := []) ⟨hx, hb, hml, hown, hts⟩ (cFill l D cI cY cJ cQ _ (rw 3) 60 (rs 3) (0 : Int32) (by decide)) (va_cwS 2 hts gX9_lay_J7_fill_53178 rfl rfl rfl cdJ7_fill_53178 ⟨Nat.le_of_ble_eq_true rfl, Nat.le_of_ble_eq_true rfl⟩) (cPreS (hP.sub [3] rfl) hK (hD.sub [3] (by decide +kernel) rfl) hN) rfl rfl hl.1 rfl (lv_room (Nat.le_of_ble_eq_true rfl)) dX9_lay_7 ⟨Nat.le_of_ble_eq_true rfl, Nat.le_of_ble_eq_true rfl⟩) hP hD hS hA [3] [0, 1, 2, 4, 5, 6, 7, 8, 9, 10, 11] rfl rfl (by decide +kernel) (by decide +kernel) (fun u10 H locs hw11 => ?_)
    clear hP hD hS
    intro hP hD hS
    replace hP : va_P D vwCl [(aI cI (rw 0) 60 (rs 0)), (aI cI (rw 1) 60 (rs 1)), (aI cI (rw 2) 60 (rs 2)), (aI cI (rw 4) 60 (rs 4)), (aI cI (rw 5) 60 (rs 5)), (aI cI (rw 6) 60 (rs 6)), (aI cI (rw 7) 60 (rs 7)), (oC9 ad ), ((ad 12), .inl (cQ, 8, .inr (.inr (.inr (.inr (fun i => if i < 8 then some (rw i) else none)))))), (aI cI (ad 13) 8 sl), (aI cI (ad 14) 8 ss), (aI cI (rw 3) 60 (fun _ => 0))] H := hP
    replace hD : va_D A [(aI cI (rw 0) 60 (rs 0)), (aI cI (rw 1) 60 (rs 1)), (aI cI (rw 2) 60 (rs 2)), (aI cI (rw 4) 60 (rs 4)), (aI cI (rw 5) 60 (rs 5)), (aI cI (rw 6) 60 (rs 6)), (aI cI (rw 7) 60 (rs 7)), (oC9 ad ), ((ad 12), .inl (cQ, 8, .inr (.inr (.inr (.inr (fun i => if i < 8 then some (rw i) else none)))))), (aI cI (ad 13) 8 sl), (aI cI (ad 14) 8 ss), (aI cI (rw 3) 60 (fun _ => 0))] := hD
    refine lv_aload_n hx hb dX9_lay_10 rfl (lv_at hl 0 rfl) ?_
    refine va_get (D := D) (ci := 9) (v := .ref (ad 13)) (C := RX9) (T := TX9) (N := 3) hx hb hts inX9_lay_X9 hown hK hP 7 rfl rfl 1 (by decide) (hts (Cond.fieldLink RX9 16 "PortRooms$Sheets" "lane" "[I") (wm_t (wm_l (wm_i 1 rfl)))) (fun _ h9 => h9) rfl dX9_lay_11 ?_
    refine lv_iload_n hx hb dX9_lay_14 rfl (lv_at hl 1 rfl) ?_
    refine lv_iload_n hx hb dX9_lay_15 rfl (lv_at hl 2 rfl) ?_
    refine va_iast hx hb hK hP hD hS 9 0 rfl rfl (i_in (by omega) (by omega)) dX9_lay_16 (fun H locs => ?_)
    clear hP hD hS
    intro hP hD hS
    replace hP : va_P D vwCl [(aI cI (rw 0) 60 (rs 0)), (aI cI (rw 1) 60 (rs 1)), (aI cI (rw 2) 60 (rs 2)), (aI cI (rw 4) 60 (rs 4)), (aI cI (rw 5) 60 (rs 5)), (aI cI (rw 6) 60 (rs 6)), (aI cI (rw 7) 60 (rs 7)), (oC9 ad ), ((ad 12), .inl (cQ, 8, .inr (.inr (.inr (.inr (fun i => if i < 8 then some (rw i) else none)))))), (aI cI (ad 13) 8 (upd sl a.toNatClampNeg b)), (aI cI (ad 14) 8 ss), (aI cI (rw 3) 60 (fun _ => 0))] H := hP
    replace hD : va_D A [(aI cI (rw 0) 60 (rs 0)), (aI cI (rw 1) 60 (rs 1)), (aI cI (rw 2) 60 (rs 2)), (aI cI (rw 4) 60 (rs 4)), (aI cI (rw 5) 60 (rs 5)), (aI cI (rw 6) 60 (rs 6)), (aI cI (rw 7) 60 (rs 7)), (oC9 ad ), ((ad 12), .inl (cQ, 8, .inr (.inr (.inr (.inr (fun i => if i < 8 then some (rw i) else none)))))), (aI cI (ad 13) 8 (upd sl a.toNatClampNeg b)), (aI cI (ad 14) 8 ss), (aI cI (rw 3) 60 (fun _ => 0))] := hD
    refine lv_aload_n hx hb dX9_lay_17 rfl (lv_at hl 0 rfl) ?_
    refine va_get (D := D) (ci := 9) (v := .ref (ad 14)) (C := RX9) (T := TX9) (N := 3) hx hb hts inX9_lay_X9 hown hK hP 7 rfl rfl 2 (by decide) (hts (Cond.fieldLink RX9 20 "PortRooms$Sheets" "size" "[I") (wm_t (wm_l (wm_i 2 rfl)))) (fun _ h9 => h9) rfl dX9_lay_18 ?_
    refine lv_iload_n hx hb dX9_lay_21 rfl (lv_at hl 1 rfl) ?_
    refine lv_iload_n hx hb dX9_lay_22 rfl (lv_at hl 3 rfl) ?_
    refine va_iast hx hb hK hP hD hS 10 0 rfl rfl (i_in (by omega) (by omega)) dX9_lay_23 (fun H locs => ?_)
    clear hP hD hS
    intro hP hD hS
    replace hP : va_P D vwCl [(aI cI (rw 0) 60 (rs 0)), (aI cI (rw 1) 60 (rs 1)), (aI cI (rw 2) 60 (rs 2)), (aI cI (rw 4) 60 (rs 4)), (aI cI (rw 5) 60 (rs 5)), (aI cI (rw 6) 60 (rs 6)), (aI cI (rw 7) 60 (rs 7)), (oC9 ad ), ((ad 12), .inl (cQ, 8, .inr (.inr (.inr (.inr (fun i => if i < 8 then some (rw i) else none)))))), (aI cI (ad 13) 8 (upd sl a.toNatClampNeg b)), (aI cI (ad 14) 8 (upd ss a.toNatClampNeg n)), (aI cI (rw 3) 60 (fun _ => 0))] H := hP
    replace hD : va_D A [(aI cI (rw 0) 60 (rs 0)), (aI cI (rw 1) 60 (rs 1)), (aI cI (rw 2) 60 (rs 2)), (aI cI (rw 4) 60 (rs 4)), (aI cI (rw 5) 60 (rs 5)), (aI cI (rw 6) 60 (rs 6)), (aI cI (rw 7) 60 (rs 7)), (oC9 ad ), ((ad 12), .inl (cQ, 8, .inr (.inr (.inr (.inr (fun i => if i < 8 then some (rw i) else none)))))), (aI cI (ad 13) 8 (upd sl a.toNatClampNeg b)), (aI cI (ad 14) 8 (upd ss a.toNatClampNeg n)), (aI cI (rw 3) 60 (fun _ => 0))] := hD
    have hP9 := hP.sub (ws' := [(aI cI (rw 0) 60 (upR rs 3 (fun _ => 0) 0)), (aI cI (rw 1) 60 (upR rs 3 (fun _ => 0) 1)), (aI cI (rw 2) 60 (upR rs 3 (fun _ => 0) 2)), (aI cI (rw 3) 60 (upR rs 3 (fun _ => 0) 3)), (aI cI (rw 4) 60 (upR rs 3 (fun _ => 0) 4)), (aI cI (rw 5) 60 (upR rs 3 (fun _ => 0) 5)), (aI cI (rw 6) 60 (upR rs 3 (fun _ => 0) 6)), (aI cI (rw 7) 60 (upR rs 3 (fun _ => 0) 7)), (oC9 ad ), ((ad 12), .inl (cQ, 8, .inr (.inr (.inr (.inr (fun i => if i < 8 then some (rw i) else none)))))), (aI cI (ad 13) 8 (upd sl a.toNatClampNeg b)), (aI cI (ad 14) 8 (upd ss a.toNatClampNeg n))]) [0, 1, 2, 11, 3, 4, 5, 6, 7, 8, 9, 10] rfl
    have hD9 := hD.sub (ws' := [(aI cI (rw 0) 60 (upR rs 3 (fun _ => 0) 0)), (aI cI (rw 1) 60 (upR rs 3 (fun _ => 0) 1)), (aI cI (rw 2) 60 (upR rs 3 (fun _ => 0) 2)), (aI cI (rw 3) 60 (upR rs 3 (fun _ => 0) 3)), (aI cI (rw 4) 60 (upR rs 3 (fun _ => 0) 4)), (aI cI (rw 5) 60 (upR rs 3 (fun _ => 0) 5)), (aI cI (rw 6) 60 (upR rs 3 (fun _ => 0) 6)), (aI cI (rw 7) 60 (upR rs 3 (fun _ => 0) 7)), (oC9 ad ), ((ad 12), .inl (cQ, 8, .inr (.inr (.inr (.inr (fun i => if i < 8 then some (rw i) else none)))))), (aI cI (ad 13) 8 (upd sl a.toNatClampNeg b)), (aI cI (ad 14) 8 (upd ss a.toNatClampNeg n))]) [0, 1, 2, 11, 3, 4, 5, 6, 7, 8, 9, 10] (by decide +kernel) rfl
    exact W.vret hx hb hr (fun t ht hW => ⟨⟨(), rfl, trivial, by rw [ht]; exact hP9, va_K.moved hW.alike hK, hD9⟩, hS.F ht⟩) hS.2.2 dX9_lay_24
  · skip
    refine lv_aload_n hx hb dX9_lay_0 rfl (lv_at hl 0 rfl) ?_
    refine va_get (D := D) (ci := 9) (v := .ref (ad 12)) (C := RX9) (T := TX9) (N := 3) hx hb hts inX9_lay_X9 hown hK hP 8 rfl rfl 0 (by decide) (hts (Cond.fieldLink RX9 11 "PortRooms$Sheets" "items" "[[I") (wm_t (wm_l (wm_i 0 rfl)))) (fun _ h9 => h9) rfl dX9_lay_1 ?_
    refine lv_iload_n hx hb dX9_lay_4 rfl (lv_at hl 1 rfl) ?_
    refine st_aald hx hb hK hP 9 3 rfl rfl (i_in (by omega) (by omega)) dX9_lay_5 ?_
    have ej : (if a.toNatClampNeg < 8 then some (rw a.toNatClampNeg) else none) = some (rw 4) := by have := i_cl h1; rw [if_pos (by omega)]; congr 2; omega
    simp only [ej]
    show W _ _ _ _ _ _ _ _ _ _ _ _ _ _ _ (F0 m 6 ls [.ref (rw 4)])
    refine lv_iconst (v := 0) hx hb dX9_lay_6 (by decide) ?_
    refine st_v (wr := [(aI cI (rw 0) 60 (rs 0)), (aI cI (rw 1) 60 (rs 1)), (aI cI (rw 2) 60 (rs 2)), (aI cI (rw 3) 60 (rs 3)), (aI cI (rw 5) 60 (rs 5)), (aI cI (rw 6) 60 (rs 6)), (aI cI (rw 7) 60 (rs 7)), (oC9 ad ), ((ad 12), .inl (cQ, 8, .inr (.inr (.inr (.inr (fun i => if i < 8 then some (rw i) else none)))))), (aI cI (ad 13) 8 sl), (aI cI (ad 14) 8 ss)]) (va_runS (As := [.ref (rw 4), .int 0]) (rest := []) ⟨hx, hb, hml, hown, hts⟩ (cFill l D cI cY cJ cQ _ (rw 4) 60 (rs 4) (0 : Int32) (by decide)) (va_cwS 2 hts gX9_lay_J7_fill_53178 rfl rfl rfl cdJ7_fill_53178 ⟨Nat.le_of_ble_eq_true rfl, Nat.le_of_ble_eq_true rfl⟩) (cPreS (hP.sub [4] rfl) hK (hD.sub [4] (by decide +kernel) rfl) hN) rfl rfl hl.1 rfl (lv_room (Nat.le_of_ble_eq_true rfl)) dX9_lay_7 ⟨Nat.le_of_ble_eq_true rfl, Nat.le_of_ble_eq_true rfl⟩) hP hD hS hA [4] [0, 1, 2, 3, 5, 6, 7, 8, 9, 10, 11] rfl rfl (by decide +kernel) (by decide +kernel) (fun u13 H locs hw14 => ?_)
    clear hP hD hS
    intro hP hD hS
    replace hP : va_P D vwCl [(aI cI (rw 0) 60 (rs 0)), (aI cI (rw 1) 60 (rs 1)), (aI cI (rw 2) 60 (rs 2)), (aI cI (rw 3) 60 (rs 3)), (aI cI (rw 5) 60 (rs 5)), (aI cI (rw 6) 60 (rs 6)), (aI cI (rw 7) 60 (rs 7)), (oC9 ad ), ((ad 12), .inl (cQ, 8, .inr (.inr (.inr (.inr (fun i => if i < 8 then some (rw i) else none)))))), (aI cI (ad 13) 8 sl), (aI cI (ad 14) 8 ss), (aI cI (rw 4) 60 (fun _ => 0))] H := hP
    replace hD : va_D A [(aI cI (rw 0) 60 (rs 0)), (aI cI (rw 1) 60 (rs 1)), (aI cI (rw 2) 60 (rs 2)), (aI cI (rw 3) 60 (rs 3)), (aI cI (rw 5) 60 (rs 5)), (aI cI (rw 6) 60 (rs 6)), (aI cI (rw 7) 60 (rs 7)), (oC9 ad ), ((ad 12), .inl (cQ, 8, .inr (.inr (.inr (.inr (fun i => if i < 8 then some (rw i) else none)))))), (aI cI (ad 13) 8 sl), (aI cI (ad 14) 8 ss), (aI cI (rw 4) 60 (fun _ => 0))] := hD
    refine lv_aload_n hx hb dX9_lay_10 rfl (lv_at hl 0 rfl) ?_
    refine va_get (D := D) (ci := 9) (v := .ref (ad 13)) (C := RX9) (T := TX9) (N := 3) hx hb hts inX9_lay_X9 hown hK hP 7 rfl rfl 1 (by decide) (hts (Cond.fieldLink RX9 16 "PortRooms$Sheets" "lane" "[I") (wm_t (wm_l (wm_i 1 rfl)))) (fun _ h9 => h9) rfl dX9_lay_11 ?_
    refine lv_iload_n hx hb dX9_lay_14 rfl (lv_at hl 1 rfl) ?_
    refine lv_iload_n hx hb dX9_lay_15 rfl (lv_at hl 2 rfl) ?_
    refine va_iast hx hb hK hP hD hS 9 0 rfl rfl (i_in (by omega) (by omega)) dX9_lay_16 (fun H locs => ?_)
    clear hP hD hS
    intro hP hD hS
    replace hP : va_P D vwCl [(aI cI (rw 0) 60 (rs 0)), (aI cI (rw 1) 60 (rs 1)), (aI cI (rw 2) 60 (rs 2)), (aI cI (rw 3) 60 (rs 3)), (aI cI (rw 5) 60 (rs 5)), (aI cI (rw 6) 60 (rs 6)), (aI cI (rw 7) 60 (rs 7)), (oC9 ad ), ((ad 12), .inl (cQ, 8, .inr (.inr (.inr (.inr (fun i => if i < 8 then some (rw i) else none)))))), (aI cI (ad 13) 8 (upd sl a.toNatClampNeg b)), (aI cI (ad 14) 8 ss), (aI cI (rw 4) 60 (fun _ => 0))] H := hP
    replace hD : va_D A [(aI cI (rw 0) 60 (rs 0)), (aI cI (rw 1) 60 (rs 1)), (aI cI (rw 2) 60 (rs 2)), (aI cI (rw 3) 60 (rs 3)), (aI cI (rw 5) 60 (rs 5)), (aI cI (rw 6) 60 (rs 6)), (aI cI (rw 7) 60 (rs 7)), (oC9 ad ), ((ad 12), .inl (cQ, 8, .inr (.inr (.inr (.inr (fun i => if i < 8 then some (rw i) else none)))))), (aI cI (ad 13) 8 (upd sl a.toNatClampNeg b)), (aI cI (ad 14) 8 ss), (aI cI (rw 4) 60 (fun _ => 0))] := hD
    refine lv_aload_n hx hb dX9_lay_17 rfl (lv_at hl 0 rfl) ?_
    refine va_get (D := D) (ci := 9) (v := .ref (ad 14)) (C := RX9) (T := TX9) (N := 3) hx hb hts inX9_lay_X9 hown hK hP 7 rfl rfl 2 (by decide) (hts (Cond.fieldLink RX9 20 "PortRooms$Sheets" "size" "[I") (wm_t (wm_l (wm_i 2 rfl)))) (fun _ h9 => h9) rfl dX9_lay_18 ?_
    refine lv_iload_n hx hb dX9_lay_21 rfl (lv_at hl 1 rfl) ?_
    refine lv_iload_n hx hb dX9_lay_22 rfl (lv_at hl 3 rfl) ?_
    refine va_iast hx hb hK hP hD hS 10 0 rfl rfl (i_in (by omega) (by omega)) dX9_lay_23 (fun H locs => ?_)
    clear hP hD hS
    intro hP hD hS
    replace hP : va_P D vwCl [(aI cI (rw 0) 60 (rs 0)), (aI cI (rw 1) 60 (rs 1)), (aI cI (rw 2) 60 (rs 2)), (aI cI (rw 3) 60 (rs 3)), (aI cI (rw 5) 60 (rs 5)), (aI cI (rw 6) 60 (rs 6)), (aI cI (rw 7) 60 (rs 7)), (oC9 ad ), ((ad 12), .inl (cQ, 8, .inr (.inr (.inr (.inr (fun i => if i < 8 then some (rw i) else none)))))), (aI cI (ad 13) 8 (upd sl a.toNatClampNeg b)), (aI cI (ad 14) 8 (upd ss a.toNatClampNeg n)), (aI cI (rw 4) 60 (fun _ => 0))] H := hP
    replace hD : va_D A [(aI cI (rw 0) 60 (rs 0)), (aI cI (rw 1) 60 (rs 1)), (aI cI (rw 2) 60 (rs 2)), (aI cI (rw 3) 60 (rs 3)), (aI cI (rw 5) 60 (rs 5)), (aI cI (rw 6) 60 (rs 6)), (aI cI (rw 7) 60 (rs 7)), (oC9 ad ), ((ad 12), .inl (cQ, 8, .inr (.inr (.inr (.inr (fun i => if i < 8 then some (rw i) else none)))))), (aI cI (ad 13) 8 (upd sl a.toNatClampNeg b)), (aI cI (ad 14) 8 (upd ss a.toNatClampNeg n)), (aI cI (rw 4) 60 (fun _ => 0))] := hD
    have hP9 := hP.sub (ws' := [(aI cI (rw 0) 60 (upR rs 4 (fun _ => 0) 0)), (aI cI (rw 1) 60 (upR rs 4 (fun _ => 0) 1)), (aI cI (rw 2) 60 (upR rs 4 (fun _ => 0) 2)), (aI cI (rw 3) 60 (upR rs 4 (fun _ => 0) 3)), (aI cI (rw 4) 60 (upR rs 4 (fun _ => 0) 4)), (aI cI (rw 5) 60 (upR rs 4 (fun _ => 0) 5)), (aI cI (rw 6) 60 (upR rs 4 (fun _ => 0) 6)), (aI cI (rw 7) 60 (upR rs 4 (fun _ => 0) 7)), (oC9 ad ), ((ad 12), .inl (cQ, 8, .inr (.inr (.inr (.inr (fun i => if i < 8 then some (rw i) else none)))))), (aI cI (ad 13) 8 (upd sl a.toNatClampNeg b)), (aI cI (ad 14) 8 (upd ss a.toNatClampNeg n))]) [0, 1, 2, 3, 11, 4, 5, 6, 7, 8, 9, 10] rfl
    have hD9 := hD.sub (ws' := [(aI cI (rw 0) 60 (upR rs 4 (fun _ => 0) 0)), (aI cI (rw 1) 60 (upR rs 4 (fun _ => 0) 1)), (aI cI (rw 2) 60 (upR rs 4 (fun _ => 0) 2)), (aI cI (rw 3) 60 (upR rs 4 (fun _ => 0) 3)), (aI cI (rw 4) 60 (upR rs 4 (fun _ => 0) 4)), (aI cI (rw 5) 60 (upR rs 4 (fun _ => 0) 5)), (aI cI (rw 6) 60 (upR rs 4 (fun _ => 0) 6)), (aI cI (rw 7) 60 (upR rs 4 (fun _ => 0) 7)), (oC9 ad ), ((ad 12), .inl (cQ, 8, .inr (.inr (.inr (.inr (fun i => if i < 8 then some (rw i) else none)))))), (aI cI (ad 13) 8 (upd sl a.toNatClampNeg b)), (aI cI (ad 14) 8 (upd ss a.toNatClampNeg n))]) [0, 1, 2, 3, 11, 4, 5, 6, 7, 8, 9, 10] (by decide +kernel) rfl
    exact W.vret hx hb hr (fun t ht hW => ⟨⟨(), rfl, trivial, by rw [ht]; exact hP9, va_K.moved hW.alike hK, hD9⟩, hS.F ht⟩) hS.2.2 dX9_lay_24
  · skip
    refine lv_aload_n hx hb dX9_lay_0 rfl (lv_at hl 0 rfl) ?_
    refine va_get (D := D) (ci := 9) (v := .ref (ad 12)) (C := RX9) (T := TX9) (N := 3) hx hb hts inX9_lay_X9 hown hK hP 8 rfl rfl 0 (by decide) (hts (Cond.fieldLink RX9 11 "PortRooms$Sheets" "items" "[[I") (wm_t (wm_l (wm_i 0 rfl)))) (fun _ h9 => h9) rfl dX9_lay_1 ?_
    refine lv_iload_n hx hb dX9_lay_4 rfl (lv_at hl 1 rfl) ?_
    refine st_aald hx hb hK hP 9 3 rfl rfl (i_in (by omega) (by omega)) dX9_lay_5 ?_
    have ej : (if a.toNatClampNeg < 8 then some (rw a.toNatClampNeg) else none) = some (rw 5) := by have := i_cl h1; rw [if_pos (by omega)]; congr 2; omega
    simp only [ej]
    show W _ _ _ _ _ _ _ _ _ _ _ _ _ _ _ (F0 m 6 ls [.ref (rw 5)])
    refine lv_iconst (v := 0) hx hb dX9_lay_6 (by decide) ?_
    refine st_v (wr := [(aI cI (rw 0) 60 (rs 0)), (aI cI (rw 1) 60 (rs 1)), (aI cI (rw 2) 60 (rs 2)), (aI cI (rw 3) 60 (rs 3)), (aI cI (rw 4) 60 (rs 4)), (aI cI (rw 6) 60 (rs 6)), (aI cI (rw 7) 60 (rs 7)), (oC9 ad ), ((ad 12), .inl (cQ, 8, .inr (.inr (.inr (.inr (fun i => if i < 8 then some (rw i) else none)))))), (aI cI (ad 13) 8 sl), (aI cI (ad 14) 8 ss)]) (va_runS (As := [.ref (rw 5), .int 0]) (rest := []) ⟨hx, hb, hml, hown, hts⟩ (cFill l D cI cY cJ cQ _ (rw 5) 60 (rs 5) (0 : Int32) (by decide)) (va_cwS 2 hts gX9_lay_J7_fill_53178 rfl rfl rfl cdJ7_fill_53178 ⟨Nat.le_of_ble_eq_true rfl, Nat.le_of_ble_eq_true rfl⟩) (cPreS (hP.sub [5] rfl) hK (hD.sub [5] (by decide +kernel) rfl) hN) rfl rfl hl.1 rfl (lv_room (Nat.le_of_ble_eq_true rfl)) dX9_lay_7 ⟨Nat.le_of_ble_eq_true rfl, Nat.le_of_ble_eq_true rfl⟩) hP hD hS hA [5] [0, 1, 2, 3, 4, 6, 7, 8, 9, 10, 11] rfl rfl (by decide +kernel) (by decide +kernel) (fun u16 H locs hw17 => ?_)
    clear hP hD hS
    intro hP hD hS
    replace hP : va_P D vwCl [(aI cI (rw 0) 60 (rs 0)), (aI cI (rw 1) 60 (rs 1)), (aI cI (rw 2) 60 (rs 2)), (aI cI (rw 3) 60 (rs 3)), (aI cI (rw 4) 60 (rs 4)), (aI cI (rw 6) 60 (rs 6)), (aI cI (rw 7) 60 (rs 7)), (oC9 ad ), ((ad 12), .inl (cQ, 8, .inr (.inr (.inr (.inr (fun i => if i < 8 then some (rw i) else none)))))), (aI cI (ad 13) 8 sl), (aI cI (ad 14) 8 ss), (aI cI (rw 5) 60 (fun _ => 0))] H := hP
    replace hD : va_D A [(aI cI (rw 0) 60 (rs 0)), (aI cI (rw 1) 60 (rs 1)), (aI cI (rw 2) 60 (rs 2)), (aI cI (rw 3) 60 (rs 3)), (aI cI (rw 4) 60 (rs 4)), (aI cI (rw 6) 60 (rs 6)), (aI cI (rw 7) 60 (rs 7)), (oC9 ad ), ((ad 12), .inl (cQ, 8, .inr (.inr (.inr (.inr (fun i => if i < 8 then some (rw i) else none)))))), (aI cI (ad 13) 8 sl), (aI cI (ad 14) 8 ss), (aI cI (rw 5) 60 (fun _ => 0))] := hD
    refine lv_aload_n hx hb dX9_lay_10 rfl (lv_at hl 0 rfl) ?_
    refine va_get (D := D) (ci := 9) (v := .ref (ad 13)) (C := RX9) (T := TX9) (N := 3) hx hb hts inX9_lay_X9 hown hK hP 7 rfl rfl 1 (by decide) (hts (Cond.fieldLink RX9 16 "PortRooms$Sheets" "lane" "[I") (wm_t (wm_l (wm_i 1 rfl)))) (fun _ h9 => h9) rfl dX9_lay_11 ?_
    refine lv_iload_n hx hb dX9_lay_14 rfl (lv_at hl 1 rfl) ?_
    refine lv_iload_n hx hb dX9_lay_15 rfl (lv_at hl 2 rfl) ?_
    refine va_iast hx hb hK hP hD hS 9 0 rfl rfl (i_in (by omega) (by omega)) dX9_lay_16 (fun H locs => ?_)
    clear hP hD hS
    intro hP hD hS
    replace hP : va_P D vwCl [(aI cI (rw 0) 60 (rs 0)), (aI cI (rw 1) 60 (rs 1)), (aI cI (rw 2) 60 (rs 2)), (aI cI (rw 3) 60 (rs 3)), (aI cI (rw 4) 60 (rs 4)), (aI cI (rw 6) 60 (rs 6)), (aI cI (rw 7) 60 (rs 7)), (oC9 ad ), ((ad 12), .inl (cQ, 8, .inr (.inr (.inr (.inr (fun i => if i < 8 then some (rw i) else none)))))), (aI cI (ad 13) 8 (upd sl a.toNatClampNeg b)), (aI cI (ad 14) 8 ss), (aI cI (rw 5) 60 (fun _ => 0))] H := hP
    replace hD : va_D A [(aI cI (rw 0) 60 (rs 0)), (aI cI (rw 1) 60 (rs 1)), (aI cI (rw 2) 60 (rs 2)), (aI cI (rw 3) 60 (rs 3)), (aI cI (rw 4) 60 (rs 4)), (aI cI (rw 6) 60 (rs 6)), (aI cI (rw 7) 60 (rs 7)), (oC9 ad ), ((ad 12), .inl (cQ, 8, .inr (.inr (.inr (.inr (fun i => if i < 8 then some (rw i) else none)))))), (aI cI (ad 13) 8 (upd sl a.toNatClampNeg b)), (aI cI (ad 14) 8 ss), (aI cI (rw 5) 60 (fun _ => 0))] := hD
    refine lv_aload_n hx hb dX9_lay_17 rfl (lv_at hl 0 rfl) ?_
    refine va_get (D := D) (ci := 9) (v := .ref (ad 14)) (C := RX9) (T := TX9) (N := 3) hx hb hts inX9_lay_X9 hown hK hP 7 rfl rfl 2 (by decide) (hts (Cond.fieldLink RX9 20 "PortRooms$Sheets" "size" "[I") (wm_t (wm_l (wm_i 2 rfl)))) (fun _ h9 => h9) rfl dX9_lay_18 ?_
    refine lv_iload_n hx hb dX9_lay_21 rfl (lv_at hl 1 rfl) ?_
    refine lv_iload_n hx hb dX9_lay_22 rfl (lv_at hl 3 rfl) ?_
    refine va_iast hx hb hK hP hD hS 10 0 rfl rfl (i_in (by omega) (by omega)) dX9_lay_23 (fun H locs => ?_)
    clear hP hD hS
    intro hP hD hS
    replace hP : va_P D vwCl [(aI cI (rw 0) 60 (rs 0)), (aI cI (rw 1) 60 (rs 1)), (aI cI (rw 2) 60 (rs 2)), (aI cI (rw 3) 60 (rs 3)), (aI cI (rw 4) 60 (rs 4)), (aI cI (rw 6) 60 (rs 6)), (aI cI (rw 7) 60 (rs 7)), (oC9 ad ), ((ad 12), .inl (cQ, 8, .inr (.inr (.inr (.inr (fun i => if i < 8 then some (rw i) else none)))))), (aI cI (ad 13) 8 (upd sl a.toNatClampNeg b)), (aI cI (ad 14) 8 (upd ss a.toNatClampNeg n)), (aI cI (rw 5) 60 (fun _ => 0))] H := hP
    replace hD : va_D A [(aI cI (rw 0) 60 (rs 0)), (aI cI (rw 1) 60 (rs 1)), (aI cI (rw 2) 60 (rs 2)), (aI cI (rw 3) 60 (rs 3)), (aI cI (rw 4) 60 (rs 4)), (aI cI (rw 6) 60 (rs 6)), (aI cI (rw 7) 60 (rs 7)), (oC9 ad ), ((ad 12), .inl (cQ, 8, .inr (.inr (.inr (.inr (fun i => if i < 8 then some (rw i) else none)))))), (aI cI (ad 13) 8 (upd sl a.toNatClampNeg b)), (aI cI (ad 14) 8 (upd ss a.toNatClampNeg n)), (aI cI (rw 5) 60 (fun _ => 0))] := hD
    have hP9 := hP.sub (ws' := [(aI cI (rw 0) 60 (upR rs 5 (fun _ => 0) 0)), (aI cI (rw 1) 60 (upR rs 5 (fun _ => 0) 1)), (aI cI (rw 2) 60 (upR rs 5 (fun _ => 0) 2)), (aI cI (rw 3) 60 (upR rs 5 (fun _ => 0) 3)), (aI cI (rw 4) 60 (upR rs 5 (fun _ => 0) 4)), (aI cI (rw 5) 60 (upR rs 5 (fun _ => 0) 5)), (aI cI (rw 6) 60 (upR rs 5 (fun _ => 0) 6)), (aI cI (rw 7) 60 (upR rs 5 (fun _ => 0) 7)), (oC9 ad ), ((ad 12), .inl (cQ, 8, .inr (.inr (.inr (.inr (fun i => if i < 8 then some (rw i) else none)))))), (aI cI (ad 13) 8 (upd sl a.toNatClampNeg b)), (aI cI (ad 14) 8 (upd ss a.toNatClampNeg n))]) [0, 1, 2, 3, 4, 11, 5, 6, 7, 8, 9, 10] rfl
    have hD9 := hD.sub (ws' := [(aI cI (rw 0) 60 (upR rs 5 (fun _ => 0) 0)), (aI cI (rw 1) 60 (upR rs 5 (fun _ => 0) 1)), (aI cI (rw 2) 60 (upR rs 5 (fun _ => 0) 2)), (aI cI (rw 3) 60 (upR rs 5 (fun _ => 0) 3)), (aI cI (rw 4) 60 (upR rs 5 (fun _ => 0) 4)), (aI cI (rw 5) 60 (upR rs 5 (fun _ => 0) 5)), (aI cI (rw 6) 60 (upR rs 5 (fun _ => 0) 6)), (aI cI (rw 7) 60 (upR rs 5 (fun _ => 0) 7)), (oC9 ad ), ((ad 12), .inl (cQ, 8, .inr (.inr (.inr (.inr (fun i => if i < 8 then some (rw i) else none)))))), (aI cI (ad 13) 8 (upd sl a.toNatClampNeg b)), (aI cI (ad 14) 8 (upd ss a.toNatClampNeg n))]) [0, 1, 2, 3, 4, 11, 5, 6, 7, 8, 9, 10] (by decide +kernel) rfl
    exact W.vret hx hb hr (fun t ht hW => ⟨⟨(), rfl, trivial, by rw [ht]; exact hP9, va_K.moved hW.alike hK, hD9⟩, hS.F ht⟩) hS.2.2 dX9_lay_24
  · skip
    refine lv_aload_n hx hb dX9_lay_0 rfl (lv_at hl 0 rfl) ?_
    refine va_get (D := D) (ci := 9) (v := .ref (ad 12)) (C := RX9) (T := TX9) (N := 3) hx hb hts inX9_lay_X9 hown hK hP 8 rfl rfl 0 (by decide) (hts (Cond.fieldLink RX9 11 "PortRooms$Sheets" "items" "[[I") (wm_t (wm_l (wm_i 0 rfl)))) (fun _ h9 => h9) rfl dX9_lay_1 ?_
    refine lv_iload_n hx hb dX9_lay_4 rfl (lv_at hl 1 rfl) ?_
    refine st_aald hx hb hK hP 9 3 rfl rfl (i_in (by omega) (by omega)) dX9_lay_5 ?_
    have ej : (if a.toNatClampNeg < 8 then some (rw a.toNatClampNeg) else none) = some (rw 6) := by have := i_cl h1; rw [if_pos (by omega)]; congr 2; omega
    simp only [ej]
    show W _ _ _ _ _ _ _ _ _ _ _ _ _ _ _ (F0 m 6 ls [.ref (rw 6)])
    refine lv_iconst (v := 0) hx hb dX9_lay_6 (by decide) ?_
    refine st_v (wr := [(aI cI (rw 0) 60 (rs 0)), (aI cI (rw 1) 60 (rs 1)), (aI cI (rw 2) 60 (rs 2)), (aI cI (rw 3) 60 (rs 3)), (aI cI (rw 4) 60 (rs 4)), (aI cI (rw 5) 60 (rs 5)), (aI cI (rw 7) 60 (rs 7)), (oC9 ad ), ((ad 12), .inl (cQ, 8, .inr (.inr (.inr (.inr (fun i => if i < 8 then some (rw i) else none)))))), (aI cI (ad 13) 8 sl), (aI cI (ad 14) 8 ss)]) (va_runS (As := [.ref (rw 6), .int 0]) (rest := []) ⟨hx, hb, hml, hown, hts⟩ (cFill l D cI cY cJ cQ _ (rw 6) 60 (rs 6) (0 : Int32) (by decide)) (va_cwS 2 hts gX9_lay_J7_fill_53178 rfl rfl rfl cdJ7_fill_53178 ⟨Nat.le_of_ble_eq_true rfl, Nat.le_of_ble_eq_true rfl⟩) (cPreS (hP.sub [6] rfl) hK (hD.sub [6] (by decide +kernel) rfl) hN) rfl rfl hl.1 rfl (lv_room (Nat.le_of_ble_eq_true rfl)) dX9_lay_7 ⟨Nat.le_of_ble_eq_true rfl, Nat.le_of_ble_eq_true rfl⟩) hP hD hS hA [6] [0, 1, 2, 3, 4, 5, 7, 8, 9, 10, 11] rfl rfl (by decide +kernel) (by decide +kernel) (fun u19 H locs hw20 => ?_)
    clear hP hD hS
    intro hP hD hS
    replace hP : va_P D vwCl [(aI cI (rw 0) 60 (rs 0)), (aI cI (rw 1) 60 (rs 1)), (aI cI (rw 2) 60 (rs 2)), (aI cI (rw 3) 60 (rs 3)), (aI cI (rw 4) 60 (rs 4)), (aI cI (rw 5) 60 (rs 5)), (aI cI (rw 7) 60 (rs 7)), (oC9 ad ), ((ad 12), .inl (cQ, 8, .inr (.inr (.inr (.inr (fun i => if i < 8 then some (rw i) else none)))))), (aI cI (ad 13) 8 sl), (aI cI (ad 14) 8 ss), (aI cI (rw 6) 60 (fun _ => 0))] H := hP
    replace hD : va_D A [(aI cI (rw 0) 60 (rs 0)), (aI cI (rw 1) 60 (rs 1)), (aI cI (rw 2) 60 (rs 2)), (aI cI (rw 3) 60 (rs 3)), (aI cI (rw 4) 60 (rs 4)), (aI cI (rw 5) 60 (rs 5)), (aI cI (rw 7) 60 (rs 7)), (oC9 ad ), ((ad 12), .inl (cQ, 8, .inr (.inr (.inr (.inr (fun i => if i < 8 then some (rw i) else none)))))), (aI cI (ad 13) 8 sl), (aI cI (ad 14) 8 ss), (aI cI (rw 6) 60 (fun _ => 0))] := hD
    refine lv_aload_n hx hb dX9_lay_10 rfl (lv_at hl 0 rfl) ?_
    refine va_get (D := D) (ci := 9) (v := .ref (ad 13)) (C := RX9) (T := TX9) (N := 3) hx hb hts inX9_lay_X9 hown hK hP 7 rfl rfl 1 (by decide) (hts (Cond.fieldLink RX9 16 "PortRooms$Sheets" "lane" "[I") (wm_t (wm_l (wm_i 1 rfl)))) (fun _ h9 => h9) rfl dX9_lay_11 ?_
    refine lv_iload_n hx hb dX9_lay_14 rfl (lv_at hl 1 rfl) ?_
    refine lv_iload_n hx hb dX9_lay_15 rfl (lv_at hl 2 rfl) ?_
    refine va_iast hx hb hK hP hD hS 9 0 rfl rfl (i_in (by omega) (by omega)) dX9_lay_16 (fun H locs => ?_)
    clear hP hD hS
    intro hP hD hS
    replace hP : va_P D vwCl [(aI cI (rw 0) 60 (rs 0)), (aI cI (rw 1) 60 (rs 1)), (aI cI (rw 2) 60 (rs 2)), (aI cI (rw 3) 60 (rs 3)), (aI cI (rw 4) 60 (rs 4)), (aI cI (rw 5) 60 (rs 5)), (aI cI (rw 7) 60 (rs 7)), (oC9 ad ), ((ad 12), .inl (cQ, 8, .inr (.inr (.inr (.inr (fun i => if i < 8 then some (rw i) else none)))))), (aI cI (ad 13) 8 (upd sl a.toNatClampNeg b)), (aI cI (ad 14) 8 ss), (aI cI (rw 6) 60 (fun _ => 0))] H := hP
    replace hD : va_D A [(aI cI (rw 0) 60 (rs 0)), (aI cI (rw 1) 60 (rs 1)), (aI cI (rw 2) 60 (rs 2)), (aI cI (rw 3) 60 (rs 3)), (aI cI (rw 4) 60 (rs 4)), (aI cI (rw 5) 60 (rs 5)), (aI cI (rw 7) 60 (rs 7)), (oC9 ad ), ((ad 12), .inl (cQ, 8, .inr (.inr (.inr (.inr (fun i => if i < 8 then some (rw i) else none)))))), (aI cI (ad 13) 8 (upd sl a.toNatClampNeg b)), (aI cI (ad 14) 8 ss), (aI cI (rw 6) 60 (fun _ => 0))] := hD
    refine lv_aload_n hx hb dX9_lay_17 rfl (lv_at hl 0 rfl) ?_
    refine va_get (D := D) (ci := 9) (v := .ref (ad 14)) (C := RX9) (T := TX9) (N := 3) hx hb hts inX9_lay_X9 hown hK hP 7 rfl rfl 2 (by decide) (hts (Cond.fieldLink RX9 20 "PortRooms$Sheets" "size" "[I") (wm_t (wm_l (wm_i 2 rfl)))) (fun _ h9 => h9) rfl dX9_lay_18 ?_
    refine lv_iload_n hx hb dX9_lay_21 rfl (lv_at hl 1 rfl) ?_
    refine lv_iload_n hx hb dX9_lay_22 rfl (lv_at hl 3 rfl) ?_
    refine va_iast hx hb hK hP hD hS 10 0 rfl rfl (i_in (by omega) (by omega)) dX9_lay_23 (fun H locs => ?_)
    clear hP hD hS
    intro hP hD hS
    replace hP : va_P D vwCl [(aI cI (rw 0) 60 (rs 0)), (aI cI (rw 1) 60 (rs 1)), (aI cI (rw 2) 60 (rs 2)), (aI cI (rw 3) 60 (rs 3)), (aI cI (rw 4) 60 (rs 4)), (aI cI (rw 5) 60 (rs 5)), (aI cI (rw 7) 60 (rs 7)), (oC9 ad ), ((ad 12), .inl (cQ, 8, .inr (.inr (.inr (.inr (fun i => if i < 8 then some (rw i) else none)))))), (aI cI (ad 13) 8 (upd sl a.toNatClampNeg b)), (aI cI (ad 14) 8 (upd ss a.toNatClampNeg n)), (aI cI (rw 6) 60 (fun _ => 0))] H := hP
    replace hD : va_D A [(aI cI (rw 0) 60 (rs 0)), (aI cI (rw 1) 60 (rs 1)), (aI cI (rw 2) 60 (rs 2)), (aI cI (rw 3) 60 (rs 3)), (aI cI (rw 4) 60 (rs 4)), (aI cI (rw 5) 60 (rs 5)), (aI cI (rw 7) 60 (rs 7)), (oC9 ad ), ((ad 12), .inl (cQ, 8, .inr (.inr (.inr (.inr (fun i => if i < 8 then some (rw i) else none)))))), (aI cI (ad 13) 8 (upd sl a.toNatClampNeg b)), (aI cI (ad 14) 8 (upd ss a.toNatClampNeg n)), (aI cI (rw 6) 60 (fun _ => 0))] := hD
    have hP9 := hP.sub (ws' := [(aI cI (rw 0) 60 (upR rs 6 (fun _ => 0) 0)), (aI cI (rw 1) 60 (upR rs 6 (fun _ => 0) 1)), (aI cI (rw 2) 60 (upR rs 6 (fun _ => 0) 2)), (aI cI (rw 3) 60 (upR rs 6 (fun _ => 0) 3)), (aI cI (rw 4) 60 (upR rs 6 (fun _ => 0) 4)), (aI cI (rw 5) 60 (upR rs 6 (fun _ => 0) 5)), (aI cI (rw 6) 60 (upR rs 6 (fun _ => 0) 6)), (aI cI (rw 7) 60 (upR rs 6 (fun _ => 0) 7)), (oC9 ad ), ((ad 12), .inl (cQ, 8, .inr (.inr (.inr (.inr (fun i => if i < 8 then some (rw i) else none)))))), (aI cI (ad 13) 8 (upd sl a.toNatClampNeg b)), (aI cI (ad 14) 8 (upd ss a.toNatClampNeg n))]) [0, 1, 2, 3, 4, 5, 11, 6, 7, 8, 9, 10] rfl
    have hD9 := hD.sub (ws' := [(aI cI (rw 0) 60 (upR rs 6 (fun _ => 0) 0)), (aI cI (rw 1) 60 (upR rs 6 (fun _ => 0) 1)), (aI cI (rw 2) 60 (upR rs 6 (fun _ => 0) 2)), (aI cI (rw 3) 60 (upR rs 6 (fun _ => 0) 3)), (aI cI (rw 4) 60 (upR rs 6 (fun _ => 0) 4)), (aI cI (rw 5) 60 (upR rs 6 (fun _ => 0) 5)), (aI cI (rw 6) 60 (upR rs 6 (fun _ => 0) 6)), (aI cI (rw 7) 60 (upR rs 6 (fun _ => 0) 7)), (oC9 ad ), ((ad 12), .inl (cQ, 8, .inr (.inr (.inr (.inr (fun i => if i < 8 then some (rw i) else none)))))), (aI cI (ad 13) 8 (upd sl a.toNatClampNeg b)), (aI cI (ad 14) 8 (upd ss a.toNatClampNeg n))]) [0, 1, 2, 3, 4, 5, 11, 6, 7, 8, 9, 10] (by decide +kernel) rfl
    exact W.vret hx hb hr (fun t ht hW => ⟨⟨(), rfl, trivial, by rw [ht]; exact hP9, va_K.moved hW.alike hK, hD9⟩, hS.F ht⟩) hS.2.2 dX9_lay_24
  · skip
    refine lv_aload_n hx hb dX9_lay_0 rfl (lv_at hl 0 rfl) ?_
    refine va_get (D := D) (ci := 9) (v := .ref (ad 12)) (C := RX9) (T := TX9) (N := 3) hx hb hts inX9_lay_X9 hown hK hP 8 rfl rfl 0 (by decide) (hts (Cond.fieldLink RX9 11 "PortRooms$Sheets" "items" "[[I") (wm_t (wm_l (wm_i 0 rfl)))) (fun _ h9 => h9) rfl dX9_lay_1 ?_
    refine lv_iload_n hx hb dX9_lay_4 rfl (lv_at hl 1 rfl) ?_
    refine st_aald hx hb hK hP 9 3 rfl rfl (i_in (by omega) (by omega)) dX9_lay_5 ?_
    have ej : (if a.toNatClampNeg < 8 then some (rw a.toNatClampNeg) else none) = some (rw 7) := by have := i_cl h1; rw [if_pos (by omega)]; congr 2; omega
    simp only [ej]
    show W _ _ _ _ _ _ _ _ _ _ _ _ _ _ _ (F0 m 6 ls [.ref (rw 7)])
    refine lv_iconst (v := 0) hx hb dX9_lay_6 (by decide) ?_
    refine st_v (wr := [(aI cI (rw 0) 60 (rs 0)), (aI cI (rw 1) 60 (rs 1)), (aI cI (rw 2) 60 (rs 2)), (aI cI (rw 3) 60 (rs 3)), (aI cI (rw 4) 60 (rs 4)), (aI cI (rw 5) 60 (rs 5)), (aI cI (rw 6) 60 (rs 6)), (oC9 ad ), ((ad 12), .inl (cQ, 8, .inr (.inr (.inr (.inr (fun i => if i < 8 then some (rw i) else none)))))), (aI cI (ad 13) 8 sl), (aI cI (ad 14) 8 ss)]) (va_runS (As := [.ref (rw 7), .int 0]) (rest := []) ⟨hx, hb, hml, hown, hts⟩ (cFill l D cI cY cJ cQ _ (rw 7) 60 (rs 7) (0 : Int32) (by decide)) (va_cwS 2 hts gX9_lay_J7_fill_53178 rfl rfl rfl cdJ7_fill_53178 ⟨Nat.le_of_ble_eq_true rfl, Nat.le_of_ble_eq_true rfl⟩) (cPreS (hP.sub [7] rfl) hK (hD.sub [7] (by decide +kernel) rfl) hN) rfl rfl hl.1 rfl (lv_room (Nat.le_of_ble_eq_true rfl)) dX9_lay_7 ⟨Nat.le_of_ble_eq_true rfl, Nat.le_of_ble_eq_true rfl⟩) hP hD hS hA [7] [0, 1, 2, 3, 4, 5, 6, 8, 9, 10, 11] rfl rfl (by decide +kernel) (by decide +kernel) (fun u22 H locs hw23 => ?_)
    clear hP hD hS
    intro hP hD hS
    replace hP : va_P D vwCl [(aI cI (rw 0) 60 (rs 0)), (aI cI (rw 1) 60 (rs 1)), (aI cI (rw 2) 60 (rs 2)), (aI cI (rw 3) 60 (rs 3)), (aI cI (rw 4) 60 (rs 4)), (aI cI (rw 5) 60 (rs 5)), (aI cI (rw 6) 60 (rs 6)), (oC9 ad ), ((ad 12), .inl (cQ, 8, .inr (.inr (.inr (.inr (fun i => if i < 8 then some (rw i) else none)))))), (aI cI (ad 13) 8 sl), (aI cI (ad 14) 8 ss), (aI cI (rw 7) 60 (fun _ => 0))] H := hP
    replace hD : va_D A [(aI cI (rw 0) 60 (rs 0)), (aI cI (rw 1) 60 (rs 1)), (aI cI (rw 2) 60 (rs 2)), (aI cI (rw 3) 60 (rs 3)), (aI cI (rw 4) 60 (rs 4)), (aI cI (rw 5) 60 (rs 5)), (aI cI (rw 6) 60 (rs 6)), (oC9 ad ), ((ad 12), .inl (cQ, 8, .inr (.inr (.inr (.inr (fun i => if i < 8 then some (rw i) else none)))))), (aI cI (ad 13) 8 sl), (aI cI (ad 14) 8 ss), (aI cI (rw 7) 60 (fun _ => 0))] := hD
    refine lv_aload_n hx hb dX9_lay_10 rfl (lv_at hl 0 rfl) ?_
    refine va_get (D := D) (ci := 9) (v := .ref (ad 13)) (C := RX9) (T := TX9) (N := 3) hx hb hts inX9_lay_X9 hown hK hP 7 rfl rfl 1 (by decide) (hts (Cond.fieldLink RX9 16 "PortRooms$Sheets" "lane" "[I") (wm_t (wm_l (wm_i 1 rfl)))) (fun _ h9 => h9) rfl dX9_lay_11 ?_
    refine lv_iload_n hx hb dX9_lay_14 rfl (lv_at hl 1 rfl) ?_
    refine lv_iload_n hx hb dX9_lay_15 rfl (lv_at hl 2 rfl) ?_
    refine va_iast hx hb hK hP hD hS 9 0 rfl rfl (i_in (by omega) (by omega)) dX9_lay_16 (fun H locs => ?_)
    clear hP hD hS
    intro hP hD hS
    replace hP : va_P D vwCl [(aI cI (rw 0) 60 (rs 0)), (aI cI (rw 1) 60 (rs 1)), (aI cI (rw 2) 60 (rs 2)), (aI cI (rw 3) 60 (rs 3)), (aI cI (rw 4) 60 (rs 4)), (aI cI (rw 5) 60 (rs 5)), (aI cI (rw 6) 60 (rs 6)), (oC9 ad ), ((ad 12), .inl (cQ, 8, .inr (.inr (.inr (.inr (fun i => if i < 8 then some (rw i) else none)))))), (aI cI (ad 13) 8 (upd sl a.toNatClampNeg b)), (aI cI (ad 14) 8 ss), (aI cI (rw 7) 60 (fun _ => 0))] H := hP
    replace hD : va_D A [(aI cI (rw 0) 60 (rs 0)), (aI cI (rw 1) 60 (rs 1)), (aI cI (rw 2) 60 (rs 2)), (aI cI (rw 3) 60 (rs 3)), (aI cI (rw 4) 60 (rs 4)), (aI cI (rw 5) 60 (rs 5)), (aI cI (rw 6) 60 (rs 6)), (oC9 ad ), ((ad 12), .inl (cQ, 8, .inr (.inr (.inr (.inr (fun i => if i < 8 then some (rw i) else none)))))), (aI cI (ad 13) 8 (upd sl a.toNatClampNeg b)), (aI cI (ad 14) 8 ss), (aI cI (rw 7) 60 (fun _ => 0))] := hD
    refine lv_aload_n hx hb dX9_lay_17 rfl (lv_at hl 0 rfl) ?_
    refine va_get (D := D) (ci := 9) (v := .ref (ad 14)) (C := RX9) (T := TX9) (N := 3) hx hb hts inX9_lay_X9 hown hK hP 7 rfl rfl 2 (by decide) (hts (Cond.fieldLink RX9 20 "PortRooms$Sheets" "size" "[I") (wm_t (wm_l (wm_i 2 rfl)))) (fun _ h9 => h9) rfl dX9_lay_18 ?_
    refine lv_iload_n hx hb dX9_lay_21 rfl (lv_at hl 1 rfl) ?_
    refine lv_iload_n hx hb dX9_lay_22 rfl (lv_at hl 3 rfl) ?_
    refine va_iast hx hb hK hP hD hS 10 0 rfl rfl (i_in (by omega) (by omega)) dX9_lay_23 (fun H locs => ?_)
    clear hP hD hS
    intro hP hD hS
    replace hP : va_P D vwCl [(aI cI (rw 0) 60 (rs 0)), (aI cI (rw 1) 60 (rs 1)), (aI cI (rw 2) 60 (rs 2)), (aI cI (rw 3) 60 (rs 3)), (aI cI (rw 4) 60 (rs 4)), (aI cI (rw 5) 60 (rs 5)), (aI cI (rw 6) 60 (rs 6)), (oC9 ad ), ((ad 12), .inl (cQ, 8, .inr (.inr (.inr (.inr (fun i => if i < 8 then some (rw i) else none)))))), (aI cI (ad 13) 8 (upd sl a.toNatClampNeg b)), (aI cI (ad 14) 8 (upd ss a.toNatClampNeg n)), (aI cI (rw 7) 60 (fun _ => 0))] H := hP
    replace hD : va_D A [(aI cI (rw 0) 60 (rs 0)), (aI cI (rw 1) 60 (rs 1)), (aI cI (rw 2) 60 (rs 2)), (aI cI (rw 3) 60 (rs 3)), (aI cI (rw 4) 60 (rs 4)), (aI cI (rw 5) 60 (rs 5)), (aI cI (rw 6) 60 (rs 6)), (oC9 ad ), ((ad 12), .inl (cQ, 8, .inr (.inr (.inr (.inr (fun i => if i < 8 then some (rw i) else none)))))), (aI cI (ad 13) 8 (upd sl a.toNatClampNeg b)), (aI cI (ad 14) 8 (upd ss a.toNatClampNeg n)), (aI cI (rw 7) 60 (fun _ => 0))] := hD
    have hP9 := hP.sub (ws' := [(aI cI (rw 0) 60 (upR rs 7 (fun _ => 0) 0)), (aI cI (rw 1) 60 (upR rs 7 (fun _ => 0) 1)), (aI cI (rw 2) 60 (upR rs 7 (fun _ => 0) 2)), (aI cI (rw 3) 60 (upR rs 7 (fun _ => 0) 3)), (aI cI (rw 4) 60 (upR rs 7 (fun _ => 0) 4)), (aI cI (rw 5) 60 (upR rs 7 (fun _ => 0) 5)), (aI cI (rw 6) 60 (upR rs 7 (fun _ => 0) 6)), (aI cI (rw 7) 60 (upR rs 7 (fun _ => 0) 7)), (oC9 ad ), ((ad 12), .inl (cQ, 8, .inr (.inr (.inr (.inr (fun i => if i < 8 then some (rw i) else none)))))), (aI cI (ad 13) 8 (upd sl a.toNatClampNeg b)), (aI cI (ad 14) 8 (upd ss a.toNatClampNeg n))]) [0, 1, 2, 3, 4, 5, 6, 11, 7, 8, 9, 10] rfl
    have hD9 := hD.sub (ws' := [(aI cI (rw 0) 60 (upR rs 7 (fun _ => 0) 0)), (aI cI (rw 1) 60 (upR rs 7 (fun _ => 0) 1)), (aI cI (rw 2) 60 (upR rs 7 (fun _ => 0) 2)), (aI cI (rw 3) 60 (upR rs 7 (fun _ => 0) 3)), (aI cI (rw 4) 60 (upR rs 7 (fun _ => 0) 4)), (aI cI (rw 5) 60 (upR rs 7 (fun _ => 0) 5)), (aI cI (rw 6) 60 (upR rs 7 (fun _ => 0) 6)), (aI cI (rw 7) 60 (upR rs 7 (fun _ => 0) 7)), (oC9 ad ), ((ad 12), .inl (cQ, 8, .inr (.inr (.inr (.inr (fun i => if i < 8 then some (rw i) else none)))))), (aI cI (ad 13) 8 (upd sl a.toNatClampNeg b)), (aI cI (ad 14) 8 (upd ss a.toNatClampNeg n))]) [0, 1, 2, 3, 4, 5, 6, 11, 7, 8, 9, 10] (by decide +kernel) rfl
    exact W.vret hx hb hr (fun t ht hW => ⟨⟨(), rfl, trivial, by rw [ht]; exact hP9, va_K.moved hW.alike hK, hD9⟩, hS.F ht⟩) hS.2.2 dX9_lay_24

def sp_sheet (lf : Int32) (rs : Nat → Nat → Int32) (sl ss : Nat → Int32) (a b n : Int32) : Int32 × Int32 × (Nat → Nat → Int32) × (Nat → Int32) × (Nat → Int32) := if 0 ≤ a.toInt ∧ a.toInt < 8 ∧ 0 ≤ b.toInt ∧ b.toInt < 3 ∧ n.toInt ≤ 60 then (if n.toInt < 0 then (-1000014, 4, rs, sl, ss) else (n, 0, upR rs a.toNatClampNeg (fun _ => 0), upd sl a.toNatClampNeg b, upd ss a.toNatClampNeg n)) else (-1000001, lf, rs, sl, ss)

set_option maxHeartbeats 4000000 in
set_option maxRecDepth 100000 in
theorem ct_X10_sheet (l : Launch) (D : va_G) (cI cY cJ cQ : ClassId) (sz : Nat) (ad : Nat → Nat) (rw : Nat → Nat) (rs : Nat → Nat → Int32) (tn td lf : Int32) (sl ss : Nat → Int32) (a : Int32) (b : Int32) (n : Int32)   : Met l yX10_sheet wsX10_sheet ({ frames := 2, cells := 0, slots := 0, locals := 46 }) (cPre D (ty4 cI cY cJ cQ) [(aI cI (rw 0) 60 (rs 0)), (aI cI (rw 1) 60 (rs 1)), (aI cI (rw 2) 60 (rs 2)), (aI cI (rw 3) 60 (rs 3)), (aI cI (rw 4) 60 (rs 4)), (aI cI (rw 5) 60 (rs 5)), (aI cI (rw 6) 60 (rs 6)), (aI cI (rw 7) 60 (rs 7)), (oC10 ad tn td lf), (oC9 ad ), ((ad 12), .inl (cQ, 8, .inr (.inr (.inr (.inr (fun i => if i < 8 then some (rw i) else none)))))), (aI cI (ad 13) 8 sl), (aI cI (ad 14) 8 ss)] sz [.ref (ad 0), .int a, .int b, .int n]) (va_Qi (fun (r : Int32) (u : Int32 × (Nat → Nat → Int32) × (Nat → Int32) × (Nat → Int32)) => (r, u) = sp_sheet lf rs sl ss a b n) (cB D (ty4 cI cY cJ cQ) (fun (u : Int32 × (Nat → Nat → Int32) × (Nat → Int32) × (Nat → Int32)) => [(aI cI (rw 0) 60 (u.2.1 0)), (aI cI (rw 1) 60 (u.2.1 1)), (aI cI (rw 2) 60 (u.2.1 2)), (aI cI (rw 3) 60 (u.2.1 3)), (aI cI (rw 4) 60 (u.2.1 4)), (aI cI (rw 5) 60 (u.2.1 5)), (aI cI (rw 6) 60 (u.2.1 6)), (aI cI (rw 7) 60 (u.2.1 7)), (oC10 ad tn td u.1), (oC9 ad ), ((ad 12), .inl (cQ, 8, .inr (.inr (.inr (.inr (fun i => if i < 8 then some (rw i) else none)))))), (aI cI (ad 13) 8 u.2.2.1), (aI cI (ad 14) 8 u.2.2.2)]) (va_A [(aI cI (rw 0) 60 (rs 0)), (aI cI (rw 1) 60 (rs 1)), (aI cI (rw 2) 60 (rs 2)), (aI cI (rw 3) 60 (rs 3)), (aI cI (rw 4) 60 (rs 4)), (aI cI (rw 5) 60 (rs 5)), (aI cI (rw 6) 60 (rs 6)), (aI cI (rw 7) 60 (rs 7)), (oC10 ad tn td lf), (oC9 ad ), ((ad 12), .inl (cQ, 8, .inr (.inr (.inr (.inr (fun i => if i < 8 then some (rw i) else none)))))), (aI cI (ad 13) 8 sl), (aI cI (ad 14) 8 ss)] sz)) (va_A [(aI cI (rw 0) 60 (rs 0)), (aI cI (rw 1) 60 (rs 1)), (aI cI (rw 2) 60 (rs 2)), (aI cI (rw 3) 60 (rs 3)), (aI cI (rw 4) 60 (rs 4)), (aI cI (rw 5) 60 (rs 5)), (aI cI (rw 6) 60 (rs 6)), (aI cI (rw 7) 60 (rs 7)), (oC10 ad tn td lf), (oC9 ad ), ((ad 12), .inl (cQ, 8, .inr (.inr (.inr (.inr (fun i => if i < 8 then some (rw i) else none)))))), (aI cI (ad 13) 8 sl), (aI cI (ad 14) 8 ss)] sz)) 0 0 (va_A [(aI cI (rw 0) 60 (rs 0)), (aI cI (rw 1) 60 (rs 1)), (aI cI (rw 2) 60 (rs 2)), (aI cI (rw 3) 60 (rs 3)), (aI cI (rw 4) 60 (rs 4)), (aI cI (rw 5) 60 (rs 5)), (aI cI (rw 6) 60 (rs 6)), (aI cI (rw 7) 60 (rs 7)), (oC10 ad tn td lf), (oC9 ad ), ((ad 12), .inl (cQ, 8, .inr (.inr (.inr (.inr (fun i => if i < 8 then some (rw i) else none)))))), (aI cI (ad 13) 8 sl), (aI cI (ad 14) 8 ss)] sz) := by
  refine Met.ofW (cc := cX10_sheet) (maxL := 4) (ret := (some .int)) (by decide) rfl ?_
  intro p e s m args below meth c s₁ B hml hv
  obtain ⟨rfl, hsz, hP, hK, hD0, hN⟩ := hv
  have hx := B.exec
  have hb := B.bytes
  have hr := B.returns
  have hts := atoms_spec (ws := wsX10_sheet) B.pre
  have hown : s.vm.findClass RX10 = some m.cls := findClass_of_methodNamed B.named
  have hlocks := B.notSynchronized
  subst hsz
  have hD := hD0.self (sz := s.heap.size)
  generalize hAe : va_A [(aI cI (rw 0) 60 (rs 0)), (aI cI (rw 1) 60 (rs 1)), (aI cI (rw 2) 60 (rs 2)), (aI cI (rw 3) 60 (rs 3)), (aI cI (rw 4) 60 (rs 4)), (aI cI (rw 5) 60 (rs 5)), (aI cI (rw 6) 60 (rs 6)), (aI cI (rw 7) 60 (rs 7)), (oC10 ad tn td lf), (oC9 ad ), ((ad 12), .inl (cQ, 8, .inr (.inr (.inr (.inr (fun i => if i < 8 then some (rw i) else none)))))), (aI cI (ad 13) 8 sl), (aI cI (ad 14) 8 ss)] s.heap.size = A at hD ⊢
  have hA : ∀ q : Nat, s.heap.size ≤ q → A q := fun q h => by rw [← hAe]; exact Or.inr h
  have hS : va_S A s.heap s.heap [] := va_S.rf
  have hP : va_P D vwCl [(aI cI (rw 0) 60 (rs 0)), (aI cI (rw 1) 60 (rs 1)), (aI cI (rw 2) 60 (rs 2)), (aI cI (rw 3) 60 (rs 3)), (aI cI (rw 4) 60 (rs 4)), (aI cI (rw 5) 60 (rs 5)), (aI cI (rw 6) 60 (rs 6)), (aI cI (rw 7) 60 (rs 7)), (oC10 ad tn td lf), (oC9 ad ), ((ad 12), .inl (cQ, 8, .inr (.inr (.inr (.inr (fun i => if i < 8 then some (rw i) else none)))))), (aI cI (ad 13) 8 sl), (aI cI (ad 14) 8 ss)] s.heap := hP
  have hl := lv_entry ([.ref (ad 0), .int a, .int b, .int n]) (n := 4) (Nat.le_of_ble_eq_true rfl)
  rw [lg_entry_eq]
  generalize (lg_sl ([.ref (ad 0), .int a, .int b, .int n]) ++ List.replicate (4 - (lg_sl ([.ref (ad 0), .int a, .int b, .int n])).length) Slot.unset).toArray = ls at hl ⊢
  have hl : lv_has ls 4 [(0, .ref (ad 0)), (1, .int a), (2, .int b), (3, .int n)] := hl
  have km1000001 : (-1000001 : Int32).toInt = -1000001 := by decide
  have k0 : (0 : Int32).toInt = 0 := by decide
  have k3 : (3 : Int32).toInt = 3 := by decide
  have k4 : (4 : Int32).toInt = 4 := by decide
  have k8 : (8 : Int32).toInt = 8 := by decide
  have k60 : (60 : Int32).toInt = 60 := by decide
  refine lv_iload_n hx hb dX10_sheet_0 rfl (lv_at hl 1 rfl) ?_
  refine lv_bipush (v := 8) hx hb dX10_sheet_1 (by decide) ?_
  refine st_i1 (va_runS (As := [.int a, .int 8]) (rest := []) ⟨hx, hb, hml, hown, hts⟩ (ct_X10_isBelow l D cI cY cJ cQ _ a (8 : Int32)) (va_cwS 2 hts gX10_sheet_X10_isBelow rfl rfl rfl cdX10_isBelow ⟨Nat.le_of_ble_eq_true rfl, Nat.le_of_ble_eq_true rfl⟩) (cPreS (hP.sub [] rfl) hK (hD.sub [] (by decide +kernel) rfl) hN) rfl rfl hl.1 rfl (lv_room (Nat.le_of_ble_eq_true rfl)) dX10_sheet_3 ⟨Nat.le_of_ble_eq_true rfl, Nat.le_of_ble_eq_true rfl⟩) hP hD hS hA [] rfl (fun _ => rfl) (fun r3 u1 H locs hw2 => ?_)
  clear hP hS
  intro hP hS
  replace hw2 : r3 = if 0 ≤ a.toInt ∧ a.toInt < (8 : Int32).toInt then 1 else 0 := hw2
  refine lv_if_eq (tgt := 23) hx hb dX10_sheet_6 (by decide) (fun c4 => ?_) (fun c4 => ?_)
  · skip
    have f5 := bo_f hw2 c4
    refine lv_ldc hx hb hown (hts (Cond.constant RX10 89 (-1000001)) (wm_t (wm_l (wm_i 0 rfl)))) dX10_sheet_23 ?_
    have hP9 := hP
    have hD9 := hD
    exact W.iret (v := (-1000001)) hx hb hr (fun t ht hW => ⟨⟨(-1000001), (lf, rs, sl, ss), rfl, (by unfold sp_sheet; (repeat' split) <;> first | rfl | (exfalso; omega) | (subst_vars; rfl)), by rw [ht]; exact hP9, va_K.moved hW.alike hK, hD9⟩, hS.F ht⟩) hS.2.2 dX10_sheet_25
  · skip
    have f6 := bo_t hw2 c4
    refine lv_iload_n hx hb dX10_sheet_9 rfl (lv_at hl 2 rfl) ?_
    refine lv_iconst (v := 3) hx hb dX10_sheet_10 (by decide) ?_
    refine st_i1 (va_runS (As := [.int b, .int 3]) (rest := []) ⟨hx, hb, hml, hown, hts⟩ (ct_X10_isBelow l D cI cY cJ cQ _ b (3 : Int32)) (va_cwS 2 hts gX10_sheet_X10_isBelow rfl rfl rfl cdX10_isBelow ⟨Nat.le_of_ble_eq_true rfl, Nat.le_of_ble_eq_true rfl⟩) (cPreS (hP.sub [] rfl) hK (hD.sub [] (by decide +kernel) rfl) hN) rfl rfl hl.1 rfl (lv_room (Nat.le_of_ble_eq_true rfl)) dX10_sheet_11 ⟨Nat.le_of_ble_eq_true rfl, Nat.le_of_ble_eq_true rfl⟩) hP hD hS hA [] rfl (fun _ => rfl) (fun r9 u7 H locs hw8 => ?_)
    clear hP hS
    intro hP hS
    replace hw8 : r9 = if 0 ≤ b.toInt ∧ b.toInt < (3 : Int32).toInt then 1 else 0 := hw8
    refine lv_if_eq (tgt := 23) hx hb dX10_sheet_14 (by decide) (fun c10 => ?_) (fun c10 => ?_)
    · skip
      have f11 := bo_f hw8 c10
      refine lv_ldc hx hb hown (hts (Cond.constant RX10 89 (-1000001)) (wm_t (wm_l (wm_i 0 rfl)))) dX10_sheet_23 ?_
      have hP9 := hP
      have hD9 := hD
      exact W.iret (v := (-1000001)) hx hb hr (fun t ht hW => ⟨⟨(-1000001), (lf, rs, sl, ss), rfl, (by unfold sp_sheet; (repeat' split) <;> first | rfl | (exfalso; omega) | (subst_vars; rfl)), by rw [ht]; exact hP9, va_K.moved hW.alike hK, hD9⟩, hS.F ht⟩) hS.2.2 dX10_sheet_25
    · skip
      have f12 := bo_t hw8 c10
      refine lv_iload_n hx hb dX10_sheet_17 rfl (lv_at hl 3 rfl) ?_
      refine lv_bipush (v := 60) hx hb dX10_sheet_18 (by decide) ?_
      refine lv_icmp_le (tgt := 26) hx hb dX10_sheet_20 (by decide) (fun c13 => ?_) (fun c13 => ?_)
      · skip
        have f14 := i_le c13
        refine lv_iload_n hx hb dX10_sheet_26 rfl (lv_at hl 3 rfl) ?_
        refine lv_if_ge (tgt := 36) hx hb dX10_sheet_27 (by decide) (fun c15 => ?_) (fun c15 => ?_)
        · skip
          have f16 := i_le c15
          refine lv_aload_n hx hb dX10_sheet_36 rfl (lv_at hl 0 rfl) ?_
          refine va_get (D := D) (ci := 10) (v := .ref (ad 1)) (C := RX10) (T := TX10) (N := 14) hx hb hts inX10_sheet_X10 hown hK hP 8 rfl rfl 0 (by decide) (hts (Cond.fieldLink RX10 10 "PortRooms" "sheets" "LPortRooms$Sheets;") (wm_t (wm_l (wm_i 1 rfl)))) (fun _ h9 => h9) rfl dX10_sheet_37 ?_
          refine lv_iload_n hx hb dX10_sheet_40 rfl (lv_at hl 1 rfl) ?_
          refine lv_iload_n hx hb dX10_sheet_41 rfl (lv_at hl 2 rfl) ?_
          refine lv_iload_n hx hb dX10_sheet_42 rfl (lv_at hl 3 rfl) ?_
          refine st_v (wr := [(oC10 ad tn td lf)]) (va_runV (C := RX9) (As := [.int a, .int b, .int n]) (rest := []) ⟨hx, hb, hml, hown, hts⟩ (ct_X9_lay l D cI cY cJ cQ _ ad rw rs sl ss a b n a.toNatClampNeg (by omega) (by omega) (by have := i_cl (x := a) (by omega); omega)) (cwV 3 hts gX10_sheet_X9_lay rfl rfl rfl ⟨rfl, cdX9_lay⟩ ⟨Nat.le_of_ble_eq_true rfl, Nat.le_of_ble_eq_true rfl⟩) (cPreV (hP.sub [0, 1, 2, 3, 4, 5, 6, 7, 9, 10, 11, 12] rfl) hK (hD.sub [0, 1, 2, 3, 4, 5, 6, 7, 9, 10, 11, 12] (by decide +kernel) rfl) hN (ci := 9) (q0 := 8) rfl rfl) rfl rfl hl.1 rfl (lv_room (Nat.le_of_ble_eq_true rfl)) dX10_sheet_43 ⟨Nat.le_of_ble_eq_true rfl, Nat.le_of_ble_eq_true rfl⟩) hP hD hS hA [0, 1, 2, 3, 4, 5, 6, 7, 9, 10, 11, 12] [8] rfl rfl (by decide +kernel) (by decide +kernel) (fun u17 H locs hw18 => ?_)
          clear hP hD hS
          intro hP hD hS
          replace hw18 : True := hw18
          replace hP : va_P D vwCl [(oC10 ad tn td lf), (aI cI (rw 0) 60 ((upR rs a.toNatClampNeg (fun _ => 0)) 0)), (aI cI (rw 1) 60 ((upR rs a.toNatClampNeg (fun _ => 0)) 1)), (aI cI (rw 2) 60 ((upR rs a.toNatClampNeg (fun _ => 0)) 2)), (aI cI (rw 3) 60 ((upR rs a.toNatClampNeg (fun _ => 0)) 3)), (aI cI (rw 4) 60 ((upR rs a.toNatClampNeg (fun _ => 0)) 4)), (aI cI (rw 5) 60 ((upR rs a.toNatClampNeg (fun _ => 0)) 5)), (aI cI (rw 6) 60 ((upR rs a.toNatClampNeg (fun _ => 0)) 6)), (aI cI (rw 7) 60 ((upR rs a.toNatClampNeg (fun _ => 0)) 7)), (oC9 ad ), ((ad 12), .inl (cQ, 8, .inr (.inr (.inr (.inr (fun i => if i < 8 then some (rw i) else none)))))), (aI cI (ad 13) 8 (upd sl a.toNatClampNeg b)), (aI cI (ad 14) 8 (upd ss a.toNatClampNeg n))] H := hP
          replace hD : va_D A [(oC10 ad tn td lf), (aI cI (rw 0) 60 ((upR rs a.toNatClampNeg (fun _ => 0)) 0)), (aI cI (rw 1) 60 ((upR rs a.toNatClampNeg (fun _ => 0)) 1)), (aI cI (rw 2) 60 ((upR rs a.toNatClampNeg (fun _ => 0)) 2)), (aI cI (rw 3) 60 ((upR rs a.toNatClampNeg (fun _ => 0)) 3)), (aI cI (rw 4) 60 ((upR rs a.toNatClampNeg (fun _ => 0)) 4)), (aI cI (rw 5) 60 ((upR rs a.toNatClampNeg (fun _ => 0)) 5)), (aI cI (rw 6) 60 ((upR rs a.toNatClampNeg (fun _ => 0)) 6)), (aI cI (rw 7) 60 ((upR rs a.toNatClampNeg (fun _ => 0)) 7)), (oC9 ad ), ((ad 12), .inl (cQ, 8, .inr (.inr (.inr (.inr (fun i => if i < 8 then some (rw i) else none)))))), (aI cI (ad 13) 8 (upd sl a.toNatClampNeg b)), (aI cI (ad 14) 8 (upd ss a.toNatClampNeg n))] := hD
          refine lv_aload_n hx hb dX10_sheet_46 rfl (lv_at hl 0 rfl) ?_
          refine lv_iload_n hx hb dX10_sheet_47 rfl (lv_at hl 3 rfl) ?_
          refine st_i (wr := [(aI cI (rw 0) 60 ((upR rs a.toNatClampNeg (fun _ => 0)) 0)), (aI cI (rw 1) 60 ((upR rs a.toNatClampNeg (fun _ => 0)) 1)), (aI cI (rw 2) 60 ((upR rs a.toNatClampNeg (fun _ => 0)) 2)), (aI cI (rw 3) 60 ((upR rs a.toNatClampNeg (fun _ => 0)) 3)), (aI cI (rw 4) 60 ((upR rs a.toNatClampNeg (fun _ => 0)) 4)), (aI cI (rw 5) 60 ((upR rs a.toNatClampNeg (fun _ => 0)) 5)), (aI cI (rw 6) 60 ((upR rs a.toNatClampNeg (fun _ => 0)) 6)), (aI cI (rw 7) 60 ((upR rs a.toNatClampNeg (fun _ => 0)) 7)), (oC9 ad ), ((ad 12), .inl (cQ, 8, .inr (.inr (.inr (.inr (fun i => if i < 8 then some (rw i) else none)))))), (aI cI (ad 13) 8 (upd sl a.toNatClampNeg b)), (aI cI (ad 14) 8 (upd ss a.toNatClampNeg n))]) (va_runV (C := RX10) (As := [.int n]) (rest := []) ⟨hx, hb, hml, hown, hts⟩ (ct_X10_passed l D cI cY cJ cQ _ ad tn td lf n) (cwV 1 hts gX10_sheet_X10_passed rfl rfl rfl ⟨rfl, cdX10_passed⟩ ⟨Nat.le_of_ble_eq_true rfl, Nat.le_of_ble_eq_true rfl⟩) (cPreV (hP.sub [0] rfl) hK (hD.sub [0] (by decide +kernel) rfl) hN (ci := 10) (q0 := 0) rfl rfl) rfl rfl hl.1 rfl (lv_room (Nat.le_of_ble_eq_true rfl)) dX10_sheet_48 ⟨Nat.le_of_ble_eq_true rfl, Nat.le_of_ble_eq_true rfl⟩) hP hD hS hA [0] [1, 2, 3, 4, 5, 6, 7, 8, 9, 10, 11, 12] rfl rfl (by decide +kernel) (by decide +kernel) (fun r22 u20 H locs hw21 => ?_)
          clear hP hD hS
          intro hP hD hS
          replace hw21 : r22 = n := hw21
          replace hP : va_P D vwCl [(aI cI (rw 0) 60 ((upR rs a.toNatClampNeg (fun _ => 0)) 0)), (aI cI (rw 1) 60 ((upR rs a.toNatClampNeg (fun _ => 0)) 1)), (aI cI (rw 2) 60 ((upR rs a.toNatClampNeg (fun _ => 0)) 2)), (aI cI (rw 3) 60 ((upR rs a.toNatClampNeg (fun _ => 0)) 3)), (aI cI (rw 4) 60 ((upR rs a.toNatClampNeg (fun _ => 0)) 4)), (aI cI (rw 5) 60 ((upR rs a.toNatClampNeg (fun _ => 0)) 5)), (aI cI (rw 6) 60 ((upR rs a.toNatClampNeg (fun _ => 0)) 6)), (aI cI (rw 7) 60 ((upR rs a.toNatClampNeg (fun _ => 0)) 7)), (oC9 ad ), ((ad 12), .inl (cQ, 8, .inr (.inr (.inr (.inr (fun i => if i < 8 then some (rw i) else none)))))), (aI cI (ad 13) 8 (upd sl a.toNatClampNeg b)), (aI cI (ad 14) 8 (upd ss a.toNatClampNeg n)), (oC10 ad tn td (0))] H := hP
          replace hD : va_D A [(aI cI (rw 0) 60 ((upR rs a.toNatClampNeg (fun _ => 0)) 0)), (aI cI (rw 1) 60 ((upR rs a.toNatClampNeg (fun _ => 0)) 1)), (aI cI (rw 2) 60 ((upR rs a.toNatClampNeg (fun _ => 0)) 2)), (aI cI (rw 3) 60 ((upR rs a.toNatClampNeg (fun _ => 0)) 3)), (aI cI (rw 4) 60 ((upR rs a.toNatClampNeg (fun _ => 0)) 4)), (aI cI (rw 5) 60 ((upR rs a.toNatClampNeg (fun _ => 0)) 5)), (aI cI (rw 6) 60 ((upR rs a.toNatClampNeg (fun _ => 0)) 6)), (aI cI (rw 7) 60 ((upR rs a.toNatClampNeg (fun _ => 0)) 7)), (oC9 ad ), ((ad 12), .inl (cQ, 8, .inr (.inr (.inr (.inr (fun i => if i < 8 then some (rw i) else none)))))), (aI cI (ad 13) 8 (upd sl a.toNatClampNeg b)), (aI cI (ad 14) 8 (upd ss a.toNatClampNeg n)), (oC10 ad tn td (0))] := hD
          replace hw21 := hw21.symm
          subst hw21
          have hP9 := hP.sub (ws' := [(aI cI (rw 0) 60 ((upR rs a.toNatClampNeg (fun _ => 0)) 0)), (aI cI (rw 1) 60 ((upR rs a.toNatClampNeg (fun _ => 0)) 1)), (aI cI (rw 2) 60 ((upR rs a.toNatClampNeg (fun _ => 0)) 2)), (aI cI (rw 3) 60 ((upR rs a.toNatClampNeg (fun _ => 0)) 3)), (aI cI (rw 4) 60 ((upR rs a.toNatClampNeg (fun _ => 0)) 4)), (aI cI (rw 5) 60 ((upR rs a.toNatClampNeg (fun _ => 0)) 5)), (aI cI (rw 6) 60 ((upR rs a.toNatClampNeg (fun _ => 0)) 6)), (aI cI (rw 7) 60 ((upR rs a.toNatClampNeg (fun _ => 0)) 7)), (oC10 ad tn td (0)), (oC9 ad ), ((ad 12), .inl (cQ, 8, .inr (.inr (.inr (.inr (fun i => if i < 8 then some (rw i) else none)))))), (aI cI (ad 13) 8 (upd sl a.toNatClampNeg b)), (aI cI (ad 14) 8 (upd ss a.toNatClampNeg n))]) [0, 1, 2, 3, 4, 5, 6, 7, 12, 8, 9, 10, 11] rfl
          have hD9 := hD.sub (ws' := [(aI cI (rw 0) 60 ((upR rs a.toNatClampNeg (fun _ => 0)) 0)), (aI cI (rw 1) 60 ((upR rs a.toNatClampNeg (fun _ => 0)) 1)), (aI cI (rw 2) 60 ((upR rs a.toNatClampNeg (fun _ => 0)) 2)), (aI cI (rw 3) 60 ((upR rs a.toNatClampNeg (fun _ => 0)) 3)), (aI cI (rw 4) 60 ((upR rs a.toNatClampNeg (fun _ => 0)) 4)), (aI cI (rw 5) 60 ((upR rs a.toNatClampNeg (fun _ => 0)) 5)), (aI cI (rw 6) 60 ((upR rs a.toNatClampNeg (fun _ => 0)) 6)), (aI cI (rw 7) 60 ((upR rs a.toNatClampNeg (fun _ => 0)) 7)), (oC10 ad tn td (0)), (oC9 ad ), ((ad 12), .inl (cQ, 8, .inr (.inr (.inr (.inr (fun i => if i < 8 then some (rw i) else none)))))), (aI cI (ad 13) 8 (upd sl a.toNatClampNeg b)), (aI cI (ad 14) 8 (upd ss a.toNatClampNeg n))]) [0, 1, 2, 3, 4, 5, 6, 7, 12, 8, 9, 10, 11] (by decide +kernel) rfl
          exact W.iret (v := n) hx hb hr (fun t ht hW => ⟨⟨n, (0, (upR rs a.toNatClampNeg (fun _ => 0)), upd sl a.toNatClampNeg b, upd ss a.toNatClampNeg n), rfl, (by unfold sp_sheet; (repeat' split) <;> first | rfl | (exfalso; omega) | (subst_vars; rfl)), by rw [ht]; exact hP9, va_K.moved hW.alike hK, hD9⟩, hS.F ht⟩) hS.2.2 dX10_sheet_51
        · skip
          have f23 := i_nle c15
          refine lv_aload_n hx hb dX10_sheet_30 rfl (lv_at hl 0 rfl) ?_
          refine lv_iconst (v := 4) hx hb dX10_sheet_31 (by decide) ?_
          refine st_i (wr := [(aI cI (rw 0) 60 (rs 0)), (aI cI (rw 1) 60 (rs 1)), (aI cI (rw 2) 60 (rs 2)), (aI cI (rw 3) 60 (rs 3)), (aI cI (rw 4) 60 (rs 4)), (aI cI (rw 5) 60 (rs 5)), (aI cI (rw 6) 60 (rs 6)), (aI cI (rw 7) 60 (rs 7)), (oC9 ad ), ((ad 12), .inl (cQ, 8, .inr (.inr (.inr (.inr (fun i => if i < 8 then some (rw i) else none)))))), (aI cI (ad 13) 8 sl), (aI cI (ad 14) 8 ss)]) (va_runV (C := RX10) (As := [.int 4]) (rest := []) ⟨hx, hb, hml, hown, hts⟩ (ct_X10_finding l D cI cY cJ cQ _ ad tn td lf (4 : Int32)) (cwV 1 hts gX10_sheet_X10_finding rfl rfl rfl ⟨rfl, cdX10_finding⟩ ⟨Nat.le_of_ble_eq_true rfl, Nat.le_of_ble_eq_true rfl⟩) (cPreV (hP.sub [8] rfl) hK (hD.sub [8] (by decide +kernel) rfl) hN (ci := 10) (q0 := 0) rfl rfl) rfl rfl hl.1 rfl (lv_room (Nat.le_of_ble_eq_true rfl)) dX10_sheet_32 ⟨Nat.le_of_ble_eq_true rfl, Nat.le_of_ble_eq_true rfl⟩) hP hD hS hA [8] [0, 1, 2, 3, 4, 5, 6, 7, 9, 10, 11, 12] rfl rfl (by decide +kernel) (by decide +kernel) (fun r26 u24 H locs hw25 => ?_)
          clear hP hD hS
          intro hP hD hS
          replace hw25 : r26 = (-1000010) - (4 : Int32) := hw25
          replace hP : va_P D vwCl [(aI cI (rw 0) 60 (rs 0)), (aI cI (rw 1) 60 (rs 1)), (aI cI (rw 2) 60 (rs 2)), (aI cI (rw 3) 60 (rs 3)), (aI cI (rw 4) 60 (rs 4)), (aI cI (rw 5) 60 (rs 5)), (aI cI (rw 6) 60 (rs 6)), (aI cI (rw 7) 60 (rs 7)), (oC9 ad ), ((ad 12), .inl (cQ, 8, .inr (.inr (.inr (.inr (fun i => if i < 8 then some (rw i) else none)))))), (aI cI (ad 13) 8 sl), (aI cI (ad 14) 8 ss), (oC10 ad tn td (4 : Int32))] H := hP
          replace hD : va_D A [(aI cI (rw 0) 60 (rs 0)), (aI cI (rw 1) 60 (rs 1)), (aI cI (rw 2) 60 (rs 2)), (aI cI (rw 3) 60 (rs 3)), (aI cI (rw 4) 60 (rs 4)), (aI cI (rw 5) 60 (rs 5)), (aI cI (rw 6) 60 (rs 6)), (aI cI (rw 7) 60 (rs 7)), (oC9 ad ), ((ad 12), .inl (cQ, 8, .inr (.inr (.inr (.inr (fun i => if i < 8 then some (rw i) else none)))))), (aI cI (ad 13) 8 sl), (aI cI (ad 14) 8 ss), (oC10 ad tn td (4 : Int32))] := hD
          subst hw25
          have hP9 := hP.sub (ws' := [(aI cI (rw 0) 60 (rs 0)), (aI cI (rw 1) 60 (rs 1)), (aI cI (rw 2) 60 (rs 2)), (aI cI (rw 3) 60 (rs 3)), (aI cI (rw 4) 60 (rs 4)), (aI cI (rw 5) 60 (rs 5)), (aI cI (rw 6) 60 (rs 6)), (aI cI (rw 7) 60 (rs 7)), (oC10 ad tn td (4 : Int32)), (oC9 ad ), ((ad 12), .inl (cQ, 8, .inr (.inr (.inr (.inr (fun i => if i < 8 then some (rw i) else none)))))), (aI cI (ad 13) 8 sl), (aI cI (ad 14) 8 ss)]) [0, 1, 2, 3, 4, 5, 6, 7, 12, 8, 9, 10, 11] rfl
          have hD9 := hD.sub (ws' := [(aI cI (rw 0) 60 (rs 0)), (aI cI (rw 1) 60 (rs 1)), (aI cI (rw 2) 60 (rs 2)), (aI cI (rw 3) 60 (rs 3)), (aI cI (rw 4) 60 (rs 4)), (aI cI (rw 5) 60 (rs 5)), (aI cI (rw 6) 60 (rs 6)), (aI cI (rw 7) 60 (rs 7)), (oC10 ad tn td (4 : Int32)), (oC9 ad ), ((ad 12), .inl (cQ, 8, .inr (.inr (.inr (.inr (fun i => if i < 8 then some (rw i) else none)))))), (aI cI (ad 13) 8 sl), (aI cI (ad 14) 8 ss)]) [0, 1, 2, 3, 4, 5, 6, 7, 12, 8, 9, 10, 11] (by decide +kernel) rfl
          exact W.iret (v := (-1000010) - (4 : Int32)) hx hb hr (fun t ht hW => ⟨⟨(-1000010) - (4 : Int32), ((4 : Int32), rs, sl, ss), rfl, (by unfold sp_sheet; (repeat' split) <;> first | rfl | (exfalso; omega) | (subst_vars; rfl)), by rw [ht]; exact hP9, va_K.moved hW.alike hK, hD9⟩, hS.F ht⟩) hS.2.2 dX10_sheet_35
      · skip
        have f27 := i_nle c13
        refine lv_ldc hx hb hown (hts (Cond.constant RX10 89 (-1000001)) (wm_t (wm_l (wm_i 0 rfl)))) dX10_sheet_23 ?_
        have hP9 := hP
        have hD9 := hD
        exact W.iret (v := (-1000001)) hx hb hr (fun t ht hW => ⟨⟨(-1000001), (lf, rs, sl, ss), rfl, (by unfold sp_sheet; (repeat' split) <;> first | rfl | (exfalso; omega) | (subst_vars; rfl)), by rw [ht]; exact hP9, va_K.moved hW.alike hK, hD9⟩, hS.F ht⟩) hS.2.2 dX10_sheet_25

/-- what a lane keeps of a number -/
def kept (t v : Int32) : Int32 := if t.toInt = 0 then v.toInt8.toInt32 else if t.toInt = 1 then v.toInt16.toInt32 else v

set_option maxHeartbeats 4000000 in
set_option maxRecDepth 100000 in
theorem ct_X9_put (l : Launch) (D : va_G) (cI cY cJ cQ : ClassId) (sz : Nat) (ad : Nat → Nat) (rw : Nat → Nat) (rs : Nat → Nat → Int32) (sl : Nat → Int32) (a : Int32) (i : Int32) (v : Int32)  (h1 : 0 ≤ a.toInt) (h2 : a.toInt < 8) (h3 : 0 ≤ i.toInt) (h4 : i.toInt < 60)  : Met l yX9_put wsX9_put ({ frames := 0, cells := 0, slots := 0, locals := 0 }) (cPre D (ty4 cI cY cJ cQ) [(aI cI (rw 0) 60 (rs 0)), (aI cI (rw 1) 60 (rs 1)), (aI cI (rw 2) 60 (rs 2)), (aI cI (rw 3) 60 (rs 3)), (aI cI (rw 4) 60 (rs 4)), (aI cI (rw 5) 60 (rs 5)), (aI cI (rw 6) 60 (rs 6)), (aI cI (rw 7) 60 (rs 7)), (oC9 ad ), ((ad 12), .inl (cQ, 8, .inr (.inr (.inr (.inr (fun i => if i < 8 then some (rw i) else none)))))), (aI cI (ad 13) 8 sl)] sz [.ref (ad 1), .int a, .int i, .int v]) (va_Qi (fun (r : Int32) (u : Unit) => r = kept (sl a.toNatClampNeg) v) (cB D (ty4 cI cY cJ cQ) (fun (u : Unit) => [(aI cI (rw 0) 60 ((upR rs a.toNatClampNeg (upd (rs a.toNatClampNeg) i.toNatClampNeg (kept (sl a.toNatClampNeg) v))) 0)), (aI cI (rw 1) 60 ((upR rs a.toNatClampNeg (upd (rs a.toNatClampNeg) i.toNatClampNeg (kept (sl a.toNatClampNeg) v))) 1)), (aI cI (rw 2) 60 ((upR rs a.toNatClampNeg (upd (rs a.toNatClampNeg) i.toNatClampNeg (kept (sl a.toNatClampNeg) v))) 2)), (aI cI (rw 3) 60 ((upR rs a.toNatClampNeg (upd (rs a.toNatClampNeg) i.toNatClampNeg (kept (sl a.toNatClampNeg) v))) 3)), (aI cI (rw 4) 60 ((upR rs a.toNatClampNeg (upd (rs a.toNatClampNeg) i.toNatClampNeg (kept (sl a.toNatClampNeg) v))) 4)), (aI cI (rw 5) 60 ((upR rs a.toNatClampNeg (upd (rs a.toNatClampNeg) i.toNatClampNeg (kept (sl a.toNatClampNeg) v))) 5)), (aI cI (rw 6) 60 ((upR rs a.toNatClampNeg (upd (rs a.toNatClampNeg) i.toNatClampNeg (kept (sl a.toNatClampNeg) v))) 6)), (aI cI (rw 7) 60 ((upR rs a.toNatClampNeg (upd (rs a.toNatClampNeg) i.toNatClampNeg (kept (sl a.toNatClampNeg) v))) 7)), (oC9 ad ), ((ad 12), .inl (cQ, 8, .inr (.inr (.inr (.inr (fun i => if i < 8 then some (rw i) else none)))))), (aI cI (ad 13) 8 sl)]) (va_A [(aI cI (rw 0) 60 (rs 0)), (aI cI (rw 1) 60 (rs 1)), (aI cI (rw 2) 60 (rs 2)), (aI cI (rw 3) 60 (rs 3)), (aI cI (rw 4) 60 (rs 4)), (aI cI (rw 5) 60 (rs 5)), (aI cI (rw 6) 60 (rs 6)), (aI cI (rw 7) 60 (rs 7)), (oC9 ad ), ((ad 12), .inl (cQ, 8, .inr (.inr (.inr (.inr (fun i => if i < 8 then some (rw i) else none)))))), (aI cI (ad 13) 8 sl)] sz)) (va_A [(aI cI (rw 0) 60 (rs 0)), (aI cI (rw 1) 60 (rs 1)), (aI cI (rw 2) 60 (rs 2)), (aI cI (rw 3) 60 (rs 3)), (aI cI (rw 4) 60 (rs 4)), (aI cI (rw 5) 60 (rs 5)), (aI cI (rw 6) 60 (rs 6)), (aI cI (rw 7) 60 (rs 7)), (oC9 ad ), ((ad 12), .inl (cQ, 8, .inr (.inr (.inr (.inr (fun i => if i < 8 then some (rw i) else none)))))), (aI cI (ad 13) 8 sl)] sz)) 0 0 (va_A [(aI cI (rw 0) 60 (rs 0)), (aI cI (rw 1) 60 (rs 1)), (aI cI (rw 2) 60 (rs 2)), (aI cI (rw 3) 60 (rs 3)), (aI cI (rw 4) 60 (rs 4)), (aI cI (rw 5) 60 (rs 5)), (aI cI (rw 6) 60 (rs 6)), (aI cI (rw 7) 60 (rs 7)), (oC9 ad ), ((ad 12), .inl (cQ, 8, .inr (.inr (.inr (.inr (fun i => if i < 8 then some (rw i) else none)))))), (aI cI (ad 13) 8 sl)] sz) := by
  refine Met.ofW (cc := cX9_put) (maxL := 5) (ret := (some .int)) (by decide) rfl ?_
  intro p e s m args below meth c s₁ B hml hv
  obtain ⟨rfl, hsz, hP, hK, hD0, hN⟩ := hv
  have hx := B.exec
  have hb := B.bytes
  have hr := B.returns
  have hts := atoms_spec (ws := wsX9_put) B.pre
  have hown : s.vm.findClass RX9 = some m.cls := findClass_of_methodNamed B.named
  have hlocks := B.notSynchronized
  subst hsz
  have hD := hD0.self (sz := s.heap.size)
  generalize hAe : va_A [(aI cI (rw 0) 60 (rs 0)), (aI cI (rw 1) 60 (rs 1)), (aI cI (rw 2) 60 (rs 2)), (aI cI (rw 3) 60 (rs 3)), (aI cI (rw 4) 60 (rs 4)), (aI cI (rw 5) 60 (rs 5)), (aI cI (rw 6) 60 (rs 6)), (aI cI (rw 7) 60 (rs 7)), (oC9 ad ), ((ad 12), .inl (cQ, 8, .inr (.inr (.inr (.inr (fun i => if i < 8 then some (rw i) else none)))))), (aI cI (ad 13) 8 sl)] s.heap.size = A at hD ⊢
  have hA : ∀ q : Nat, s.heap.size ≤ q → A q := fun q h => by rw [← hAe]; exact Or.inr h
  have hS : va_S A s.heap s.heap [] := va_S.rf
  have hP : va_P D vwCl [(aI cI (rw 0) 60 (rs 0)), (aI cI (rw 1) 60 (rs 1)), (aI cI (rw 2) 60 (rs 2)), (aI cI (rw 3) 60 (rs 3)), (aI cI (rw 4) 60 (rs 4)), (aI cI (rw 5) 60 (rs 5)), (aI cI (rw 6) 60 (rs 6)), (aI cI (rw 7) 60 (rs 7)), (oC9 ad ), ((ad 12), .inl (cQ, 8, .inr (.inr (.inr (.inr (fun i => if i < 8 then some (rw i) else none)))))), (aI cI (ad 13) 8 sl)] s.heap := hP
  have hl := lv_entry ([.ref (ad 1), .int a, .int i, .int v]) (n := 5) (Nat.le_of_ble_eq_true rfl)
  rw [lg_entry_eq]
  generalize (lg_sl ([.ref (ad 1), .int a, .int i, .int v]) ++ List.replicate (5 - (lg_sl ([.ref (ad 1), .int a, .int i, .int v])).length) Slot.unset).toArray = ls at hl ⊢
  have hl : lv_has ls 5 [(0, .ref (ad 1)), (1, .int a), (2, .int i), (3, .int v)] := hl
  have k0 : (0 : Int32).toInt = 0 := by decide
  have k1 : (1 : Int32).toInt = 1 := by decide
  refine lv_aload_n hx hb dX9_put_0 rfl (lv_at hl 0 rfl) ?_
  refine va_get (D := D) (ci := 9) (v := .ref (ad 13)) (C := RX9) (T := TX9) (N := 3) hx hb hts inX9_put_X9 hown hK hP 8 rfl rfl 1 (by decide) (hts (Cond.fieldLink RX9 16 "PortRooms$Sheets" "lane" "[I") (wm_t (wm_l (wm_i 0 rfl)))) (fun _ h9 => h9) rfl dX9_put_1 ?_
  refine lv_iload_n hx hb dX9_put_4 rfl (lv_at hl 1 rfl) ?_
  refine va_iald hx hb hK hP 10 0 rfl rfl (i_in (by omega) (by omega)) dX9_put_5 ?_
  refine lv_topi (fun v1 ev1 => ?_)
  have tlv1 : v1.toInt = (sl a.toNatClampNeg).toInt := by rw [ev1]
  refine lv_if_ne (tgt := 14) hx hb dX9_put_6 (by decide) (fun c2 => ?_) (fun c2 => ?_)
  · skip
    have f3 := i_ne c2
    refine lv_aload_n hx hb dX9_put_14 rfl (lv_at hl 0 rfl) ?_
    refine va_get (D := D) (ci := 9) (v := .ref (ad 13)) (C := RX9) (T := TX9) (N := 3) hx hb hts inX9_put_X9 hown hK hP 8 rfl rfl 1 (by decide) (hts (Cond.fieldLink RX9 16 "PortRooms$Sheets" "lane" "[I") (wm_t (wm_l (wm_i 0 rfl)))) (fun _ h9 => h9) rfl dX9_put_15 ?_
    refine lv_iload_n hx hb dX9_put_18 rfl (lv_at hl 1 rfl) ?_
    refine va_iald hx hb hK hP 10 0 rfl rfl (i_in (by omega) (by omega)) dX9_put_19 ?_
    refine lv_topi (fun v4 ev4 => ?_)
    have tlv4 : v4.toInt = (sl a.toNatClampNeg).toInt := by rw [ev4]
    refine lv_iconst (v := 1) hx hb dX9_put_20 (by decide) ?_
    refine lv_icmp_ne (tgt := 29) hx hb dX9_put_21 (by decide) (fun c5 => ?_) (fun c5 => ?_)
    · skip
      have f6 := i_ne c5
      refine lv_iload_n hx hb dX9_put_29 rfl (lv_at hl 3 rfl) ?_
      refine lv_istore (lv' := [(4, .int v), (0, .ref (ad 1)), (1, .int a), (2, .int i), (3, .int v)]) hx hb dX9_put_30 hl (by decide) rfl (fun ls hl => ?_)
      refine lv_aload_n hx hb dX9_put_32 rfl (lv_at hl 1 rfl) ?_
      refine va_get (D := D) (ci := 9) (v := .ref (ad 12)) (C := RX9) (T := TX9) (N := 3) hx hb hts inX9_put_X9 hown hK hP 8 rfl rfl 0 (by decide) (hts (Cond.fieldLink RX9 11 "PortRooms$Sheets" "items" "[[I") (wm_t (wm_l (wm_i 1 rfl)))) (fun _ h9 => h9) rfl dX9_put_33 ?_
      refine lv_iload_n hx hb dX9_put_36 rfl (lv_at hl 2 rfl) ?_
      refine st_aaldR hx hb hK hP 9 3 rfl rfl (i_in (by omega) (by omega)) dX9_put_37 ?_
      refine lv_iload_n hx hb dX9_put_38 rfl (lv_at hl 3 rfl) ?_
      refine lv_iload hx hb dX9_put_39 (lv_at hl 0 rfl) ?_
      refine va_iast hx hb hK hP hD hS a.toNatClampNeg 0 (rows_at (by have := i_cl (x := a) (by omega); omega)) rfl (i_in (by omega) (by omega)) dX9_put_41 (fun H locs => ?_)
      clear hP hD hS
      intro hP hD hS
      rw [rows_set (by have := i_cl (x := a) (by omega); omega)] at hP hD
      replace hP : va_P D vwCl [(aI cI (rw 0) 60 ((upR rs a.toNatClampNeg (upd (rs a.toNatClampNeg) i.toNatClampNeg v)) 0)), (aI cI (rw 1) 60 ((upR rs a.toNatClampNeg (upd (rs a.toNatClampNeg) i.toNatClampNeg v)) 1)), (aI cI (rw 2) 60 ((upR rs a.toNatClampNeg (upd (rs a.toNatClampNeg) i.toNatClampNeg v)) 2)), (aI cI (rw 3) 60 ((upR rs a.toNatClampNeg (upd (rs a.toNatClampNeg) i.toNatClampNeg v)) 3)), (aI cI (rw 4) 60 ((upR rs a.toNatClampNeg (upd (rs a.toNatClampNeg) i.toNatClampNeg v)) 4)), (aI cI (rw 5) 60 ((upR rs a.toNatClampNeg (upd (rs a.toNatClampNeg) i.toNatClampNeg v)) 5)), (aI cI (rw 6) 60 ((upR rs a.toNatClampNeg (upd (rs a.toNatClampNeg) i.toNatClampNeg v)) 6)), (aI cI (rw 7) 60 ((upR rs a.toNatClampNeg (upd (rs a.toNatClampNeg) i.toNatClampNeg v)) 7)), (oC9 ad ), ((ad 12), .inl (cQ, 8, .inr (.inr (.inr (.inr (fun i => if i < 8 then some (rw i) else none)))))), (aI cI (ad 13) 8 sl)] H := hP
      replace hD : va_D A [(aI cI (rw 0) 60 ((upR rs a.toNatClampNeg (upd (rs a.toNatClampNeg) i.toNatClampNeg v)) 0)), (aI cI (rw 1) 60 ((upR rs a.toNatClampNeg (upd (rs a.toNatClampNeg) i.toNatClampNeg v)) 1)), (aI cI (rw 2) 60 ((upR rs a.toNatClampNeg (upd (rs a.toNatClampNeg) i.toNatClampNeg v)) 2)), (aI cI (rw 3) 60 ((upR rs a.toNatClampNeg (upd (rs a.toNatClampNeg) i.toNatClampNeg v)) 3)), (aI cI (rw 4) 60 ((upR rs a.toNatClampNeg (upd (rs a.toNatClampNeg) i.toNatClampNeg v)) 4)), (aI cI (rw 5) 60 ((upR rs a.toNatClampNeg (upd (rs a.toNatClampNeg) i.toNatClampNeg v)) 5)), (aI cI (rw 6) 60 ((upR rs a.toNatClampNeg (upd (rs a.toNatClampNeg) i.toNatClampNeg v)) 6)), (aI cI (rw 7) 60 ((upR rs a.toNatClampNeg (upd (rs a.toNatClampNeg) i.toNatClampNeg v)) 7)), (oC9 ad ), ((ad 12), .inl (cQ, 8, .inr (.inr (.inr (.inr (fun i => if i < 8 then some (rw i) else none)))))), (aI cI (ad 13) 8 sl)] := hD
      refine lv_iload hx hb dX9_put_42 (lv_at hl 0 rfl) ?_
      have hk9 : v = kept (sl a.toNatClampNeg) v := by unfold kept; (repeat' split) <;> first | (exfalso; omega) | (subst_vars; rfl)
      replace hP : va_P D vwCl [(aI cI (rw 0) 60 ((upR rs a.toNatClampNeg (upd (rs a.toNatClampNeg) i.toNatClampNeg (kept (sl a.toNatClampNeg) v))) 0)), (aI cI (rw 1) 60 ((upR rs a.toNatClampNeg (upd (rs a.toNatClampNeg) i.toNatClampNeg (kept (sl a.toNatClampNeg) v))) 1)), (aI cI (rw 2) 60 ((upR rs a.toNatClampNeg (upd (rs a.toNatClampNeg) i.toNatClampNeg (kept (sl a.toNatClampNeg) v))) 2)), (aI cI (rw 3) 60 ((upR rs a.toNatClampNeg (upd (rs a.toNatClampNeg) i.toNatClampNeg (kept (sl a.toNatClampNeg) v))) 3)), (aI cI (rw 4) 60 ((upR rs a.toNatClampNeg (upd (rs a.toNatClampNeg) i.toNatClampNeg (kept (sl a.toNatClampNeg) v))) 4)), (aI cI (rw 5) 60 ((upR rs a.toNatClampNeg (upd (rs a.toNatClampNeg) i.toNatClampNeg (kept (sl a.toNatClampNeg) v))) 5)), (aI cI (rw 6) 60 ((upR rs a.toNatClampNeg (upd (rs a.toNatClampNeg) i.toNatClampNeg (kept (sl a.toNatClampNeg) v))) 6)), (aI cI (rw 7) 60 ((upR rs a.toNatClampNeg (upd (rs a.toNatClampNeg) i.toNatClampNeg (kept (sl a.toNatClampNeg) v))) 7)), (oC9 ad ), ((ad 12), .inl (cQ, 8, .inr (.inr (.inr (.inr (fun i => if i < 8 then some (rw i) else none)))))), (aI cI (ad 13) 8 sl)] H := by rw [← hk9]; exact hP
      replace hD : va_D A [(aI cI (rw 0) 60 ((upR rs a.toNatClampNeg (upd (rs a.toNatClampNeg) i.toNatClampNeg (kept (sl a.toNatClampNeg) v))) 0)), (aI cI (rw 1) 60 ((upR rs a.toNatClampNeg (upd (rs a.toNatClampNeg) i.toNatClampNeg (kept (sl a.toNatClampNeg) v))) 1)), (aI cI (rw 2) 60 ((upR rs a.toNatClampNeg (upd (rs a.toNatClampNeg) i.toNatClampNeg (kept (sl a.toNatClampNeg) v))) 2)), (aI cI (rw 3) 60 ((upR rs a.toNatClampNeg (upd (rs a.toNatClampNeg) i.toNatClampNeg (kept (sl a.toNatClampNeg) v))) 3)), (aI cI (rw 4) 60 ((upR rs a.toNatClampNeg (upd (rs a.toNatClampNeg) i.toNatClampNeg (kept (sl a.toNatClampNeg) v))) 4)), (aI cI (rw 5) 60 ((upR rs a.toNatClampNeg (upd (rs a.toNatClampNeg) i.toNatClampNeg (kept (sl a.toNatClampNeg) v))) 5)), (aI cI (rw 6) 60 ((upR rs a.toNatClampNeg (upd (rs a.toNatClampNeg) i.toNatClampNeg (kept (sl a.toNatClampNeg) v))) 6)), (aI cI (rw 7) 60 ((upR rs a.toNatClampNeg (upd (rs a.toNatClampNeg) i.toNatClampNeg (kept (sl a.toNatClampNeg) v))) 7)), (oC9 ad ), ((ad 12), .inl (cQ, 8, .inr (.inr (.inr (.inr (fun i => if i < 8 then some (rw i) else none)))))), (aI cI (ad 13) 8 sl)] := by rw [← hk9]; exact hD
      have hP9 := hP
      have hD9 := hD
      exact W.iret (v := v) hx hb hr (fun t ht hW => ⟨⟨v, (), rfl, hk9, by rw [ht]; exact hP9, va_K.moved hW.alike hK, hD9⟩, hS.F ht⟩) hS.2.2 dX9_put_44
    · skip
      have f7 := i_eq c5
      refine lv_iload_n hx hb dX9_put_24 rfl (lv_at hl 3 rfl) ?_
      refine lv_i2s hx hb dX9_put_25 rfl ?_
      refine lv_topi (fun v8 ev8 => ?_)
      refine lv_goto (tgt := 30) hx hb dX9_put_26 (by decide) ?_
      refine lv_istore (lv' := [(4, .int v8), (0, .ref (ad 1)), (1, .int a), (2, .int i), (3, .int v)]) hx hb dX9_put_30 hl (by decide) rfl (fun ls hl => ?_)
      refine lv_aload_n hx hb dX9_put_32 rfl (lv_at hl 1 rfl) ?_
      refine va_get (D := D) (ci := 9) (v := .ref (ad 12)) (C := RX9) (T := TX9) (N := 3) hx hb hts inX9_put_X9 hown hK hP 8 rfl rfl 0 (by decide) (hts (Cond.fieldLink RX9 11 "PortRooms$Sheets" "items" "[[I") (wm_t (wm_l (wm_i 1 rfl)))) (fun _ h9 => h9) rfl dX9_put_33 ?_
      refine lv_iload_n hx hb dX9_put_36 rfl (lv_at hl 2 rfl) ?_
      refine st_aaldR hx hb hK hP 9 3 rfl rfl (i_in (by omega) (by omega)) dX9_put_37 ?_
      refine lv_iload_n hx hb dX9_put_38 rfl (lv_at hl 3 rfl) ?_
      refine lv_iload hx hb dX9_put_39 (lv_at hl 0 rfl) ?_
      refine va_iast hx hb hK hP hD hS a.toNatClampNeg 0 (rows_at (by have := i_cl (x := a) (by omega); omega)) rfl (i_in (by omega) (by omega)) dX9_put_41 (fun H locs => ?_)
      clear hP hD hS
      intro hP hD hS
      rw [rows_set (by have := i_cl (x := a) (by omega); omega)] at hP hD
      replace hP : va_P D vwCl [(aI cI (rw 0) 60 ((upR rs a.toNatClampNeg (upd (rs a.toNatClampNeg) i.toNatClampNeg v8)) 0)), (aI cI (rw 1) 60 ((upR rs a.toNatClampNeg (upd (rs a.toNatClampNeg) i.toNatClampNeg v8)) 1)), (aI cI (rw 2) 60 ((upR rs a.toNatClampNeg (upd (rs a.toNatClampNeg) i.toNatClampNeg v8)) 2)), (aI cI (rw 3) 60 ((upR rs a.toNatClampNeg (upd (rs a.toNatClampNeg) i.toNatClampNeg v8)) 3)), (aI cI (rw 4) 60 ((upR rs a.toNatClampNeg (upd (rs a.toNatClampNeg) i.toNatClampNeg v8)) 4)), (aI cI (rw 5) 60 ((upR rs a.toNatClampNeg (upd (rs a.toNatClampNeg) i.toNatClampNeg v8)) 5)), (aI cI (rw 6) 60 ((upR rs a.toNatClampNeg (upd (rs a.toNatClampNeg) i.toNatClampNeg v8)) 6)), (aI cI (rw 7) 60 ((upR rs a.toNatClampNeg (upd (rs a.toNatClampNeg) i.toNatClampNeg v8)) 7)), (oC9 ad ), ((ad 12), .inl (cQ, 8, .inr (.inr (.inr (.inr (fun i => if i < 8 then some (rw i) else none)))))), (aI cI (ad 13) 8 sl)] H := hP
      replace hD : va_D A [(aI cI (rw 0) 60 ((upR rs a.toNatClampNeg (upd (rs a.toNatClampNeg) i.toNatClampNeg v8)) 0)), (aI cI (rw 1) 60 ((upR rs a.toNatClampNeg (upd (rs a.toNatClampNeg) i.toNatClampNeg v8)) 1)), (aI cI (rw 2) 60 ((upR rs a.toNatClampNeg (upd (rs a.toNatClampNeg) i.toNatClampNeg v8)) 2)), (aI cI (rw 3) 60 ((upR rs a.toNatClampNeg (upd (rs a.toNatClampNeg) i.toNatClampNeg v8)) 3)), (aI cI (rw 4) 60 ((upR rs a.toNatClampNeg (upd (rs a.toNatClampNeg) i.toNatClampNeg v8)) 4)), (aI cI (rw 5) 60 ((upR rs a.toNatClampNeg (upd (rs a.toNatClampNeg) i.toNatClampNeg v8)) 5)), (aI cI (rw 6) 60 ((upR rs a.toNatClampNeg (upd (rs a.toNatClampNeg) i.toNatClampNeg v8)) 6)), (aI cI (rw 7) 60 ((upR rs a.toNatClampNeg (upd (rs a.toNatClampNeg) i.toNatClampNeg v8)) 7)), (oC9 ad ), ((ad 12), .inl (cQ, 8, .inr (.inr (.inr (.inr (fun i => if i < 8 then some (rw i) else none)))))), (aI cI (ad 13) 8 sl)] := hD
      refine lv_iload hx hb dX9_put_42 (lv_at hl 0 rfl) ?_
      have hk9 : v8 = kept (sl a.toNatClampNeg) v := by unfold kept; (repeat' split) <;> first | (exfalso; omega) | (subst_vars; rfl)
      replace hP : va_P D vwCl [(aI cI (rw 0) 60 ((upR rs a.toNatClampNeg (upd (rs a.toNatClampNeg) i.toNatClampNeg (kept (sl a.toNatClampNeg) v))) 0)), (aI cI (rw 1) 60 ((upR rs a.toNatClampNeg (upd (rs a.toNatClampNeg) i.toNatClampNeg (kept (sl a.toNatClampNeg) v))) 1)), (aI cI (rw 2) 60 ((upR rs a.toNatClampNeg (upd (rs a.toNatClampNeg) i.toNatClampNeg (kept (sl a.toNatClampNeg) v))) 2)), (aI cI (rw 3) 60 ((upR rs a.toNatClampNeg (upd (rs a.toNatClampNeg) i.toNatClampNeg (kept (sl a.toNatClampNeg) v))) 3)), (aI cI (rw 4) 60 ((upR rs a.toNatClampNeg (upd (rs a.toNatClampNeg) i.toNatClampNeg (kept (sl a.toNatClampNeg) v))) 4)), (aI cI (rw 5) 60 ((upR rs a.toNatClampNeg (upd (rs a.toNatClampNeg) i.toNatClampNeg (kept (sl a.toNatClampNeg) v))) 5)), (aI cI (rw 6) 60 ((upR rs a.toNatClampNeg (upd (rs a.toNatClampNeg) i.toNatClampNeg (kept (sl a.toNatClampNeg) v))) 6)), (aI cI (rw 7) 60 ((upR rs a.toNatClampNeg (upd (rs a.toNatClampNeg) i.toNatClampNeg (kept (sl a.toNatClampNeg) v))) 7)), (oC9 ad ), ((ad 12), .inl (cQ, 8, .inr (.inr (.inr (.inr (fun i => if i < 8 then some (rw i) else none)))))), (aI cI (ad 13) 8 sl)] H := by rw [← hk9]; exact hP
      replace hD : va_D A [(aI cI (rw 0) 60 ((upR rs a.toNatClampNeg (upd (rs a.toNatClampNeg) i.toNatClampNeg (kept (sl a.toNatClampNeg) v))) 0)), (aI cI (rw 1) 60 ((upR rs a.toNatClampNeg (upd (rs a.toNatClampNeg) i.toNatClampNeg (kept (sl a.toNatClampNeg) v))) 1)), (aI cI (rw 2) 60 ((upR rs a.toNatClampNeg (upd (rs a.toNatClampNeg) i.toNatClampNeg (kept (sl a.toNatClampNeg) v))) 2)), (aI cI (rw 3) 60 ((upR rs a.toNatClampNeg (upd (rs a.toNatClampNeg) i.toNatClampNeg (kept (sl a.toNatClampNeg) v))) 3)), (aI cI (rw 4) 60 ((upR rs a.toNatClampNeg (upd (rs a.toNatClampNeg) i.toNatClampNeg (kept (sl a.toNatClampNeg) v))) 4)), (aI cI (rw 5) 60 ((upR rs a.toNatClampNeg (upd (rs a.toNatClampNeg) i.toNatClampNeg (kept (sl a.toNatClampNeg) v))) 5)), (aI cI (rw 6) 60 ((upR rs a.toNatClampNeg (upd (rs a.toNatClampNeg) i.toNatClampNeg (kept (sl a.toNatClampNeg) v))) 6)), (aI cI (rw 7) 60 ((upR rs a.toNatClampNeg (upd (rs a.toNatClampNeg) i.toNatClampNeg (kept (sl a.toNatClampNeg) v))) 7)), (oC9 ad ), ((ad 12), .inl (cQ, 8, .inr (.inr (.inr (.inr (fun i => if i < 8 then some (rw i) else none)))))), (aI cI (ad 13) 8 sl)] := by rw [← hk9]; exact hD
      have hP9 := hP
      have hD9 := hD
      exact W.iret (v := v8) hx hb hr (fun t ht hW => ⟨⟨v8, (), rfl, hk9, by rw [ht]; exact hP9, va_K.moved hW.alike hK, hD9⟩, hS.F ht⟩) hS.2.2 dX9_put_44
  · skip
    have f9 := i_eq c2
    refine lv_iload_n hx hb dX9_put_9 rfl (lv_at hl 3 rfl) ?_
    refine lv_i2b hx hb dX9_put_10 rfl ?_
    refine lv_topi (fun v10 ev10 => ?_)
    refine lv_goto (tgt := 30) hx hb dX9_put_11 (by decide) ?_
    refine lv_istore (lv' := [(4, .int v10), (0, .ref (ad 1)), (1, .int a), (2, .int i), (3, .int v)]) hx hb dX9_put_30 hl (by decide) rfl (fun ls hl => ?_)
    refine lv_aload_n hx hb dX9_put_32 rfl (lv_at hl 1 rfl) ?_
    refine va_get (D := D) (ci := 9) (v := .ref (ad 12)) (C := RX9) (T := TX9) (N := 3) hx hb hts inX9_put_X9 hown hK hP 8 rfl rfl 0 (by decide) (hts (Cond.fieldLink RX9 11 "PortRooms$Sheets" "items" "[[I") (wm_t (wm_l (wm_i 1 rfl)))) (fun _ h9 => h9) rfl dX9_put_33 ?_
    refine lv_iload_n hx hb dX9_put_36 rfl (lv_at hl 2 rfl) ?_
    refine st_aaldR hx hb hK hP 9 3 rfl rfl (i_in (by omega) (by omega)) dX9_put_37 ?_
    refine lv_iload_n hx hb dX9_put_38 rfl (lv_at hl 3 rfl) ?_
    refine lv_iload hx hb dX9_put_39 (lv_at hl 0 rfl) ?_
    refine va_iast hx hb hK hP hD hS a.toNatClampNeg 0 (rows_at (by have := i_cl (x := a) (by omega); omega)) rfl (i_in (by omega) (by omega)) dX9_put_41 (fun H locs => ?_)
    clear hP hD hS
    intro hP hD hS
    rw [rows_set (by have := i_cl (x := a) (by omega); omega)] at hP hD
    replace hP : va_P D vwCl [(aI cI (rw 0) 60 ((upR rs a.toNatClampNeg (upd (rs a.toNatClampNeg) i.toNatClampNeg v10)) 0)), (aI cI (rw 1) 60 ((upR rs a.toNatClampNeg (upd (rs a.toNatClampNeg) i.toNatClampNeg v10)) 1)), (aI cI (rw 2) 60 ((upR rs a.toNatClampNeg (upd (rs a.toNatClampNeg) i.toNatClampNeg v10)) 2)), (aI cI (rw 3) 60 ((upR rs a.toNatClampNeg (upd (rs a.toNatClampNeg) i.toNatClampNeg v10)) 3)), (aI cI (rw 4) 60 ((upR rs a.toNatClampNeg (upd (rs a.toNatClampNeg) i.toNatClampNeg v10)) 4)), (aI cI (rw 5) 60 ((upR rs a.toNatClampNeg (upd (rs a.toNatClampNeg) i.toNatClampNeg v10)) 5)), (aI cI (rw 6) 60 ((upR rs a.toNatClampNeg (upd (rs a.toNatClampNeg) i.toNatClampNeg v10)) 6)), (aI cI (rw 7) 60 ((upR rs a.toNatClampNeg (upd (rs a.toNatClampNeg) i.toNatClampNeg v10)) 7)), (oC9 ad ), ((ad 12), .inl (cQ, 8, .inr (.inr (.inr (.inr (fun i => if i < 8 then some (rw i) else none)))))), (aI cI (ad 13) 8 sl)] H := hP
    replace hD : va_D A [(aI cI (rw 0) 60 ((upR rs a.toNatClampNeg (upd (rs a.toNatClampNeg) i.toNatClampNeg v10)) 0)), (aI cI (rw 1) 60 ((upR rs a.toNatClampNeg (upd (rs a.toNatClampNeg) i.toNatClampNeg v10)) 1)), (aI cI (rw 2) 60 ((upR rs a.toNatClampNeg (upd (rs a.toNatClampNeg) i.toNatClampNeg v10)) 2)), (aI cI (rw 3) 60 ((upR rs a.toNatClampNeg (upd (rs a.toNatClampNeg) i.toNatClampNeg v10)) 3)), (aI cI (rw 4) 60 ((upR rs a.toNatClampNeg (upd (rs a.toNatClampNeg) i.toNatClampNeg v10)) 4)), (aI cI (rw 5) 60 ((upR rs a.toNatClampNeg (upd (rs a.toNatClampNeg) i.toNatClampNeg v10)) 5)), (aI cI (rw 6) 60 ((upR rs a.toNatClampNeg (upd (rs a.toNatClampNeg) i.toNatClampNeg v10)) 6)), (aI cI (rw 7) 60 ((upR rs a.toNatClampNeg (upd (rs a.toNatClampNeg) i.toNatClampNeg v10)) 7)), (oC9 ad ), ((ad 12), .inl (cQ, 8, .inr (.inr (.inr (.inr (fun i => if i < 8 then some (rw i) else none)))))), (aI cI (ad 13) 8 sl)] := hD
    refine lv_iload hx hb dX9_put_42 (lv_at hl 0 rfl) ?_
    have hk9 : v10 = kept (sl a.toNatClampNeg) v := by unfold kept; (repeat' split) <;> first | (exfalso; omega) | (subst_vars; rfl)
    replace hP : va_P D vwCl [(aI cI (rw 0) 60 ((upR rs a.toNatClampNeg (upd (rs a.toNatClampNeg) i.toNatClampNeg (kept (sl a.toNatClampNeg) v))) 0)), (aI cI (rw 1) 60 ((upR rs a.toNatClampNeg (upd (rs a.toNatClampNeg) i.toNatClampNeg (kept (sl a.toNatClampNeg) v))) 1)), (aI cI (rw 2) 60 ((upR rs a.toNatClampNeg (upd (rs a.toNatClampNeg) i.toNatClampNeg (kept (sl a.toNatClampNeg) v))) 2)), (aI cI (rw 3) 60 ((upR rs a.toNatClampNeg (upd (rs a.toNatClampNeg) i.toNatClampNeg (kept (sl a.toNatClampNeg) v))) 3)), (aI cI (rw 4) 60 ((upR rs a.toNatClampNeg (upd (rs a.toNatClampNeg) i.toNatClampNeg (kept (sl a.toNatClampNeg) v))) 4)), (aI cI (rw 5) 60 ((upR rs a.toNatClampNeg (upd (rs a.toNatClampNeg) i.toNatClampNeg (kept (sl a.toNatClampNeg) v))) 5)), (aI cI (rw 6) 60 ((upR rs a.toNatClampNeg (upd (rs a.toNatClampNeg) i.toNatClampNeg (kept (sl a.toNatClampNeg) v))) 6)), (aI cI (rw 7) 60 ((upR rs a.toNatClampNeg (upd (rs a.toNatClampNeg) i.toNatClampNeg (kept (sl a.toNatClampNeg) v))) 7)), (oC9 ad ), ((ad 12), .inl (cQ, 8, .inr (.inr (.inr (.inr (fun i => if i < 8 then some (rw i) else none)))))), (aI cI (ad 13) 8 sl)] H := by rw [← hk9]; exact hP
    replace hD : va_D A [(aI cI (rw 0) 60 ((upR rs a.toNatClampNeg (upd (rs a.toNatClampNeg) i.toNatClampNeg (kept (sl a.toNatClampNeg) v))) 0)), (aI cI (rw 1) 60 ((upR rs a.toNatClampNeg (upd (rs a.toNatClampNeg) i.toNatClampNeg (kept (sl a.toNatClampNeg) v))) 1)), (aI cI (rw 2) 60 ((upR rs a.toNatClampNeg (upd (rs a.toNatClampNeg) i.toNatClampNeg (kept (sl a.toNatClampNeg) v))) 2)), (aI cI (rw 3) 60 ((upR rs a.toNatClampNeg (upd (rs a.toNatClampNeg) i.toNatClampNeg (kept (sl a.toNatClampNeg) v))) 3)), (aI cI (rw 4) 60 ((upR rs a.toNatClampNeg (upd (rs a.toNatClampNeg) i.toNatClampNeg (kept (sl a.toNatClampNeg) v))) 4)), (aI cI (rw 5) 60 ((upR rs a.toNatClampNeg (upd (rs a.toNatClampNeg) i.toNatClampNeg (kept (sl a.toNatClampNeg) v))) 5)), (aI cI (rw 6) 60 ((upR rs a.toNatClampNeg (upd (rs a.toNatClampNeg) i.toNatClampNeg (kept (sl a.toNatClampNeg) v))) 6)), (aI cI (rw 7) 60 ((upR rs a.toNatClampNeg (upd (rs a.toNatClampNeg) i.toNatClampNeg (kept (sl a.toNatClampNeg) v))) 7)), (oC9 ad ), ((ad 12), .inl (cQ, 8, .inr (.inr (.inr (.inr (fun i => if i < 8 then some (rw i) else none)))))), (aI cI (ad 13) 8 sl)] := by rw [← hk9]; exact hD
    have hP9 := hP
    have hD9 := hD
    exact W.iret (v := v10) hx hb hr (fun t ht hW => ⟨⟨v10, (), rfl, hk9, by rw [ht]; exact hP9, va_K.moved hW.alike hK, hD9⟩, hS.F ht⟩) hS.2.2 dX9_put_44

def sp_set (lf : Int32) (rs : Nat → Nat → Int32) (sl ss : Nat → Int32) (a i v : Int32) : Int32 × Int32 × (Nat → Nat → Int32) := if 0 ≤ a.toInt ∧ a.toInt < 8 then (if (ss a.toNatClampNeg).toInt = -1 then (-1000011, 1, rs) else if 0 ≤ i.toInt ∧ i.toInt + 1 ≤ (ss a.toNatClampNeg).toInt then (kept (sl a.toNatClampNeg) v, 0, upR rs a.toNatClampNeg (upd (rs a.toNatClampNeg) i.toNatClampNeg (kept (sl a.toNatClampNeg) v))) else (-1000012, 2, rs)) else (-1000001, lf, rs)
def sp_drop (lf : Int32) (ss : Nat → Int32) (a : Int32) : Int32 × Int32 × (Nat → Int32) := if 0 ≤ a.toInt ∧ a.toInt < 8 then (if (ss a.toNatClampNeg).toInt = -1 then (-1000011, 1, ss) else (ss a.toNatClampNeg, 0, upd ss a.toNatClampNeg (-1))) else (-1000001, lf, ss)
def sp_copy (lf : Int32) (rs : Nat → Nat → Int32) (sl ss : Nat → Int32) (a i b j n : Int32) : Int32 × Int32 × (Nat → Nat → Int32) := if 0 ≤ a.toInt ∧ a.toInt < 8 ∧ 0 ≤ b.toInt ∧ b.toInt < 8 then (if (ss a.toNatClampNeg).toInt = -1 ∨ (ss b.toNatClampNeg).toInt = -1 then (-1000011, 1, rs) else if ¬ (sl a.toNatClampNeg).toInt = (sl b.toNatClampNeg).toInt then (-1000015, 5, rs) else if 0 ≤ i.toInt ∧ 0 ≤ n.toInt ∧ i.toInt + n.toInt ≤ (ss a.toNatClampNeg).toInt ∧ 0 ≤ j.toInt ∧ j.toInt + n.toInt ≤ (ss b.toNatClampNeg).toInt then (n, 0, upR rs b.toNatClampNeg (va_cpy (rs a.toNatClampNeg) (rs b.toNatClampNeg) i.toNatClampNeg j.toNatClampNeg n.toNatClampNeg)) else (-1000012, 2, rs)) else (-1000001, lf, rs)

set_option maxHeartbeats 4000000 in
set_option maxRecDepth 100000 in
theorem ct_X10_set (l : Launch) (D : va_G) (cI cY cJ cQ : ClassId) (sz : Nat) (ad : Nat → Nat) (rw : Nat → Nat) (rs : Nat → Nat → Int32) (tn td lf : Int32) (sl ss : Nat → Int32) (a : Int32) (i : Int32) (v : Int32)  (h1 : okS ss)  : Met l yX10_set wsX10_set ({ frames := 1, cells := 0, slots := 0, locals := 24 }) (cPre D (ty4 cI cY cJ cQ) [(aI cI (rw 0) 60 (rs 0)), (aI cI (rw 1) 60 (rs 1)), (aI cI (rw 2) 60 (rs 2)), (aI cI (rw 3) 60 (rs 3)), (aI cI (rw 4) 60 (rs 4)), (aI cI (rw 5) 60 (rs 5)), (aI cI (rw 6) 60 (rs 6)), (aI cI (rw 7) 60 (rs 7)), (oC10 ad tn td lf), (oC9 ad ), ((ad 12), .inl (cQ, 8, .inr (.inr (.inr (.inr (fun i => if i < 8 then some (rw i) else none)))))), (aI cI (ad 13) 8 sl), (aI cI (ad 14) 8 ss)] sz [.ref (ad 0), .int a, .int i, .int v]) (va_Qi (fun (r : Int32) (u : Int32 × (Nat → Nat → Int32)) => (r, u) = sp_set lf rs sl ss a i v) (cB D (ty4 cI cY cJ cQ) (fun (u : Int32 × (Nat → Nat → Int32)) => [(aI cI (rw 0) 60 (u.2 0)), (aI cI (rw 1) 60 (u.2 1)), (aI cI (rw 2) 60 (u.2 2)), (aI cI (rw 3) 60 (u.2 3)), (aI cI (rw 4) 60 (u.2 4)), (aI cI (rw 5) 60 (u.2 5)), (aI cI (rw 6) 60 (u.2 6)), (aI cI (rw 7) 60 (u.2 7)), (oC10 ad tn td u.1), (oC9 ad ), ((ad 12), .inl (cQ, 8, .inr (.inr (.inr (.inr (fun i => if i < 8 then some (rw i) else none)))))), (aI cI (ad 13) 8 sl), (aI cI (ad 14) 8 ss)]) (va_A [(aI cI (rw 0) 60 (rs 0)), (aI cI (rw 1) 60 (rs 1)), (aI cI (rw 2) 60 (rs 2)), (aI cI (rw 3) 60 (rs 3)), (aI cI (rw 4) 60 (rs 4)), (aI cI (rw 5) 60 (rs 5)), (aI cI (rw 6) 60 (rs 6)), (aI cI (rw 7) 60 (rs 7)), (oC10 ad tn td lf), (oC9 ad ), ((ad 12), .inl (cQ, 8, .inr (.inr (.inr (.inr (fun i => if i < 8 then some (rw i) else none)))))), (aI cI (ad 13) 8 sl), (aI cI (ad 14) 8 ss)] sz)) (va_A [(aI cI (rw 0) 60 (rs 0)), (aI cI (rw 1) 60 (rs 1)), (aI cI (rw 2) 60 (rs 2)), (aI cI (rw 3) 60 (rs 3)), (aI cI (rw 4) 60 (rs 4)), (aI cI (rw 5) 60 (rs 5)), (aI cI (rw 6) 60 (rs 6)), (aI cI (rw 7) 60 (rs 7)), (oC10 ad tn td lf), (oC9 ad ), ((ad 12), .inl (cQ, 8, .inr (.inr (.inr (.inr (fun i => if i < 8 then some (rw i) else none)))))), (aI cI (ad 13) 8 sl), (aI cI (ad 14) 8 ss)] sz)) 0 0 (va_A [(aI cI (rw 0) 60 (rs 0)), (aI cI (rw 1) 60 (rs 1)), (aI cI (rw 2) 60 (rs 2)), (aI cI (rw 3) 60 (rs 3)), (aI cI (rw 4) 60 (rs 4)), (aI cI (rw 5) 60 (rs 5)), (aI cI (rw 6) 60 (rs 6)), (aI cI (rw 7) 60 (rs 7)), (oC10 ad tn td lf), (oC9 ad ), ((ad 12), .inl (cQ, 8, .inr (.inr (.inr (.inr (fun i => if i < 8 then some (rw i) else none)))))), (aI cI (ad 13) 8 sl), (aI cI (ad 14) 8 ss)] sz) := by
  refine Met.ofW (cc := cX10_set) (maxL := 4) (ret := (some .int)) (by decide) rfl ?_
  intro p e s m args below meth c s₁ B hml hv
  obtain ⟨rfl, hsz, hP, hK, hD0, hN⟩ := hv
  have hx := B.exec
  have hb := B.bytes
  have hr := B.returns
  have hts := atoms_spec (ws := wsX10_set) B.pre
  have hown : s.vm.findClass RX10 = some m.cls := findClass_of_methodNamed B.named
  have hlocks := B.notSynchronized
  subst hsz
  have hD := hD0.self (sz := s.heap.size)
  generalize hAe : va_A [(aI cI (rw 0) 60 (rs 0)), (aI cI (rw 1) 60 (rs 1)), (aI cI (rw 2) 60 (rs 2)), (aI cI (rw 3) 60 (rs 3)), (aI cI (rw 4) 60 (rs 4)), (aI cI (rw 5) 60 (rs 5)), (aI cI (rw 6) 60 (rs 6)), (aI cI (rw 7) 60 (rs 7)), (oC10 ad tn td lf), (oC9 ad ), ((ad 12), .inl (cQ, 8, .inr (.inr (.inr (.inr (fun i => if i < 8 then some (rw i) else none)))))), (aI cI (ad 13) 8 sl), (aI cI (ad 14) 8 ss)] s.heap.size = A at hD ⊢
  have hA : ∀ q : Nat, s.heap.size ≤ q → A q := fun q h => by rw [← hAe]; exact Or.inr h
  have hS : va_S A s.heap s.heap [] := va_S.rf
  have hP : va_P D vwCl [(aI cI (rw 0) 60 (rs 0)), (aI cI (rw 1) 60 (rs 1)), (aI cI (rw 2) 60 (rs 2)), (aI cI (rw 3) 60 (rs 3)), (aI cI (rw 4) 60 (rs 4)), (aI cI (rw 5) 60 (rs 5)), (aI cI (rw 6) 60 (rs 6)), (aI cI (rw 7) 60 (rs 7)), (oC10 ad tn td lf), (oC9 ad ), ((ad 12), .inl (cQ, 8, .inr (.inr (.inr (.inr (fun i => if i < 8 then some (rw i) else none)))))), (aI cI (ad 13) 8 sl), (aI cI (ad 14) 8 ss)] s.heap := hP
  have hl := lv_entry ([.ref (ad 0), .int a, .int i, .int v]) (n := 4) (Nat.le_of_ble_eq_true rfl)
  rw [lg_entry_eq]
  generalize (lg_sl ([.ref (ad 0), .int a, .int i, .int v]) ++ List.replicate (4 - (lg_sl ([.ref (ad 0), .int a, .int i, .int v])).length) Slot.unset).toArray = ls at hl ⊢
  have hl : lv_has ls 4 [(0, .ref (ad 0)), (1, .int a), (2, .int i), (3, .int v)] := hl
  have km1000001 : (-1000001 : Int32).toInt = -1000001 := by decide
  have k0 : (0 : Int32).toInt = 0 := by decide
  have k1 : (1 : Int32).toInt = 1 := by decide
  have k2 : (2 : Int32).toInt = 2 := by decide
  have k8 : (8 : Int32).toInt = 8 := by decide
  refine lv_iload_n hx hb dX10_set_0 rfl (lv_at hl 1 rfl) ?_
  refine lv_bipush (v := 8) hx hb dX10_set_1 (by decide) ?_
  refine st_i1 (va_runS (As := [.int a, .int 8]) (rest := []) ⟨hx, hb, hml, hown, hts⟩ (ct_X10_isBelow l D cI cY cJ cQ _ a (8 : Int32)) (va_cwS 2 hts gX10_set_X10_isBelow rfl rfl rfl cdX10_isBelow ⟨Nat.le_of_ble_eq_true rfl, Nat.le_of_ble_eq_true rfl⟩) (cPreS (hP.sub [] rfl) hK (hD.sub [] (by decide +kernel) rfl) hN) rfl rfl hl.1 rfl (lv_room (Nat.le_of_ble_eq_true rfl)) dX10_set_3 ⟨Nat.le_of_ble_eq_true rfl, Nat.le_of_ble_eq_true rfl⟩) hP hD hS hA [] rfl (fun _ => rfl) (fun r3 u1 H locs hw2 => ?_)
  clear hP hS
  intro hP hS
  replace hw2 : r3 = if 0 ≤ a.toInt ∧ a.toInt < (8 : Int32).toInt then 1 else 0 := hw2
  refine lv_if_ne (tgt := 12) hx hb dX10_set_6 (by decide) (fun c4 => ?_) (fun c4 => ?_)
  · skip
    have f5 := bo_t hw2 c4
    refine lv_aload_n hx hb dX10_set_12 rfl (lv_at hl 0 rfl) ?_
    refine va_get (D := D) (ci := 10) (v := .ref (ad 1)) (C := RX10) (T := TX10) (N := 14) hx hb hts inX10_set_X10 hown hK hP 8 rfl rfl 0 (by decide) (hts (Cond.fieldLink RX10 10 "PortRooms" "sheets" "LPortRooms$Sheets;") (wm_t (wm_l (wm_i 1 rfl)))) (fun _ h9 => h9) rfl dX10_set_13 ?_
    refine lv_iload_n hx hb dX10_set_16 rfl (lv_at hl 1 rfl) ?_
    refine st_i1 (va_runV (C := RX9) (As := [.int a]) (rest := []) ⟨hx, hb, hml, hown, hts⟩ (ct_X9_isMissing l D cI cY cJ cQ _ ad ss a (by omega) (by omega)) (cwV 1 hts gX10_set_X9_isMissing rfl rfl rfl ⟨rfl, cdX9_isMissing⟩ ⟨Nat.le_of_ble_eq_true rfl, Nat.le_of_ble_eq_true rfl⟩) (cPreV (hP.sub [9, 12] rfl) hK (hD.sub [9, 12] (by decide +kernel) rfl) hN (ci := 9) (q0 := 0) rfl rfl) rfl rfl hl.1 rfl (lv_room (Nat.le_of_ble_eq_true rfl)) dX10_set_17 ⟨Nat.le_of_ble_eq_true rfl, Nat.le_of_ble_eq_true rfl⟩) hP hD hS hA [9, 12] rfl (fun _ => rfl) (fun r8 u6 H locs hw7 => ?_)
    clear hP hS
    intro hP hS
    replace hw7 : r8 = if (ss a.toNatClampNeg).toInt = -1 then 1 else 0 := hw7
    refine lv_if_eq (tgt := 29) hx hb dX10_set_20 (by decide) (fun c9 => ?_) (fun c9 => ?_)
    · skip
      have f10 := bo_f hw7 c9
      refine lv_aload_n hx hb dX10_set_29 rfl (lv_at hl 0 rfl) ?_
      refine va_get (D := D) (ci := 10) (v := .ref (ad 1)) (C := RX10) (T := TX10) (N := 14) hx hb hts inX10_set_X10 hown hK hP 8 rfl rfl 0 (by decide) (hts (Cond.fieldLink RX10 10 "PortRooms" "sheets" "LPortRooms$Sheets;") (wm_t (wm_l (wm_i 1 rfl)))) (fun _ h9 => h9) rfl dX10_set_30 ?_
      refine lv_iload_n hx hb dX10_set_33 rfl (lv_at hl 1 rfl) ?_
      refine lv_iload_n hx hb dX10_set_34 rfl (lv_at hl 2 rfl) ?_
      refine lv_iconst (v := 1) hx hb dX10_set_35 (by decide) ?_
      refine st_i1 (va_runV (C := RX9) (As := [.int a, .int i, .int 1]) (rest := []) ⟨hx, hb, hml, hown, hts⟩ (ct_X9_hasPlaces l D cI cY cJ cQ _ ad ss a i (1 : Int32) (by omega) (by omega) h1) (cwV 3 hts gX10_set_X9_hasPlaces rfl rfl rfl ⟨rfl, cdX9_hasPlaces⟩ ⟨Nat.le_of_ble_eq_true rfl, Nat.le_of_ble_eq_true rfl⟩) (cPreV (hP.sub [9, 12] rfl) hK (hD.sub [9, 12] (by decide +kernel) rfl) hN (ci := 9) (q0 := 0) rfl rfl) rfl rfl hl.1 rfl (lv_room (Nat.le_of_ble_eq_true rfl)) dX10_set_36 ⟨Nat.le_of_ble_eq_true rfl, Nat.le_of_ble_eq_true rfl⟩) hP hD hS hA [9, 12] rfl (fun _ => rfl) (fun r13 u11 H locs hw12 => ?_)
      clear hP hS
      intro hP hS
      replace hw12 : r13 = if 0 ≤ i.toInt ∧ 0 ≤ (1 : Int32).toInt ∧ i.toInt + (1 : Int32).toInt ≤ (ss a.toNatClampNeg).toInt then 1 else 0 := hw12
      refine lv_if_ne (tgt := 48) hx hb dX10_set_39 (by decide) (fun c14 => ?_) (fun c14 => ?_)
      · skip
        have f15 := bo_t hw12 c14
        refine lv_aload_n hx hb dX10_set_48 rfl (lv_at hl 0 rfl) ?_
        refine lv_aload_n hx hb dX10_set_49 rfl (lv_at hl 0 rfl) ?_
        refine va_get (D := D) (ci := 10) (v := .ref (ad 1)) (C := RX10) (T := TX10) (N := 14) hx hb hts inX10_set_X10 hown hK hP 8 rfl rfl 0 (by decide) (hts (Cond.fieldLink RX10 10 "PortRooms" "sheets" "LPortRooms$Sheets;") (wm_t (wm_l (wm_i 1 rfl)))) (fun _ h9 => h9) rfl dX10_set_50 ?_
        refine lv_iload_n hx hb dX10_set_53 rfl (lv_at hl 1 rfl) ?_
        refine lv_iload_n hx hb dX10_set_54 rfl (lv_at hl 2 rfl) ?_
        refine lv_iload_n hx hb dX10_set_55 rfl (lv_at hl 3 rfl) ?_
        refine st_i (wr := [(oC10 ad tn td lf), (aI cI (ad 14) 8 ss)]) (va_runV (C := RX9) (As := [.int a, .int i, .int v]) (rest := [.ref (ad 0)]) ⟨hx, hb, hml, hown, hts⟩ (ct_X9_put l D cI cY cJ cQ _ ad rw rs sl a i v (by omega) (by omega) (by omega) (by have := h1 a.toNatClampNeg (by have := i_cl (x := a) (by omega); omega); omega)) (cwV 3 hts gX10_set_X9_put rfl rfl rfl ⟨rfl, cdX9_put⟩ ⟨Nat.le_of_ble_eq_true rfl, Nat.le_of_ble_eq_true rfl⟩) (cPreV (hP.sub [0, 1, 2, 3, 4, 5, 6, 7, 9, 10, 11] rfl) hK (hD.sub [0, 1, 2, 3, 4, 5, 6, 7, 9, 10, 11] (by decide +kernel) rfl) hN (ci := 9) (q0 := 8) rfl rfl) rfl rfl hl.1 rfl (lv_room (Nat.le_of_ble_eq_true rfl)) dX10_set_56 ⟨Nat.le_of_ble_eq_true rfl, Nat.le_of_ble_eq_true rfl⟩) hP hD hS hA [0, 1, 2, 3, 4, 5, 6, 7, 9, 10, 11] [8, 12] rfl rfl (by decide +kernel) (by decide +kernel) (fun r18 u16 H locs hw17 => ?_)
        clear hP hD hS
        intro hP hD hS
        replace hw17 : r18 = kept (sl a.toNatClampNeg) v := hw17
        replace hP : va_P D vwCl [(oC10 ad tn td lf), (aI cI (ad 14) 8 ss), (aI cI (rw 0) 60 ((upR rs a.toNatClampNeg (upd (rs a.toNatClampNeg) i.toNatClampNeg (kept (sl a.toNatClampNeg) v))) 0)), (aI cI (rw 1) 60 ((upR rs a.toNatClampNeg (upd (rs a.toNatClampNeg) i.toNatClampNeg (kept (sl a.toNatClampNeg) v))) 1)), (aI cI (rw 2) 60 ((upR rs a.toNatClampNeg (upd (rs a.toNatClampNeg) i.toNatClampNeg (kept (sl a.toNatClampNeg) v))) 2)), (aI cI (rw 3) 60 ((upR rs a.toNatClampNeg (upd (rs a.toNatClampNeg) i.toNatClampNeg (kept (sl a.toNatClampNeg) v))) 3)), (aI cI (rw 4) 60 ((upR rs a.toNatClampNeg (upd (rs a.toNatClampNeg) i.toNatClampNeg (kept (sl a.toNatClampNeg) v))) 4)), (aI cI (rw 5) 60 ((upR rs a.toNatClampNeg (upd (rs a.toNatClampNeg) i.toNatClampNeg (kept (sl a.toNatClampNeg) v))) 5)), (aI cI (rw 6) 60 ((upR rs a.toNatClampNeg (upd (rs a.toNatClampNeg) i.toNatClampNeg (kept (sl a.toNatClampNeg) v))) 6)), (aI cI (rw 7) 60 ((upR rs a.toNatClampNeg (upd (rs a.toNatClampNeg) i.toNatClampNeg (kept (sl a.toNatClampNeg) v))) 7)), (oC9 ad ), ((ad 12), .inl (cQ, 8, .inr (.inr (.inr (.inr (fun i => if i < 8 then some (rw i) else none)))))), (aI cI (ad 13) 8 sl)] H := hP
        replace hD : va_D A [(oC10 ad tn td lf), (aI cI (ad 14) 8 ss), (aI cI (rw 0) 60 ((upR rs a.toNatClampNeg (upd (rs a.toNatClampNeg) i.toNatClampNeg (kept (sl a.toNatClampNeg) v))) 0)), (aI cI (rw 1) 60 ((upR rs a.toNatClampNeg (upd (rs a.toNatClampNeg) i.toNatClampNeg (kept (sl a.toNatClampNeg) v))) 1)), (aI cI (rw 2) 60 ((upR rs a.toNatClampNeg (upd (rs a.toNatClampNeg) i.toNatClampNeg (kept (sl a.toNatClampNeg) v))) 2)), (aI cI (rw 3) 60 ((upR rs a.toNatClampNeg (upd (rs a.toNatClampNeg) i.toNatClampNeg (kept (sl a.toNatClampNeg) v))) 3)), (aI cI (rw 4) 60 ((upR rs a.toNatClampNeg (upd (rs a.toNatClampNeg) i.toNatClampNeg (kept (sl a.toNatClampNeg) v))) 4)), (aI cI (rw 5) 60 ((upR rs a.toNatClampNeg (upd (rs a.toNatClampNeg) i.toNatClampNeg (kept (sl a.toNatClampNeg) v))) 5)), (aI cI (rw 6) 60 ((upR rs a.toNatClampNeg (upd (rs a.toNatClampNeg) i.toNatClampNeg (kept (sl a.toNatClampNeg) v))) 6)), (aI cI (rw 7) 60 ((upR rs a.toNatClampNeg (upd (rs a.toNatClampNeg) i.toNatClampNeg (kept (sl a.toNatClampNeg) v))) 7)), (oC9 ad ), ((ad 12), .inl (cQ, 8, .inr (.inr (.inr (.inr (fun i => if i < 8 then some (rw i) else none)))))), (aI cI (ad 13) 8 sl)] := hD
        subst hw17
        refine st_i (wr := [(aI cI (ad 14) 8 ss), (aI cI (rw 0) 60 ((upR rs a.toNatClampNeg (upd (rs a.toNatClampNeg) i.toNatClampNeg (kept (sl a.toNatClampNeg) v))) 0)), (aI cI (rw 1) 60 ((upR rs a.toNatClampNeg (upd (rs a.toNatClampNeg) i.toNatClampNeg (kept (sl a.toNatClampNeg) v))) 1)), (aI cI (rw 2) 60 ((upR rs a.toNatClampNeg (upd (rs a.toNatClampNeg) i.toNatClampNeg (kept (sl a.toNatClampNeg) v))) 2)), (aI cI (rw 3) 60 ((upR rs a.toNatClampNeg (upd (rs a.toNatClampNeg) i.toNatClampNeg (kept (sl a.toNatClampNeg) v))) 3)), (aI cI (rw 4) 60 ((upR rs a.toNatClampNeg (upd (rs a.toNatClampNeg) i.toNatClampNeg (kept (sl a.toNatClampNeg) v))) 4)), (aI cI (rw 5) 60 ((upR rs a.toNatClampNeg (upd (rs a.toNatClampNeg) i.toNatClampNeg (kept (sl a.toNatClampNeg) v))) 5)), (aI cI (rw 6) 60 ((upR rs a.toNatClampNeg (upd (rs a.toNatClampNeg) i.toNatClampNeg (kept (sl a.toNatClampNeg) v))) 6)), (aI cI (rw 7) 60 ((upR rs a.toNatClampNeg (upd (rs a.toNatClampNeg) i.toNatClampNeg (kept (sl a.toNatClampNeg) v))) 7)), (oC9 ad ), ((ad 12), .inl (cQ, 8, .inr (.inr (.inr (.inr (fun i => if i < 8 then some (rw i) else none)))))), (aI cI (ad 13) 8 sl)]) (va_runV (C := RX10) (As := [.int (kept (sl a.toNatClampNeg) v)]) (rest := []) ⟨hx, hb, hml, hown, hts⟩ (ct_X10_passed l D cI cY cJ cQ _ ad tn td lf (kept (sl a.toNatClampNeg) v)) (cwV 1 hts gX10_set_X10_passed rfl rfl rfl ⟨rfl, cdX10_passed⟩ ⟨Nat.le_of_ble_eq_true rfl, Nat.le_of_ble_eq_true rfl⟩) (cPreV (hP.sub [0] rfl) hK (hD.sub [0] (by decide +kernel) rfl) hN (ci := 10) (q0 := 0) rfl rfl) rfl rfl hl.1 rfl (lv_room (Nat.le_of_ble_eq_true rfl)) dX10_set_59 ⟨Nat.le_of_ble_eq_true rfl, Nat.le_of_ble_eq_true rfl⟩) hP hD hS hA [0] [1, 2, 3, 4, 5, 6, 7, 8, 9, 10, 11, 12] rfl rfl (by decide +kernel) (by decide +kernel) (fun r21 u19 H locs hw20 => ?_)
        clear hP hD hS
        intro hP hD hS
        replace hw20 : r21 = (kept (sl a.toNatClampNeg) v) := hw20
        replace hP : va_P D vwCl [(aI cI (ad 14) 8 ss), (aI cI (rw 0) 60 ((upR rs a.toNatClampNeg (upd (rs a.toNatClampNeg) i.toNatClampNeg (kept (sl a.toNatClampNeg) v))) 0)), (aI cI (rw 1) 60 ((upR rs a.toNatClampNeg (upd (rs a.toNatClampNeg) i.toNatClampNeg (kept (sl a.toNatClampNeg) v))) 1)), (aI cI (rw 2) 60 ((upR rs a.toNatClampNeg (upd (rs a.toNatClampNeg) i.toNatClampNeg (kept (sl a.toNatClampNeg) v))) 2)), (aI cI (rw 3) 60 ((upR rs a.toNatClampNeg (upd (rs a.toNatClampNeg) i.toNatClampNeg (kept (sl a.toNatClampNeg) v))) 3)), (aI cI (rw 4) 60 ((upR rs a.toNatClampNeg (upd (rs a.toNatClampNeg) i.toNatClampNeg (kept (sl a.toNatClampNeg) v))) 4)), (aI cI (rw 5) 60 ((upR rs a.toNatClampNeg (upd (rs a.toNatClampNeg) i.toNatClampNeg (kept (sl a.toNatClampNeg) v))) 5)), (aI cI (rw 6) 60 ((upR rs a.toNatClampNeg (upd (rs a.toNatClampNeg) i.toNatClampNeg (kept (sl a.toNatClampNeg) v))) 6)), (aI cI (rw 7) 60 ((upR rs a.toNatClampNeg (upd (rs a.toNatClampNeg) i.toNatClampNeg (kept (sl a.toNatClampNeg) v))) 7)), (oC9 ad ), ((ad 12), .inl (cQ, 8, .inr (.inr (.inr (.inr (fun i => if i < 8 then some (rw i) else none)))))), (aI cI (ad 13) 8 sl), (oC10 ad tn td (0))] H := hP
        replace hD : va_D A [(aI cI (ad 14) 8 ss), (aI cI (rw 0) 60 ((upR rs a.toNatClampNeg (upd (rs a.toNatClampNeg) i.toNatClampNeg (kept (sl a.toNatClampNeg) v))) 0)), (aI cI (rw 1) 60 ((upR rs a.toNatClampNeg (upd (rs a.toNatClampNeg) i.toNatClampNeg (kept (sl a.toNatClampNeg) v))) 1)), (aI cI (rw 2) 60 ((upR rs a.toNatClampNeg (upd (rs a.toNatClampNeg) i.toNatClampNeg (kept (sl a.toNatClampNeg) v))) 2)), (aI cI (rw 3) 60 ((upR rs a.toNatClampNeg (upd (rs a.toNatClampNeg) i.toNatClampNeg (kept (sl a.toNatClampNeg) v))) 3)), (aI cI (rw 4) 60 ((upR rs a.toNatClampNeg (upd (rs a.toNatClampNeg) i.toNatClampNeg (kept (sl a.toNatClampNeg) v))) 4)), (aI cI (rw 5) 60 ((upR rs a.toNatClampNeg (upd (rs a.toNatClampNeg) i.toNatClampNeg (kept (sl a.toNatClampNeg) v))) 5)), (aI cI (rw 6) 60 ((upR rs a.toNatClampNeg (upd (rs a.toNatClampNeg) i.toNatClampNeg (kept (sl a.toNatClampNeg) v))) 6)), (aI cI (rw 7) 60 ((upR rs a.toNatClampNeg (upd (rs a.toNatClampNeg) i.toNatClampNeg (kept (sl a.toNatClampNeg) v))) 7)), (oC9 ad ), ((ad 12), .inl (cQ, 8, .inr (.inr (.inr (.inr (fun i => if i < 8 then some (rw i) else none)))))), (aI cI (ad 13) 8 sl), (oC10 ad tn td (0))] := hD
        subst hw20
        have hP9 := hP.sub (ws' := [(aI cI (rw 0) 60 ((upR rs a.toNatClampNeg (upd (rs a.toNatClampNeg) i.toNatClampNeg (kept (sl a.toNatClampNeg) v))) 0)), (aI cI (rw 1) 60 ((upR rs a.toNatClampNeg (upd (rs a.toNatClampNeg) i.toNatClampNeg (kept (sl a.toNatClampNeg) v))) 1)), (aI cI (rw 2) 60 ((upR rs a.toNatClampNeg (upd (rs a.toNatClampNeg) i.toNatClampNeg (kept (sl a.toNatClampNeg) v))) 2)), (aI cI (rw 3) 60 ((upR rs a.toNatClampNeg (upd (rs a.toNatClampNeg) i.toNatClampNeg (kept (sl a.toNatClampNeg) v))) 3)), (aI cI (rw 4) 60 ((upR rs a.toNatClampNeg (upd (rs a.toNatClampNeg) i.toNatClampNeg (kept (sl a.toNatClampNeg) v))) 4)), (aI cI (rw 5) 60 ((upR rs a.toNatClampNeg (upd (rs a.toNatClampNeg) i.toNatClampNeg (kept (sl a.toNatClampNeg) v))) 5)), (aI cI (rw 6) 60 ((upR rs a.toNatClampNeg (upd (rs a.toNatClampNeg) i.toNatClampNeg (kept (sl a.toNatClampNeg) v))) 6)), (aI cI (rw 7) 60 ((upR rs a.toNatClampNeg (upd (rs a.toNatClampNeg) i.toNatClampNeg (kept (sl a.toNatClampNeg) v))) 7)), (oC10 ad tn td (0)), (oC9 ad ), ((ad 12), .inl (cQ, 8, .inr (.inr (.inr (.inr (fun i => if i < 8 then some (rw i) else none)))))), (aI cI (ad 13) 8 sl), (aI cI (ad 14) 8 ss)]) [1, 2, 3, 4, 5, 6, 7, 8, 12, 9, 10, 11, 0] rfl
        have hD9 := hD.sub (ws' := [(aI cI (rw 0) 60 ((upR rs a.toNatClampNeg (upd (rs a.toNatClampNeg) i.toNatClampNeg (kept (sl a.toNatClampNeg) v))) 0)), (aI cI (rw 1) 60 ((upR rs a.toNatClampNeg (upd (rs a.toNatClampNeg) i.toNatClampNeg (kept (sl a.toNatClampNeg) v))) 1)), (aI cI (rw 2) 60 ((upR rs a.toNatClampNeg (upd (rs a.toNatClampNeg) i.toNatClampNeg (kept (sl a.toNatClampNeg) v))) 2)), (aI cI (rw 3) 60 ((upR rs a.toNatClampNeg (upd (rs a.toNatClampNeg) i.toNatClampNeg (kept (sl a.toNatClampNeg) v))) 3)), (aI cI (rw 4) 60 ((upR rs a.toNatClampNeg (upd (rs a.toNatClampNeg) i.toNatClampNeg (kept (sl a.toNatClampNeg) v))) 4)), (aI cI (rw 5) 60 ((upR rs a.toNatClampNeg (upd (rs a.toNatClampNeg) i.toNatClampNeg (kept (sl a.toNatClampNeg) v))) 5)), (aI cI (rw 6) 60 ((upR rs a.toNatClampNeg (upd (rs a.toNatClampNeg) i.toNatClampNeg (kept (sl a.toNatClampNeg) v))) 6)), (aI cI (rw 7) 60 ((upR rs a.toNatClampNeg (upd (rs a.toNatClampNeg) i.toNatClampNeg (kept (sl a.toNatClampNeg) v))) 7)), (oC10 ad tn td (0)), (oC9 ad ), ((ad 12), .inl (cQ, 8, .inr (.inr (.inr (.inr (fun i => if i < 8 then some (rw i) else none)))))), (aI cI (ad 13) 8 sl), (aI cI (ad 14) 8 ss)]) [1, 2, 3, 4, 5, 6, 7, 8, 12, 9, 10, 11, 0] (by decide +kernel) rfl
        exact W.iret (v := (kept (sl a.toNatClampNeg) v)) hx hb hr (fun t ht hW => ⟨⟨(kept (sl a.toNatClampNeg) v), (0, (upR rs a.toNatClampNeg (upd (rs a.toNatClampNeg) i.toNatClampNeg (kept (sl a.toNatClampNeg) v)))), rfl, (by unfold sp_set; (repeat' split) <;> first | rfl | (exfalso; omega) | (subst_vars; rfl)), by rw [ht]; exact hP9, va_K.moved hW.alike hK, hD9⟩, hS.F ht⟩) hS.2.2 dX10_set_62
      · skip
        have f22 := bo_f hw12 c14
        refine lv_aload_n hx hb dX10_set_42 rfl (lv_at hl 0 rfl) ?_
        refine lv_iconst (v := 2) hx hb dX10_set_43 (by decide) ?_
        refine st_i (wr := [(aI cI (rw 0) 60 (rs 0)), (aI cI (rw 1) 60 (rs 1)), (aI cI (rw 2) 60 (rs 2)), (aI cI (rw 3) 60 (rs 3)), (aI cI (rw 4) 60 (rs 4)), (aI cI (rw 5) 60 (rs 5)), (aI cI (rw 6) 60 (rs 6)), (aI cI (rw 7) 60 (rs 7)), (oC9 ad ), ((ad 12), .inl (cQ, 8, .inr (.inr (.inr (.inr (fun i => if i < 8 then some (rw i) else none)))))), (aI cI (ad 13) 8 sl), (aI cI (ad 14) 8 ss)]) (va_runV (C := RX10) (As := [.int 2]) (rest := []) ⟨hx, hb, hml, hown, hts⟩ (ct_X10_finding l D cI cY cJ cQ _ ad tn td lf (2 : Int32)) (cwV 1 hts gX10_set_X10_finding rfl rfl rfl ⟨rfl, cdX10_finding⟩ ⟨Nat.le_of_ble_eq_true rfl, Nat.le_of_ble_eq_true rfl⟩) (cPreV (hP.sub [8] rfl) hK (hD.sub [8] (by decide +kernel) rfl) hN (ci := 10) (q0 := 0) rfl rfl) rfl rfl hl.1 rfl (lv_room (Nat.le_of_ble_eq_true rfl)) dX10_set_44 ⟨Nat.le_of_ble_eq_true rfl, Nat.le_of_ble_eq_true rfl⟩) hP hD hS hA [8] [0, 1, 2, 3, 4, 5, 6, 7, 9, 10, 11, 12] rfl rfl (by decide +kernel) (by decide +kernel) (fun r25 u23 H locs hw24 => ?_)
        clear hP hD hS
        intro hP hD hS
        replace hw24 : r25 = (-1000010) - (2 : Int32) := hw24
        replace hP : va_P D vwCl [(aI cI (rw 0) 60 (rs 0)), (aI cI (rw 1) 60 (rs 1)), (aI cI (rw 2) 60 (rs 2)), (aI cI (rw 3) 60 (rs 3)), (aI cI (rw 4) 60 (rs 4)), (aI cI (rw 5) 60 (rs 5)), (aI cI (rw 6) 60 (rs 6)), (aI cI (rw 7) 60 (rs 7)), (oC9 ad ), ((ad 12), .inl (cQ, 8, .inr (.inr (.inr (.inr (fun i => if i < 8 then some (rw i) else none)))))), (aI cI (ad 13) 8 sl), (aI cI (ad 14) 8 ss), (oC10 ad tn td (2 : Int32))] H := hP
        replace hD : va_D A [(aI cI (rw 0) 60 (rs 0)), (aI cI (rw 1) 60 (rs 1)), (aI cI (rw 2) 60 (rs 2)), (aI cI (rw 3) 60 (rs 3)), (aI cI (rw 4) 60 (rs 4)), (aI cI (rw 5) 60 (rs 5)), (aI cI (rw 6) 60 (rs 6)), (aI cI (rw 7) 60 (rs 7)), (oC9 ad ), ((ad 12), .inl (cQ, 8, .inr (.inr (.inr (.inr (fun i => if i < 8 then some (rw i) else none)))))), (aI cI (ad 13) 8 sl), (aI cI (ad 14) 8 ss), (oC10 ad tn td (2 : Int32))] := hD
        subst hw24
        have hP9 := hP.sub (ws' := [(aI cI (rw 0) 60 (rs 0)), (aI cI (rw 1) 60 (rs 1)), (aI cI (rw 2) 60 (rs 2)), (aI cI (rw 3) 60 (rs 3)), (aI cI (rw 4) 60 (rs 4)), (aI cI (rw 5) 60 (rs 5)), (aI cI (rw 6) 60 (rs 6)), (aI cI (rw 7) 60 (rs 7)), (oC10 ad tn td (2 : Int32)), (oC9 ad ), ((ad 12), .inl (cQ, 8, .inr (.inr (.inr (.inr (fun i => if i < 8 then some (rw i) else none)))))), (aI cI (ad 13) 8 sl), (aI cI (ad 14) 8 ss)]) [0, 1, 2, 3, 4, 5, 6, 7, 12, 8, 9, 10, 11] rfl
        have hD9 := hD.sub (ws' := [(aI cI (rw 0) 60 (rs 0)), (aI cI (rw 1) 60 (rs 1)), (aI cI (rw 2) 60 (rs 2)), (aI cI (rw 3) 60 (rs 3)), (aI cI (rw 4) 60 (rs 4)), (aI cI (rw 5) 60 (rs 5)), (aI cI (rw 6) 60 (rs 6)), (aI cI (rw 7) 60 (rs 7)), (oC10 ad tn td (2 : Int32)), (oC9 ad ), ((ad 12), .inl (cQ, 8, .inr (.inr (.inr (.inr (fun i => if i < 8 then some (rw i) else none)))))), (aI cI (ad 13) 8 sl), (aI cI (ad 14) 8 ss)]) [0, 1, 2, 3, 4, 5, 6, 7, 12, 8, 9, 10, 11] (by decide +kernel) rfl
        exact W.iret (v := (-1000010) - (2 : Int32)) hx hb hr (fun t ht hW => ⟨⟨(-1000010) - (2 : Int32), ((2 : Int32), rs), rfl, (by unfold sp_set; (repeat' split) <;> first | rfl | (exfalso; omega) | (subst_vars; rfl)), by rw [ht]; exact hP9, va_K.moved hW.alike hK, hD9⟩, hS.F ht⟩) hS.2.2 dX10_set_47
    · skip
      have f26 := bo_t hw7 c9
      refine lv_aload_n hx hb dX10_set_23 rfl (lv_at hl 0 rfl) ?_
      refine lv_iconst (v := 1) hx hb dX10_set_24 (by decide) ?_
      refine st_i (wr := [(aI cI (rw 0) 60 (rs 0)), (aI cI (rw 1) 60 (rs 1)), (aI cI (rw 2) 60 (rs 2)), (aI cI (rw 3) 60 (rs 3)), (aI cI (rw 4) 60 (rs 4)), (aI cI (rw 5) 60 (rs 5)), (aI cI (rw 6) 60 (rs 6)), (aI cI (rw 7) 60 (rs 7)), (oC9 ad ), ((ad 12), .inl (cQ, 8, .inr (.inr (.inr (.inr (fun i => if i < 8 then some (rw i) else none)))))), (aI cI (ad 13) 8 sl), (aI cI (ad 14) 8 ss)]) (va_runV (C := RX10) (As := [.int 1]) (rest := []) ⟨hx, hb, hml, hown, hts⟩ (ct_X10_finding l D cI cY cJ cQ _ ad tn td lf (1 : Int32)) (cwV 1 hts gX10_set_X10_finding rfl rfl rfl ⟨rfl, cdX10_finding⟩ ⟨Nat.le_of_ble_eq_true rfl, Nat.le_of_ble_eq_true rfl⟩) (cPreV (hP.sub [8] rfl) hK (hD.sub [8] (by decide +kernel) rfl) hN (ci := 10) (q0 := 0) rfl rfl) rfl rfl hl.1 rfl (lv_room (Nat.le_of_ble_eq_true rfl)) dX10_set_25 ⟨Nat.le_of_ble_eq_true rfl, Nat.le_of_ble_eq_true rfl⟩) hP hD hS hA [8] [0, 1, 2, 3, 4, 5, 6, 7, 9, 10, 11, 12] rfl rfl (by decide +kernel) (by decide +kernel) (fun r29 u27 H locs hw28 => ?_)
      clear hP hD hS
      intro hP hD hS
      replace hw28 : r29 = (-1000010) - (1 : Int32) := hw28
      replace hP : va_P D vwCl [(aI cI (rw 0) 60 (rs 0)), (aI cI (rw 1) 60 (rs 1)), (aI cI (rw 2) 60 (rs 2)), (aI cI (rw 3) 60 (rs 3)), (aI cI (rw 4) 60 (rs 4)), (aI cI (rw 5) 60 (rs 5)), (aI cI (rw 6) 60 (rs 6)), (aI cI (rw 7) 60 (rs 7)), (oC9 ad ), ((ad 12), .inl (cQ, 8, .inr (.inr (.inr (.inr (fun i => if i < 8 then some (rw i) else none)))))), (aI cI (ad 13) 8 sl), (aI cI (ad 14) 8 ss), (oC10 ad tn td (1 : Int32))] H := hP
      replace hD : va_D A [(aI cI (rw 0) 60 (rs 0)), (aI cI (rw 1) 60 (rs 1)), (aI cI (rw 2) 60 (rs 2)), (aI cI (rw 3) 60 (rs 3)), (aI cI (rw 4) 60 (rs 4)), (aI cI (rw 5) 60 (rs 5)), (aI cI (rw 6) 60 (rs 6)), (aI cI (rw 7) 60 (rs 7)), (oC9 ad ), ((ad 12), .inl (cQ, 8, .inr (.inr (.inr (.inr (fun i => if i < 8 then some (rw i) else none)))))), (aI cI (ad 13) 8 sl), (aI cI (ad 14) 8 ss), (oC10 ad tn td (1 : Int32))] := hD
      subst hw28
      have hP9 := hP.sub (ws' := [(aI cI (rw 0) 60 (rs 0)), (aI cI (rw 1) 60 (rs 1)), (aI cI (rw 2) 60 (rs 2)), (aI cI (rw 3) 60 (rs 3)), (aI cI (rw 4) 60 (rs 4)), (aI cI (rw 5) 60 (rs 5)), (aI cI (rw 6) 60 (rs 6)), (aI cI (rw 7) 60 (rs 7)), (oC10 ad tn td (1 : Int32)), (oC9 ad ), ((ad 12), .inl (cQ, 8, .inr (.inr (.inr (.inr (fun i => if i < 8 then some (rw i) else none)))))), (aI cI (ad 13) 8 sl), (aI cI (ad 14) 8 ss)]) [0, 1, 2, 3, 4, 5, 6, 7, 12, 8, 9, 10, 11] rfl
      have hD9 := hD.sub (ws' := [(aI cI (rw 0) 60 (rs 0)), (aI cI (rw 1) 60 (rs 1)), (aI cI (rw 2) 60 (rs 2)), (aI cI (rw 3) 60 (rs 3)), (aI cI (rw 4) 60 (rs 4)), (aI cI (rw 5) 60 (rs 5)), (aI cI (rw 6) 60 (rs 6)), (aI cI (rw 7) 60 (rs 7)), (oC10 ad tn td (1 : Int32)), (oC9 ad ), ((ad 12), .inl (cQ, 8, .inr (.inr (.inr (.inr (fun i => if i < 8 then some (rw i) else none)))))), (aI cI (ad 13) 8 sl), (aI cI (ad 14) 8 ss)]) [0, 1, 2, 3, 4, 5, 6, 7, 12, 8, 9, 10, 11] (by decide +kernel) rfl
      exact W.iret (v := (-1000010) - (1 : Int32)) hx hb hr (fun t ht hW => ⟨⟨(-1000010) - (1 : Int32), ((1 : Int32), rs), rfl, (by unfold sp_set; (repeat' split) <;> first | rfl | (exfalso; omega) | (subst_vars; rfl)), by rw [ht]; exact hP9, va_K.moved hW.alike hK, hD9⟩, hS.F ht⟩) hS.2.2 dX10_set_28
  · skip
    have f30 := bo_f hw2 c4
    refine lv_ldc hx hb hown (hts (Cond.constant RX10 89 (-1000001)) (wm_t (wm_l (wm_i 0 rfl)))) dX10_set_9 ?_
    have hP9 := hP
    have hD9 := hD
    exact W.iret (v := (-1000001)) hx hb hr (fun t ht hW => ⟨⟨(-1000001), (lf, rs), rfl, (by unfold sp_set; (repeat' split) <;> first | rfl | (exfalso; omega) | (subst_vars; rfl)), by rw [ht]; exact hP9, va_K.moved hW.alike hK, hD9⟩, hS.F ht⟩) hS.2.2 dX10_set_11

set_option maxHeartbeats 4000000 in
set_option maxRecDepth 100000 in
theorem ct_X10_drop (l : Launch) (D : va_G) (cI cY cJ cQ : ClassId) (sz : Nat) (ad : Nat → Nat) (tn td lf : Int32) (ss : Nat → Int32) (a : Int32)   : Met l yX10_drop wsX10_drop ({ frames := 1, cells := 0, slots := 0, locals := 21 }) (cPre D (ty4 cI cY cJ cQ) [(oC10 ad tn td lf), (oC9 ad ), (aI cI (ad 14) 8 ss)] sz [.ref (ad 0), .int a]) (va_Qi (fun (r : Int32) (u : Int32 × (Nat → Int32)) => (r, u) = sp_drop lf ss a) (cB D (ty4 cI cY cJ cQ) (fun (u : Int32 × (Nat → Int32)) => [(oC10 ad tn td u.1), (oC9 ad ), (aI cI (ad 14) 8 u.2)]) (va_A [(oC10 ad tn td lf), (oC9 ad ), (aI cI (ad 14) 8 ss)] sz)) (va_A [(oC10 ad tn td lf), (oC9 ad ), (aI cI (ad 14) 8 ss)] sz)) 0 0 (va_A [(oC10 ad tn td lf), (oC9 ad ), (aI cI (ad 14) 8 ss)] sz) := by
  refine Met.ofW (cc := cX10_drop) (maxL := 3) (ret := (some .int)) (by decide) rfl ?_
  intro p e s m args below meth c s₁ B hml hv
  obtain ⟨rfl, hsz, hP, hK, hD0, hN⟩ := hv
  have hx := B.exec
  have hb := B.bytes
  have hr := B.returns
  have hts := atoms_spec (ws := wsX10_drop) B.pre
  have hown : s.vm.findClass RX10 = some m.cls := findClass_of_methodNamed B.named
  have hlocks := B.notSynchronized
  subst hsz
  have hD := hD0.self (sz := s.heap.size)
  generalize hAe : va_A [(oC10 ad tn td lf), (oC9 ad ), (aI cI (ad 14) 8 ss)] s.heap.size = A at hD ⊢
  have hA : ∀ q : Nat, s.heap.size ≤ q → A q := fun q h => by rw [← hAe]; exact Or.inr h
  have hS : va_S A s.heap s.heap [] := va_S.rf
  have hP : va_P D vwCl [(oC10 ad tn td lf), (oC9 ad ), (aI cI (ad 14) 8 ss)] s.heap := hP
  have hl := lv_entry ([.ref (ad 0), .int a]) (n := 3) (Nat.le_of_ble_eq_true rfl)
  rw [lg_entry_eq]
  generalize (lg_sl ([.ref (ad 0), .int a]) ++ List.replicate (3 - (lg_sl ([.ref (ad 0), .int a])).length) Slot.unset).toArray = ls at hl ⊢
  have hl : lv_has ls 3 [(0, .ref (ad 0)), (1, .int a)] := hl
  have km1000001 : (-1000001 : Int32).toInt = -1000001 := by decide
  have k0 : (0 : Int32).toInt = 0 := by decide
  have k1 : (1 : Int32).toInt = 1 := by decide
  have k8 : (8 : Int32).toInt = 8 := by decide
  refine lv_iload_n hx hb dX10_drop_0 rfl (lv_at hl 1 rfl) ?_
  refine lv_bipush (v := 8) hx hb dX10_drop_1 (by decide) ?_
  refine st_i1 (va_runS (As := [.int a, .int 8]) (rest := []) ⟨hx, hb, hml, hown, hts⟩ (ct_X10_isBelow l D cI cY cJ cQ _ a (8 : Int32)) (va_cwS 2 hts gX10_drop_X10_isBelow rfl rfl rfl cdX10_isBelow ⟨Nat.le_of_ble_eq_true rfl, Nat.le_of_ble_eq_true rfl⟩) (cPreS (hP.sub [] rfl) hK (hD.sub [] (by decide +kernel) rfl) hN) rfl rfl hl.1 rfl (lv_room (Nat.le_of_ble_eq_true rfl)) dX10_drop_3 ⟨Nat.le_of_ble_eq_true rfl, Nat.le_of_ble_eq_true rfl⟩) hP hD hS hA [] rfl (fun _ => rfl) (fun r3 u1 H locs hw2 => ?_)
  clear hP hS
  intro hP hS
  replace hw2 : r3 = if 0 ≤ a.toInt ∧ a.toInt < (8 : Int32).toInt then 1 else 0 := hw2
  refine lv_if_ne (tgt := 12) hx hb dX10_drop_6 (by decide) (fun c4 => ?_) (fun c4 => ?_)
  · skip
    have f5 := bo_t hw2 c4
    refine lv_aload_n hx hb dX10_drop_12 rfl (lv_at hl 0 rfl) ?_
    refine va_get (D := D) (ci := 10) (v := .ref (ad 1)) (C := RX10) (T := TX10) (N := 14) hx hb hts inX10_drop_X10 hown hK hP 0 rfl rfl 0 (by decide) (hts (Cond.fieldLink RX10 10 "PortRooms" "sheets" "LPortRooms$Sheets;") (wm_t (wm_l (wm_i 1 rfl)))) (fun _ h9 => h9) rfl dX10_drop_13 ?_
    refine lv_iload_n hx hb dX10_drop_16 rfl (lv_at hl 1 rfl) ?_
    refine st_i1 (va_runV (C := RX9) (As := [.int a]) (rest := []) ⟨hx, hb, hml, hown, hts⟩ (ct_X9_isMissing l D cI cY cJ cQ _ ad ss a (by omega) (by omega)) (cwV 1 hts gX10_drop_X9_isMissing rfl rfl rfl ⟨rfl, cdX9_isMissing⟩ ⟨Nat.le_of_ble_eq_true rfl, Nat.le_of_ble_eq_true rfl⟩) (cPreV (hP.sub [1, 2] rfl) hK (hD.sub [1, 2] (by decide +kernel) rfl) hN (ci := 9) (q0 := 0) rfl rfl) rfl rfl hl.1 rfl (lv_room (Nat.le_of_ble_eq_true rfl)) dX10_drop_17 ⟨Nat.le_of_ble_eq_true rfl, Nat.le_of_ble_eq_true rfl⟩) hP hD hS hA [1, 2] rfl (fun _ => rfl) (fun r8 u6 H locs hw7 => ?_)
    clear hP hS
    intro hP hS
    replace hw7 : r8 = if (ss a.toNatClampNeg).toInt = -1 then 1 else 0 := hw7
    refine lv_if_eq (tgt := 29) hx hb dX10_drop_20 (by decide) (fun c9 => ?_) (fun c9 => ?_)
    · skip
      have f10 := bo_f hw7 c9
      refine lv_aload_n hx hb dX10_drop_29 rfl (lv_at hl 0 rfl) ?_
      refine va_get (D := D) (ci := 10) (v := .ref (ad 1)) (C := RX10) (T := TX10) (N := 14) hx hb hts inX10_drop_X10 hown hK hP 0 rfl rfl 0 (by decide) (hts (Cond.fieldLink RX10 10 "PortRooms" "sheets" "LPortRooms$Sheets;") (wm_t (wm_l (wm_i 1 rfl)))) (fun _ h9 => h9) rfl dX10_drop_30 ?_
      refine va_get (D := D) (ci := 9) (v := .ref (ad 14)) (C := RX9) (T := TX9) (N := 3) hx hb hts inX10_drop_X9 hown hK hP 1 rfl rfl 2 (by decide) (hts (Cond.fieldLink RX10 126 "PortRooms$Sheets" "size" "[I") (wm_t (wm_l (wm_i 2 rfl)))) (fun _ h9 => h9) rfl dX10_drop_33 ?_
      refine lv_iload_n hx hb dX10_drop_36 rfl (lv_at hl 1 rfl) ?_
      refine va_iald hx hb hK hP 2 0 rfl rfl (i_in (by omega) (by omega)) dX10_drop_37 ?_
      refine lv_topi (fun v11 ev11 => ?_)
      have tlv11 : v11.toInt = (ss a.toNatClampNeg).toInt := by rw [ev11]
      refine lv_istore_n (lv' := [(2, .int v11), (0, .ref (ad 0)), (1, .int a)]) hx hb dX10_drop_38 rfl hl (by decide) rfl (fun ls hl => ?_)
      refine lv_aload_n hx hb dX10_drop_39 rfl (lv_at hl 1 rfl) ?_
      refine va_get (D := D) (ci := 10) (v := .ref (ad 1)) (C := RX10) (T := TX10) (N := 14) hx hb hts inX10_drop_X10 hown hK hP 0 rfl rfl 0 (by decide) (hts (Cond.fieldLink RX10 10 "PortRooms" "sheets" "LPortRooms$Sheets;") (wm_t (wm_l (wm_i 1 rfl)))) (fun _ h9 => h9) rfl dX10_drop_40 ?_
      refine lv_iload_n hx hb dX10_drop_43 rfl (lv_at hl 2 rfl) ?_
      refine st_v (wr := [(oC10 ad tn td lf)]) (va_runV (C := RX9) (As := [.int a]) (rest := []) ⟨hx, hb, hml, hown, hts⟩ (ct_X9_takeAway l D cI cY cJ cQ _ ad ss a (by omega) (by omega)) (cwV 1 hts gX10_drop_X9_takeAway rfl rfl rfl ⟨rfl, cdX9_takeAway⟩ ⟨Nat.le_of_ble_eq_true rfl, Nat.le_of_ble_eq_true rfl⟩) (cPreV (hP.sub [1, 2] rfl) hK (hD.sub [1, 2] (by decide +kernel) rfl) hN (ci := 9) (q0 := 0) rfl rfl) rfl rfl hl.1 rfl (lv_room (Nat.le_of_ble_eq_true rfl)) dX10_drop_44 ⟨Nat.le_of_ble_eq_true rfl, Nat.le_of_ble_eq_true rfl⟩) hP hD hS hA [1, 2] [0] rfl rfl (by decide +kernel) (by decide +kernel) (fun u12 H locs hw13 => ?_)
      clear hP hD hS
      intro hP hD hS
      replace hw13 : True := hw13
      replace hP : va_P D vwCl [(oC10 ad tn td lf), (oC9 ad ), (aI cI (ad 14) 8 (upd ss a.toNatClampNeg (-1)))] H := hP
      replace hD : va_D A [(oC10 ad tn td lf), (oC9 ad ), (aI cI (ad 14) 8 (upd ss a.toNatClampNeg (-1)))] := hD
      refine lv_aload_n hx hb dX10_drop_47 rfl (lv_at hl 1 rfl) ?_
      refine lv_iload_n hx hb dX10_drop_48 rfl (lv_at hl 0 rfl) ?_
      refine st_i (wr := [(oC9 ad ), (aI cI (ad 14) 8 (upd ss a.toNatClampNeg (-1)))]) (va_runV (C := RX10) (As := [.int v11]) (rest := []) ⟨hx, hb, hml, hown, hts⟩ (ct_X10_passed l D cI cY cJ cQ _ ad tn td lf v11) (cwV 1 hts gX10_drop_X10_passed rfl rfl rfl ⟨rfl, cdX10_passed⟩ ⟨Nat.le_of_ble_eq_true rfl, Nat.le_of_ble_eq_true rfl⟩) (cPreV (hP.sub [0] rfl) hK (hD.sub [0] (by decide +kernel) rfl) hN (ci := 10) (q0 := 0) rfl rfl) rfl rfl hl.1 rfl (lv_room (Nat.le_of_ble_eq_true rfl)) dX10_drop_49 ⟨Nat.le_of_ble_eq_true rfl, Nat.le_of_ble_eq_true rfl⟩) hP hD hS hA [0] [1, 2] rfl rfl (by decide +kernel) (by decide +kernel) (fun r17 u15 H locs hw16 => ?_)
      clear hP hD hS
      intro hP hD hS
      replace hw16 : r17 = v11 := hw16
      replace hP : va_P D vwCl [(oC9 ad ), (aI cI (ad 14) 8 (upd ss a.toNatClampNeg (-1))), (oC10 ad tn td (0))] H := hP
      replace hD : va_D A [(oC9 ad ), (aI cI (ad 14) 8 (upd ss a.toNatClampNeg (-1))), (oC10 ad tn td (0))] := hD
      replace hw16 := hw16.symm
      subst hw16
      have hP9 := hP.sub (ws' := [(oC10 ad tn td (0)), (oC9 ad ), (aI cI (ad 14) 8 (upd ss a.toNatClampNeg (-1)))]) [2, 0, 1] rfl
      have hD9 := hD.sub (ws' := [(oC10 ad tn td (0)), (oC9 ad ), (aI cI (ad 14) 8 (upd ss a.toNatClampNeg (-1)))]) [2, 0, 1] (by decide +kernel) rfl
      exact W.iret (v := v11) hx hb hr (fun t ht hW => ⟨⟨v11, (0, upd ss a.toNatClampNeg (-1)), rfl, (by unfold sp_drop; (repeat' split) <;> first | rfl | (exfalso; omega) | (subst_vars; rfl)), by rw [ht]; exact hP9, va_K.moved hW.alike hK, hD9⟩, hS.F ht⟩) hS.2.2 dX10_drop_52
    · skip
      have f18 := bo_t hw7 c9
      refine lv_aload_n hx hb dX10_drop_23 rfl (lv_at hl 0 rfl) ?_
      refine lv_iconst (v := 1) hx hb dX10_drop_24 (by decide) ?_
      refine st_i (wr := [(oC9 ad ), (aI cI (ad 14) 8 ss)]) (va_runV (C := RX10) (As := [.int 1]) (rest := []) ⟨hx, hb, hml, hown, hts⟩ (ct_X10_finding l D cI cY cJ cQ _ ad tn td lf (1 : Int32)) (cwV 1 hts gX10_drop_X10_finding rfl rfl rfl ⟨rfl, cdX10_finding⟩ ⟨Nat.le_of_ble_eq_true rfl, Nat.le_of_ble_eq_true rfl⟩) (cPreV (hP.sub [0] rfl) hK (hD.sub [0] (by decide +kernel) rfl) hN (ci := 10) (q0 := 0) rfl rfl) rfl rfl hl.1 rfl (lv_room (Nat.le_of_ble_eq_true rfl)) dX10_drop_25 ⟨Nat.le_of_ble_eq_true rfl, Nat.le_of_ble_eq_true rfl⟩) hP hD hS hA [0] [1, 2] rfl rfl (by decide +kernel) (by decide +kernel) (fun r21 u19 H locs hw20 => ?_)
      clear hP hD hS
      intro hP hD hS
      replace hw20 : r21 = (-1000010) - (1 : Int32) := hw20
      replace hP : va_P D vwCl [(oC9 ad ), (aI cI (ad 14) 8 ss), (oC10 ad tn td (1 : Int32))] H := hP
      replace hD : va_D A [(oC9 ad ), (aI cI (ad 14) 8 ss), (oC10 ad tn td (1 : Int32))] := hD
      subst hw20
      have hP9 := hP.sub (ws' := [(oC10 ad tn td (1 : Int32)), (oC9 ad ), (aI cI (ad 14) 8 ss)]) [2, 0, 1] rfl
      have hD9 := hD.sub (ws' := [(oC10 ad tn td (1 : Int32)), (oC9 ad ), (aI cI (ad 14) 8 ss)]) [2, 0, 1] (by decide +kernel) rfl
      exact W.iret (v := (-1000010) - (1 : Int32)) hx hb hr (fun t ht hW => ⟨⟨(-1000010) - (1 : Int32), ((1 : Int32), ss), rfl, (by unfold sp_drop; (repeat' split) <;> first | rfl | (exfalso; omega) | (subst_vars; rfl)), by rw [ht]; exact hP9, va_K.moved hW.alike hK, hD9⟩, hS.F ht⟩) hS.2.2 dX10_drop_28
  · skip
    have f22 := bo_f hw2 c4
    refine lv_ldc hx hb hown (hts (Cond.constant RX10 89 (-1000001)) (wm_t (wm_l (wm_i 0 rfl)))) dX10_drop_9 ?_
    have hP9 := hP
    have hD9 := hD
    exact W.iret (v := (-1000001)) hx hb hr (fun t ht hW => ⟨⟨(-1000001), (lf, ss), rfl, (by unfold sp_drop; (repeat' split) <;> first | rfl | (exfalso; omega) | (subst_vars; rfl)), by rw [ht]; exact hP9, va_K.moved hW.alike hK, hD9⟩, hS.F ht⟩) hS.2.2 dX10_drop_11

set_option maxHeartbeats 4000000 in
set_option maxRecDepth 100000 in
theorem ct_X10_copy (l : Launch) (D : va_G) (cI cY cJ cQ : ClassId) (sz : Nat) (ad : Nat → Nat) (rw : Nat → Nat) (rs : Nat → Nat → Int32) (tn td lf : Int32) (sl ss : Nat → Int32) (a : Int32) (i : Int32) (b : Int32) (j : Int32) (n : Int32)  (h1 : okS ss)  : Met l yX10_copy wsX10_copy ({ frames := 1, cells := 0, slots := 0, locals := 40 }) (cPre D (ty4 cI cY cJ cQ) [(aI cI (rw 0) 60 (rs 0)), (aI cI (rw 1) 60 (rs 1)), (aI cI (rw 2) 60 (rs 2)), (aI cI (rw 3) 60 (rs 3)), (aI cI (rw 4) 60 (rs 4)), (aI cI (rw 5) 60 (rs 5)), (aI cI (rw 6) 60 (rs 6)), (aI cI (rw 7) 60 (rs 7)), (oC10 ad tn td lf), (oC9 ad ), ((ad 12), .inl (cQ, 8, .inr (.inr (.inr (.inr (fun i => if i < 8 then some (rw i) else none)))))), (aI cI (ad 13) 8 sl), (aI cI (ad 14) 8 ss)] sz [.ref (ad 0), .int a, .int i, .int b, .int j, .int n]) (va_Qi (fun (r : Int32) (u : Int32 × (Nat → Nat → Int32)) => (r, u) = sp_copy lf rs sl ss a i b j n) (cB D (ty4 cI cY cJ cQ) (fun (u : Int32 × (Nat → Nat → Int32)) => [(aI cI (rw 0) 60 (u.2 0)), (aI cI (rw 1) 60 (u.2 1)), (aI cI (rw 2) 60 (u.2 2)), (aI cI (rw 3) 60 (u.2 3)), (aI cI (rw 4) 60 (u.2 4)), (aI cI (rw 5) 60 (u.2 5)), (aI cI (rw 6) 60 (u.2 6)), (aI cI (rw 7) 60 (u.2 7)), (oC10 ad tn td u.1), (oC9 ad ), ((ad 12), .inl (cQ, 8, .inr (.inr (.inr (.inr (fun i => if i < 8 then some (rw i) else none)))))), (aI cI (ad 13) 8 sl), (aI cI (ad 14) 8 ss)]) (va_A [(aI cI (rw 0) 60 (rs 0)), (aI cI (rw 1) 60 (rs 1)), (aI cI (rw 2) 60 (rs 2)), (aI cI (rw 3) 60 (rs 3)), (aI cI (rw 4) 60 (rs 4)), (aI cI (rw 5) 60 (rs 5)), (aI cI (rw 6) 60 (rs 6)), (aI cI (rw 7) 60 (rs 7)), (oC10 ad tn td lf), (oC9 ad ), ((ad 12), .inl (cQ, 8, .inr (.inr (.inr (.inr (fun i => if i < 8 then some (rw i) else none)))))), (aI cI (ad 13) 8 sl), (aI cI (ad 14) 8 ss)] sz)) (va_A [(aI cI (rw 0) 60 (rs 0)), (aI cI (rw 1) 60 (rs 1)), (aI cI (rw 2) 60 (rs 2)), (aI cI (rw 3) 60 (rs 3)), (aI cI (rw 4) 60 (rs 4)), (aI cI (rw 5) 60 (rs 5)), (aI cI (rw 6) 60 (rs 6)), (aI cI (rw 7) 60 (rs 7)), (oC10 ad tn td lf), (oC9 ad ), ((ad 12), .inl (cQ, 8, .inr (.inr (.inr (.inr (fun i => if i < 8 then some (rw i) else none)))))), (aI cI (ad 13) 8 sl), (aI cI (ad 14) 8 ss)] sz)) 0 0 (va_A [(aI cI (rw 0) 60 (rs 0)), (aI cI (rw 1) 60 (rs 1)), (aI cI (rw 2) 60 (rs 2)), (aI cI (rw 3) 60 (rs 3)), (aI cI (rw 4) 60 (rs 4)), (aI cI (rw 5) 60 (rs 5)), (aI cI (rw 6) 60 (rs 6)), (aI cI (rw 7) 60 (rs 7)), (oC10 ad tn td lf), (oC9 ad ), ((ad 12), .inl (cQ, 8, .inr (.inr (.inr (.inr (fun i => if i < 8 then some (rw i) else none)))))), (aI cI (ad 13) 8 sl), (aI cI (ad 14) 8 ss)] sz) := by
  refine Met.ofW (cc := cX10_copy) (maxL := 6) (ret := (some .int)) (by decide) rfl ?_
  intro p e s m args below meth c s₁ B hml hv
  obtain ⟨rfl, hsz, hP, hK, hD0, hN⟩ := hv
  have hx := B.exec
  have hb := B.bytes
  have hr := B.returns
  have hts := atoms_spec (ws := wsX10_copy) B.pre
  have hown : s.vm.findClass RX10 = some m.cls := findClass_of_methodNamed B.named
  have hlocks := B.notSynchronized
  subst hsz
  have hD := hD0.self (sz := s.heap.size)
  generalize hAe : va_A [(aI cI (rw 0) 60 (rs 0)), (aI cI (rw 1) 60 (rs 1)), (aI cI (rw 2) 60 (rs 2)), (aI cI (rw 3) 60 (rs 3)), (aI cI (rw 4) 60 (rs 4)), (aI cI (rw 5) 60 (rs 5)), (aI cI (rw 6) 60 (rs 6)), (aI cI (rw 7) 60 (rs 7)), (oC10 ad tn td lf), (oC9 ad ), ((ad 12), .inl (cQ, 8, .inr (.inr (.inr (.inr (fun i => if i < 8 then some (rw i) else none)))))), (aI cI (ad 13) 8 sl), (aI cI (ad 14) 8 ss)] s.heap.size = A at hD ⊢
  have hA : ∀ q : Nat, s.heap.size ≤ q → A q := fun q h => by rw [← hAe]; exact Or.inr h
  have hS : va_S A s.heap s.heap [] := va_S.rf
  have hP : va_P D vwCl [(aI cI (rw 0) 60 (rs 0)), (aI cI (rw 1) 60 (rs 1)), (aI cI (rw 2) 60 (rs 2)), (aI cI (rw 3) 60 (rs 3)), (aI cI (rw 4) 60 (rs 4)), (aI cI (rw 5) 60 (rs 5)), (aI cI (rw 6) 60 (rs 6)), (aI cI (rw 7) 60 (rs 7)), (oC10 ad tn td lf), (oC9 ad ), ((ad 12), .inl (cQ, 8, .inr (.inr (.inr (.inr (fun i => if i < 8 then some (rw i) else none)))))), (aI cI (ad 13) 8 sl), (aI cI (ad 14) 8 ss)] s.heap := hP
  have hl := lv_entry ([.ref (ad 0), .int a, .int i, .int b, .int j, .int n]) (n := 6) (Nat.le_of_ble_eq_true rfl)
  rw [lg_entry_eq]
  generalize (lg_sl ([.ref (ad 0), .int a, .int i, .int b, .int j, .int n]) ++ List.replicate (6 - (lg_sl ([.ref (ad 0), .int a, .int i, .int b, .int j, .int n])).length) Slot.unset).toArray = ls at hl ⊢
  have hl : lv_has ls 6 [(0, .ref (ad 0)), (1, .int a), (2, .int i), (3, .int b), (4, .int j), (5, .int n)] := hl
  have km1000001 : (-1000001 : Int32).toInt = -1000001 := by decide
  have k0 : (0 : Int32).toInt = 0 := by decide
  have k1 : (1 : Int32).toInt = 1 := by decide
  have k2 : (2 : Int32).toInt = 2 := by decide
  have k5 : (5 : Int32).toInt = 5 := by decide
  have k8 : (8 : Int32).toInt = 8 := by decide
  refine lv_iload_n hx hb dX10_copy_0 rfl (lv_at hl 1 rfl) ?_
  refine lv_bipush (v := 8) hx hb dX10_copy_1 (by decide) ?_
  refine st_i1 (va_runS (As := [.int a, .int 8]) (rest := []) ⟨hx, hb, hml, hown, hts⟩ (ct_X10_isBelow l D cI cY cJ cQ _ a (8 : Int32)) (va_cwS 2 hts gX10_copy_X10_isBelow rfl rfl rfl cdX10_isBelow ⟨Nat.le_of_ble_eq_true rfl, Nat.le_of_ble_eq_true rfl⟩) (cPreS (hP.sub [] rfl) hK (hD.sub [] (by decide +kernel) rfl) hN) rfl rfl hl.1 rfl (lv_room (Nat.le_of_ble_eq_true rfl)) dX10_copy_3 ⟨Nat.le_of_ble_eq_true rfl, Nat.le_of_ble_eq_true rfl⟩) hP hD hS hA [] rfl (fun _ => rfl) (fun r3 u1 H locs hw2 => ?_)
  clear hP hS
  intro hP hS
  replace hw2 : r3 = if 0 ≤ a.toInt ∧ a.toInt < (8 : Int32).toInt then 1 else 0 := hw2
  refine lv_if_eq (tgt := 18) hx hb dX10_copy_6 (by decide) (fun c4 => ?_) (fun c4 => ?_)
  · skip
    have f5 := bo_f hw2 c4
    refine lv_ldc hx hb hown (hts (Cond.constant RX10 89 (-1000001)) (wm_t (wm_l (wm_i 0 rfl)))) dX10_copy_18 ?_
    have hP9 := hP
    have hD9 := hD
    exact W.iret (v := (-1000001)) hx hb hr (fun t ht hW => ⟨⟨(-1000001), (lf, rs), rfl, (by unfold sp_copy; (repeat' split) <;> first | rfl | (exfalso; omega) | (subst_vars; rfl)), by rw [ht]; exact hP9, va_K.moved hW.alike hK, hD9⟩, hS.F ht⟩) hS.2.2 dX10_copy_20
  · skip
    have f6 := bo_t hw2 c4
    refine lv_iload_n hx hb dX10_copy_9 rfl (lv_at hl 3 rfl) ?_
    refine lv_bipush (v := 8) hx hb dX10_copy_10 (by decide) ?_
    refine st_i1 (va_runS (As := [.int b, .int 8]) (rest := []) ⟨hx, hb, hml, hown, hts⟩ (ct_X10_isBelow l D cI cY cJ cQ _ b (8 : Int32)) (va_cwS 2 hts gX10_copy_X10_isBelow rfl rfl rfl cdX10_isBelow ⟨Nat.le_of_ble_eq_true rfl, Nat.le_of_ble_eq_true rfl⟩) (cPreS (hP.sub [] rfl) hK (hD.sub [] (by decide +kernel) rfl) hN) rfl rfl hl.1 rfl (lv_room (Nat.le_of_ble_eq_true rfl)) dX10_copy_12 ⟨Nat.le_of_ble_eq_true rfl, Nat.le_of_ble_eq_true rfl⟩) hP hD hS hA [] rfl (fun _ => rfl) (fun r9 u7 H locs hw8 => ?_)
    clear hP hS
    intro hP hS
    replace hw8 : r9 = if 0 ≤ b.toInt ∧ b.toInt < (8 : Int32).toInt then 1 else 0 := hw8
    refine lv_if_ne (tgt := 21) hx hb dX10_copy_15 (by decide) (fun c10 => ?_) (fun c10 => ?_)
    · skip
      have f11 := bo_t hw8 c10
      refine lv_aload_n hx hb dX10_copy_21 rfl (lv_at hl 0 rfl) ?_
      refine va_get (D := D) (ci := 10) (v := .ref (ad 1)) (C := RX10) (T := TX10) (N := 14) hx hb hts inX10_copy_X10 hown hK hP 8 rfl rfl 0 (by decide) (hts (Cond.fieldLink RX10 10 "PortRooms" "sheets" "LPortRooms$Sheets;") (wm_t (wm_l (wm_i 1 rfl)))) (fun _ h9 => h9) rfl dX10_copy_22 ?_
      refine lv_iload_n hx hb dX10_copy_25 rfl (lv_at hl 1 rfl) ?_
      refine st_i1 (va_runV (C := RX9) (As := [.int a]) (rest := []) ⟨hx, hb, hml, hown, hts⟩ (ct_X9_isMissing l D cI cY cJ cQ _ ad ss a (by omega) (by omega)) (cwV 1 hts gX10_copy_X9_isMissing rfl rfl rfl ⟨rfl, cdX9_isMissing⟩ ⟨Nat.le_of_ble_eq_true rfl, Nat.le_of_ble_eq_true rfl⟩) (cPreV (hP.sub [9, 12] rfl) hK (hD.sub [9, 12] (by decide +kernel) rfl) hN (ci := 9) (q0 := 0) rfl rfl) rfl rfl hl.1 rfl (lv_room (Nat.le_of_ble_eq_true rfl)) dX10_copy_26 ⟨Nat.le_of_ble_eq_true rfl, Nat.le_of_ble_eq_true rfl⟩) hP hD hS hA [9, 12] rfl (fun _ => rfl) (fun r14 u12 H locs hw13 => ?_)
      clear hP hS
      intro hP hS
      replace hw13 : r14 = if (ss a.toNatClampNeg).toInt = -1 then 1 else 0 := hw13
      refine lv_if_ne (tgt := 43) hx hb dX10_copy_29 (by decide) (fun c15 => ?_) (fun c15 => ?_)
      · skip
        have f16 := bo_t hw13 c15
        refine lv_aload_n hx hb dX10_copy_43 rfl (lv_at hl 0 rfl) ?_
        refine lv_iconst (v := 1) hx hb dX10_copy_44 (by decide) ?_
        refine st_i (wr := [(aI cI (rw 0) 60 (rs 0)), (aI cI (rw 1) 60 (rs 1)), (aI cI (rw 2) 60 (rs 2)), (aI cI (rw 3) 60 (rs 3)), (aI cI (rw 4) 60 (rs 4)), (aI cI (rw 5) 60 (rs 5)), (aI cI (rw 6) 60 (rs 6)), (aI cI (rw 7) 60 (rs 7)), (oC9 ad ), ((ad 12), .inl (cQ, 8, .inr (.inr (.inr (.inr (fun i => if i < 8 then some (rw i) else none)))))), (aI cI (ad 13) 8 sl), (aI cI (ad 14) 8 ss)]) (va_runV (C := RX10) (As := [.int 1]) (rest := []) ⟨hx, hb, hml, hown, hts⟩ (ct_X10_finding l D cI cY cJ cQ _ ad tn td lf (1 : Int32)) (cwV 1 hts gX10_copy_X10_finding rfl rfl rfl ⟨rfl, cdX10_finding⟩ ⟨Nat.le_of_ble_eq_true rfl, Nat.le_of_ble_eq_true rfl⟩) (cPreV (hP.sub [8] rfl) hK (hD.sub [8] (by decide +kernel) rfl) hN (ci := 10) (q0 := 0) rfl rfl) rfl rfl hl.1 rfl (lv_room (Nat.le_of_ble_eq_true rfl)) dX10_copy_45 ⟨Nat.le_of_ble_eq_true rfl, Nat.le_of_ble_eq_true rfl⟩) hP hD hS hA [8] [0, 1, 2, 3, 4, 5, 6, 7, 9, 10, 11, 12] rfl rfl (by decide +kernel) (by decide +kernel) (fun r19 u17 H locs hw18 => ?_)
        clear hP hD hS
        intro hP hD hS
        replace hw18 : r19 = (-1000010) - (1 : Int32) := hw18
        replace hP : va_P D vwCl [(aI cI (rw 0) 60 (rs 0)), (aI cI (rw 1) 60 (rs 1)), (aI cI (rw 2) 60 (rs 2)), (aI cI (rw 3) 60 (rs 3)), (aI cI (rw 4) 60 (rs 4)), (aI cI (rw 5) 60 (rs 5)), (aI cI (rw 6) 60 (rs 6)), (aI cI (rw 7) 60 (rs 7)), (oC9 ad ), ((ad 12), .inl (cQ, 8, .inr (.inr (.inr (.inr (fun i => if i < 8 then some (rw i) else none)))))), (aI cI (ad 13) 8 sl), (aI cI (ad 14) 8 ss), (oC10 ad tn td (1 : Int32))] H := hP
        replace hD : va_D A [(aI cI (rw 0) 60 (rs 0)), (aI cI (rw 1) 60 (rs 1)), (aI cI (rw 2) 60 (rs 2)), (aI cI (rw 3) 60 (rs 3)), (aI cI (rw 4) 60 (rs 4)), (aI cI (rw 5) 60 (rs 5)), (aI cI (rw 6) 60 (rs 6)), (aI cI (rw 7) 60 (rs 7)), (oC9 ad ), ((ad 12), .inl (cQ, 8, .inr (.inr (.inr (.inr (fun i => if i < 8 then some (rw i) else none)))))), (aI cI (ad 13) 8 sl), (aI cI (ad 14) 8 ss), (oC10 ad tn td (1 : Int32))] := hD
        subst hw18
        have hP9 := hP.sub (ws' := [(aI cI (rw 0) 60 (rs 0)), (aI cI (rw 1) 60 (rs 1)), (aI cI (rw 2) 60 (rs 2)), (aI cI (rw 3) 60 (rs 3)), (aI cI (rw 4) 60 (rs 4)), (aI cI (rw 5) 60 (rs 5)), (aI cI (rw 6) 60 (rs 6)), (aI cI (rw 7) 60 (rs 7)), (oC10 ad tn td (1 : Int32)), (oC9 ad ), ((ad 12), .inl (cQ, 8, .inr (.inr (.inr (.inr (fun i => if i < 8 then some (rw i) else none)))))), (aI cI (ad 13) 8 sl), (aI cI (ad 14) 8 ss)]) [0, 1, 2, 3, 4, 5, 6, 7, 12, 8, 9, 10, 11] rfl
        have hD9 := hD.sub (ws' := [(aI cI (rw 0) 60 (rs 0)), (aI cI (rw 1) 60 (rs 1)), (aI cI (rw 2) 60 (rs 2)), (aI cI (rw 3) 60 (rs 3)), (aI cI (rw 4) 60 (rs 4)), (aI cI (rw 5) 60 (rs 5)), (aI cI (rw 6) 60 (rs 6)), (aI cI (rw 7) 60 (rs 7)), (oC10 ad tn td (1 : Int32)), (oC9 ad ), ((ad 12), .inl (cQ, 8, .inr (.inr (.inr (.inr (fun i => if i < 8 then some (rw i) else none)))))), (aI cI (ad 13) 8 sl), (aI cI (ad 14) 8 ss)]) [0, 1, 2, 3, 4, 5, 6, 7, 12, 8, 9, 10, 11] (by decide +kernel) rfl
        exact W.iret (v := (-1000010) - (1 : Int32)) hx hb hr (fun t ht hW => ⟨⟨(-1000010) - (1 : Int32), ((1 : Int32), rs), rfl, (by unfold sp_copy; (repeat' split) <;> first | rfl | (exfalso; omega) | (subst_vars; rfl)), by rw [ht]; exact hP9, va_K.moved hW.alike hK, hD9⟩, hS.F ht⟩) hS.2.2 dX10_copy_48
      · skip
        have f20 := bo_f hw13 c15
        refine lv_aload_n hx hb dX10_copy_32 rfl (lv_at hl 0 rfl) ?_
        refine va_get (D := D) (ci := 10) (v := .ref (ad 1)) (C := RX10) (T := TX10) (N := 14) hx hb hts inX10_copy_X10 hown hK hP 8 rfl rfl 0 (by decide) (hts (Cond.fieldLink RX10 10 "PortRooms" "sheets" "LPortRooms$Sheets;") (wm_t (wm_l (wm_i 1 rfl)))) (fun _ h9 => h9) rfl dX10_copy_33 ?_
        refine lv_iload_n hx hb dX10_copy_36 rfl (lv_at hl 3 rfl) ?_
        refine st_i1 (va_runV (C := RX9) (As := [.int b]) (rest := []) ⟨hx, hb, hml, hown, hts⟩ (ct_X9_isMissing l D cI cY cJ cQ _ ad ss b (by omega) (by omega)) (cwV 1 hts gX10_copy_X9_isMissing rfl rfl rfl ⟨rfl, cdX9_isMissing⟩ ⟨Nat.le_of_ble_eq_true rfl, Nat.le_of_ble_eq_true rfl⟩) (cPreV (hP.sub [9, 12] rfl) hK (hD.sub [9, 12] (by decide +kernel) rfl) hN (ci := 9) (q0 := 0) rfl rfl) rfl rfl hl.1 rfl (lv_room (Nat.le_of_ble_eq_true rfl)) dX10_copy_37 ⟨Nat.le_of_ble_eq_true rfl, Nat.le_of_ble_eq_true rfl⟩) hP hD hS hA [9, 12] rfl (fun _ => rfl) (fun r23 u21 H locs hw22 => ?_)
        clear hP hS
        intro hP hS
        replace hw22 : r23 = if (ss b.toNatClampNeg).toInt = -1 then 1 else 0 := hw22
        refine lv_if_eq (tgt := 49) hx hb dX10_copy_40 (by decide) (fun c24 => ?_) (fun c24 => ?_)
        · skip
          have f25 := bo_f hw22 c24
          refine lv_aload_n hx hb dX10_copy_49 rfl (lv_at hl 0 rfl) ?_
          refine va_get (D := D) (ci := 10) (v := .ref (ad 1)) (C := RX10) (T := TX10) (N := 14) hx hb hts inX10_copy_X10 hown hK hP 8 rfl rfl 0 (by decide) (hts (Cond.fieldLink RX10 10 "PortRooms" "sheets" "LPortRooms$Sheets;") (wm_t (wm_l (wm_i 1 rfl)))) (fun _ h9 => h9) rfl dX10_copy_50 ?_
          refine va_get (D := D) (ci := 9) (v := .ref (ad 13)) (C := RX9) (T := TX9) (N := 3) hx hb hts inX10_copy_X9 hown hK hP 9 rfl rfl 1 (by decide) (hts (Cond.fieldLink RX10 113 "PortRooms$Sheets" "lane" "[I") (wm_t (wm_l (wm_i 2 rfl)))) (fun _ h9 => h9) rfl dX10_copy_53 ?_
          refine lv_iload_n hx hb dX10_copy_56 rfl (lv_at hl 1 rfl) ?_
          refine va_iald hx hb hK hP 11 0 rfl rfl (i_in (by omega) (by omega)) dX10_copy_57 ?_
          refine lv_topi (fun v26 ev26 => ?_)
          have tlv26 : v26.toInt = (sl a.toNatClampNeg).toInt := by rw [ev26]
          refine lv_aload_n hx hb dX10_copy_58 rfl (lv_at hl 0 rfl) ?_
          refine va_get (D := D) (ci := 10) (v := .ref (ad 1)) (C := RX10) (T := TX10) (N := 14) hx hb hts inX10_copy_X10 hown hK hP 8 rfl rfl 0 (by decide) (hts (Cond.fieldLink RX10 10 "PortRooms" "sheets" "LPortRooms$Sheets;") (wm_t (wm_l (wm_i 1 rfl)))) (fun _ h9 => h9) rfl dX10_copy_59 ?_
          refine va_get (D := D) (ci := 9) (v := .ref (ad 13)) (C := RX9) (T := TX9) (N := 3) hx hb hts inX10_copy_X9 hown hK hP 9 rfl rfl 1 (by decide) (hts (Cond.fieldLink RX10 113 "PortRooms$Sheets" "lane" "[I") (wm_t (wm_l (wm_i 2 rfl)))) (fun _ h9 => h9) rfl dX10_copy_62 ?_
          refine lv_iload_n hx hb dX10_copy_65 rfl (lv_at hl 3 rfl) ?_
          refine va_iald hx hb hK hP 11 0 rfl rfl (i_in (by omega) (by omega)) dX10_copy_66 ?_
          refine lv_topi (fun v27 ev27 => ?_)
          have tlv27 : v27.toInt = (sl b.toNatClampNeg).toInt := by rw [ev27]
          refine lv_icmp_eq (tgt := 76) hx hb dX10_copy_67 (by decide) (fun c28 => ?_) (fun c28 => ?_)
          · skip
            have f29 := i_eq c28
            refine lv_aload_n hx hb dX10_copy_76 rfl (lv_at hl 0 rfl) ?_
            refine va_get (D := D) (ci := 10) (v := .ref (ad 1)) (C := RX10) (T := TX10) (N := 14) hx hb hts inX10_copy_X10 hown hK hP 8 rfl rfl 0 (by decide) (hts (Cond.fieldLink RX10 10 "PortRooms" "sheets" "LPortRooms$Sheets;") (wm_t (wm_l (wm_i 1 rfl)))) (fun _ h9 => h9) rfl dX10_copy_77 ?_
            refine lv_iload_n hx hb dX10_copy_80 rfl (lv_at hl 1 rfl) ?_
            refine lv_iload_n hx hb dX10_copy_81 rfl (lv_at hl 2 rfl) ?_
            refine lv_iload hx hb dX10_copy_82 (lv_at hl 5 rfl) ?_
            refine st_i1 (va_runV (C := RX9) (As := [.int a, .int i, .int n]) (rest := []) ⟨hx, hb, hml, hown, hts⟩ (ct_X9_hasPlaces l D cI cY cJ cQ _ ad ss a i n (by omega) (by omega) h1) (cwV 3 hts gX10_copy_X9_hasPlaces rfl rfl rfl ⟨rfl, cdX9_hasPlaces⟩ ⟨Nat.le_of_ble_eq_true rfl, Nat.le_of_ble_eq_true rfl⟩) (cPreV (hP.sub [9, 12] rfl) hK (hD.sub [9, 12] (by decide +kernel) rfl) hN (ci := 9) (q0 := 0) rfl rfl) rfl rfl hl.1 rfl (lv_room (Nat.le_of_ble_eq_true rfl)) dX10_copy_84 ⟨Nat.le_of_ble_eq_true rfl, Nat.le_of_ble_eq_true rfl⟩) hP hD hS hA [9, 12] rfl (fun _ => rfl) (fun r32 u30 H locs hw31 => ?_)
            clear hP hS
            intro hP hS
            replace hw31 : r32 = if 0 ≤ i.toInt ∧ 0 ≤ n.toInt ∧ i.toInt + n.toInt ≤ (ss a.toNatClampNeg).toInt then 1 else 0 := hw31
            refine lv_if_eq (tgt := 105) hx hb dX10_copy_87 (by decide) (fun c33 => ?_) (fun c33 => ?_)
            · skip
              have f34 := bo_f hw31 c33
              refine lv_aload_n hx hb dX10_copy_105 rfl (lv_at hl 0 rfl) ?_
              refine lv_iconst (v := 2) hx hb dX10_copy_106 (by decide) ?_
              refine st_i (wr := [(aI cI (rw 0) 60 (rs 0)), (aI cI (rw 1) 60 (rs 1)), (aI cI (rw 2) 60 (rs 2)), (aI cI (rw 3) 60 (rs 3)), (aI cI (rw 4) 60 (rs 4)), (aI cI (rw 5) 60 (rs 5)), (aI cI (rw 6) 60 (rs 6)), (aI cI (rw 7) 60 (rs 7)), (oC9 ad ), ((ad 12), .inl (cQ, 8, .inr (.inr (.inr (.inr (fun i => if i < 8 then some (rw i) else none)))))), (aI cI (ad 13) 8 sl), (aI cI (ad 14) 8 ss)]) (va_runV (C := RX10) (As := [.int 2]) (rest := []) ⟨hx, hb, hml, hown, hts⟩ (ct_X10_finding l D cI cY cJ cQ _ ad tn td lf (2 : Int32)) (cwV 1 hts gX10_copy_X10_finding rfl rfl rfl ⟨rfl, cdX10_finding⟩ ⟨Nat.le_of_ble_eq_true rfl, Nat.le_of_ble_eq_true rfl⟩) (cPreV (hP.sub [8] rfl) hK (hD.sub [8] (by decide +kernel) rfl) hN (ci := 10) (q0 := 0) rfl rfl) rfl rfl hl.1 rfl (lv_room (Nat.le_of_ble_eq_true rfl)) dX10_copy_107 ⟨Nat.le_of_ble_eq_true rfl, Nat.le_of_ble_eq_true rfl⟩) hP hD hS hA [8] [0, 1, 2, 3, 4, 5, 6, 7, 9, 10, 11, 12] rfl rfl (by decide +kernel) (by decide +kernel) (fun r37 u35 H locs hw36 => ?_)
              clear hP hD hS
              intro hP hD hS
              replace hw36 : r37 = (-1000010) - (2 : Int32) := hw36
              replace hP : va_P D vwCl [(aI cI (rw 0) 60 (rs 0)), (aI cI (rw 1) 60 (rs 1)), (aI cI (rw 2) 60 (rs 2)), (aI cI (rw 3) 60 (rs 3)), (aI cI (rw 4) 60 (rs 4)), (aI cI (rw 5) 60 (rs 5)), (aI cI (rw 6) 60 (rs 6)), (aI cI (rw 7) 60 (rs 7)), (oC9 ad ), ((ad 12), .inl (cQ, 8, .inr (.inr (.inr (.inr (fun i => if i < 8 then some (rw i) else none)))))), (aI cI (ad 13) 8 sl), (aI cI (ad 14) 8 ss), (oC10 ad tn td (2 : Int32))] H := hP
              replace hD : va_D A [(aI cI (rw 0) 60 (rs 0)), (aI cI (rw 1) 60 (rs 1)), (aI cI (rw 2) 60 (rs 2)), (aI cI (rw 3) 60 (rs 3)), (aI cI (rw 4) 60 (rs 4)), (aI cI (rw 5) 60 (rs 5)), (aI cI (rw 6) 60 (rs 6)), (aI cI (rw 7) 60 (rs 7)), (oC9 ad ), ((ad 12), .inl (cQ, 8, .inr (.inr (.inr (.inr (fun i => if i < 8 then some (rw i) else none)))))), (aI cI (ad 13) 8 sl), (aI cI (ad 14) 8 ss), (oC10 ad tn td (2 : Int32))] := hD
              subst hw36
              have hP9 := hP.sub (ws' := [(aI cI (rw 0) 60 (rs 0)), (aI cI (rw 1) 60 (rs 1)), (aI cI (rw 2) 60 (rs 2)), (aI cI (rw 3) 60 (rs 3)), (aI cI (rw 4) 60 (rs 4)), (aI cI (rw 5) 60 (rs 5)), (aI cI (rw 6) 60 (rs 6)), (aI cI (rw 7) 60 (rs 7)), (oC10 ad tn td (2 : Int32)), (oC9 ad ), ((ad 12), .inl (cQ, 8, .inr (.inr (.inr (.inr (fun i => if i < 8 then some (rw i) else none)))))), (aI cI (ad 13) 8 sl), (aI cI (ad 14) 8 ss)]) [0, 1, 2, 3, 4, 5, 6, 7, 12, 8, 9, 10, 11] rfl
              have hD9 := hD.sub (ws' := [(aI cI (rw 0) 60 (rs 0)), (aI cI (rw 1) 60 (rs 1)), (aI cI (rw 2) 60 (rs 2)), (aI cI (rw 3) 60 (rs 3)), (aI cI (rw 4) 60 (rs 4)), (aI cI (rw 5) 60 (rs 5)), (aI cI (rw 6) 60 (rs 6)), (aI cI (rw 7) 60 (rs 7)), (oC10 ad tn td (2 : Int32)), (oC9 ad ), ((ad 12), .inl (cQ, 8, .inr (.inr (.inr (.inr (fun i => if i < 8 then some (rw i) else none)))))), (aI cI (ad 13) 8 sl), (aI cI (ad 14) 8 ss)]) [0, 1, 2, 3, 4, 5, 6, 7, 12, 8, 9, 10, 11] (by decide +kernel) rfl
              exact W.iret (v := (-1000010) - (2 : Int32)) hx hb hr (fun t ht hW => ⟨⟨(-1000010) - (2 : Int32), ((2 : Int32), rs), rfl, (by unfold sp_copy; (repeat' split) <;> first | rfl | (exfalso; omega) | (subst_vars; rfl)), by rw [ht]; exact hP9, va_K.moved hW.alike hK, hD9⟩, hS.F ht⟩) hS.2.2 dX10_copy_110
            · skip
              have f38 := bo_t hw31 c33
              refine lv_aload_n hx hb dX10_copy_90 rfl (lv_at hl 0 rfl) ?_
              refine va_get (D := D) (ci := 10) (v := .ref (ad 1)) (C := RX10) (T := TX10) (N := 14) hx hb hts inX10_copy_X10 hown hK hP 8 rfl rfl 0 (by decide) (hts (Cond.fieldLink RX10 10 "PortRooms" "sheets" "LPortRooms$Sheets;") (wm_t (wm_l (wm_i 1 rfl)))) (fun _ h9 => h9) rfl dX10_copy_91 ?_
              refine lv_iload_n hx hb dX10_copy_94 rfl (lv_at hl 3 rfl) ?_
              refine lv_iload hx hb dX10_copy_95 (lv_at hl 4 rfl) ?_
              refine lv_iload hx hb dX10_copy_97 (lv_at hl 5 rfl) ?_
              refine st_i1 (va_runV (C := RX9) (As := [.int b, .int j, .int n]) (rest := []) ⟨hx, hb, hml, hown, hts⟩ (ct_X9_hasPlaces l D cI cY cJ cQ _ ad ss b j n (by omega) (by omega) h1) (cwV 3 hts gX10_copy_X9_hasPlaces rfl rfl rfl ⟨rfl, cdX9_hasPlaces⟩ ⟨Nat.le_of_ble_eq_true rfl, Nat.le_of_ble_eq_true rfl⟩) (cPreV (hP.sub [9, 12] rfl) hK (hD.sub [9, 12] (by decide +kernel) rfl) hN (ci := 9) (q0 := 0) rfl rfl) rfl rfl hl.1 rfl (lv_room (Nat.le_of_ble_eq_true rfl)) dX10_copy_99 ⟨Nat.le_of_ble_eq_true rfl, Nat.le_of_ble_eq_true rfl⟩) hP hD hS hA [9, 12] rfl (fun _ => rfl) (fun r41 u39 H locs hw40 => ?_)
              clear hP hS
              intro hP hS
              replace hw40 : r41 = if 0 ≤ j.toInt ∧ 0 ≤ n.toInt ∧ j.toInt + n.toInt ≤ (ss b.toNatClampNeg).toInt then 1 else 0 := hw40
              refine lv_if_ne (tgt := 111) hx hb dX10_copy_102 (by decide) (fun c42 => ?_) (fun c42 => ?_)
              · skip
                have f43 := bo_t hw40 c42
                refine lv_aload_n hx hb dX10_copy_111 rfl (lv_at hl 0 rfl) ?_
                refine va_get (D := D) (ci := 10) (v := .ref (ad 1)) (C := RX10) (T := TX10) (N := 14) hx hb hts inX10_copy_X10 hown hK hP 8 rfl rfl 0 (by decide) (hts (Cond.fieldLink RX10 10 "PortRooms" "sheets" "LPortRooms$Sheets;") (wm_t (wm_l (wm_i 1 rfl)))) (fun _ h9 => h9) rfl dX10_copy_112 ?_
                refine va_get (D := D) (ci := 9) (v := .ref (ad 12)) (C := RX9) (T := TX9) (N := 3) hx hb hts inX10_copy_X9 hown hK hP 9 rfl rfl 0 (by decide) (hts (Cond.fieldLink RX10 116 "PortRooms$Sheets" "items" "[[I") (wm_t (wm_l (wm_i 3 rfl)))) (fun _ h9 => h9) rfl dX10_copy_115 ?_
                refine lv_iload_n hx hb dX10_copy_118 rfl (lv_at hl 1 rfl) ?_
                refine st_aaldR hx hb hK hP 10 3 rfl rfl (i_in (by omega) (by omega)) dX10_copy_119 ?_
                refine lv_iload_n hx hb dX10_copy_120 rfl (lv_at hl 2 rfl) ?_
                refine lv_aload_n hx hb dX10_copy_121 rfl (lv_at hl 0 rfl) ?_
                refine va_get (D := D) (ci := 10) (v := .ref (ad 1)) (C := RX10) (T := TX10) (N := 14) hx hb hts inX10_copy_X10 hown hK hP 8 rfl rfl 0 (by decide) (hts (Cond.fieldLink RX10 10 "PortRooms" "sheets" "LPortRooms$Sheets;") (wm_t (wm_l (wm_i 1 rfl)))) (fun _ h9 => h9) rfl dX10_copy_122 ?_
                refine va_get (D := D) (ci := 9) (v := .ref (ad 12)) (C := RX9) (T := TX9) (N := 3) hx hb hts inX10_copy_X9 hown hK hP 9 rfl rfl 0 (by decide) (hts (Cond.fieldLink RX10 116 "PortRooms$Sheets" "items" "[[I") (wm_t (wm_l (wm_i 3 rfl)))) (fun _ h9 => h9) rfl dX10_copy_125 ?_
                refine lv_iload_n hx hb dX10_copy_128 rfl (lv_at hl 3 rfl) ?_
                refine st_aaldR hx hb hK hP 10 3 rfl rfl (i_in (by omega) (by omega)) dX10_copy_129 ?_
                refine lv_iload hx hb dX10_copy_130 (lv_at hl 4 rfl) ?_
                refine lv_iload hx hb dX10_copy_132 (lv_at hl 5 rfl) ?_
                have qa9 := h1 a.toNatClampNeg (by have := i_cl (x := a) (by omega); omega)
                have qb9 := h1 b.toNatClampNeg (by have := i_cl (x := b) (by omega); omega)
                refine va_copyi hx hb (hml.trans hl.1.symm) hown (hts (Cond.methodLink RX10 120 arraycopyName) (wm_t (wm_l (wm_i 4 rfl)))) (hts (Cond.native arraycopyName) (wm_t (wm_l (wm_i 5 rfl)))) (hts (Cond.static arraycopyName) (wm_t (wm_l (wm_i 6 rfl)))) (hts (Cond.initialized "java/lang/System") (wm_t (wm_l (wm_i 7 rfl)))) hK hP hD hS a.toNatClampNeg b.toNatClampNeg 0 0 (rows_at (by have := i_cl (x := a) (by omega); omega)) (rows_at (by have := i_cl (x := b) (by omega); omega)) rfl rfl rfl (i_nn (by omega)) (i_nn (by omega)) (i_nn (by omega)) (by have := i_cl (x := i) (by omega); have := i_cl (x := n) (by omega); omega) (by have := i_cl (x := j) (by omega); have := i_cl (x := n) (by omega); omega) (fun _ _ => rfl) (Nat.le_of_ble_eq_true rfl) (Nat.le_of_ble_eq_true rfl) dX10_copy_134 (fun H locs => ?_)
                clear hP hD hS
                intro hP hD hS
                rw [rows_set (by have := i_cl (x := b) (by omega); omega)] at hP hD
                replace hP : va_P D vwCl [(aI cI (rw 0) 60 ((upR rs b.toNatClampNeg (va_cpy (rs a.toNatClampNeg) (rs b.toNatClampNeg) i.toNatClampNeg j.toNatClampNeg n.toNatClampNeg)) 0)), (aI cI (rw 1) 60 ((upR rs b.toNatClampNeg (va_cpy (rs a.toNatClampNeg) (rs b.toNatClampNeg) i.toNatClampNeg j.toNatClampNeg n.toNatClampNeg)) 1)), (aI cI (rw 2) 60 ((upR rs b.toNatClampNeg (va_cpy (rs a.toNatClampNeg) (rs b.toNatClampNeg) i.toNatClampNeg j.toNatClampNeg n.toNatClampNeg)) 2)), (aI cI (rw 3) 60 ((upR rs b.toNatClampNeg (va_cpy (rs a.toNatClampNeg) (rs b.toNatClampNeg) i.toNatClampNeg j.toNatClampNeg n.toNatClampNeg)) 3)), (aI cI (rw 4) 60 ((upR rs b.toNatClampNeg (va_cpy (rs a.toNatClampNeg) (rs b.toNatClampNeg) i.toNatClampNeg j.toNatClampNeg n.toNatClampNeg)) 4)), (aI cI (rw 5) 60 ((upR rs b.toNatClampNeg (va_cpy (rs a.toNatClampNeg) (rs b.toNatClampNeg) i.toNatClampNeg j.toNatClampNeg n.toNatClampNeg)) 5)), (aI cI (rw 6) 60 ((upR rs b.toNatClampNeg (va_cpy (rs a.toNatClampNeg) (rs b.toNatClampNeg) i.toNatClampNeg j.toNatClampNeg n.toNatClampNeg)) 6)), (aI cI (rw 7) 60 ((upR rs b.toNatClampNeg (va_cpy (rs a.toNatClampNeg) (rs b.toNatClampNeg) i.toNatClampNeg j.toNatClampNeg n.toNatClampNeg)) 7)), (oC10 ad tn td lf), (oC9 ad ), ((ad 12), .inl (cQ, 8, .inr (.inr (.inr (.inr (fun i => if i < 8 then some (rw i) else none)))))), (aI cI (ad 13) 8 sl), (aI cI (ad 14) 8 ss)] H := hP
                replace hD : va_D A [(aI cI (rw 0) 60 ((upR rs b.toNatClampNeg (va_cpy (rs a.toNatClampNeg) (rs b.toNatClampNeg) i.toNatClampNeg j.toNatClampNeg n.toNatClampNeg)) 0)), (aI cI (rw 1) 60 ((upR rs b.toNatClampNeg (va_cpy (rs a.toNatClampNeg) (rs b.toNatClampNeg) i.toNatClampNeg j.toNatClampNeg n.toNatClampNeg)) 1)), (aI cI (rw 2) 60 ((upR rs b.toNatClampNeg (va_cpy (rs a.toNatClampNeg) (rs b.toNatClampNeg) i.toNatClampNeg j.toNatClampNeg n.toNatClampNeg)) 2)), (aI cI (rw 3) 60 ((upR rs b.toNatClampNeg (va_cpy (rs a.toNatClampNeg) (rs b.toNatClampNeg) i.toNatClampNeg j.toNatClampNeg n.toNatClampNeg)) 3)), (aI cI (rw 4) 60 ((upR rs b.toNatClampNeg (va_cpy (rs a.toNatClampNeg) (rs b.toNatClampNeg) i.toNatClampNeg j.toNatClampNeg n.toNatClampNeg)) 4)), (aI cI (rw 5) 60 ((upR rs b.toNatClampNeg (va_cpy (rs a.toNatClampNeg) (rs b.toNatClampNeg) i.toNatClampNeg j.toNatClampNeg n.toNatClampNeg)) 5)), (aI cI (rw 6) 60 ((upR rs b.toNatClampNeg (va_cpy (rs a.toNatClampNeg) (rs b.toNatClampNeg) i.toNatClampNeg j.toNatClampNeg n.toNatClampNeg)) 6)), (aI cI (rw 7) 60 ((upR rs b.toNatClampNeg (va_cpy (rs a.toNatClampNeg) (rs b.toNatClampNeg) i.toNatClampNeg j.toNatClampNeg n.toNatClampNeg)) 7)), (oC10 ad tn td lf), (oC9 ad ), ((ad 12), .inl (cQ, 8, .inr (.inr (.inr (.inr (fun i => if i < 8 then some (rw i) else none)))))), (aI cI (ad 13) 8 sl), (aI cI (ad 14) 8 ss)] := hD
                refine lv_aload_n hx hb dX10_copy_137 rfl (lv_at hl 0 rfl) ?_
                refine lv_iload hx hb dX10_copy_138 (lv_at hl 5 rfl) ?_
                refine st_i (wr := [(aI cI (rw 0) 60 ((upR rs b.toNatClampNeg (va_cpy (rs a.toNatClampNeg) (rs b.toNatClampNeg) i.toNatClampNeg j.toNatClampNeg n.toNatClampNeg)) 0)), (aI cI (rw 1) 60 ((upR rs b.toNatClampNeg (va_cpy (rs a.toNatClampNeg) (rs b.toNatClampNeg) i.toNatClampNeg j.toNatClampNeg n.toNatClampNeg)) 1)), (aI cI (rw 2) 60 ((upR rs b.toNatClampNeg (va_cpy (rs a.toNatClampNeg) (rs b.toNatClampNeg) i.toNatClampNeg j.toNatClampNeg n.toNatClampNeg)) 2)), (aI cI (rw 3) 60 ((upR rs b.toNatClampNeg (va_cpy (rs a.toNatClampNeg) (rs b.toNatClampNeg) i.toNatClampNeg j.toNatClampNeg n.toNatClampNeg)) 3)), (aI cI (rw 4) 60 ((upR rs b.toNatClampNeg (va_cpy (rs a.toNatClampNeg) (rs b.toNatClampNeg) i.toNatClampNeg j.toNatClampNeg n.toNatClampNeg)) 4)), (aI cI (rw 5) 60 ((upR rs b.toNatClampNeg (va_cpy (rs a.toNatClampNeg) (rs b.toNatClampNeg) i.toNatClampNeg j.toNatClampNeg n.toNatClampNeg)) 5)), (aI cI (rw 6) 60 ((upR rs b.toNatClampNeg (va_cpy (rs a.toNatClampNeg) (rs b.toNatClampNeg) i.toNatClampNeg j.toNatClampNeg n.toNatClampNeg)) 6)), (aI cI (rw 7) 60 ((upR rs b.toNatClampNeg (va_cpy (rs a.toNatClampNeg) (rs b.toNatClampNeg) i.toNatClampNeg j.toNatClampNeg n.toNatClampNeg)) 7)), (oC9 ad ), ((ad 12), .inl (cQ, 8, .inr (.inr (.inr (.inr (fun i => if i < 8 then some (rw i) else none)))))), (aI cI (ad 13) 8 sl), (aI cI (ad 14) 8 ss)]) (va_runV (C := RX10) (As := [.int n]) (rest := []) ⟨hx, hb, hml, hown, hts⟩ (ct_X10_passed l D cI cY cJ cQ _ ad tn td lf n) (cwV 1 hts gX10_copy_X10_passed rfl rfl rfl ⟨rfl, cdX10_passed⟩ ⟨Nat.le_of_ble_eq_true rfl, Nat.le_of_ble_eq_true rfl⟩) (cPreV (hP.sub [8] rfl) hK (hD.sub [8] (by decide +kernel) rfl) hN (ci := 10) (q0 := 0) rfl rfl) rfl rfl hl.1 rfl (lv_room (Nat.le_of_ble_eq_true rfl)) dX10_copy_140 ⟨Nat.le_of_ble_eq_true rfl, Nat.le_of_ble_eq_true rfl⟩) hP hD hS hA [8] [0, 1, 2, 3, 4, 5, 6, 7, 9, 10, 11, 12] rfl rfl (by decide +kernel) (by decide +kernel) (fun r46 u44 H locs hw45 => ?_)
                clear hP hD hS
                intro hP hD hS
                replace hw45 : r46 = n := hw45
                replace hP : va_P D vwCl [(aI cI (rw 0) 60 ((upR rs b.toNatClampNeg (va_cpy (rs a.toNatClampNeg) (rs b.toNatClampNeg) i.toNatClampNeg j.toNatClampNeg n.toNatClampNeg)) 0)), (aI cI (rw 1) 60 ((upR rs b.toNatClampNeg (va_cpy (rs a.toNatClampNeg) (rs b.toNatClampNeg) i.toNatClampNeg j.toNatClampNeg n.toNatClampNeg)) 1)), (aI cI (rw 2) 60 ((upR rs b.toNatClampNeg (va_cpy (rs a.toNatClampNeg) (rs b.toNatClampNeg) i.toNatClampNeg j.toNatClampNeg n.toNatClampNeg)) 2)), (aI cI (rw 3) 60 ((upR rs b.toNatClampNeg (va_cpy (rs a.toNatClampNeg) (rs b.toNatClampNeg) i.toNatClampNeg j.toNatClampNeg n.toNatClampNeg)) 3)), (aI cI (rw 4) 60 ((upR rs b.toNatClampNeg (va_cpy (rs a.toNatClampNeg) (rs b.toNatClampNeg) i.toNatClampNeg j.toNatClampNeg n.toNatClampNeg)) 4)), (aI cI (rw 5) 60 ((upR rs b.toNatClampNeg (va_cpy (rs a.toNatClampNeg) (rs b.toNatClampNeg) i.toNatClampNeg j.toNatClampNeg n.toNatClampNeg)) 5)), (aI cI (rw 6) 60 ((upR rs b.toNatClampNeg (va_cpy (rs a.toNatClampNeg) (rs b.toNatClampNeg) i.toNatClampNeg j.toNatClampNeg n.toNatClampNeg)) 6)), (aI cI (rw 7) 60 ((upR rs b.toNatClampNeg (va_cpy (rs a.toNatClampNeg) (rs b.toNatClampNeg) i.toNatClampNeg j.toNatClampNeg n.toNatClampNeg)) 7)), (oC9 ad ), ((ad 12), .inl (cQ, 8, .inr (.inr (.inr (.inr (fun i => if i < 8 then some (rw i) else none)))))), (aI cI (ad 13) 8 sl), (aI cI (ad 14) 8 ss), (oC10 ad tn td (0))] H := hP
                replace hD : va_D A [(aI cI (rw 0) 60 ((upR rs b.toNatClampNeg (va_cpy (rs a.toNatClampNeg) (rs b.toNatClampNeg) i.toNatClampNeg j.toNatClampNeg n.toNatClampNeg)) 0)), (aI cI (rw 1) 60 ((upR rs b.toNatClampNeg (va_cpy (rs a.toNatClampNeg) (rs b.toNatClampNeg) i.toNatClampNeg j.toNatClampNeg n.toNatClampNeg)) 1)), (aI cI (rw 2) 60 ((upR rs b.toNatClampNeg (va_cpy (rs a.toNatClampNeg) (rs b.toNatClampNeg) i.toNatClampNeg j.toNatClampNeg n.toNatClampNeg)) 2)), (aI cI (rw 3) 60 ((upR rs b.toNatClampNeg (va_cpy (rs a.toNatClampNeg) (rs b.toNatClampNeg) i.toNatClampNeg j.toNatClampNeg n.toNatClampNeg)) 3)), (aI cI (rw 4) 60 ((upR rs b.toNatClampNeg (va_cpy (rs a.toNatClampNeg) (rs b.toNatClampNeg) i.toNatClampNeg j.toNatClampNeg n.toNatClampNeg)) 4)), (aI cI (rw 5) 60 ((upR rs b.toNatClampNeg (va_cpy (rs a.toNatClampNeg) (rs b.toNatClampNeg) i.toNatClampNeg j.toNatClampNeg n.toNatClampNeg)) 5)), (aI cI (rw 6) 60 ((upR rs b.toNatClampNeg (va_cpy (rs a.toNatClampNeg) (rs b.toNatClampNeg) i.toNatClampNeg j.toNatClampNeg n.toNatClampNeg)) 6)), (aI cI (rw 7) 60 ((upR rs b.toNatClampNeg (va_cpy (rs a.toNatClampNeg) (rs b.toNatClampNeg) i.toNatClampNeg j.toNatClampNeg n.toNatClampNeg)) 7)), (oC9 ad ), ((ad 12), .inl (cQ, 8, .inr (.inr (.inr (.inr (fun i => if i < 8 then some (rw i) else none)))))), (aI cI (ad 13) 8 sl), (aI cI (ad 14) 8 ss), (oC10 ad tn td (0))] := hD
                replace hw45 := hw45.symm
                subst hw45
                have hP9 := hP.sub (ws' := [(aI cI (rw 0) 60 ((upR rs b.toNatClampNeg (va_cpy (rs a.toNatClampNeg) (rs b.toNatClampNeg) i.toNatClampNeg j.toNatClampNeg n.toNatClampNeg)) 0)), (aI cI (rw 1) 60 ((upR rs b.toNatClampNeg (va_cpy (rs a.toNatClampNeg) (rs b.toNatClampNeg) i.toNatClampNeg j.toNatClampNeg n.toNatClampNeg)) 1)), (aI cI (rw 2) 60 ((upR rs b.toNatClampNeg (va_cpy (rs a.toNatClampNeg) (rs b.toNatClampNeg) i.toNatClampNeg j.toNatClampNeg n.toNatClampNeg)) 2)), (aI cI (rw 3) 60 ((upR rs b.toNatClampNeg (va_cpy (rs a.toNatClampNeg) (rs b.toNatClampNeg) i.toNatClampNeg j.toNatClampNeg n.toNatClampNeg)) 3)), (aI cI (rw 4) 60 ((upR rs b.toNatClampNeg (va_cpy (rs a.toNatClampNeg) (rs b.toNatClampNeg) i.toNatClampNeg j.toNatClampNeg n.toNatClampNeg)) 4)), (aI cI (rw 5) 60 ((upR rs b.toNatClampNeg (va_cpy (rs a.toNatClampNeg) (rs b.toNatClampNeg) i.toNatClampNeg j.toNatClampNeg n.toNatClampNeg)) 5)), (aI cI (rw 6) 60 ((upR rs b.toNatClampNeg (va_cpy (rs a.toNatClampNeg) (rs b.toNatClampNeg) i.toNatClampNeg j.toNatClampNeg n.toNatClampNeg)) 6)), (aI cI (rw 7) 60 ((upR rs b.toNatClampNeg (va_cpy (rs a.toNatClampNeg) (rs b.toNatClampNeg) i.toNatClampNeg j.toNatClampNeg n.toNatClampNeg)) 7)), (oC10 ad tn td (0)), (oC9 ad ), ((ad 12), .inl (cQ, 8, .inr (.inr (.inr (.inr (fun i => if i < 8 then some (rw i) else none)))))), (aI cI (ad 13) 8 sl), (aI cI (ad 14) 8 ss)]) [0, 1, 2, 3, 4, 5, 6, 7, 12, 8, 9, 10, 11] rfl
                have hD9 := hD.sub (ws' := [(aI cI (rw 0) 60 ((upR rs b.toNatClampNeg (va_cpy (rs a.toNatClampNeg) (rs b.toNatClampNeg) i.toNatClampNeg j.toNatClampNeg n.toNatClampNeg)) 0)), (aI cI (rw 1) 60 ((upR rs b.toNatClampNeg (va_cpy (rs a.toNatClampNeg) (rs b.toNatClampNeg) i.toNatClampNeg j.toNatClampNeg n.toNatClampNeg)) 1)), (aI cI (rw 2) 60 ((upR rs b.toNatClampNeg (va_cpy (rs a.toNatClampNeg) (rs b.toNatClampNeg) i.toNatClampNeg j.toNatClampNeg n.toNatClampNeg)) 2)), (aI cI (rw 3) 60 ((upR rs b.toNatClampNeg (va_cpy (rs a.toNatClampNeg) (rs b.toNatClampNeg) i.toNatClampNeg j.toNatClampNeg n.toNatClampNeg)) 3)), (aI cI (rw 4) 60 ((upR rs b.toNatClampNeg (va_cpy (rs a.toNatClampNeg) (rs b.toNatClampNeg) i.toNatClampNeg j.toNatClampNeg n.toNatClampNeg)) 4)), (aI cI (rw 5) 60 ((upR rs b.toNatClampNeg (va_cpy (rs a.toNatClampNeg) (rs b.toNatClampNeg) i.toNatClampNeg j.toNatClampNeg n.toNatClampNeg)) 5)), (aI cI (rw 6) 60 ((upR rs b.toNatClampNeg (va_cpy (rs a.toNatClampNeg) (rs b.toNatClampNeg) i.toNatClampNeg j.toNatClampNeg n.toNatClampNeg)) 6)), (aI cI (rw 7) 60 ((upR rs b.toNatClampNeg (va_cpy (rs a.toNatClampNeg) (rs b.toNatClampNeg) i.toNatClampNeg j.toNatClampNeg n.toNatClampNeg)) 7)), (oC10 ad tn td (0)), (oC9 ad ), ((ad 12), .inl (cQ, 8, .inr (.inr (.inr (.inr (fun i => if i < 8 then some (rw i) else none)))))), (aI cI (ad 13) 8 sl), (aI cI (ad 14) 8 ss)]) [0, 1, 2, 3, 4, 5, 6, 7, 12, 8, 9, 10, 11] (by decide +kernel) rfl
                exact W.iret (v := n) hx hb hr (fun t ht hW => ⟨⟨n, (0, (upR rs b.toNatClampNeg (va_cpy (rs a.toNatClampNeg) (rs b.toNatClampNeg) i.toNatClampNeg j.toNatClampNeg n.toNatClampNeg))), rfl, (by unfold sp_copy; (repeat' split) <;> first | rfl | (exfalso; omega) | (subst_vars; rfl)), by rw [ht]; exact hP9, va_K.moved hW.alike hK, hD9⟩, hS.F ht⟩) hS.2.2 dX10_copy_143
              · skip
                have f47 := bo_f hw40 c42
                refine lv_aload_n hx hb dX10_copy_105 rfl (lv_at hl 0 rfl) ?_
                refine lv_iconst (v := 2) hx hb dX10_copy_106 (by decide) ?_
                refine st_i (wr := [(aI cI (rw 0) 60 (rs 0)), (aI cI (rw 1) 60 (rs 1)), (aI cI (rw 2) 60 (rs 2)), (aI cI (rw 3) 60 (rs 3)), (aI cI (rw 4) 60 (rs 4)), (aI cI (rw 5) 60 (rs 5)), (aI cI (rw 6) 60 (rs 6)), (aI cI (rw 7) 60 (rs 7)), (oC9 ad ), ((ad 12), .inl (cQ, 8, .inr (.inr (.inr (.inr (fun i => if i < 8 then some (rw i) else none)))))), (aI cI (ad 13) 8 sl), (aI cI (ad 14) 8 ss)]) (va_runV (C := RX10) (As := [.int 2]) (rest := []) ⟨hx, hb, hml, hown, hts⟩ (ct_X10_finding l D cI cY cJ cQ _ ad tn td lf (2 : Int32)) (cwV 1 hts gX10_copy_X10_finding rfl rfl rfl ⟨rfl, cdX10_finding⟩ ⟨Nat.le_of_ble_eq_true rfl, Nat.le_of_ble_eq_true rfl⟩) (cPreV (hP.sub [8] rfl) hK (hD.sub [8] (by decide +kernel) rfl) hN (ci := 10) (q0 := 0) rfl rfl) rfl rfl hl.1 rfl (lv_room (Nat.le_of_ble_eq_true rfl)) dX10_copy_107 ⟨Nat.le_of_ble_eq_true rfl, Nat.le_of_ble_eq_true rfl⟩) hP hD hS hA [8] [0, 1, 2, 3, 4, 5, 6, 7, 9, 10, 11, 12] rfl rfl (by decide +kernel) (by decide +kernel) (fun r50 u48 H locs hw49 => ?_)
                clear hP hD hS
                intro hP hD hS
                replace hw49 : r50 = (-1000010) - (2 : Int32) := hw49
                replace hP : va_P D vwCl [(aI cI (rw 0) 60 (rs 0)), (aI cI (rw 1) 60 (rs 1)), (aI cI (rw 2) 60 (rs 2)), (aI cI (rw 3) 60 (rs 3)), (aI cI (rw 4) 60 (rs 4)), (aI cI (rw 5) 60 (rs 5)), (aI cI (rw 6) 60 (rs 6)), (aI cI (rw 7) 60 (rs 7)), (oC9 ad ), ((ad 12), .inl (cQ, 8, .inr (.inr (.inr (.inr (fun i => if i < 8 then some (rw i) else none)))))), (aI cI (ad 13) 8 sl), (aI cI (ad 14) 8 ss), (oC10 ad tn td (2 : Int32))] H := hP
                replace hD : va_D A [(aI cI (rw 0) 60 (rs 0)), (aI cI (rw 1) 60 (rs 1)), (aI cI (rw 2) 60 (rs 2)), (aI cI (rw 3) 60 (rs 3)), (aI cI (rw 4) 60 (rs 4)), (aI cI (rw 5) 60 (rs 5)), (aI cI (rw 6) 60 (rs 6)), (aI cI (rw 7) 60 (rs 7)), (oC9 ad ), ((ad 12), .inl (cQ, 8, .inr (.inr (.inr (.inr (fun i => if i < 8 then some (rw i) else none)))))), (aI cI (ad 13) 8 sl), (aI cI (ad 14) 8 ss), (oC10 ad tn td (2 : Int32))] := hD
                subst hw49
                have hP9 := hP.sub (ws' := [(aI cI (rw 0) 60 (rs 0)), (aI cI (rw 1) 60 (rs 1)), (aI cI (rw 2) 60 (rs 2)), (aI cI (rw 3) 60 (rs 3)), (aI cI (rw 4) 60 (rs 4)), (aI cI (rw 5) 60 (rs 5)), (aI cI (rw 6) 60 (rs 6)), (aI cI (rw 7) 60 (rs 7)), (oC10 ad tn td (2 : Int32)), (oC9 ad ), ((ad 12), .inl (cQ, 8, .inr (.inr (.inr (.inr (fun i => if i < 8 then some (rw i) else none)))))), (aI cI (ad 13) 8 sl), (aI cI (ad 14) 8 ss)]) [0, 1, 2, 3, 4, 5, 6, 7, 12, 8, 9, 10, 11] rfl
                have hD9 := hD.sub (ws' := [(aI cI (rw 0) 60 (rs 0)), (aI cI (rw 1) 60 (rs 1)), (aI cI (rw 2) 60 (rs 2)), (aI cI (rw 3) 60 (rs 3)), (aI cI (rw 4) 60 (rs 4)), (aI cI (rw 5) 60 (rs 5)), (aI cI (rw 6) 60 (rs 6)), (aI cI (rw 7) 60 (rs 7)), (oC10 ad tn td (2 : Int32)), (oC9 ad ), ((ad 12), .inl (cQ, 8, .inr (.inr (.inr (.inr (fun i => if i < 8 then some (rw i) else none)))))), (aI cI (ad 13) 8 sl), (aI cI (ad 14) 8 ss)]) [0, 1, 2, 3, 4, 5, 6, 7, 12, 8, 9, 10, 11] (by decide +kernel) rfl
                exact W.iret (v := (-1000010) - (2 : Int32)) hx hb hr (fun t ht hW => ⟨⟨(-1000010) - (2 : Int32), ((2 : Int32), rs), rfl, (by unfold sp_copy; (repeat' split) <;> first | rfl | (exfalso; omega) | (subst_vars; rfl)), by rw [ht]; exact hP9, va_K.moved hW.alike hK, hD9⟩, hS.F ht⟩) hS.2.2 dX10_copy_110
          · skip
            have f51 := i_ne c28
            refine lv_aload_n hx hb dX10_copy_70 rfl (lv_at hl 0 rfl) ?_
            refine lv_iconst (v := 5) hx hb dX10_copy_71 (by decide) ?_
            refine st_i (wr := [(aI cI (rw 0) 60 (rs 0)), (aI cI (rw 1) 60 (rs 1)), (aI cI (rw 2) 60 (rs 2)), (aI cI (rw 3) 60 (rs 3)), (aI cI (rw 4) 60 (rs 4)), (aI cI (rw 5) 60 (rs 5)), (aI cI (rw 6) 60 (rs 6)), (aI cI (rw 7) 60 (rs 7)), (oC9 ad ), ((ad 12), .inl (cQ, 8, .inr (.inr (.inr (.inr (fun i => if i < 8 then some (rw i) else none)))))), (aI cI (ad 13) 8 sl), (aI cI (ad 14) 8 ss)]) (va_runV (C := RX10) (As := [.int 5]) (rest := []) ⟨hx, hb, hml, hown, hts⟩ (ct_X10_finding l D cI cY cJ cQ _ ad tn td lf (5 : Int32)) (cwV 1 hts gX10_copy_X10_finding rfl rfl rfl ⟨rfl, cdX10_finding⟩ ⟨Nat.le_of_ble_eq_true rfl, Nat.le_of_ble_eq_true rfl⟩) (cPreV (hP.sub [8] rfl) hK (hD.sub [8] (by decide +kernel) rfl) hN (ci := 10) (q0 := 0) rfl rfl) rfl rfl hl.1 rfl (lv_room (Nat.le_of_ble_eq_true rfl)) dX10_copy_72 ⟨Nat.le_of_ble_eq_true rfl, Nat.le_of_ble_eq_true rfl⟩) hP hD hS hA [8] [0, 1, 2, 3, 4, 5, 6, 7, 9, 10, 11, 12] rfl rfl (by decide +kernel) (by decide +kernel) (fun r54 u52 H locs hw53 => ?_)
            clear hP hD hS
            intro hP hD hS
            replace hw53 : r54 = (-1000010) - (5 : Int32) := hw53
            replace hP : va_P D vwCl [(aI cI (rw 0) 60 (rs 0)), (aI cI (rw 1) 60 (rs 1)), (aI cI (rw 2) 60 (rs 2)), (aI cI (rw 3) 60 (rs 3)), (aI cI (rw 4) 60 (rs 4)), (aI cI (rw 5) 60 (rs 5)), (aI cI (rw 6) 60 (rs 6)), (aI cI (rw 7) 60 (rs 7)), (oC9 ad ), ((ad 12), .inl (cQ, 8, .inr (.inr (.inr (.inr (fun i => if i < 8 then some (rw i) else none)))))), (aI cI (ad 13) 8 sl), (aI cI (ad 14) 8 ss), (oC10 ad tn td (5 : Int32))] H := hP
            replace hD : va_D A [(aI cI (rw 0) 60 (rs 0)), (aI cI (rw 1) 60 (rs 1)), (aI cI (rw 2) 60 (rs 2)), (aI cI (rw 3) 60 (rs 3)), (aI cI (rw 4) 60 (rs 4)), (aI cI (rw 5) 60 (rs 5)), (aI cI (rw 6) 60 (rs 6)), (aI cI (rw 7) 60 (rs 7)), (oC9 ad ), ((ad 12), .inl (cQ, 8, .inr (.inr (.inr (.inr (fun i => if i < 8 then some (rw i) else none)))))), (aI cI (ad 13) 8 sl), (aI cI (ad 14) 8 ss), (oC10 ad tn td (5 : Int32))] := hD
            subst hw53
            have hP9 := hP.sub (ws' := [(aI cI (rw 0) 60 (rs 0)), (aI cI (rw 1) 60 (rs 1)), (aI cI (rw 2) 60 (rs 2)), (aI cI (rw 3) 60 (rs 3)), (aI cI (rw 4) 60 (rs 4)), (aI cI (rw 5) 60 (rs 5)), (aI cI (rw 6) 60 (rs 6)), (aI cI (rw 7) 60 (rs 7)), (oC10 ad tn td (5 : Int32)), (oC9 ad ), ((ad 12), .inl (cQ, 8, .inr (.inr (.inr (.inr (fun i => if i < 8 then some (rw i) else none)))))), (aI cI (ad 13) 8 sl), (aI cI (ad 14) 8 ss)]) [0, 1, 2, 3, 4, 5, 6, 7, 12, 8, 9, 10, 11] rfl
            have hD9 := hD.sub (ws' := [(aI cI (rw 0) 60 (rs 0)), (aI cI (rw 1) 60 (rs 1)), (aI cI (rw 2) 60 (rs 2)), (aI cI (rw 3) 60 (rs 3)), (aI cI (rw 4) 60 (rs 4)), (aI cI (rw 5) 60 (rs 5)), (aI cI (rw 6) 60 (rs 6)), (aI cI (rw 7) 60 (rs 7)), (oC10 ad tn td (5 : Int32)), (oC9 ad ), ((ad 12), .inl (cQ, 8, .inr (.inr (.inr (.inr (fun i => if i < 8 then some (rw i) else none)))))), (aI cI (ad 13) 8 sl), (aI cI (ad 14) 8 ss)]) [0, 1, 2, 3, 4, 5, 6, 7, 12, 8, 9, 10, 11] (by decide +kernel) rfl
            exact W.iret (v := (-1000010) - (5 : Int32)) hx hb hr (fun t ht hW => ⟨⟨(-1000010) - (5 : Int32), ((5 : Int32), rs), rfl, (by unfold sp_copy; (repeat' split) <;> first | rfl | (exfalso; omega) | (subst_vars; rfl)), by rw [ht]; exact hP9, va_K.moved hW.alike hK, hD9⟩, hS.F ht⟩) hS.2.2 dX10_copy_75
        · skip
          have f55 := bo_t hw22 c24
          refine lv_aload_n hx hb dX10_copy_43 rfl (lv_at hl 0 rfl) ?_
          refine lv_iconst (v := 1) hx hb dX10_copy_44 (by decide) ?_
          refine st_i (wr := [(aI cI (rw 0) 60 (rs 0)), (aI cI (rw 1) 60 (rs 1)), (aI cI (rw 2) 60 (rs 2)), (aI cI (rw 3) 60 (rs 3)), (aI cI (rw 4) 60 (rs 4)), (aI cI (rw 5) 60 (rs 5)), (aI cI (rw 6) 60 (rs 6)), (aI cI (rw 7) 60 (rs 7)), (oC9 ad ), ((ad 12), .inl (cQ, 8, .inr (.inr (.inr (.inr (fun i => if i < 8 then some (rw i) else none)))))), (aI cI (ad 13) 8 sl), (aI cI (ad 14) 8 ss)]) (va_runV (C := RX10) (As := [.int 1]) (rest := []) ⟨hx, hb, hml, hown, hts⟩ (ct_X10_finding l D cI cY cJ cQ _ ad tn td lf (1 : Int32)) (cwV 1 hts gX10_copy_X10_finding rfl rfl rfl ⟨rfl, cdX10_finding⟩ ⟨Nat.le_of_ble_eq_true rfl, Nat.le_of_ble_eq_true rfl⟩) (cPreV (hP.sub [8] rfl) hK (hD.sub [8] (by decide +kernel) rfl) hN (ci := 10) (q0 := 0) rfl rfl) rfl rfl hl.1 rfl (lv_room (Nat.le_of_ble_eq_true rfl)) dX10_copy_45 ⟨Nat.le_of_ble_eq_true rfl, Nat.le_of_ble_eq_true rfl⟩) hP hD hS hA [8] [0, 1, 2, 3, 4, 5, 6, 7, 9, 10, 11, 12] rfl rfl (by decide +kernel) (by decide +kernel) (fun r58 u56 H locs hw57 => ?_)
          clear hP hD hS
          intro hP hD hS
          replace hw57 : r58 = (-1000010) - (1 : Int32) := hw57
          replace hP : va_P D vwCl [(aI cI (rw 0) 60 (rs 0)), (aI cI (rw 1) 60 (rs 1)), (aI cI (rw 2) 60 (rs 2)), (aI cI (rw 3) 60 (rs 3)), (aI cI (rw 4) 60 (rs 4)), (aI cI (rw 5) 60 (rs 5)), (aI cI (rw 6) 60 (rs 6)), (aI cI (rw 7) 60 (rs 7)), (oC9 ad ), ((ad 12), .inl (cQ, 8, .inr (.inr (.inr (.inr (fun i => if i < 8 then some (rw i) else none)))))), (aI cI (ad 13) 8 sl), (aI cI (ad 14) 8 ss), (oC10 ad tn td (1 : Int32))] H := hP
          replace hD : va_D A [(aI cI (rw 0) 60 (rs 0)), (aI cI (rw 1) 60 (rs 1)), (aI cI (rw 2) 60 (rs 2)), (aI cI (rw 3) 60 (rs 3)), (aI cI (rw 4) 60 (rs 4)), (aI cI (rw 5) 60 (rs 5)), (aI cI (rw 6) 60 (rs 6)), (aI cI (rw 7) 60 (rs 7)), (oC9 ad ), ((ad 12), .inl (cQ, 8, .inr (.inr (.inr (.inr (fun i => if i < 8 then some (rw i) else none)))))), (aI cI (ad 13) 8 sl), (aI cI (ad 14) 8 ss), (oC10 ad tn td (1 : Int32))] := hD
          subst hw57
          have hP9 := hP.sub (ws' := [(aI cI (rw 0) 60 (rs 0)), (aI cI (rw 1) 60 (rs 1)), (aI cI (rw 2) 60 (rs 2)), (aI cI (rw 3) 60 (rs 3)), (aI cI (rw 4) 60 (rs 4)), (aI cI (rw 5) 60 (rs 5)), (aI cI (rw 6) 60 (rs 6)), (aI cI (rw 7) 60 (rs 7)), (oC10 ad tn td (1 : Int32)), (oC9 ad ), ((ad 12), .inl (cQ, 8, .inr (.inr (.inr (.inr (fun i => if i < 8 then some (rw i) else none)))))), (aI cI (ad 13) 8 sl), (aI cI (ad 14) 8 ss)]) [0, 1, 2, 3, 4, 5, 6, 7, 12, 8, 9, 10, 11] rfl
          have hD9 := hD.sub (ws' := [(aI cI (rw 0) 60 (rs 0)), (aI cI (rw 1) 60 (rs 1)), (aI cI (rw 2) 60 (rs 2)), (aI cI (rw 3) 60 (rs 3)), (aI cI (rw 4) 60 (rs 4)), (aI cI (rw 5) 60 (rs 5)), (aI cI (rw 6) 60 (rs 6)), (aI cI (rw 7) 60 (rs 7)), (oC10 ad tn td (1 : Int32)), (oC9 ad ), ((ad 12), .inl (cQ, 8, .inr (.inr (.inr (.inr (fun i => if i < 8 then some (rw i) else none)))))), (aI cI (ad 13) 8 sl), (aI cI (ad 14) 8 ss)]) [0, 1, 2, 3, 4, 5, 6, 7, 12, 8, 9, 10, 11] (by decide +kernel) rfl
          exact W.iret (v := (-1000010) - (1 : Int32)) hx hb hr (fun t ht hW => ⟨⟨(-1000010) - (1 : Int32), ((1 : Int32), rs), rfl, (by unfold sp_copy; (repeat' split) <;> first | rfl | (exfalso; omega) | (subst_vars; rfl)), by rw [ht]; exact hP9, va_K.moved hW.alike hK, hD9⟩, hS.F ht⟩) hS.2.2 dX10_copy_48
    · skip
      have f59 := bo_f hw8 c10
      refine lv_ldc hx hb hown (hts (Cond.constant RX10 89 (-1000001)) (wm_t (wm_l (wm_i 0 rfl)))) dX10_copy_18 ?_
      have hP9 := hP
      have hD9 := hD
      exact W.iret (v := (-1000001)) hx hb hr (fun t ht hW => ⟨⟨(-1000001), (lf, rs), rfl, (by unfold sp_copy; (repeat' split) <;> first | rfl | (exfalso; omega) | (subst_vars; rfl)), by rw [ht]; exact hP9, va_K.moved hW.alike hK, hD9⟩, hS.F ht⟩) hS.2.2 dX10_copy_20

set_option maxHeartbeats 4000000 in
set_option maxRecDepth 100000 in
theorem ct_X9_howMany (l : Launch) (D : va_G) (cI cY cJ cQ : ClassId) (sz : Nat) (ad : Nat → Nat) (ss : Nat → Int32)   : Met l yX9_howMany wsX9_howMany ({ frames := 1, cells := 0, slots := 0, locals := 21 }) (cPre D (ty4 cI cY cJ cQ) [(oC9 ad ), (aI cI (ad 14) 8 ss)] sz [.ref (ad 1)]) (va_Qi (fun (r : Int32) (u : Unit) => True) (cB D (ty4 cI cY cJ cQ) (fun (u : Unit) => [(oC9 ad ), (aI cI (ad 14) 8 ss)]) (va_A [(oC9 ad ), (aI cI (ad 14) 8 ss)] sz)) (va_A [(oC9 ad ), (aI cI (ad 14) 8 ss)] sz)) 0 0 (va_A [(oC9 ad ), (aI cI (ad 14) 8 ss)] sz) := by
  refine Met.ofW (cc := cX9_howMany) (maxL := 3) (ret := (some .int)) (by decide) rfl ?_
  intro p e s m args below meth c s₁ B hml hv
  obtain ⟨rfl, hsz, hP, hK, hD0, hN⟩ := hv
  have hx := B.exec
  have hb := B.bytes
  have hr := B.returns
  have hts := atoms_spec (ws := wsX9_howMany) B.pre
  have hown : s.vm.findClass RX9 = some m.cls := findClass_of_methodNamed B.named
  have hlocks := B.notSynchronized
  subst hsz
  have hD := hD0.self (sz := s.heap.size)
  generalize hAe : va_A [(oC9 ad ), (aI cI (ad 14) 8 ss)] s.heap.size = A at hD ⊢
  have hA : ∀ q : Nat, s.heap.size ≤ q → A q := fun q h => by rw [← hAe]; exact Or.inr h
  have hS : va_S A s.heap s.heap [] := va_S.rf
  have hP : va_P D vwCl [(oC9 ad ), (aI cI (ad 14) 8 ss)] s.heap := hP
  have hl := lv_entry ([.ref (ad 1)]) (n := 3) (Nat.le_of_ble_eq_true rfl)
  rw [lg_entry_eq]
  generalize (lg_sl ([.ref (ad 1)]) ++ List.replicate (3 - (lg_sl ([.ref (ad 1)])).length) Slot.unset).toArray = ls at hl ⊢
  have hl : lv_has ls 3 [(0, .ref (ad 1))] := hl
  have k0 : (0 : Int32).toInt = 0 := by decide
  have k1 : (1 : Int32).toInt = 1 := by decide
  have k8 : (8 : Int32).toInt = 8 := by decide
  refine lv_iconst (v := 0) hx hb dX9_howMany_0 (by decide) ?_
  refine lv_istore_n (lv' := [(1, .int 0), (0, .ref (ad 1))]) hx hb dX9_howMany_1 rfl hl (by decide) rfl (fun ls hl => ?_)
  refine lv_iconst (v := 0) hx hb dX9_howMany_2 (by decide) ?_
  refine lv_istore_n (lv' := [(2, .int 0), (1, .int 0), (0, .ref (ad 1))]) hx hb dX9_howMany_3 rfl hl (by decide) rfl (fun ls hl => ?_)
  refine st_loop 4 (fun _ => []) (fun (z : Int32 × Int32) (ls : Array Slot) (H : Heap) (locs : List Loc) => match z with | (q4_1, q4_2) => (0 ≤ q4_2.toInt) ∧ (q4_2.toInt ≤ 8) ∧ (0 ≤ q4_1.toInt) ∧ (q4_1.toInt ≤ q4_2.toInt) ∧ lv_has ls 3 [(0, .ref (ad 1)), (1, .int q4_1), (2, .int q4_2)] ∧ va_P D vwCl [(oC9 ad ), (aI cI (ad 14) 8 ss)] H ∧ va_D A [(oC9 ad ), (aI cI (ad 14) 8 ss)] ∧ va_S A s.heap H locs) (fun (z : Int32 × Int32) => match z with | (q4_1, q4_2) => 8 - q4_2.toInt) ?_ ?_ ((0 : Int32), (0 : Int32)) ⟨(by omega), (by omega), (by omega), (by omega), lv_sub hl [2, 1, 0] rfl, hP, hD, hS⟩
  · rintro ⟨q4_1, q4_2⟩ ls H locs ⟨g1, g2, g3, g4, hl, hP, hD, hS⟩
    show (0 : Int) ≤ 8 - q4_2.toInt
    omega
  · rintro n7 ih5 ⟨q4_1, q4_2⟩ ls H locs ⟨g1, g2, g3, g4, hl, hP, hD, hS⟩ hm6
    have hm6 : 8 - q4_2.toInt < (n7 : Int) + 1 := hm6
    replace hl : lv_has ls 3 [(0, .ref (ad 1)), (1, .int q4_1), (2, .int q4_2)] := hl
    replace hP : va_P D vwCl [(oC9 ad ), (aI cI (ad 14) 8 ss)] H := hP
    replace hD : va_D A [(oC9 ad ), (aI cI (ad 14) 8 ss)] := hD
    show W _ _ _ _ _ _ _ _ _ _ _ _ _ _ _ (F0 m 4 ls [])
    refine lv_iload_n hx hb dX9_howMany_4 rfl (lv_at hl 2 rfl) ?_
    refine lv_bipush (v := 8) hx hb dX9_howMany_5 (by decide) ?_
    refine lv_icmp_ge (tgt := 27) hx hb dX9_howMany_7 (by decide) (fun c8 => ?_) (fun c8 => ?_)
    · skip
      have f9 := i_le c8
      refine lv_iload_n hx hb dX9_howMany_27 rfl (lv_at hl 1 rfl) ?_
      have hP9 := hP
      have hD9 := hD
      exact W.iret (v := q4_1) hx hb hr (fun t ht hW => ⟨⟨q4_1, (), rfl, trivial, by rw [ht]; exact hP9, va_K.moved hW.alike hK, hD9⟩, hS.F ht⟩) hS.2.2 dX9_howMany_28
    · skip
      have f10 := i_nle c8
      refine lv_aload_n hx hb dX9_howMany_10 rfl (lv_at hl 0 rfl) ?_
      refine lv_iload_n hx hb dX9_howMany_11 rfl (lv_at hl 2 rfl) ?_
      refine st_i1 (va_runV (C := RX9) (As := [.int q4_2]) (rest := []) ⟨hx, hb, hml, hown, hts⟩ (ct_X9_isMissing l D cI cY cJ cQ _ ad ss q4_2 (by omega) (by omega)) (cwV 1 hts gX9_howMany_X9_isMissing rfl rfl rfl ⟨rfl, cdX9_isMissing⟩ ⟨Nat.le_of_ble_eq_true rfl, Nat.le_of_ble_eq_true rfl⟩) (cPreV (hP.sub [0, 1] rfl) hK (hD.sub [0, 1] (by decide +kernel) rfl) hN (ci := 9) (q0 := 0) rfl rfl) rfl rfl hl.1 rfl (lv_room (Nat.le_of_ble_eq_true rfl)) dX9_howMany_12 ⟨Nat.le_of_ble_eq_true rfl, Nat.le_of_ble_eq_true rfl⟩) hP hD hS hA [0, 1] rfl (fun _ => rfl) (fun r13 u11 H locs hw12 => ?_)
      clear hP hS
      intro hP hS
      replace hw12 : r13 = if (ss q4_2.toNatClampNeg).toInt = -1 then 1 else 0 := hw12
      refine lv_if_ne (tgt := 21) hx hb dX9_howMany_15 (by decide) (fun c14 => ?_) (fun c14 => ?_)
      · skip
        have f15 := bo_t hw12 c14
        obtain ⟨v16, ev16⟩ : ∃ y : Int32, y = q4_2 + 1 := ⟨_, rfl⟩
        try have tv16 : v16.toInt = q4_2.toInt + 1 := by rw [ev16]; exact (i_add (x := q4_2) (y := (1 : Int32)) (by rw [k1]; omega) (by rw [k1]; omega)).trans (by rw [k1])
        refine lv_iinc (v := v16) (lv' := [(2, .int v16), (0, .ref (ad 1)), (1, .int q4_1)]) hx hb dX9_howMany_21 hl (k := 2) rfl (by rw [ev16]; rfl) (by decide) rfl (fun ls hl => ?_)
        refine lv_goto (tgt := 4) hx hb dX9_howMany_24 (by decide) ?_
        exact ih5 (q4_1, v16) ls H locs ⟨(by omega), (by omega), (by omega), (by omega), lv_sub hl [1, 2, 0] rfl, hP.sub [0, 1] rfl, hD.sub [0, 1] (by decide +kernel) rfl, hS⟩ (by show 8 - v16.toInt < _; omega)
      · skip
        have f17 := bo_f hw12 c14
        obtain ⟨v18, ev18⟩ : ∃ y : Int32, y = q4_1 + 1 := ⟨_, rfl⟩
        try have tv18 : v18.toInt = q4_1.toInt + 1 := by rw [ev18]; exact (i_add (x := q4_1) (y := (1 : Int32)) (by rw [k1]; omega) (by rw [k1]; omega)).trans (by rw [k1])
        refine lv_iinc (v := v18) (lv' := [(1, .int v18), (0, .ref (ad 1)), (2, .int q4_2)]) hx hb dX9_howMany_18 hl (k := 1) rfl (by rw [ev18]; rfl) (by decide) rfl (fun ls hl => ?_)
        obtain ⟨v19, ev19⟩ : ∃ y : Int32, y = q4_2 + 1 := ⟨_, rfl⟩
        try have tv19 : v19.toInt = q4_2.toInt + 1 := by rw [ev19]; exact (i_add (x := q4_2) (y := (1 : Int32)) (by rw [k1]; omega) (by rw [k1]; omega)).trans (by rw [k1])
        refine lv_iinc (v := v19) (lv' := [(2, .int v19), (1, .int v18), (0, .ref (ad 1))]) hx hb dX9_howMany_21 hl (k := 2) rfl (by rw [ev19]; rfl) (by decide) rfl (fun ls hl => ?_)
        refine lv_goto (tgt := 4) hx hb dX9_howMany_24 (by decide) ?_
        exact ih5 (v18, v19) ls H locs ⟨(by omega), (by omega), (by omega), (by omega), lv_sub hl [2, 1, 0] rfl, hP.sub [0, 1] rfl, hD.sub [0, 1] (by decide +kernel) rfl, hS⟩ (by show 8 - v19.toInt < _; omega)
