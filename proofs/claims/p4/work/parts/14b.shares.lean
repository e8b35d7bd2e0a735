theorem cdX3_shareOf : yX3_shareOf.cls ≠ "java/lang/invoke/MethodHandle" ∧ yX3_shareOf.cls ≠ "java/lang/invoke/VarHandle" ∧ (parseMethodDescriptor yX3_shareOf.desc).map (fun d => d.parameters.length) = some 2 := by decide +kernel
theorem cdX3_leadingTo : yX3_leadingTo.cls ≠ "java/lang/invoke/MethodHandle" ∧ yX3_leadingTo.cls ≠ "java/lang/invoke/VarHandle" ∧ (parseMethodDescriptor yX3_leadingTo.desc).map (fun d => d.parameters.length) = some 1 := by decide +kernel
theorem Gd_X3_leadingTo : gdA wsX3_leadingTo := gd_cons (by decide +kernel) (gd_app (gd_all (ws := wsX3_leadingTo_o1) (by decide +kernel)) (gd_app Gd_X30 Gd_X10_hasBit))
theorem Gd_X3_shareOf : gdA wsX3_shareOf := gd_cons (by decide +kernel) (gd_app (gd_all (ws := wsX3_shareOf_o1) (by decide +kernel)) (gd_app (gd_app Gd_X30 Gd_X3_leadingTo) Gd_X3_along))
theorem inX10_share_X10 : ∀ w ∈ u_ws RX10 TX10 14, w ∈ wsX10_share := fun _ h => (List.mem_cons_of_mem _ (List.mem_append_right _ (List.mem_append_left _ (List.mem_append_left _ (List.mem_append_left _ h)))))
theorem inX10_truly_X10 : ∀ w ∈ u_ws RX10 TX10 14, w ∈ wsX10_truly := fun _ h => (List.mem_cons_of_mem _ (List.mem_append_right _ (List.mem_append_left _ (List.mem_append_left _ (List.mem_append_left _ h)))))
theorem inX10_rings_X10 : ∀ w ∈ u_ws RX10 TX10 14, w ∈ wsX10_rings := fun _ h => (List.mem_cons_of_mem _ (List.mem_append_right _ (List.mem_append_left _ (List.mem_append_left _ (List.mem_append_left _ h)))))
theorem inX10_rings_X3 : ∀ w ∈ u_ws RX3 TX3 9, w ∈ wsX10_rings := fun _ h => (List.mem_cons_of_mem _ (List.mem_append_right _ (List.mem_append_left _ (List.mem_append_left _ (List.mem_append_right _ h)))))
theorem ggX3_shareOf_X3_leadingTo : GoodIn wsX3_shareOf wsX3_leadingTo := goodIn_s (fun _ h => wm_t (wm_r (wm_l (wm_r h)))) Gd_X3_leadingTo
theorem gX3_shareOf_X3_leadingTo : GoodIn wsX3_shareOf (wsV RX3 67 RX3 yX3_leadingTo wsX3_leadingTo) := goodIn_V (own := RX3) (idx := 67) (C := RX3) (y := yX3_leadingTo) (wm_t (wm_l (wm_i 6 rfl))) (wm_t (wm_l (wm_i 7 rfl))) (wm_t (wm_l (wm_i 8 rfl))) (wm_t (wm_l (wm_i 9 rfl))) ggX3_shareOf_X3_leadingTo
theorem ggX3_shareOf_X3_along : GoodIn wsX3_shareOf wsX3_along := goodIn_s (fun _ h => wm_t (wm_r (wm_r h))) Gd_X3_along
theorem gX3_shareOf_X3_along : GoodIn wsX3_shareOf (va_wsS RX3 71 yX3_along wsX3_along) := goodIn_S (own := RX3) (idx := 71) (y := yX3_along) (wm_t (wm_l (wm_i 10 rfl))) (wm_t (wm_l (wm_i 11 rfl))) (wm_t (wm_l (wm_i 9 rfl))) ggX3_shareOf_X3_along
theorem dX3_shareOf_all0 : decode cX3_shareOf 0 = .ok (.iload_n 2, 1) ∧ decode cX3_shareOf 1 = .ok (.bipush 10, 2) ∧ decode cX3_shareOf 3 = .ok (.if_icmp .ge 15, 3) ∧ decode cX3_shareOf 6 = .ok (.iload_n 2, 1) ∧ decode cX3_shareOf 7 = .ok (.iload_n 1, 1) ∧ decode cX3_shareOf 8 = .ok (.if_icmp .ne 8, 3) ∧ decode cX3_shareOf 11 = .ok (.ldc 66, 2) ∧ decode cX3_shareOf 13 = .ok (.goto 4, 3) ∧ decode cX3_shareOf 16 = .ok (.iconst 0, 1) ∧ decode cX3_shareOf 17 = .ok (.ireturn, 1) ∧ decode cX3_shareOf 18 = .ok (.iload_n 2, 1) ∧ decode cX3_shareOf 19 = .ok (.bipush 10, 2) := by decide +kernel
theorem dX3_shareOf_0 : decode cX3_shareOf 0 = .ok (.iload_n 2, 1) := dX3_shareOf_all0.1
theorem dX3_shareOf_1 : decode cX3_shareOf 1 = .ok (.bipush 10, 2) := dX3_shareOf_all0.2.1
theorem dX3_shareOf_3 : decode cX3_shareOf 3 = .ok (.if_icmp .ge 15, 3) := dX3_shareOf_all0.2.2.1
theorem dX3_shareOf_6 : decode cX3_shareOf 6 = .ok (.iload_n 2, 1) := dX3_shareOf_all0.2.2.2.1
theorem dX3_shareOf_7 : decode cX3_shareOf 7 = .ok (.iload_n 1, 1) := dX3_shareOf_all0.2.2.2.2.1
theorem dX3_shareOf_8 : decode cX3_shareOf 8 = .ok (.if_icmp .ne 8, 3) := dX3_shareOf_all0.2.2.2.2.2.1
theorem dX3_shareOf_11 : decode cX3_shareOf 11 = .ok (.ldc 66, 2) := dX3_shareOf_all0.2.2.2.2.2.2.1
theorem dX3_shareOf_13 : decode cX3_shareOf 13 = .ok (.goto 4, 3) := dX3_shareOf_all0.2.2.2.2.2.2.2.1
theorem dX3_shareOf_16 : decode cX3_shareOf 16 = .ok (.iconst 0, 1) := dX3_shareOf_all0.2.2.2.2.2.2.2.2.1
theorem dX3_shareOf_17 : decode cX3_shareOf 17 = .ok (.ireturn, 1) := dX3_shareOf_all0.2.2.2.2.2.2.2.2.2.1
theorem dX3_shareOf_18 : decode cX3_shareOf 18 = .ok (.iload_n 2, 1) := dX3_shareOf_all0.2.2.2.2.2.2.2.2.2.2.1
theorem dX3_shareOf_19 : decode cX3_shareOf 19 = .ok (.bipush 10, 2) := dX3_shareOf_all0.2.2.2.2.2.2.2.2.2.2.2
theorem dX3_shareOf_all1 : decode cX3_shareOf 21 = .ok (.isub, 1) ∧ decode cX3_shareOf 22 = .ok (.istore_n 3, 1) ∧ decode cX3_shareOf 23 = .ok (.aload_n 0, 1) ∧ decode cX3_shareOf 24 = .ok (.iload_n 1, 1) ∧ decode cX3_shareOf 25 = .ok (.iload_n 3, 1) ∧ decode cX3_shareOf 26 = .ok (.ldc 66, 2) ∧ decode cX3_shareOf 28 = .ok (.aload_n 0, 1) ∧ decode cX3_shareOf 29 = .ok (.iload_n 3, 1) ∧ decode cX3_shareOf 30 = .ok (.invokevirtual 67, 3) ∧ decode cX3_shareOf 33 = .ok (.iconst 0, 1) ∧ decode cX3_shareOf 34 = .ok (.invokestatic 71, 3) ∧ decode cX3_shareOf 37 = .ok (.lstore 4, 2) := by decide +kernel
theorem dX3_shareOf_21 : decode cX3_shareOf 21 = .ok (.isub, 1) := dX3_shareOf_all1.1
theorem dX3_shareOf_22 : decode cX3_shareOf 22 = .ok (.istore_n 3, 1) := dX3_shareOf_all1.2.1
theorem dX3_shareOf_23 : decode cX3_shareOf 23 = .ok (.aload_n 0, 1) := dX3_shareOf_all1.2.2.1
theorem dX3_shareOf_24 : decode cX3_shareOf 24 = .ok (.iload_n 1, 1) := dX3_shareOf_all1.2.2.2.1
theorem dX3_shareOf_25 : decode cX3_shareOf 25 = .ok (.iload_n 3, 1) := dX3_shareOf_all1.2.2.2.2.1
theorem dX3_shareOf_26 : decode cX3_shareOf 26 = .ok (.ldc 66, 2) := dX3_shareOf_all1.2.2.2.2.2.1
theorem dX3_shareOf_28 : decode cX3_shareOf 28 = .ok (.aload_n 0, 1) := dX3_shareOf_all1.2.2.2.2.2.2.1
theorem dX3_shareOf_29 : decode cX3_shareOf 29 = .ok (.iload_n 3, 1) := dX3_shareOf_all1.2.2.2.2.2.2.2.1
theorem dX3_shareOf_30 : decode cX3_shareOf 30 = .ok (.invokevirtual 67, 3) := dX3_shareOf_all1.2.2.2.2.2.2.2.2.1
theorem dX3_shareOf_33 : decode cX3_shareOf 33 = .ok (.iconst 0, 1) := dX3_shareOf_all1.2.2.2.2.2.2.2.2.2.1
theorem dX3_shareOf_34 : decode cX3_shareOf 34 = .ok (.invokestatic 71, 3) := dX3_shareOf_all1.2.2.2.2.2.2.2.2.2.2.1
theorem dX3_shareOf_37 : decode cX3_shareOf 37 = .ok (.lstore 4, 2) := dX3_shareOf_all1.2.2.2.2.2.2.2.2.2.2.2
theorem dX3_shareOf_all2 : decode cX3_shareOf 39 = .ok (.lload 4, 2) ∧ decode cX3_shareOf 41 = .ok (.ldc2_w 75, 3) ∧ decode cX3_shareOf 44 = .ok (.invokestatic 77, 3) ∧ decode cX3_shareOf 47 = .ok (.l2i, 1) ∧ decode cX3_shareOf 48 = .ok (.ireturn, 1) := by decide +kernel
theorem dX3_shareOf_39 : decode cX3_shareOf 39 = .ok (.lload 4, 2) := dX3_shareOf_all2.1
theorem dX3_shareOf_41 : decode cX3_shareOf 41 = .ok (.ldc2_w 75, 3) := dX3_shareOf_all2.2.1
theorem dX3_shareOf_44 : decode cX3_shareOf 44 = .ok (.invokestatic 77, 3) := dX3_shareOf_all2.2.2.1
theorem dX3_shareOf_47 : decode cX3_shareOf 47 = .ok (.l2i, 1) := dX3_shareOf_all2.2.2.2.1
theorem dX3_shareOf_48 : decode cX3_shareOf 48 = .ok (.ireturn, 1) := dX3_shareOf_all2.2.2.2.2
theorem ggX10_share_X10_isPerson : GoodIn wsX10_share wsX10_isPerson := goodIn_s (fun _ h => wm_t (wm_r (wm_l (wm_r (wm_l h))))) Gd_X10_isPerson
theorem gX10_share_X10_isPerson : GoodIn wsX10_share (va_wsS RX10 160 yX10_isPerson wsX10_isPerson) := goodIn_S (own := RX10) (idx := 160) (y := yX10_isPerson) (wm_t (wm_l (wm_i 2 rfl))) (wm_t (wm_l (wm_i 3 rfl))) (wm_t (wm_l (wm_i 4 rfl))) ggX10_share_X10_isPerson
theorem ggX10_share_X10_isOwner : GoodIn wsX10_share wsX10_isOwner := goodIn_s (fun _ h => wm_t (wm_r (wm_l (wm_r (wm_r h))))) Gd_X10_isOwner
theorem gX10_share_X10_isOwner : GoodIn wsX10_share (va_wsS RX10 163 yX10_isOwner wsX10_isOwner) := goodIn_S (own := RX10) (idx := 163) (y := yX10_isOwner) (wm_t (wm_l (wm_i 5 rfl))) (wm_t (wm_l (wm_i 6 rfl))) (wm_t (wm_l (wm_i 4 rfl))) ggX10_share_X10_isOwner
theorem ggX10_share_X10_isDay : GoodIn wsX10_share wsX10_isDay := goodIn_s (fun _ h => wm_t (wm_r (wm_r (wm_l (wm_l h))))) Gd_X10_isDay
theorem gX10_share_X10_isDay : GoodIn wsX10_share (va_wsS RX10 138 yX10_isDay wsX10_isDay) := goodIn_S (own := RX10) (idx := 138) (y := yX10_isDay) (wm_t (wm_l (wm_i 7 rfl))) (wm_t (wm_l (wm_i 8 rfl))) (wm_t (wm_l (wm_i 4 rfl))) ggX10_share_X10_isDay
theorem ggX10_share_X3_lookAt : GoodIn wsX10_share wsX3_lookAt := goodIn_s (fun _ h => wm_t (wm_r (wm_r (wm_l (wm_r h))))) Gd_X3_lookAt
theorem gX10_share_X3_lookAt : GoodIn wsX10_share (wsV RX10 153 RX3 yX3_lookAt wsX3_lookAt) := goodIn_V (own := RX10) (idx := 153) (C := RX3) (y := yX3_lookAt) (wm_t (wm_l (wm_i 9 rfl))) (wm_t (wm_l (wm_i 10 rfl))) (wm_t (wm_l (wm_i 11 rfl))) (wm_t (wm_l (wm_i 12 rfl))) ggX10_share_X3_lookAt
theorem ggX10_share_X3_shareOf : GoodIn wsX10_share wsX3_shareOf := goodIn_s (fun _ h => wm_t (wm_r (wm_r (wm_r h)))) Gd_X3_shareOf
theorem gX10_share_X3_shareOf : GoodIn wsX10_share (wsV RX10 166 RX3 yX3_shareOf wsX3_shareOf) := goodIn_V (own := RX10) (idx := 166) (C := RX3) (y := yX3_shareOf) (wm_t (wm_l (wm_i 13 rfl))) (wm_t (wm_l (wm_i 14 rfl))) (wm_t (wm_l (wm_i 15 rfl))) (wm_t (wm_l (wm_i 12 rfl))) ggX10_share_X3_shareOf
theorem dX10_share_all0 : decode cX10_share 0 = .ok (.iload_n 1, 1) ∧ decode cX10_share 1 = .ok (.invokestatic 160, 3) ∧ decode cX10_share 4 = .ok (.ifCond .eq 17, 3) ∧ decode cX10_share 7 = .ok (.iload_n 2, 1) ∧ decode cX10_share 8 = .ok (.invokestatic 163, 3) ∧ decode cX10_share 11 = .ok (.ifCond .eq 10, 3) ∧ decode cX10_share 14 = .ok (.iload_n 3, 1) ∧ decode cX10_share 15 = .ok (.invokestatic 138, 3) ∧ decode cX10_share 18 = .ok (.ifCond .ne 6, 3) ∧ decode cX10_share 21 = .ok (.ldc 89, 2) ∧ decode cX10_share 23 = .ok (.ireturn, 1) ∧ decode cX10_share 24 = .ok (.aload_n 0, 1) := by decide +kernel
theorem dX10_share_0 : decode cX10_share 0 = .ok (.iload_n 1, 1) := dX10_share_all0.1
theorem dX10_share_1 : decode cX10_share 1 = .ok (.invokestatic 160, 3) := dX10_share_all0.2.1
theorem dX10_share_4 : decode cX10_share 4 = .ok (.ifCond .eq 17, 3) := dX10_share_all0.2.2.1
theorem dX10_share_7 : decode cX10_share 7 = .ok (.iload_n 2, 1) := dX10_share_all0.2.2.2.1
theorem dX10_share_8 : decode cX10_share 8 = .ok (.invokestatic 163, 3) := dX10_share_all0.2.2.2.2.1
theorem dX10_share_11 : decode cX10_share 11 = .ok (.ifCond .eq 10, 3) := dX10_share_all0.2.2.2.2.2.1
theorem dX10_share_14 : decode cX10_share 14 = .ok (.iload_n 3, 1) := dX10_share_all0.2.2.2.2.2.2.1
theorem dX10_share_15 : decode cX10_share 15 = .ok (.invokestatic 138, 3) := dX10_share_all0.2.2.2.2.2.2.2.1
theorem dX10_share_18 : decode cX10_share 18 = .ok (.ifCond .ne 6, 3) := dX10_share_all0.2.2.2.2.2.2.2.2.1
theorem dX10_share_21 : decode cX10_share 21 = .ok (.ldc 89, 2) := dX10_share_all0.2.2.2.2.2.2.2.2.2.1
theorem dX10_share_23 : decode cX10_share 23 = .ok (.ireturn, 1) := dX10_share_all0.2.2.2.2.2.2.2.2.2.2.1
theorem dX10_share_24 : decode cX10_share 24 = .ok (.aload_n 0, 1) := dX10_share_all0.2.2.2.2.2.2.2.2.2.2.2
theorem dX10_share_all1 : decode cX10_share 25 = .ok (.getfield 19, 3) ∧ decode cX10_share 28 = .ok (.iload_n 3, 1) ∧ decode cX10_share 29 = .ok (.invokevirtual 153, 3) ∧ decode cX10_share 32 = .ok (.aload_n 0, 1) ∧ decode cX10_share 33 = .ok (.getfield 19, 3) ∧ decode cX10_share 36 = .ok (.iload_n 1, 1) ∧ decode cX10_share 37 = .ok (.iload_n 2, 1) ∧ decode cX10_share 38 = .ok (.invokevirtual 166, 3) ∧ decode cX10_share 41 = .ok (.ireturn, 1) := by decide +kernel
theorem dX10_share_25 : decode cX10_share 25 = .ok (.getfield 19, 3) := dX10_share_all1.1
theorem dX10_share_28 : decode cX10_share 28 = .ok (.iload_n 3, 1) := dX10_share_all1.2.1
theorem dX10_share_29 : decode cX10_share 29 = .ok (.invokevirtual 153, 3) := dX10_share_all1.2.2.1
theorem dX10_share_32 : decode cX10_share 32 = .ok (.aload_n 0, 1) := dX10_share_all1.2.2.2.1
theorem dX10_share_33 : decode cX10_share 33 = .ok (.getfield 19, 3) := dX10_share_all1.2.2.2.2.1
theorem dX10_share_36 : decode cX10_share 36 = .ok (.iload_n 1, 1) := dX10_share_all1.2.2.2.2.2.1
theorem dX10_share_37 : decode cX10_share 37 = .ok (.iload_n 2, 1) := dX10_share_all1.2.2.2.2.2.2.1
theorem dX10_share_38 : decode cX10_share 38 = .ok (.invokevirtual 166, 3) := dX10_share_all1.2.2.2.2.2.2.2.1
theorem dX10_share_41 : decode cX10_share 41 = .ok (.ireturn, 1) := dX10_share_all1.2.2.2.2.2.2.2.2
theorem ggX10_truly_X10_isOwner : GoodIn wsX10_truly wsX10_isOwner := goodIn_s (fun _ h => wm_t (wm_r (wm_l (wm_r h)))) Gd_X10_isOwner
theorem gX10_truly_X10_isOwner : GoodIn wsX10_truly (va_wsS RX10 163 yX10_isOwner wsX10_isOwner) := goodIn_S (own := RX10) (idx := 163) (y := yX10_isOwner) (wm_t (wm_l (wm_i 3 rfl))) (wm_t (wm_l (wm_i 4 rfl))) (wm_t (wm_l (wm_i 5 rfl))) ggX10_truly_X10_isOwner
theorem ggX10_truly_X10_isDay : GoodIn wsX10_truly wsX10_isDay := goodIn_s (fun _ h => wm_t (wm_r (wm_r (wm_l (wm_l h))))) Gd_X10_isDay
theorem gX10_truly_X10_isDay : GoodIn wsX10_truly (va_wsS RX10 138 yX10_isDay wsX10_isDay) := goodIn_S (own := RX10) (idx := 138) (y := yX10_isDay) (wm_t (wm_l (wm_i 6 rfl))) (wm_t (wm_l (wm_i 7 rfl))) (wm_t (wm_l (wm_i 5 rfl))) ggX10_truly_X10_isDay
theorem ggX10_truly_X3_lookAt : GoodIn wsX10_truly wsX3_lookAt := goodIn_s (fun _ h => wm_t (wm_r (wm_r (wm_l (wm_r h))))) Gd_X3_lookAt
theorem gX10_truly_X3_lookAt : GoodIn wsX10_truly (wsV RX10 153 RX3 yX3_lookAt wsX3_lookAt) := goodIn_V (own := RX10) (idx := 153) (C := RX3) (y := yX3_lookAt) (wm_t (wm_l (wm_i 8 rfl))) (wm_t (wm_l (wm_i 9 rfl))) (wm_t (wm_l (wm_i 10 rfl))) (wm_t (wm_l (wm_i 11 rfl))) ggX10_truly_X3_lookAt
theorem ggX10_truly_X3_shareOf : GoodIn wsX10_truly wsX3_shareOf := goodIn_s (fun _ h => wm_t (wm_r (wm_r (wm_r h)))) Gd_X3_shareOf
theorem gX10_truly_X3_shareOf : GoodIn wsX10_truly (wsV RX10 166 RX3 yX3_shareOf wsX3_shareOf) := goodIn_V (own := RX10) (idx := 166) (C := RX3) (y := yX3_shareOf) (wm_t (wm_l (wm_i 12 rfl))) (wm_t (wm_l (wm_i 13 rfl))) (wm_t (wm_l (wm_i 14 rfl))) (wm_t (wm_l (wm_i 11 rfl))) ggX10_truly_X3_shareOf
theorem dX10_truly_all0 : decode cX10_truly 0 = .ok (.iload_n 1, 1) ∧ decode cX10_truly 1 = .ok (.invokestatic 163, 3) ∧ decode cX10_truly 4 = .ok (.ifCond .eq 10, 3) ∧ decode cX10_truly 7 = .ok (.iload_n 2, 1) ∧ decode cX10_truly 8 = .ok (.invokestatic 138, 3) ∧ decode cX10_truly 11 = .ok (.ifCond .ne 6, 3) ∧ decode cX10_truly 14 = .ok (.ldc 89, 2) ∧ decode cX10_truly 16 = .ok (.ireturn, 1) ∧ decode cX10_truly 17 = .ok (.aload_n 0, 1) ∧ decode cX10_truly 18 = .ok (.getfield 19, 3) ∧ decode cX10_truly 21 = .ok (.iload_n 2, 1) ∧ decode cX10_truly 22 = .ok (.invokevirtual 153, 3) := by decide +kernel
theorem dX10_truly_0 : decode cX10_truly 0 = .ok (.iload_n 1, 1) := dX10_truly_all0.1
theorem dX10_truly_1 : decode cX10_truly 1 = .ok (.invokestatic 163, 3) := dX10_truly_all0.2.1
theorem dX10_truly_4 : decode cX10_truly 4 = .ok (.ifCond .eq 10, 3) := dX10_truly_all0.2.2.1
theorem dX10_truly_7 : decode cX10_truly 7 = .ok (.iload_n 2, 1) := dX10_truly_all0.2.2.2.1
theorem dX10_truly_8 : decode cX10_truly 8 = .ok (.invokestatic 138, 3) := dX10_truly_all0.2.2.2.2.1
theorem dX10_truly_11 : decode cX10_truly 11 = .ok (.ifCond .ne 6, 3) := dX10_truly_all0.2.2.2.2.2.1
theorem dX10_truly_14 : decode cX10_truly 14 = .ok (.ldc 89, 2) := dX10_truly_all0.2.2.2.2.2.2.1
theorem dX10_truly_16 : decode cX10_truly 16 = .ok (.ireturn, 1) := dX10_truly_all0.2.2.2.2.2.2.2.1
theorem dX10_truly_17 : decode cX10_truly 17 = .ok (.aload_n 0, 1) := dX10_truly_all0.2.2.2.2.2.2.2.2.1
theorem dX10_truly_18 : decode cX10_truly 18 = .ok (.getfield 19, 3) := dX10_truly_all0.2.2.2.2.2.2.2.2.2.1
theorem dX10_truly_21 : decode cX10_truly 21 = .ok (.iload_n 2, 1) := dX10_truly_all0.2.2.2.2.2.2.2.2.2.2.1
theorem dX10_truly_22 : decode cX10_truly 22 = .ok (.invokevirtual 153, 3) := dX10_truly_all0.2.2.2.2.2.2.2.2.2.2.2
theorem dX10_truly_all1 : decode cX10_truly 25 = .ok (.ldc 169, 2) ∧ decode cX10_truly 27 = .ok (.istore_n 3, 1) ∧ decode cX10_truly 28 = .ok (.iconst 0, 1) ∧ decode cX10_truly 29 = .ok (.istore 4, 2) ∧ decode cX10_truly 31 = .ok (.iconst 0, 1) ∧ decode cX10_truly 32 = .ok (.istore 5, 2) ∧ decode cX10_truly 34 = .ok (.iload 5, 2) ∧ decode cX10_truly 36 = .ok (.bipush 10, 2) ∧ decode cX10_truly 38 = .ok (.if_icmp .ge 35, 3) ∧ decode cX10_truly 41 = .ok (.aload_n 0, 1) ∧ decode cX10_truly 42 = .ok (.getfield 19, 3) ∧ decode cX10_truly 45 = .ok (.iload 5, 2) := by decide +kernel
theorem dX10_truly_25 : decode cX10_truly 25 = .ok (.ldc 169, 2) := dX10_truly_all1.1
theorem dX10_truly_27 : decode cX10_truly 27 = .ok (.istore_n 3, 1) := dX10_truly_all1.2.1
theorem dX10_truly_28 : decode cX10_truly 28 = .ok (.iconst 0, 1) := dX10_truly_all1.2.2.1
theorem dX10_truly_29 : decode cX10_truly 29 = .ok (.istore 4, 2) := dX10_truly_all1.2.2.2.1
theorem dX10_truly_31 : decode cX10_truly 31 = .ok (.iconst 0, 1) := dX10_truly_all1.2.2.2.2.1
theorem dX10_truly_32 : decode cX10_truly 32 = .ok (.istore 5, 2) := dX10_truly_all1.2.2.2.2.2.1
theorem dX10_truly_34 : decode cX10_truly 34 = .ok (.iload 5, 2) := dX10_truly_all1.2.2.2.2.2.2.1
theorem dX10_truly_36 : decode cX10_truly 36 = .ok (.bipush 10, 2) := dX10_truly_all1.2.2.2.2.2.2.2.1
theorem dX10_truly_38 : decode cX10_truly 38 = .ok (.if_icmp .ge 35, 3) := dX10_truly_all1.2.2.2.2.2.2.2.2.1
theorem dX10_truly_41 : decode cX10_truly 41 = .ok (.aload_n 0, 1) := dX10_truly_all1.2.2.2.2.2.2.2.2.2.1
theorem dX10_truly_42 : decode cX10_truly 42 = .ok (.getfield 19, 3) := dX10_truly_all1.2.2.2.2.2.2.2.2.2.2.1
theorem dX10_truly_45 : decode cX10_truly 45 = .ok (.iload 5, 2) := dX10_truly_all1.2.2.2.2.2.2.2.2.2.2.2
theorem dX10_truly_all2 : decode cX10_truly 47 = .ok (.iload_n 1, 1) ∧ decode cX10_truly 48 = .ok (.invokevirtual 166, 3) ∧ decode cX10_truly 51 = .ok (.istore 6, 2) ∧ decode cX10_truly 53 = .ok (.iload 6, 2) ∧ decode cX10_truly 55 = .ok (.iload 4, 2) ∧ decode cX10_truly 57 = .ok (.if_icmp .le 10, 3) ∧ decode cX10_truly 60 = .ok (.iload 6, 2) ∧ decode cX10_truly 62 = .ok (.istore 4, 2) ∧ decode cX10_truly 64 = .ok (.iload 5, 2) ∧ decode cX10_truly 66 = .ok (.istore_n 3, 1) ∧ decode cX10_truly 67 = .ok (.iinc 5 1, 3) ∧ decode cX10_truly 70 = .ok (.goto (-36), 3) := by decide +kernel
theorem dX10_truly_47 : decode cX10_truly 47 = .ok (.iload_n 1, 1) := dX10_truly_all2.1
theorem dX10_truly_48 : decode cX10_truly 48 = .ok (.invokevirtual 166, 3) := dX10_truly_all2.2.1
theorem dX10_truly_51 : decode cX10_truly 51 = .ok (.istore 6, 2) := dX10_truly_all2.2.2.1
theorem dX10_truly_53 : decode cX10_truly 53 = .ok (.iload 6, 2) := dX10_truly_all2.2.2.2.1
theorem dX10_truly_55 : decode cX10_truly 55 = .ok (.iload 4, 2) := dX10_truly_all2.2.2.2.2.1
theorem dX10_truly_57 : decode cX10_truly 57 = .ok (.if_icmp .le 10, 3) := dX10_truly_all2.2.2.2.2.2.1
theorem dX10_truly_60 : decode cX10_truly 60 = .ok (.iload 6, 2) := dX10_truly_all2.2.2.2.2.2.2.1
theorem dX10_truly_62 : decode cX10_truly 62 = .ok (.istore 4, 2) := dX10_truly_all2.2.2.2.2.2.2.2.1
theorem dX10_truly_64 : decode cX10_truly 64 = .ok (.iload 5, 2) := dX10_truly_all2.2.2.2.2.2.2.2.2.1
theorem dX10_truly_66 : decode cX10_truly 66 = .ok (.istore_n 3, 1) := dX10_truly_all2.2.2.2.2.2.2.2.2.2.1
theorem dX10_truly_67 : decode cX10_truly 67 = .ok (.iinc 5 1, 3) := dX10_truly_all2.2.2.2.2.2.2.2.2.2.2.1
theorem dX10_truly_70 : decode cX10_truly 70 = .ok (.goto (-36), 3) := dX10_truly_all2.2.2.2.2.2.2.2.2.2.2.2
theorem dX10_truly_all3 : decode cX10_truly 73 = .ok (.iload_n 3, 1) ∧ decode cX10_truly 74 = .ok (.ireturn, 1) := by decide +kernel
theorem dX10_truly_73 : decode cX10_truly 73 = .ok (.iload_n 3, 1) := dX10_truly_all3.1
theorem dX10_truly_74 : decode cX10_truly 74 = .ok (.ireturn, 1) := dX10_truly_all3.2
theorem ggX10_rings_X10_isDay : GoodIn wsX10_rings wsX10_isDay := goodIn_s (fun _ h => wm_t (wm_r (wm_l (wm_r h)))) Gd_X10_isDay
theorem gX10_rings_X10_isDay : GoodIn wsX10_rings (va_wsS RX10 138 yX10_isDay wsX10_isDay) := goodIn_S (own := RX10) (idx := 138) (y := yX10_isDay) (wm_t (wm_l (wm_i 3 rfl))) (wm_t (wm_l (wm_i 4 rfl))) (wm_t (wm_l (wm_i 5 rfl))) ggX10_rings_X10_isDay
theorem ggX10_rings_X3_lookAt : GoodIn wsX10_rings wsX3_lookAt := goodIn_s (fun _ h => wm_t (wm_r (wm_r (wm_l h)))) Gd_X3_lookAt
theorem gX10_rings_X3_lookAt : GoodIn wsX10_rings (wsV RX10 153 RX3 yX3_lookAt wsX3_lookAt) := goodIn_V (own := RX10) (idx := 153) (C := RX3) (y := yX3_lookAt) (wm_t (wm_l (wm_i 6 rfl))) (wm_t (wm_l (wm_i 7 rfl))) (wm_t (wm_l (wm_i 8 rfl))) (wm_t (wm_l (wm_i 9 rfl))) ggX10_rings_X3_lookAt
theorem ggX10_rings_X10_hasBit : GoodIn wsX10_rings wsX10_hasBit := goodIn_s (fun _ h => wm_t (wm_r (wm_r (wm_r h)))) Gd_X10_hasBit
theorem gX10_rings_X10_hasBit : GoodIn wsX10_rings (va_wsS RX10 173 yX10_hasBit wsX10_hasBit) := goodIn_S (own := RX10) (idx := 173) (y := yX10_hasBit) (wm_t (wm_l (wm_i 11 rfl))) (wm_t (wm_l (wm_i 10 rfl))) (wm_t (wm_l (wm_i 5 rfl))) ggX10_rings_X10_hasBit
theorem dX10_rings_all0 : decode cX10_rings 0 = .ok (.iload_n 1, 1) ∧ decode cX10_rings 1 = .ok (.invokestatic 138, 3) ∧ decode cX10_rings 4 = .ok (.ifCond .ne 6, 3) ∧ decode cX10_rings 7 = .ok (.ldc 89, 2) ∧ decode cX10_rings 9 = .ok (.ireturn, 1) ∧ decode cX10_rings 10 = .ok (.aload_n 0, 1) ∧ decode cX10_rings 11 = .ok (.getfield 19, 3) ∧ decode cX10_rings 14 = .ok (.iload_n 1, 1) ∧ decode cX10_rings 15 = .ok (.invokevirtual 153, 3) ∧ decode cX10_rings 18 = .ok (.iconst 0, 1) ∧ decode cX10_rings 19 = .ok (.istore_n 2, 1) ∧ decode cX10_rings 20 = .ok (.iconst 0, 1) := by decide +kernel
theorem dX10_rings_0 : decode cX10_rings 0 = .ok (.iload_n 1, 1) := dX10_rings_all0.1
theorem dX10_rings_1 : decode cX10_rings 1 = .ok (.invokestatic 138, 3) := dX10_rings_all0.2.1
theorem dX10_rings_4 : decode cX10_rings 4 = .ok (.ifCond .ne 6, 3) := dX10_rings_all0.2.2.1
theorem dX10_rings_7 : decode cX10_rings 7 = .ok (.ldc 89, 2) := dX10_rings_all0.2.2.2.1
theorem dX10_rings_9 : decode cX10_rings 9 = .ok (.ireturn, 1) := dX10_rings_all0.2.2.2.2.1
theorem dX10_rings_10 : decode cX10_rings 10 = .ok (.aload_n 0, 1) := dX10_rings_all0.2.2.2.2.2.1
theorem dX10_rings_11 : decode cX10_rings 11 = .ok (.getfield 19, 3) := dX10_rings_all0.2.2.2.2.2.2.1
theorem dX10_rings_14 : decode cX10_rings 14 = .ok (.iload_n 1, 1) := dX10_rings_all0.2.2.2.2.2.2.2.1
theorem dX10_rings_15 : decode cX10_rings 15 = .ok (.invokevirtual 153, 3) := dX10_rings_all0.2.2.2.2.2.2.2.2.1
theorem dX10_rings_18 : decode cX10_rings 18 = .ok (.iconst 0, 1) := dX10_rings_all0.2.2.2.2.2.2.2.2.2.1
theorem dX10_rings_19 : decode cX10_rings 19 = .ok (.istore_n 2, 1) := dX10_rings_all0.2.2.2.2.2.2.2.2.2.2.1
theorem dX10_rings_20 : decode cX10_rings 20 = .ok (.iconst 0, 1) := dX10_rings_all0.2.2.2.2.2.2.2.2.2.2.2
theorem dX10_rings_all1 : decode cX10_rings 21 = .ok (.istore_n 3, 1) ∧ decode cX10_rings 22 = .ok (.iload_n 3, 1) ∧ decode cX10_rings 23 = .ok (.bipush 10, 2) ∧ decode cX10_rings 25 = .ok (.if_icmp .ge 31, 3) ∧ decode cX10_rings 28 = .ok (.aload_n 0, 1) ∧ decode cX10_rings 29 = .ok (.getfield 19, 3) ∧ decode cX10_rings 32 = .ok (.getfield 170, 3) ∧ decode cX10_rings 35 = .ok (.iload_n 3, 1) ∧ decode cX10_rings 36 = .ok (.iaload, 1) ∧ decode cX10_rings 37 = .ok (.iload_n 3, 1) ∧ decode cX10_rings 38 = .ok (.invokestatic 173, 3) ∧ decode cX10_rings 41 = .ok (.ifCond .eq 9, 3) := by decide +kernel
theorem dX10_rings_21 : decode cX10_rings 21 = .ok (.istore_n 3, 1) := dX10_rings_all1.1
theorem dX10_rings_22 : decode cX10_rings 22 = .ok (.iload_n 3, 1) := dX10_rings_all1.2.1
theorem dX10_rings_23 : decode cX10_rings 23 = .ok (.bipush 10, 2) := dX10_rings_all1.2.2.1
theorem dX10_rings_25 : decode cX10_rings 25 = .ok (.if_icmp .ge 31, 3) := dX10_rings_all1.2.2.2.1
theorem dX10_rings_28 : decode cX10_rings 28 = .ok (.aload_n 0, 1) := dX10_rings_all1.2.2.2.2.1
theorem dX10_rings_29 : decode cX10_rings 29 = .ok (.getfield 19, 3) := dX10_rings_all1.2.2.2.2.2.1
theorem dX10_rings_32 : decode cX10_rings 32 = .ok (.getfield 170, 3) := dX10_rings_all1.2.2.2.2.2.2.1
theorem dX10_rings_35 : decode cX10_rings 35 = .ok (.iload_n 3, 1) := dX10_rings_all1.2.2.2.2.2.2.2.1
theorem dX10_rings_36 : decode cX10_rings 36 = .ok (.iaload, 1) := dX10_rings_all1.2.2.2.2.2.2.2.2.1
theorem dX10_rings_37 : decode cX10_rings 37 = .ok (.iload_n 3, 1) := dX10_rings_all1.2.2.2.2.2.2.2.2.2.1
theorem dX10_rings_38 : decode cX10_rings 38 = .ok (.invokestatic 173, 3) := dX10_rings_all1.2.2.2.2.2.2.2.2.2.2.1
theorem dX10_rings_41 : decode cX10_rings 41 = .ok (.ifCond .eq 9, 3) := dX10_rings_all1.2.2.2.2.2.2.2.2.2.2.2
theorem dX10_rings_all2 : decode cX10_rings 44 = .ok (.iload_n 2, 1) ∧ decode cX10_rings 45 = .ok (.iconst 1, 1) ∧ decode cX10_rings 46 = .ok (.iload_n 3, 1) ∧ decode cX10_rings 47 = .ok (.ishl, 1) ∧ decode cX10_rings 48 = .ok (.ior, 1) ∧ decode cX10_rings 49 = .ok (.istore_n 2, 1) ∧ decode cX10_rings 50 = .ok (.iinc 3 1, 3) ∧ decode cX10_rings 53 = .ok (.goto (-31), 3) ∧ decode cX10_rings 56 = .ok (.iload_n 2, 1) ∧ decode cX10_rings 57 = .ok (.ireturn, 1) := by decide +kernel
theorem dX10_rings_44 : decode cX10_rings 44 = .ok (.iload_n 2, 1) := dX10_rings_all2.1
theorem dX10_rings_45 : decode cX10_rings 45 = .ok (.iconst 1, 1) := dX10_rings_all2.2.1
theorem dX10_rings_46 : decode cX10_rings 46 = .ok (.iload_n 3, 1) := dX10_rings_all2.2.2.1
theorem dX10_rings_47 : decode cX10_rings 47 = .ok (.ishl, 1) := dX10_rings_all2.2.2.2.1
theorem dX10_rings_48 : decode cX10_rings 48 = .ok (.ior, 1) := dX10_rings_all2.2.2.2.2.1
theorem dX10_rings_49 : decode cX10_rings 49 = .ok (.istore_n 2, 1) := dX10_rings_all2.2.2.2.2.2.1
theorem dX10_rings_50 : decode cX10_rings 50 = .ok (.iinc 3 1, 3) := dX10_rings_all2.2.2.2.2.2.2.1
theorem dX10_rings_53 : decode cX10_rings 53 = .ok (.goto (-31), 3) := dX10_rings_all2.2.2.2.2.2.2.2.1
theorem dX10_rings_56 : decode cX10_rings 56 = .ok (.iload_n 2, 1) := dX10_rings_all2.2.2.2.2.2.2.2.2.1
theorem dX10_rings_57 : decode cX10_rings 57 = .ok (.ireturn, 1) := dX10_rings_all2.2.2.2.2.2.2.2.2.2
set_option maxHeartbeats 4000000 in
set_option maxRecDepth 100000 in
theorem ct_X3_shareOf (l : Launch) (D : va_G) (cI cY cJ cQ : ClassId) (sz : Nat) (ad : Nat → Nat) (hn : Int32) (pt ha re : Nat → Int32) (q : Int32) (o : Int32)  (h1 : 0 ≤ q.toInt) (h2 : q.toInt < 10) (h3 : 0 ≤ o.toInt) (h4 : o.toInt < 20) (h5 : okL pt ha re)  : Met l yX3_shareOf wsX3_shareOf ({ frames := 14, cells := 0, slots := 0, locals := 420 }) (cPre D (ty4 cI cY cJ cQ) [(oC3 ad hn), (aI cI (ad 27) 200 pt), (aI cI (ad 29) 20 ha), (aI cI (ad 30) 10 re)] sz [.ref (ad 2), .int q, .int o]) (va_Qi (fun (r : Int32) (u : Unit) => r.toInt = shF (ptF pt) q.toNatClampNeg o.toNatClampNeg) (cB D (ty4 cI cY cJ cQ) (fun (u : Unit) => [(oC3 ad hn), (aI cI (ad 27) 200 pt), (aI cI (ad 29) 20 ha), (aI cI (ad 30) 10 re)]) (va_A [(oC3 ad hn), (aI cI (ad 27) 200 pt), (aI cI (ad 29) 20 ha), (aI cI (ad 30) 10 re)] sz)) (va_A [(oC3 ad hn), (aI cI (ad 27) 200 pt), (aI cI (ad 29) 20 ha), (aI cI (ad 30) 10 re)] sz)) 0 0 (va_A [(oC3 ad hn), (aI cI (ad 27) 200 pt), (aI cI (ad 29) 20 ha), (aI cI (ad 30) 10 re)] sz) := by
  refine Met.ofW (cc := cX3_shareOf) (maxL := 6) (ret := (some .int)) (by decide) rfl ?_
  intro p e s m args below meth c s₁ B hml hv
  obtain ⟨rfl, hsz, hP, hK, hD0, hN⟩ := hv
  have hx := B.exec
  have hb := B.bytes
  have hr := B.returns
  have hts := atoms_spec (ws := wsX3_shareOf) B.pre
  have hown : s.vm.findClass RX3 = some m.cls := findClass_of_methodNamed B.named
  have hlocks := B.notSynchronized
  subst hsz
  have hD := hD0.self (sz := s.heap.size)
  generalize hAe : va_A [(oC3 ad hn), (aI cI (ad 27) 200 pt), (aI cI (ad 29) 20 ha), (aI cI (ad 30) 10 re)] s.heap.size = A at hD ⊢
  have hA : ∀ q : Nat, s.heap.size ≤ q → A q := fun q h => by rw [← hAe]; exact Or.inr h
  have hS : va_S A s.heap s.heap [] := va_S.rf
  have hP : va_P D vwCl [(oC3 ad hn), (aI cI (ad 27) 200 pt), (aI cI (ad 29) 20 ha), (aI cI (ad 30) 10 re)] s.heap := hP
  have hl := lv_entry ([.ref (ad 2), .int q, .int o]) (n := 6) (Nat.le_of_ble_eq_true rfl)
  rw [lg_entry_eq]
  generalize (lg_sl ([.ref (ad 2), .int q, .int o]) ++ List.replicate (6 - (lg_sl ([.ref (ad 2), .int q, .int o])).length) Slot.unset).toArray = ls at hl ⊢
  have hl : lv_has ls 6 [(0, .ref (ad 2)), (1, .int q), (2, .int o)] := hl
  have k0 : (0 : Int32).toInt = 0 := by decide
  have k10 : (10 : Int32).toInt = 10 := by decide
  have k1000000 : (1000000 : Int32).toInt = 1000000 := by decide
  refine lv_iload_n hx hb dX3_shareOf_0 rfl (lv_at hl 2 rfl) ?_
  refine lv_bipush (v := 10) hx hb dX3_shareOf_1 (by decide) ?_
  refine lv_icmp_ge (tgt := 18) hx hb dX3_shareOf_3 (by decide) (fun c1 => ?_) (fun c1 => ?_)
  · skip
    have f2 := i_le c1
    refine lv_iload_n hx hb dX3_shareOf_18 rfl (lv_at hl 2 rfl) ?_
    refine lv_bipush (v := 10) hx hb dX3_shareOf_19 (by decide) ?_
    refine lv_isub hx hb dX3_shareOf_21 ?_
    refine lv_topi (fun v3 ev3 => ?_)
    try have tv3 : v3.toInt = o.toInt - 10 := by rw [ev3]; exact (i_sub (x := o) (y := (10 : Int32)) (by rw [k10]; omega) (by rw [k10]; omega)).trans (by rw [k10])
    refine lv_istore_n (lv' := [(3, .int v3), (0, .ref (ad 2)), (1, .int q), (2, .int o)]) hx hb dX3_shareOf_22 rfl hl (by decide) rfl (fun ls hl => ?_)
    refine lv_aload_n hx hb dX3_shareOf_23 rfl (lv_at hl 1 rfl) ?_
    refine lv_iload_n hx hb dX3_shareOf_24 rfl (lv_at hl 2 rfl) ?_
    refine lv_iload_n hx hb dX3_shareOf_25 rfl (lv_at hl 0 rfl) ?_
    refine lv_ldc hx hb hown (hts (Cond.constant RX3 66 (1000000)) (wm_t (wm_l (wm_i 0 rfl)))) dX3_shareOf_26 ?_
    refine lv_aload_n hx hb dX3_shareOf_28 rfl (lv_at hl 1 rfl) ?_
    refine lv_iload_n hx hb dX3_shareOf_29 rfl (lv_at hl 0 rfl) ?_
    refine st_i1 (va_runV (C := RX3) (As := [.int v3]) (rest := [.int 1000000, .int v3, .int q, .ref (ad 2)]) ⟨hx, hb, hml, hown, hts⟩ (ct_X3_leadingTo l D cI cY cJ cQ _ ad hn re v3 (by omega) (by omega)) (cwV 1 hts gX3_shareOf_X3_leadingTo rfl rfl rfl ⟨rfl, cdX3_leadingTo⟩ ⟨Nat.le_of_ble_eq_true rfl, Nat.le_of_ble_eq_true rfl⟩) (cPreV (hP.sub [0, 3] rfl) hK (hD.sub [0, 3] (by decide +kernel) rfl) hN (ci := 3) (q0 := 0) rfl rfl) rfl rfl hl.1 rfl (lv_room (Nat.le_of_ble_eq_true rfl)) dX3_shareOf_30 ⟨Nat.le_of_ble_eq_true rfl, Nat.le_of_ble_eq_true rfl⟩) hP hD hS hA [0, 3] rfl (fun _ => rfl) (fun r6 u4 H locs hw5 => ?_)
    clear hP hS
    intro hP hS
    replace hw5 : ldQ re v3.toNatClampNeg r6 10 := hw5
    refine lv_iconst (v := 0) hx hb dX3_shareOf_33 (by decide) ?_
    refine st_l (wr := [(aI cI (ad 30) 10 re)]) (va_runS (As := [.ref (ad 2), .int q, .int v3, .int 1000000, .int r6, .int 0]) (rest := []) ⟨hx, hb, hml, hown, hts⟩ (ct_X3_along 11 l D cI cY cJ cQ _ ad hn pt ha q v3 (1000000 : Int32) r6 (0 : Int32) (by omega) (by omega) (by decide) (by first | assumption | exact h5.1) (by decide) (by decide) (by omega) (by decide)) (va_cwS 6 hts gX3_shareOf_X3_along rfl rfl rfl cdX3_along ⟨Nat.le_of_ble_eq_true rfl, Nat.le_of_ble_eq_true rfl⟩) (cPreS (hP.sub [0, 1, 2] rfl) hK (hD.sub [0, 1, 2] (by decide +kernel) rfl) hN) rfl rfl hl.1 rfl (lv_room (Nat.le_of_ble_eq_true rfl)) dX3_shareOf_34 ⟨Nat.le_of_ble_eq_true rfl, Nat.le_of_ble_eq_true rfl⟩) hP hD hS hA [0, 1, 2] [3] rfl rfl (by decide +kernel) (by decide +kernel) (fun r9 u7 H locs hw8 => ?_)
    clear hP hD hS
    intro hP hD hS
    replace hw8 : r9.toInt = alG (ptF pt) v3.toNatClampNeg 11 q.toNatClampNeg (1000000 : Int32).toInt (fun x9 => bt r6 x9) := hw8
    replace hP : va_P D vwCl [(aI cI (ad 30) 10 re), (oC3 ad hn), (aI cI (ad 27) 200 pt), (aI cI (ad 29) 20 ha)] H := hP
    replace hD : va_D A [(aI cI (ad 30) 10 re), (oC3 ad hn), (aI cI (ad 27) 200 pt), (aI cI (ad 29) 20 ha)] := hD
    refine lv_lstore (lv' := [(4, .long r9), (3, .int v3), (0, .ref (ad 2)), (1, .int q), (2, .int o)]) hx hb dX3_shareOf_37 hl (by decide) rfl (fun ls hl => ?_)
    refine lv_lload hx hb dX3_shareOf_39 (lv_at hl 0 rfl) ?_
    refine lv_ldc2 hx hb hown (hts (Cond.constantLong RX3 75 (2000000000)) (wm_t (wm_l (wm_i 1 rfl)))) dX3_shareOf_41 ?_
    refine va_mmin_long hx hb (hml.trans hl.1.symm) hown (hts (Cond.methodLink RX3 77 Lib.MathLoose.min_long.x) (wm_t (wm_l (wm_i 2 rfl)))) (hts (Cond.static Lib.MathLoose.min_long.x) (wm_t (wm_l (wm_i 3 rfl)))) (hts (Cond.initialized "java/lang/Math") (wm_t (wm_l (wm_i 4 rfl)))) (hts (Cond.code Lib.MathLoose.min_long.x Lib.MathLoose.min_long.code 4 (some .long)) (wm_t (wm_l (wm_i 5 rfl)))) (Nat.le_of_ble_eq_true rfl) (Nat.le_of_ble_eq_true rfl) (Nat.le_of_ble_eq_true rfl) (Nat.le_of_ble_eq_true rfl) dX3_shareOf_44 ?_
    refine lv_topl (fun z10 ez10 => ?_)
    refine lv_l2i hx hb dX3_shareOf_47 rfl ?_
    refine lv_topi (fun v11 ev11 => ?_)
    have clc12 := i_cl (x := q) (by omega)
    have clc13 := i_cl (x := o) (by omega)
    have clc14 := i_cl (x := v3) (by omega)
    rw [show v3.toNatClampNeg = o.toNatClampNeg - 10 by omega] at hw8 hw5
    rw [lead_all h5 (by omega) hw5 11 _ (by omega)] at hw8
    have kM9 : (1000000 : Int32).toInt = 1000000 := by decide
    rw [kM9] at hw8
    have kT9 : (2000000000 : Int64).toInt = 2000000000 := by decide
    have hz9 := mn_l ez10
    rw [kT9, hw8] at hz9
    have hb9 := (alG_bd (okA_p h5.1) (o.toNatClampNeg - 10) 11 q.toNatClampNeg 1000000 (fun _ => true) (by omega) (by decide)).1
    have hs9 : z10.toInt = shF (ptF pt) q.toNatClampNeg o.toNatClampNeg := by unfold shF; rw [if_neg (by omega)]; exact hz9
    have hn9 := shF_bd (okA_p h5.1) (q := q.toNatClampNeg) (by omega) o.toNatClampNeg
    have hP9 := hP.sub (ws' := [(oC3 ad hn), (aI cI (ad 27) 200 pt), (aI cI (ad 29) 20 ha), (aI cI (ad 30) 10 re)]) [1, 2, 3, 0] rfl
    have hD9 := hD.sub (ws' := [(oC3 ad hn), (aI cI (ad 27) 200 pt), (aI cI (ad 29) 20 ha), (aI cI (ad 30) 10 re)]) [1, 2, 3, 0] (by decide +kernel) rfl
    exact W.iret (v := v11) hx hb hr (fun t ht hW => ⟨⟨v11, (), rfl, (by show v11.toInt = shF (ptF pt) q.toNatClampNeg o.toNatClampNeg; rw [ev11, Int64.toInt_toInt32, hs9]; exact i_bmod (by omega) (by omega)), by rw [ht]; exact hP9, va_K.moved hW.alike hK, hD9⟩, hS.F ht⟩) hS.2.2 dX3_shareOf_48
  · skip
    have f15 := i_nle c1
    refine lv_iload_n hx hb dX3_shareOf_6 rfl (lv_at hl 2 rfl) ?_
    refine lv_iload_n hx hb dX3_shareOf_7 rfl (lv_at hl 1 rfl) ?_
    refine lv_icmp_ne (tgt := 16) hx hb dX3_shareOf_8 (by decide) (fun c16 => ?_) (fun c16 => ?_)
    · skip
      have f17 := i_ne c16
      refine lv_iconst (v := 0) hx hb dX3_shareOf_16 (by decide) ?_
      have clc18 := i_cl (x := q) (by omega)
      have clc19 := i_cl (x := o) (by omega)
      have hP9 := hP
      have hD9 := hD
      exact W.iret (v := 0) hx hb hr (fun t ht hW => ⟨⟨0, (), rfl, (by unfold shF; rw [if_pos (by omega), if_neg (by omega)]; decide), by rw [ht]; exact hP9, va_K.moved hW.alike hK, hD9⟩, hS.F ht⟩) hS.2.2 dX3_shareOf_17
    · skip
      have f20 := i_eq c16
      refine lv_ldc hx hb hown (hts (Cond.constant RX3 66 (1000000)) (wm_t (wm_l (wm_i 0 rfl)))) dX3_shareOf_11 ?_
      refine lv_goto (tgt := 17) hx hb dX3_shareOf_13 (by decide) ?_
      have clc21 := i_cl (x := q) (by omega)
      have clc22 := i_cl (x := o) (by omega)
      have hP9 := hP
      have hD9 := hD
      exact W.iret (v := 1000000) hx hb hr (fun t ht hW => ⟨⟨1000000, (), rfl, (by unfold shF; rw [if_pos (by omega), if_pos (by omega)]; decide), by rw [ht]; exact hP9, va_K.moved hW.alike hK, hD9⟩, hS.F ht⟩) hS.2.2 dX3_shareOf_17


def sp_share (hn : Int32) (ho hc hp hs : Nat → Int32) (q o d : Int32) : Int := if 0 ≤ q.toInt ∧ q.toInt < 10 ∧ 0 ≤ o.toInt ∧ o.toInt < 20 ∧ 0 ≤ d.toInt ∧ d.toInt < 10000 then shF (ppF ho hc hp hs d hn.toNatClampNeg) q.toNatClampNeg o.toNatClampNeg else -1000001
/-- the person who has most, and how much that is -/
def trV (p : Nat → Nat → Int) (o : Nat) : Nat → Int × Int
  | 0 => (-1000000, 0)
  | n + 1 => if (trV p o n).2 < shF p n o then ((n : Int), shF p n o) else trV p o n
theorem trV_s (p : Nat → Nat → Int) (o n : Nat) : trV p o (n + 1) = if (trV p o n).2 < shF p n o then ((n : Int), shF p n o) else trV p o n := rfl
def sp_truly (hn : Int32) (ho hc hp hs : Nat → Int32) (o d : Int32) : Int := if 0 ≤ o.toInt ∧ o.toInt < 20 ∧ 0 ≤ d.toInt ∧ d.toInt < 10000 then (trV (ppF ho hc hp hs d hn.toNatClampNeg) o.toNatClampNeg 10).1 else -1000001
theorem ptF_pp {pt ps ho hc hp hs : Nat → Int32} {d : Int32} {n : Nat} (h : pcOk pt ps ho hc hp hs d n) : ∀ o c, o < 20 → c < 10 → ptF pt o c = ppF ho hc hp hs d n o c := fun o c h1 h2 => pcOk_at h h1 h2

set_option maxHeartbeats 4000000 in
set_option maxRecDepth 100000 in
theorem ct_X10_share (l : Launch) (D : va_G) (cI cY cJ cQ : ClassId) (sz : Nat) (ad : Nat → Nat) (tn td lf hn : Int32) (ho hc hp hs pt ps ha re : Nat → Int32) (q : Int32) (o : Int32) (d : Int32)  (h1 : 0 ≤ hn.toInt) (h2 : hn.toInt ≤ 40) (h3 : okH hn ho hc) (h4 : okV hn hp)  : Met l yX10_share wsX10_share ({ frames := 15, cells := 0, slots := 0, locals := 445 }) (cPre D (ty4 cI cY cJ cQ) [(oC10 ad tn td lf), (oC3 ad hn), (aI cI (ad 23) 40 ho), (aI cI (ad 24) 40 hc), (aI cI (ad 25) 40 hp), (aI cI (ad 26) 40 hs), (aI cI (ad 27) 200 pt), (aI cI (ad 28) 200 ps), (aI cI (ad 29) 20 ha), (aI cI (ad 30) 10 re)] sz [.ref (ad 0), .int q, .int o, .int d]) (va_Qi (fun (r : Int32) (u : (Nat → Int32) × (Nat → Int32) × (Nat → Int32) × (Nat → Int32)) => r.toInt = sp_share hn ho hc hp hs q o d) (cB D (ty4 cI cY cJ cQ) (fun (u : (Nat → Int32) × (Nat → Int32) × (Nat → Int32) × (Nat → Int32)) => [(oC10 ad tn td lf), (oC3 ad hn), (aI cI (ad 23) 40 ho), (aI cI (ad 24) 40 hc), (aI cI (ad 25) 40 hp), (aI cI (ad 26) 40 hs), (aI cI (ad 27) 200 u.1), (aI cI (ad 28) 200 u.2.1), (aI cI (ad 29) 20 u.2.2.1), (aI cI (ad 30) 10 u.2.2.2)]) (va_A [(oC10 ad tn td lf), (oC3 ad hn), (aI cI (ad 23) 40 ho), (aI cI (ad 24) 40 hc), (aI cI (ad 25) 40 hp), (aI cI (ad 26) 40 hs), (aI cI (ad 27) 200 pt), (aI cI (ad 28) 200 ps), (aI cI (ad 29) 20 ha), (aI cI (ad 30) 10 re)] sz)) (va_A [(oC10 ad tn td lf), (oC3 ad hn), (aI cI (ad 23) 40 ho), (aI cI (ad 24) 40 hc), (aI cI (ad 25) 40 hp), (aI cI (ad 26) 40 hs), (aI cI (ad 27) 200 pt), (aI cI (ad 28) 200 ps), (aI cI (ad 29) 20 ha), (aI cI (ad 30) 10 re)] sz)) 0 0 (va_A [(oC10 ad tn td lf), (oC3 ad hn), (aI cI (ad 23) 40 ho), (aI cI (ad 24) 40 hc), (aI cI (ad 25) 40 hp), (aI cI (ad 26) 40 hs), (aI cI (ad 27) 200 pt), (aI cI (ad 28) 200 ps), (aI cI (ad 29) 20 ha), (aI cI (ad 30) 10 re)] sz) := by
  refine Met.ofW (cc := cX10_share) (maxL := 4) (ret := (some .int)) (by decide) rfl ?_
  intro p e s m args below meth c s₁ B hml hv
  obtain ⟨rfl, hsz, hP, hK, hD0, hN⟩ := hv
  have hx := B.exec
  have hb := B.bytes
  have hr := B.returns
  have hts := atoms_spec (ws := wsX10_share) B.pre
  have hown : s.vm.findClass RX10 = some m.cls := findClass_of_methodNamed B.named
  have hlocks := B.notSynchronized
  subst hsz
  have hD := hD0.self (sz := s.heap.size)
  generalize hAe : va_A [(oC10 ad tn td lf), (oC3 ad hn), (aI cI (ad 23) 40 ho), (aI cI (ad 24) 40 hc), (aI cI (ad 25) 40 hp), (aI cI (ad 26) 40 hs), (aI cI (ad 27) 200 pt), (aI cI (ad 28) 200 ps), (aI cI (ad 29) 20 ha), (aI cI (ad 30) 10 re)] s.heap.size = A at hD ⊢
  have hA : ∀ q : Nat, s.heap.size ≤ q → A q := fun q h => by rw [← hAe]; exact Or.inr h
  have hS : va_S A s.heap s.heap [] := va_S.rf
  have hP : va_P D vwCl [(oC10 ad tn td lf), (oC3 ad hn), (aI cI (ad 23) 40 ho), (aI cI (ad 24) 40 hc), (aI cI (ad 25) 40 hp), (aI cI (ad 26) 40 hs), (aI cI (ad 27) 200 pt), (aI cI (ad 28) 200 ps), (aI cI (ad 29) 20 ha), (aI cI (ad 30) 10 re)] s.heap := hP
  have hl := lv_entry ([.ref (ad 0), .int q, .int o, .int d]) (n := 4) (Nat.le_of_ble_eq_true rfl)
  rw [lg_entry_eq]
  generalize (lg_sl ([.ref (ad 0), .int q, .int o, .int d]) ++ List.replicate (4 - (lg_sl ([.ref (ad 0), .int q, .int o, .int d])).length) Slot.unset).toArray = ls at hl ⊢
  have hl : lv_has ls 4 [(0, .ref (ad 0)), (1, .int q), (2, .int o), (3, .int d)] := hl
  have km1000001 : (-1000001 : Int32).toInt = -1000001 := by decide
  have k0 : (0 : Int32).toInt = 0 := by decide
  refine lv_iload_n hx hb dX10_share_0 rfl (lv_at hl 1 rfl) ?_
  refine st_i1 (va_runS (As := [.int q]) (rest := []) ⟨hx, hb, hml, hown, hts⟩ (ct_X10_isPerson l D cI cY cJ cQ _ q) (va_cwS 1 hts gX10_share_X10_isPerson rfl rfl rfl cdX10_isPerson ⟨Nat.le_of_ble_eq_true rfl, Nat.le_of_ble_eq_true rfl⟩) (cPreS (hP.sub [] rfl) hK (hD.sub [] (by decide +kernel) rfl) hN) rfl rfl hl.1 rfl (lv_room (Nat.le_of_ble_eq_true rfl)) dX10_share_1 ⟨Nat.le_of_ble_eq_true rfl, Nat.le_of_ble_eq_true rfl⟩) hP hD hS hA [] rfl (fun _ => rfl) (fun r3 u1 H locs hw2 => ?_)
  clear hP hS
  intro hP hS
  replace hw2 : r3 = if 0 ≤ q.toInt ∧ q.toInt < 10 then 1 else 0 := hw2
  refine lv_if_eq (tgt := 21) hx hb dX10_share_4 (by decide) (fun c4 => ?_) (fun c4 => ?_)
  · skip
    have f5 := bo_f hw2 c4
    refine lv_ldc hx hb hown (hts (Cond.constant RX10 89 (-1000001)) (wm_t (wm_l (wm_i 0 rfl)))) dX10_share_21 ?_
    have hP9 := hP
    have hD9 := hD
    exact W.iret (v := (-1000001)) hx hb hr (fun t ht hW => ⟨⟨(-1000001), (pt, ps, ha, re), rfl, (by unfold sp_share; rw [if_neg (by omega)]; omega), by rw [ht]; exact hP9, va_K.moved hW.alike hK, hD9⟩, hS.F ht⟩) hS.2.2 dX10_share_23
  · skip
    have f6 := bo_t hw2 c4
    refine lv_iload_n hx hb dX10_share_7 rfl (lv_at hl 2 rfl) ?_
    refine st_i1 (va_runS (As := [.int o]) (rest := []) ⟨hx, hb, hml, hown, hts⟩ (ct_X10_isOwner l D cI cY cJ cQ _ o) (va_cwS 1 hts gX10_share_X10_isOwner rfl rfl rfl cdX10_isOwner ⟨Nat.le_of_ble_eq_true rfl, Nat.le_of_ble_eq_true rfl⟩) (cPreS (hP.sub [] rfl) hK (hD.sub [] (by decide +kernel) rfl) hN) rfl rfl hl.1 rfl (lv_room (Nat.le_of_ble_eq_true rfl)) dX10_share_8 ⟨Nat.le_of_ble_eq_true rfl, Nat.le_of_ble_eq_true rfl⟩) hP hD hS hA [] rfl (fun _ => rfl) (fun r9 u7 H locs hw8 => ?_)
    clear hP hS
    intro hP hS
    replace hw8 : r9 = if 0 ≤ o.toInt ∧ o.toInt < 20 then 1 else 0 := hw8
    refine lv_if_eq (tgt := 21) hx hb dX10_share_11 (by decide) (fun c10 => ?_) (fun c10 => ?_)
    · skip
      have f11 := bo_f hw8 c10
      refine lv_ldc hx hb hown (hts (Cond.constant RX10 89 (-1000001)) (wm_t (wm_l (wm_i 0 rfl)))) dX10_share_21 ?_
      have hP9 := hP
      have hD9 := hD
      exact W.iret (v := (-1000001)) hx hb hr (fun t ht hW => ⟨⟨(-1000001), (pt, ps, ha, re), rfl, (by unfold sp_share; rw [if_neg (by omega)]; omega), by rw [ht]; exact hP9, va_K.moved hW.alike hK, hD9⟩, hS.F ht⟩) hS.2.2 dX10_share_23
    · skip
      have f12 := bo_t hw8 c10
      refine lv_iload_n hx hb dX10_share_14 rfl (lv_at hl 3 rfl) ?_
      refine st_i1 (va_runS (As := [.int d]) (rest := []) ⟨hx, hb, hml, hown, hts⟩ (ct_X10_isDay l D cI cY cJ cQ _ d) (va_cwS 1 hts gX10_share_X10_isDay rfl rfl rfl cdX10_isDay ⟨Nat.le_of_ble_eq_true rfl, Nat.le_of_ble_eq_true rfl⟩) (cPreS (hP.sub [] rfl) hK (hD.sub [] (by decide +kernel) rfl) hN) rfl rfl hl.1 rfl (lv_room (Nat.le_of_ble_eq_true rfl)) dX10_share_15 ⟨Nat.le_of_ble_eq_true rfl, Nat.le_of_ble_eq_true rfl⟩) hP hD hS hA [] rfl (fun _ => rfl) (fun r15 u13 H locs hw14 => ?_)
      clear hP hS
      intro hP hS
      replace hw14 : r15 = if 0 ≤ d.toInt ∧ d.toInt < 10000 then 1 else 0 := hw14
      refine lv_if_ne (tgt := 24) hx hb dX10_share_18 (by decide) (fun c16 => ?_) (fun c16 => ?_)
      · skip
        have f17 := bo_t hw14 c16
        refine lv_aload_n hx hb dX10_share_24 rfl (lv_at hl 0 rfl) ?_
        refine va_get (D := D) (ci := 10) (v := .ref (ad 2)) (C := RX10) (T := TX10) (N := 14) hx hb hts inX10_share_X10 hown hK hP 0 rfl rfl 1 (by decide) (hts (Cond.fieldLink RX10 19 "PortRooms" "holdings" "LPortRooms$Holdings;") (wm_t (wm_l (wm_i 1 rfl)))) (fun _ h9 => h9) rfl dX10_share_25 ?_
        refine lv_iload_n hx hb dX10_share_28 rfl (lv_at hl 3 rfl) ?_
        refine st_v (wr := [(oC10 ad tn td lf)]) (va_runV (C := RX3) (As := [.int d]) (rest := []) ⟨hx, hb, hml, hown, hts⟩ (ct_X3_lookAt l D cI cY cJ cQ _ ad hn ho hc hp hs pt ps ha re d h1 h2 h3 h4) (cwV 1 hts gX10_share_X3_lookAt rfl rfl rfl ⟨rfl, cdX3_lookAt⟩ ⟨Nat.le_of_ble_eq_true rfl, Nat.le_of_ble_eq_true rfl⟩) (cPreV (hP.sub [1, 2, 3, 4, 5, 6, 7, 8, 9] rfl) hK (hD.sub [1, 2, 3, 4, 5, 6, 7, 8, 9] (by decide +kernel) rfl) hN (ci := 3) (q0 := 0) rfl rfl) rfl rfl hl.1 rfl (lv_room (Nat.le_of_ble_eq_true rfl)) dX10_share_29 ⟨Nat.le_of_ble_eq_true rfl, Nat.le_of_ble_eq_true rfl⟩) hP hD hS hA [1, 2, 3, 4, 5, 6, 7, 8, 9] [0] rfl rfl (by decide +kernel) (by decide +kernel) (fun u18 H locs hw19 => ?_)
        clear hP hD hS
        intro hP hD hS
        obtain ⟨pt_21, ps_22, ha_23, re_24⟩ := u18
        replace hw19 : pcOk pt_21 ps_22 ho hc hp hs d hn.toNatClampNeg ∧ okL pt_21 ha_23 re_24 := hw19
        replace hP : va_P D vwCl [(oC10 ad tn td lf), (oC3 ad hn), (aI cI (ad 23) 40 ho), (aI cI (ad 24) 40 hc), (aI cI (ad 25) 40 hp), (aI cI (ad 26) 40 hs), (aI cI (ad 27) 200 pt_21), (aI cI (ad 28) 200 ps_22), (aI cI (ad 29) 20 ha_23), (aI cI (ad 30) 10 re_24)] H := hP
        replace hD : va_D A [(oC10 ad tn td lf), (oC3 ad hn), (aI cI (ad 23) 40 ho), (aI cI (ad 24) 40 hc), (aI cI (ad 25) 40 hp), (aI cI (ad 26) 40 hs), (aI cI (ad 27) 200 pt_21), (aI cI (ad 28) 200 ps_22), (aI cI (ad 29) 20 ha_23), (aI cI (ad 30) 10 re_24)] := hD
        obtain ⟨hw19, hw19L⟩ := hw19
        refine lv_aload_n hx hb dX10_share_32 rfl (lv_at hl 0 rfl) ?_
        refine va_get (D := D) (ci := 10) (v := .ref (ad 2)) (C := RX10) (T := TX10) (N := 14) hx hb hts inX10_share_X10 hown hK hP 0 rfl rfl 1 (by decide) (hts (Cond.fieldLink RX10 19 "PortRooms" "holdings" "LPortRooms$Holdings;") (wm_t (wm_l (wm_i 1 rfl)))) (fun _ h9 => h9) rfl dX10_share_33 ?_
        refine lv_iload_n hx hb dX10_share_36 rfl (lv_at hl 1 rfl) ?_
        refine lv_iload_n hx hb dX10_share_37 rfl (lv_at hl 2 rfl) ?_
        refine st_i1 (va_runV (C := RX3) (As := [.int q, .int o]) (rest := []) ⟨hx, hb, hml, hown, hts⟩ (ct_X3_shareOf l D cI cY cJ cQ _ ad hn pt_21 ha_23 re_24 q o (by omega) (by omega) (by omega) (by omega) (by assumption)) (cwV 2 hts gX10_share_X3_shareOf rfl rfl rfl ⟨rfl, cdX3_shareOf⟩ ⟨Nat.le_of_ble_eq_true rfl, Nat.le_of_ble_eq_true rfl⟩) (cPreV (hP.sub [1, 6, 8, 9] rfl) hK (hD.sub [1, 6, 8, 9] (by decide +kernel) rfl) hN (ci := 3) (q0 := 0) rfl rfl) rfl rfl hl.1 rfl (lv_room (Nat.le_of_ble_eq_true rfl)) dX10_share_38 ⟨Nat.le_of_ble_eq_true rfl, Nat.le_of_ble_eq_true rfl⟩) hP hD hS hA [1, 6, 8, 9] rfl (fun _ => rfl) (fun r27 u25 H locs hw26 => ?_)
        clear hP hS
        intro hP hS
        replace hw26 : r27.toInt = shF (ptF pt_21) q.toNatClampNeg o.toNatClampNeg := hw26
        have hP9 := hP
        have hD9 := hD
        exact W.iret (v := r27) hx hb hr (fun t ht hW => ⟨⟨r27, (pt_21, ps_22, ha_23, re_24), rfl, (by show r27.toInt = sp_share hn ho hc hp hs q o d; unfold sp_share; rw [if_pos (by omega), hw26]; exact shF_c (ptF_pp hw19) (by have := i_cl (x := q) (by omega); omega) _), by rw [ht]; exact hP9, va_K.moved hW.alike hK, hD9⟩, hS.F ht⟩) hS.2.2 dX10_share_41
      · skip
        have f28 := bo_f hw14 c16
        refine lv_ldc hx hb hown (hts (Cond.constant RX10 89 (-1000001)) (wm_t (wm_l (wm_i 0 rfl)))) dX10_share_21 ?_
        have hP9 := hP
        have hD9 := hD
        exact W.iret (v := (-1000001)) hx hb hr (fun t ht hW => ⟨⟨(-1000001), (pt, ps, ha, re), rfl, (by unfold sp_share; rw [if_neg (by omega)]; omega), by rw [ht]; exact hP9, va_K.moved hW.alike hK, hD9⟩, hS.F ht⟩) hS.2.2 dX10_share_23

set_option maxHeartbeats 4000000 in
set_option maxRecDepth 100000 in
theorem ct_X10_truly (l : Launch) (D : va_G) (cI cY cJ cQ : ClassId) (sz : Nat) (ad : Nat → Nat) (tn td lf hn : Int32) (ho hc hp hs pt ps ha re : Nat → Int32) (o : Int32) (d : Int32)  (h1 : 0 ≤ hn.toInt) (h2 : hn.toInt ≤ 40) (h3 : okH hn ho hc) (h4 : okV hn hp)  : Met l yX10_truly wsX10_truly ({ frames := 15, cells := 0, slots := 0, locals := 445 }) (cPre D (ty4 cI cY cJ cQ) [(oC10 ad tn td lf), (oC3 ad hn), (aI cI (ad 23) 40 ho), (aI cI (ad 24) 40 hc), (aI cI (ad 25) 40 hp), (aI cI (ad 26) 40 hs), (aI cI (ad 27) 200 pt), (aI cI (ad 28) 200 ps), (aI cI (ad 29) 20 ha), (aI cI (ad 30) 10 re)] sz [.ref (ad 0), .int o, .int d]) (va_Qi (fun (r : Int32) (u : (Nat → Int32) × (Nat → Int32) × (Nat → Int32) × (Nat → Int32)) => r.toInt = sp_truly hn ho hc hp hs o d) (cB D (ty4 cI cY cJ cQ) (fun (u : (Nat → Int32) × (Nat → Int32) × (Nat → Int32) × (Nat → Int32)) => [(oC10 ad tn td lf), (oC3 ad hn), (aI cI (ad 23) 40 ho), (aI cI (ad 24) 40 hc), (aI cI (ad 25) 40 hp), (aI cI (ad 26) 40 hs), (aI cI (ad 27) 200 u.1), (aI cI (ad 28) 200 u.2.1), (aI cI (ad 29) 20 u.2.2.1), (aI cI (ad 30) 10 u.2.2.2)]) (va_A [(oC10 ad tn td lf), (oC3 ad hn), (aI cI (ad 23) 40 ho), (aI cI (ad 24) 40 hc), (aI cI (ad 25) 40 hp), (aI cI (ad 26) 40 hs), (aI cI (ad 27) 200 pt), (aI cI (ad 28) 200 ps), (aI cI (ad 29) 20 ha), (aI cI (ad 30) 10 re)] sz)) (va_A [(oC10 ad tn td lf), (oC3 ad hn), (aI cI (ad 23) 40 ho), (aI cI (ad 24) 40 hc), (aI cI (ad 25) 40 hp), (aI cI (ad 26) 40 hs), (aI cI (ad 27) 200 pt), (aI cI (ad 28) 200 ps), (aI cI (ad 29) 20 ha), (aI cI (ad 30) 10 re)] sz)) 0 0 (va_A [(oC10 ad tn td lf), (oC3 ad hn), (aI cI (ad 23) 40 ho), (aI cI (ad 24) 40 hc), (aI cI (ad 25) 40 hp), (aI cI (ad 26) 40 hs), (aI cI (ad 27) 200 pt), (aI cI (ad 28) 200 ps), (aI cI (ad 29) 20 ha), (aI cI (ad 30) 10 re)] sz) := by
  refine Met.ofW (cc := cX10_truly) (maxL := 7) (ret := (some .int)) (by decide) rfl ?_
  intro p e s m args below meth c s₁ B hml hv
  obtain ⟨rfl, hsz, hP, hK, hD0, hN⟩ := hv
  have hx := B.exec
  have hb := B.bytes
  have hr := B.returns
  have hts := atoms_spec (ws := wsX10_truly) B.pre
  have hown : s.vm.findClass RX10 = some m.cls := findClass_of_methodNamed B.named
  have hlocks := B.notSynchronized
  subst hsz
  have hD := hD0.self (sz := s.heap.size)
  generalize hAe : va_A [(oC10 ad tn td lf), (oC3 ad hn), (aI cI (ad 23) 40 ho), (aI cI (ad 24) 40 hc), (aI cI (ad 25) 40 hp), (aI cI (ad 26) 40 hs), (aI cI (ad 27) 200 pt), (aI cI (ad 28) 200 ps), (aI cI (ad 29) 20 ha), (aI cI (ad 30) 10 re)] s.heap.size = A at hD ⊢
  have hA : ∀ q : Nat, s.heap.size ≤ q → A q := fun q h => by rw [← hAe]; exact Or.inr h
  have hS : va_S A s.heap s.heap [] := va_S.rf
  have hP : va_P D vwCl [(oC10 ad tn td lf), (oC3 ad hn), (aI cI (ad 23) 40 ho), (aI cI (ad 24) 40 hc), (aI cI (ad 25) 40 hp), (aI cI (ad 26) 40 hs), (aI cI (ad 27) 200 pt), (aI cI (ad 28) 200 ps), (aI cI (ad 29) 20 ha), (aI cI (ad 30) 10 re)] s.heap := hP
  have hl := lv_entry ([.ref (ad 0), .int o, .int d]) (n := 7) (Nat.le_of_ble_eq_true rfl)
  rw [lg_entry_eq]
  generalize (lg_sl ([.ref (ad 0), .int o, .int d]) ++ List.replicate (7 - (lg_sl ([.ref (ad 0), .int o, .int d])).length) Slot.unset).toArray = ls at hl ⊢
  have hl : lv_has ls 7 [(0, .ref (ad 0)), (1, .int o), (2, .int d)] := hl
  have km1000001 : (-1000001 : Int32).toInt = -1000001 := by decide
  have km1000000 : (-1000000 : Int32).toInt = -1000000 := by decide
  have k0 : (0 : Int32).toInt = 0 := by decide
  have k1 : (1 : Int32).toInt = 1 := by decide
  have k10 : (10 : Int32).toInt = 10 := by decide
  refine lv_iload_n hx hb dX10_truly_0 rfl (lv_at hl 1 rfl) ?_
  refine st_i1 (va_runS (As := [.int o]) (rest := []) ⟨hx, hb, hml, hown, hts⟩ (ct_X10_isOwner l D cI cY cJ cQ _ o) (va_cwS 1 hts gX10_truly_X10_isOwner rfl rfl rfl cdX10_isOwner ⟨Nat.le_of_ble_eq_true rfl, Nat.le_of_ble_eq_true rfl⟩) (cPreS (hP.sub [] rfl) hK (hD.sub [] (by decide +kernel) rfl) hN) rfl rfl hl.1 rfl (lv_room (Nat.le_of_ble_eq_true rfl)) dX10_truly_1 ⟨Nat.le_of_ble_eq_true rfl, Nat.le_of_ble_eq_true rfl⟩) hP hD hS hA [] rfl (fun _ => rfl) (fun r3 u1 H locs hw2 => ?_)
  clear hP hS
  intro hP hS
  replace hw2 : r3 = if 0 ≤ o.toInt ∧ o.toInt < 20 then 1 else 0 := hw2
  refine lv_if_eq (tgt := 14) hx hb dX10_truly_4 (by decide) (fun c4 => ?_) (fun c4 => ?_)
  · skip
    have f5 := bo_f hw2 c4
    refine lv_ldc hx hb hown (hts (Cond.constant RX10 89 (-1000001)) (wm_t (wm_l (wm_i 0 rfl)))) dX10_truly_14 ?_
    have hP9 := hP
    have hD9 := hD
    exact W.iret (v := (-1000001)) hx hb hr (fun t ht hW => ⟨⟨(-1000001), (pt, ps, ha, re), rfl, (by unfold sp_truly; rw [if_neg (by omega)]; omega), by rw [ht]; exact hP9, va_K.moved hW.alike hK, hD9⟩, hS.F ht⟩) hS.2.2 dX10_truly_16
  · skip
    have f6 := bo_t hw2 c4
    refine lv_iload_n hx hb dX10_truly_7 rfl (lv_at hl 2 rfl) ?_
    refine st_i1 (va_runS (As := [.int d]) (rest := []) ⟨hx, hb, hml, hown, hts⟩ (ct_X10_isDay l D cI cY cJ cQ _ d) (va_cwS 1 hts gX10_truly_X10_isDay rfl rfl rfl cdX10_isDay ⟨Nat.le_of_ble_eq_true rfl, Nat.le_of_ble_eq_true rfl⟩) (cPreS (hP.sub [] rfl) hK (hD.sub [] (by decide +kernel) rfl) hN) rfl rfl hl.1 rfl (lv_room (Nat.le_of_ble_eq_true rfl)) dX10_truly_8 ⟨Nat.le_of_ble_eq_true rfl, Nat.le_of_ble_eq_true rfl⟩) hP hD hS hA [] rfl (fun _ => rfl) (fun r9 u7 H locs hw8 => ?_)
    clear hP hS
    intro hP hS
    replace hw8 : r9 = if 0 ≤ d.toInt ∧ d.toInt < 10000 then 1 else 0 := hw8
    refine lv_if_ne (tgt := 17) hx hb dX10_truly_11 (by decide) (fun c10 => ?_) (fun c10 => ?_)
    · skip
      have f11 := bo_t hw8 c10
      refine lv_aload_n hx hb dX10_truly_17 rfl (lv_at hl 0 rfl) ?_
      refine va_get (D := D) (ci := 10) (v := .ref (ad 2)) (C := RX10) (T := TX10) (N := 14) hx hb hts inX10_truly_X10 hown hK hP 0 rfl rfl 1 (by decide) (hts (Cond.fieldLink RX10 19 "PortRooms" "holdings" "LPortRooms$Holdings;") (wm_t (wm_l (wm_i 1 rfl)))) (fun _ h9 => h9) rfl dX10_truly_18 ?_
      refine lv_iload_n hx hb dX10_truly_21 rfl (lv_at hl 2 rfl) ?_
      refine st_v (wr := [(oC10 ad tn td lf)]) (va_runV (C := RX3) (As := [.int d]) (rest := []) ⟨hx, hb, hml, hown, hts⟩ (ct_X3_lookAt l D cI cY cJ cQ _ ad hn ho hc hp hs pt ps ha re d h1 h2 h3 h4) (cwV 1 hts gX10_truly_X3_lookAt rfl rfl rfl ⟨rfl, cdX3_lookAt⟩ ⟨Nat.le_of_ble_eq_true rfl, Nat.le_of_ble_eq_true rfl⟩) (cPreV (hP.sub [1, 2, 3, 4, 5, 6, 7, 8, 9] rfl) hK (hD.sub [1, 2, 3, 4, 5, 6, 7, 8, 9] (by decide +kernel) rfl) hN (ci := 3) (q0 := 0) rfl rfl) rfl rfl hl.1 rfl (lv_room (Nat.le_of_ble_eq_true rfl)) dX10_truly_22 ⟨Nat.le_of_ble_eq_true rfl, Nat.le_of_ble_eq_true rfl⟩) hP hD hS hA [1, 2, 3, 4, 5, 6, 7, 8, 9] [0] rfl rfl (by decide +kernel) (by decide +kernel) (fun u12 H locs hw13 => ?_)
      clear hP hD hS
      intro hP hD hS
      obtain ⟨pt_15, ps_16, ha_17, re_18⟩ := u12
      replace hw13 : pcOk pt_15 ps_16 ho hc hp hs d hn.toNatClampNeg ∧ okL pt_15 ha_17 re_18 := hw13
      replace hP : va_P D vwCl [(oC10 ad tn td lf), (oC3 ad hn), (aI cI (ad 23) 40 ho), (aI cI (ad 24) 40 hc), (aI cI (ad 25) 40 hp), (aI cI (ad 26) 40 hs), (aI cI (ad 27) 200 pt_15), (aI cI (ad 28) 200 ps_16), (aI cI (ad 29) 20 ha_17), (aI cI (ad 30) 10 re_18)] H := hP
      replace hD : va_D A [(oC10 ad tn td lf), (oC3 ad hn), (aI cI (ad 23) 40 ho), (aI cI (ad 24) 40 hc), (aI cI (ad 25) 40 hp), (aI cI (ad 26) 40 hs), (aI cI (ad 27) 200 pt_15), (aI cI (ad 28) 200 ps_16), (aI cI (ad 29) 20 ha_17), (aI cI (ad 30) 10 re_18)] := hD
      obtain ⟨hw13, hw13L⟩ := hw13
      refine lv_ldc hx hb hown (hts (Cond.constant RX10 169 (-1000000)) (wm_t (wm_l (wm_i 2 rfl)))) dX10_truly_25 ?_
      refine lv_istore_n (lv' := [(3, .int (-1000000)), (0, .ref (ad 0)), (1, .int o), (2, .int d)]) hx hb dX10_truly_27 rfl hl (by decide) rfl (fun ls hl => ?_)
      refine lv_iconst (v := 0) hx hb dX10_truly_28 (by decide) ?_
      refine lv_istore (lv' := [(4, .int 0), (3, .int (-1000000)), (0, .ref (ad 0)), (1, .int o), (2, .int d)]) hx hb dX10_truly_29 hl (by decide) rfl (fun ls hl => ?_)
      refine lv_iconst (v := 0) hx hb dX10_truly_31 (by decide) ?_
      refine lv_istore (lv' := [(5, .int 0), (4, .int 0), (3, .int (-1000000)), (0, .ref (ad 0)), (1, .int o), (2, .int d)]) hx hb dX10_truly_32 hl (by decide) rfl (fun ls hl => ?_)
      refine st_loop 34 (fun _ => []) (fun (z : Int32 × Int32 × Int32) (ls : Array Slot) (H : Heap) (locs : List Loc) => match z with | (q34_3, q34_4, q34_5) => (0 ≤ q34_5.toInt) ∧ (q34_5.toInt ≤ 10) ∧ ((q34_3.toInt, q34_4.toInt) = trV (ppF ho hc hp hs d hn.toNatClampNeg) o.toNatClampNeg q34_5.toNatClampNeg) ∧ lv_has ls 7 [(0, .ref (ad 0)), (1, .int o), (2, .int d), (3, .int q34_3), (4, .int q34_4), (5, .int q34_5)] ∧ va_P D vwCl [(oC10 ad tn td lf), (oC3 ad hn), (aI cI (ad 23) 40 ho), (aI cI (ad 24) 40 hc), (aI cI (ad 25) 40 hp), (aI cI (ad 26) 40 hs), (aI cI (ad 27) 200 pt_15), (aI cI (ad 28) 200 ps_16), (aI cI (ad 29) 20 ha_17), (aI cI (ad 30) 10 re_18)] H ∧ va_D A [(oC10 ad tn td lf), (oC3 ad hn), (aI cI (ad 23) 40 ho), (aI cI (ad 24) 40 hc), (aI cI (ad 25) 40 hp), (aI cI (ad 26) 40 hs), (aI cI (ad 27) 200 pt_15), (aI cI (ad 28) 200 ps_16), (aI cI (ad 29) 20 ha_17), (aI cI (ad 30) 10 re_18)] ∧ va_S A s.heap H locs) (fun (z : Int32 × Int32 × Int32) => match z with | (q34_3, q34_4, q34_5) => 10 - q34_5.toInt) ?_ ?_ (((-1000000) : Int32), (0 : Int32), (0 : Int32)) ⟨(by omega), (by omega), (by rfl), lv_sub hl [3, 4, 5, 2, 1, 0] rfl, hP, hD, hS⟩
      · rintro ⟨q34_3, q34_4, q34_5⟩ ls H locs ⟨g19, g20, g21, hl, hP, hD, hS⟩
        show (0 : Int) ≤ 10 - q34_5.toInt
        omega
      · rintro n24 ih22 ⟨q34_3, q34_4, q34_5⟩ ls H locs ⟨g19, g20, g21, hl, hP, hD, hS⟩ hm23
        have hm23 : 10 - q34_5.toInt < (n24 : Int) + 1 := hm23
        replace hl : lv_has ls 7 [(0, .ref (ad 0)), (1, .int o), (2, .int d), (3, .int q34_3), (4, .int q34_4), (5, .int q34_5)] := hl
        replace hP : va_P D vwCl [(oC10 ad tn td lf), (oC3 ad hn), (aI cI (ad 23) 40 ho), (aI cI (ad 24) 40 hc), (aI cI (ad 25) 40 hp), (aI cI (ad 26) 40 hs), (aI cI (ad 27) 200 pt_15), (aI cI (ad 28) 200 ps_16), (aI cI (ad 29) 20 ha_17), (aI cI (ad 30) 10 re_18)] H := hP
        replace hD : va_D A [(oC10 ad tn td lf), (oC3 ad hn), (aI cI (ad 23) 40 ho), (aI cI (ad 24) 40 hc), (aI cI (ad 25) 40 hp), (aI cI (ad 26) 40 hs), (aI cI (ad 27) 200 pt_15), (aI cI (ad 28) 200 ps_16), (aI cI (ad 29) 20 ha_17), (aI cI (ad 30) 10 re_18)] := hD
        show W _ _ _ _ _ _ _ _ _ _ _ _ _ _ _ (F0 m 34 ls [])
        refine lv_iload hx hb dX10_truly_34 (lv_at hl 5 rfl) ?_
        refine lv_bipush (v := 10) hx hb dX10_truly_36 (by decide) ?_
        refine lv_icmp_ge (tgt := 73) hx hb dX10_truly_38 (by decide) (fun c25 => ?_) (fun c25 => ?_)
        · skip
          have f26 := i_le c25
          refine lv_iload_n hx hb dX10_truly_73 rfl (lv_at hl 3 rfl) ?_
          have ce9 := i_cl (x := q34_5) (by omega)
          have hz9 := g21
          rw [show q34_5.toNatClampNeg = 10 by omega] at hz9
          have hP9 := hP
          have hD9 := hD
          exact W.iret (v := q34_3) hx hb hr (fun t ht hW => ⟨⟨q34_3, (pt_15, ps_16, ha_17, re_18), rfl, (by unfold sp_truly; rw [if_pos (by omega), ← hz9]), by rw [ht]; exact hP9, va_K.moved hW.alike hK, hD9⟩, hS.F ht⟩) hS.2.2 dX10_truly_74
        · skip
          have f27 := i_nle c25
          refine lv_aload_n hx hb dX10_truly_41 rfl (lv_at hl 0 rfl) ?_
          refine va_get (D := D) (ci := 10) (v := .ref (ad 2)) (C := RX10) (T := TX10) (N := 14) hx hb hts inX10_truly_X10 hown hK hP 0 rfl rfl 1 (by decide) (hts (Cond.fieldLink RX10 19 "PortRooms" "holdings" "LPortRooms$Holdings;") (wm_t (wm_l (wm_i 1 rfl)))) (fun _ h9 => h9) rfl dX10_truly_42 ?_
          refine lv_iload hx hb dX10_truly_45 (lv_at hl 5 rfl) ?_
          refine lv_iload_n hx hb dX10_truly_47 rfl (lv_at hl 1 rfl) ?_
          refine st_i1 (va_runV (C := RX3) (As := [.int q34_5, .int o]) (rest := []) ⟨hx, hb, hml, hown, hts⟩ (ct_X3_shareOf l D cI cY cJ cQ _ ad hn pt_15 ha_17 re_18 q34_5 o (by omega) (by omega) (by omega) (by omega) (by assumption)) (cwV 2 hts gX10_truly_X3_shareOf rfl rfl rfl ⟨rfl, cdX3_shareOf⟩ ⟨Nat.le_of_ble_eq_true rfl, Nat.le_of_ble_eq_true rfl⟩) (cPreV (hP.sub [1, 6, 8, 9] rfl) hK (hD.sub [1, 6, 8, 9] (by decide +kernel) rfl) hN (ci := 3) (q0 := 0) rfl rfl) rfl rfl hl.1 rfl (lv_room (Nat.le_of_ble_eq_true rfl)) dX10_truly_48 ⟨Nat.le_of_ble_eq_true rfl, Nat.le_of_ble_eq_true rfl⟩) hP hD hS hA [1, 6, 8, 9] rfl (fun _ => rfl) (fun r30 u28 H locs hw29 => ?_)
          clear hP hS
          intro hP hS
          replace hw29 : r30.toInt = shF (ptF pt_15) q34_5.toNatClampNeg o.toNatClampNeg := hw29
          refine lv_istore (lv' := [(6, .int r30), (0, .ref (ad 0)), (1, .int o), (2, .int d), (3, .int q34_3), (4, .int q34_4), (5, .int q34_5)]) hx hb dX10_truly_51 hl (by decide) rfl (fun ls hl => ?_)
          refine lv_iload hx hb dX10_truly_53 (lv_at hl 0 rfl) ?_
          refine lv_iload hx hb dX10_truly_55 (lv_at hl 5 rfl) ?_
          refine lv_icmp_le (tgt := 67) hx hb dX10_truly_57 (by decide) (fun c31 => ?_) (fun c31 => ?_)
          · skip
            have f32 := i_le c31
            obtain ⟨v33, ev33⟩ : ∃ y : Int32, y = q34_5 + 1 := ⟨_, rfl⟩
            try have tv33 : v33.toInt = q34_5.toInt + 1 := by rw [ev33]; exact (i_add (x := q34_5) (y := (1 : Int32)) (by rw [k1]; omega) (by rw [k1]; omega)).trans (by rw [k1])
            refine lv_iinc (v := v33) (lv' := [(5, .int v33), (6, .int r30), (0, .ref (ad 0)), (1, .int o), (2, .int d), (3, .int q34_3), (4, .int q34_4)]) hx hb dX10_truly_67 hl (k := 6) rfl (by rw [ev33]; rfl) (by decide) rfl (fun ls hl => ?_)
            refine lv_goto (tgt := 34) hx hb dX10_truly_70 (by decide) ?_
            have clc34 := i_cl (x := q34_5) (by omega)
            have clc35 := i_cl (x := v33) (by omega)
            rw [shF_c (ptF_pp hw13) (by omega) o.toNatClampNeg] at hw29
            have hg2 := congrArg Prod.snd g21
            dsimp only at hg2
            exact ih22 (q34_3, q34_4, v33) ls H locs ⟨(by omega), (by omega), (by rw [show v33.toNatClampNeg = q34_5.toNatClampNeg + 1 by omega, trV_s, if_neg (by omega)]; exact g21), lv_sub hl [2, 3, 4, 5, 6, 0] rfl, hP.sub [0, 1, 2, 3, 4, 5, 6, 7, 8, 9] rfl, hD.sub [0, 1, 2, 3, 4, 5, 6, 7, 8, 9] (by decide +kernel) rfl, hS⟩ (by show 10 - v33.toInt < _; omega)
          · skip
            have f36 := i_nle c31
            refine lv_iload hx hb dX10_truly_60 (lv_at hl 0 rfl) ?_
            refine lv_istore (lv' := [(4, .int r30), (6, .int r30), (0, .ref (ad 0)), (1, .int o), (2, .int d), (3, .int q34_3), (5, .int q34_5)]) hx hb dX10_truly_62 hl (by decide) rfl (fun ls hl => ?_)
            refine lv_iload hx hb dX10_truly_64 (lv_at hl 6 rfl) ?_
            refine lv_istore_n (lv' := [(3, .int q34_5), (4, .int r30), (6, .int r30), (0, .ref (ad 0)), (1, .int o), (2, .int d), (5, .int q34_5)]) hx hb dX10_truly_66 rfl hl (by decide) rfl (fun ls hl => ?_)
            obtain ⟨v37, ev37⟩ : ∃ y : Int32, y = q34_5 + 1 := ⟨_, rfl⟩
            try have tv37 : v37.toInt = q34_5.toInt + 1 := by rw [ev37]; exact (i_add (x := q34_5) (y := (1 : Int32)) (by rw [k1]; omega) (by rw [k1]; omega)).trans (by rw [k1])
            refine lv_iinc (v := v37) (lv' := [(5, .int v37), (3, .int q34_5), (4, .int r30), (6, .int r30), (0, .ref (ad 0)), (1, .int o), (2, .int d)]) hx hb dX10_truly_67 hl (k := 6) rfl (by rw [ev37]; rfl) (by decide) rfl (fun ls hl => ?_)
            refine lv_goto (tgt := 34) hx hb dX10_truly_70 (by decide) ?_
            have clc38 := i_cl (x := q34_5) (by omega)
            have clc39 := i_cl (x := v37) (by omega)
            rw [shF_c (ptF_pp hw13) (by omega) o.toNatClampNeg] at hw29
            have hg2 := congrArg Prod.snd g21
            dsimp only at hg2
            exact ih22 (q34_5, r30, v37) ls H locs ⟨(by omega), (by omega), (by rw [show v37.toNatClampNeg = q34_5.toNatClampNeg + 1 by omega, trV_s, if_pos (by omega), ← hw29]; congr 1; omega), lv_sub hl [4, 5, 6, 1, 2, 0] rfl, hP.sub [0, 1, 2, 3, 4, 5, 6, 7, 8, 9] rfl, hD.sub [0, 1, 2, 3, 4, 5, 6, 7, 8, 9] (by decide +kernel) rfl, hS⟩ (by show 10 - v37.toInt < _; omega)
    · skip
      have f40 := bo_f hw8 c10
      refine lv_ldc hx hb hown (hts (Cond.constant RX10 89 (-1000001)) (wm_t (wm_l (wm_i 0 rfl)))) dX10_truly_14 ?_
      have hP9 := hP
      have hD9 := hD
      exact W.iret (v := (-1000001)) hx hb hr (fun t ht hW => ⟨⟨(-1000001), (pt, ps, ha, re), rfl, (by unfold sp_truly; rw [if_neg (by omega)]; omega), by rw [ht]; exact hP9, va_K.moved hW.alike hK, hD9⟩, hS.F ht⟩) hS.2.2 dX10_truly_16


/-- the companies in a ring, as bits -/
def rgQ (B : Nat → Nat → Bool) (r : Int32) (n : Nat) : Prop := ∀ i : Nat, i < 32 → bt r i = (decide (i < n) && wrV B 10 i i)
def ppB (p : Nat → Nat → Int) : Nat → Nat → Bool := fun c d => decide (d < 10 ∧ 0 < p (10 + c) d)
theorem wr_c {B B' : Nat → Nat → Bool} (h : ∀ c d, c < 10 → d < 32 → B c d = B' c d) (k : Nat) (hk : k ≤ 10) : ∀ c d, c < 10 → d < 32 → wrV B k c d = wrV B' k c d := by
  induction k with
  | zero => exact h
  | succ k ih =>
    intro c d h1 h2
    rw [wrV_s, wrV_s, ih (by omega) c d h1 h2, ih (by omega) c k h1 (by omega), ih (by omega) k d (by omega) h2]
def sp_rings (hn : Int32) (ho hc hp hs : Nat → Int32) (d r : Int32) : Prop := if 0 ≤ d.toInt ∧ d.toInt < 10000 then rgQ (ppB (ppF ho hc hp hs d hn.toNatClampNeg)) r 10 else r.toInt = -1000001
theorem re_pp {pt ps ho hc hp hs ha re : Nat → Int32} {d : Int32} {n : Nat} (h : pcOk pt ps ho hc hp hs d n) (hL : okL pt ha re) {c i : Nat} (h1 : c < 10) (h2 : i < 32) : bt (re c) i = wrV (ppB (ppF ho hc hp hs d n)) 10 c i := by
  rw [hL.2 c i h1 h2]
  refine wr_c (fun c9 d9 a1 a2 => ?_) 10 (Nat.le_refl _) c i h1 h2
  unfold ppB
  apply Bool.eq_iff_iff.mpr
  rw [hL.1.1 (10 + c9) d9 (by omega) a2, decide_eq_true_iff]
  constructor
  · rintro ⟨b1, b2⟩
    rw [pcOk_at h (by omega) b1] at b2
    exact ⟨b1, b2⟩
  · rintro ⟨b1, b2⟩
    rw [← pcOk_at h (by omega) b1] at b2
    exact ⟨b1, b2⟩
theorem rgQ_up {B : Nat → Nat → Bool} {r w c : Int32} {n m : Nat} (h : rgQ B r n) (hc : c.toInt = n) (hn : n < 10) (hm : m = n + 1) (hb : wrV B 10 n n = true) (hw : w = r ||| ((1 : Int32) <<< (c &&& 31))) : rgQ B w m := by
  have cc := i_cl (x := c) (by omega)
  intro i hi
  rw [hw, bt_set (by omega) (by omega) hi, h i hi, hm, show c.toNatClampNeg = n by omega]
  by_cases e : i = n
  · rw [e, hb]; simp
  · by_cases l : i < n
    · simp [e, l, show i < n + 1 by omega]
    · simp [e, l, show ¬ i < n + 1 by omega]
theorem rgQ_no {B : Nat → Nat → Bool} {r : Int32} {n m : Nat} (h : rgQ B r n) (hm : m = n + 1) (hb : wrV B 10 n n = false) : rgQ B r m := by
  intro i hi
  rw [h i hi, hm]
  by_cases e : i = n
  · rw [e, hb]; simp
  · by_cases l : i < n
    · simp [l, show i < n + 1 by omega]
    · simp [l, show ¬ i < n + 1 by omega]
theorem rgQ_0 {B : Nat → Nat → Bool} : rgQ B 0 0 := fun i hi => by rw [b_0, decide_eq_false (by omega)]; rfl

set_option maxHeartbeats 4000000 in
set_option maxRecDepth 100000 in
theorem ct_X10_rings (l : Launch) (D : va_G) (cI cY cJ cQ : ClassId) (sz : Nat) (ad : Nat → Nat) (tn td lf hn : Int32) (ho hc hp hs pt ps ha re : Nat → Int32) (d : Int32)  (h1 : 0 ≤ hn.toInt) (h2 : hn.toInt ≤ 40) (h3 : okH hn ho hc) (h4 : okV hn hp)  : Met l yX10_rings wsX10_rings ({ frames := 3, cells := 0, slots := 0, locals := 85 }) (cPre D (ty4 cI cY cJ cQ) [(oC10 ad tn td lf), (oC3 ad hn), (aI cI (ad 23) 40 ho), (aI cI (ad 24) 40 hc), (aI cI (ad 25) 40 hp), (aI cI (ad 26) 40 hs), (aI cI (ad 27) 200 pt), (aI cI (ad 28) 200 ps), (aI cI (ad 29) 20 ha), (aI cI (ad 30) 10 re)] sz [.ref (ad 0), .int d]) (va_Qi (fun (r : Int32) (u : (Nat → Int32) × (Nat → Int32) × (Nat → Int32) × (Nat → Int32)) => sp_rings hn ho hc hp hs d r) (cB D (ty4 cI cY cJ cQ) (fun (u : (Nat → Int32) × (Nat → Int32) × (Nat → Int32) × (Nat → Int32)) => [(oC10 ad tn td lf), (oC3 ad hn), (aI cI (ad 23) 40 ho), (aI cI (ad 24) 40 hc), (aI cI (ad 25) 40 hp), (aI cI (ad 26) 40 hs), (aI cI (ad 27) 200 u.1), (aI cI (ad 28) 200 u.2.1), (aI cI (ad 29) 20 u.2.2.1), (aI cI (ad 30) 10 u.2.2.2)]) (va_A [(oC10 ad tn td lf), (oC3 ad hn), (aI cI (ad 23) 40 ho), (aI cI (ad 24) 40 hc), (aI cI (ad 25) 40 hp), (aI cI (ad 26) 40 hs), (aI cI (ad 27) 200 pt), (aI cI (ad 28) 200 ps), (aI cI (ad 29) 20 ha), (aI cI (ad 30) 10 re)] sz)) (va_A [(oC10 ad tn td lf), (oC3 ad hn), (aI cI (ad 23) 40 ho), (aI cI (ad 24) 40 hc), (aI cI (ad 25) 40 hp), (aI cI (ad 26) 40 hs), (aI cI (ad 27) 200 pt), (aI cI (ad 28) 200 ps), (aI cI (ad 29) 20 ha), (aI cI (ad 30) 10 re)] sz)) 0 0 (va_A [(oC10 ad tn td lf), (oC3 ad hn), (aI cI (ad 23) 40 ho), (aI cI (ad 24) 40 hc), (aI cI (ad 25) 40 hp), (aI cI (ad 26) 40 hs), (aI cI (ad 27) 200 pt), (aI cI (ad 28) 200 ps), (aI cI (ad 29) 20 ha), (aI cI (ad 30) 10 re)] sz) := by
  refine Met.ofW (cc := cX10_rings) (maxL := 4) (ret := (some .int)) (by decide) rfl ?_
  intro p e s m args below meth c s₁ B hml hv
  obtain ⟨rfl, hsz, hP, hK, hD0, hN⟩ := hv
  have hx := B.exec
  have hb := B.bytes
  have hr := B.returns
  have hts := atoms_spec (ws := wsX10_rings) B.pre
  have hown : s.vm.findClass RX10 = some m.cls := findClass_of_methodNamed B.named
  have hlocks := B.notSynchronized
  subst hsz
  have hD := hD0.self (sz := s.heap.size)
  generalize hAe : va_A [(oC10 ad tn td lf), (oC3 ad hn), (aI cI (ad 23) 40 ho), (aI cI (ad 24) 40 hc), (aI cI (ad 25) 40 hp), (aI cI (ad 26) 40 hs), (aI cI (ad 27) 200 pt), (aI cI (ad 28) 200 ps), (aI cI (ad 29) 20 ha), (aI cI (ad 30) 10 re)] s.heap.size = A at hD ⊢
  have hA : ∀ q : Nat, s.heap.size ≤ q → A q := fun q h => by rw [← hAe]; exact Or.inr h
  have hS : va_S A s.heap s.heap [] := va_S.rf
  have hP : va_P D vwCl [(oC10 ad tn td lf), (oC3 ad hn), (aI cI (ad 23) 40 ho), (aI cI (ad 24) 40 hc), (aI cI (ad 25) 40 hp), (aI cI (ad 26) 40 hs), (aI cI (ad 27) 200 pt), (aI cI (ad 28) 200 ps), (aI cI (ad 29) 20 ha), (aI cI (ad 30) 10 re)] s.heap := hP
  have hl := lv_entry ([.ref (ad 0), .int d]) (n := 4) (Nat.le_of_ble_eq_true rfl)
  rw [lg_entry_eq]
  generalize (lg_sl ([.ref (ad 0), .int d]) ++ List.replicate (4 - (lg_sl ([.ref (ad 0), .int d])).length) Slot.unset).toArray = ls at hl ⊢
  have hl : lv_has ls 4 [(0, .ref (ad 0)), (1, .int d)] := hl
  have km1000001 : (-1000001 : Int32).toInt = -1000001 := by decide
  have k0 : (0 : Int32).toInt = 0 := by decide
  have k1 : (1 : Int32).toInt = 1 := by decide
  have k10 : (10 : Int32).toInt = 10 := by decide
  refine lv_iload_n hx hb dX10_rings_0 rfl (lv_at hl 1 rfl) ?_
  refine st_i1 (va_runS (As := [.int d]) (rest := []) ⟨hx, hb, hml, hown, hts⟩ (ct_X10_isDay l D cI cY cJ cQ _ d) (va_cwS 1 hts gX10_rings_X10_isDay rfl rfl rfl cdX10_isDay ⟨Nat.le_of_ble_eq_true rfl, Nat.le_of_ble_eq_true rfl⟩) (cPreS (hP.sub [] rfl) hK (hD.sub [] (by decide +kernel) rfl) hN) rfl rfl hl.1 rfl (lv_room (Nat.le_of_ble_eq_true rfl)) dX10_rings_1 ⟨Nat.le_of_ble_eq_true rfl, Nat.le_of_ble_eq_true rfl⟩) hP hD hS hA [] rfl (fun _ => rfl) (fun r3 u1 H locs hw2 => ?_)
  clear hP hS
  intro hP hS
  replace hw2 : r3 = if 0 ≤ d.toInt ∧ d.toInt < 10000 then 1 else 0 := hw2
  refine lv_if_ne (tgt := 10) hx hb dX10_rings_4 (by decide) (fun c4 => ?_) (fun c4 => ?_)
  · skip
    have f5 := bo_t hw2 c4
    refine lv_aload_n hx hb dX10_rings_10 rfl (lv_at hl 0 rfl) ?_
    refine va_get (D := D) (ci := 10) (v := .ref (ad 2)) (C := RX10) (T := TX10) (N := 14) hx hb hts inX10_rings_X10 hown hK hP 0 rfl rfl 1 (by decide) (hts (Cond.fieldLink RX10 19 "PortRooms" "holdings" "LPortRooms$Holdings;") (wm_t (wm_l (wm_i 1 rfl)))) (fun _ h9 => h9) rfl dX10_rings_11 ?_
    refine lv_iload_n hx hb dX10_rings_14 rfl (lv_at hl 1 rfl) ?_
    refine st_v (wr := [(oC10 ad tn td lf)]) (va_runV (C := RX3) (As := [.int d]) (rest := []) ⟨hx, hb, hml, hown, hts⟩ (ct_X3_lookAt l D cI cY cJ cQ _ ad hn ho hc hp hs pt ps ha re d h1 h2 h3 h4) (cwV 1 hts gX10_rings_X3_lookAt rfl rfl rfl ⟨rfl, cdX3_lookAt⟩ ⟨Nat.le_of_ble_eq_true rfl, Nat.le_of_ble_eq_true rfl⟩) (cPreV (hP.sub [1, 2, 3, 4, 5, 6, 7, 8, 9] rfl) hK (hD.sub [1, 2, 3, 4, 5, 6, 7, 8, 9] (by decide +kernel) rfl) hN (ci := 3) (q0 := 0) rfl rfl) rfl rfl hl.1 rfl (lv_room (Nat.le_of_ble_eq_true rfl)) dX10_rings_15 ⟨Nat.le_of_ble_eq_true rfl, Nat.le_of_ble_eq_true rfl⟩) hP hD hS hA [1, 2, 3, 4, 5, 6, 7, 8, 9] [0] rfl rfl (by decide +kernel) (by decide +kernel) (fun u6 H locs hw7 => ?_)
    clear hP hD hS
    intro hP hD hS
    obtain ⟨pt_9, ps_10, ha_11, re_12⟩ := u6
    replace hw7 : pcOk pt_9 ps_10 ho hc hp hs d hn.toNatClampNeg ∧ okL pt_9 ha_11 re_12 := hw7
    replace hP : va_P D vwCl [(oC10 ad tn td lf), (oC3 ad hn), (aI cI (ad 23) 40 ho), (aI cI (ad 24) 40 hc), (aI cI (ad 25) 40 hp), (aI cI (ad 26) 40 hs), (aI cI (ad 27) 200 pt_9), (aI cI (ad 28) 200 ps_10), (aI cI (ad 29) 20 ha_11), (aI cI (ad 30) 10 re_12)] H := hP
    replace hD : va_D A [(oC10 ad tn td lf), (oC3 ad hn), (aI cI (ad 23) 40 ho), (aI cI (ad 24) 40 hc), (aI cI (ad 25) 40 hp), (aI cI (ad 26) 40 hs), (aI cI (ad 27) 200 pt_9), (aI cI (ad 28) 200 ps_10), (aI cI (ad 29) 20 ha_11), (aI cI (ad 30) 10 re_12)] := hD
    obtain ⟨hw7, hw7L⟩ := hw7
    refine lv_iconst (v := 0) hx hb dX10_rings_18 (by decide) ?_
    refine lv_istore_n (lv' := [(2, .int 0), (0, .ref (ad 0)), (1, .int d)]) hx hb dX10_rings_19 rfl hl (by decide) rfl (fun ls hl => ?_)
    refine lv_iconst (v := 0) hx hb dX10_rings_20 (by decide) ?_
    refine lv_istore_n (lv' := [(3, .int 0), (2, .int 0), (0, .ref (ad 0)), (1, .int d)]) hx hb dX10_rings_21 rfl hl (by decide) rfl (fun ls hl => ?_)
    refine st_loop 22 (fun _ => []) (fun (z : Int32 × Int32) (ls : Array Slot) (H : Heap) (locs : List Loc) => match z with | (q22_2, q22_3) => (0 ≤ q22_3.toInt) ∧ (q22_3.toInt ≤ 10) ∧ (rgQ (ppB (ppF ho hc hp hs d hn.toNatClampNeg)) q22_2 q22_3.toNatClampNeg) ∧ lv_has ls 4 [(0, .ref (ad 0)), (1, .int d), (2, .int q22_2), (3, .int q22_3)] ∧ va_P D vwCl [(oC10 ad tn td lf), (oC3 ad hn), (aI cI (ad 23) 40 ho), (aI cI (ad 24) 40 hc), (aI cI (ad 25) 40 hp), (aI cI (ad 26) 40 hs), (aI cI (ad 27) 200 pt_9), (aI cI (ad 28) 200 ps_10), (aI cI (ad 29) 20 ha_11), (aI cI (ad 30) 10 re_12)] H ∧ va_D A [(oC10 ad tn td lf), (oC3 ad hn), (aI cI (ad 23) 40 ho), (aI cI (ad 24) 40 hc), (aI cI (ad 25) 40 hp), (aI cI (ad 26) 40 hs), (aI cI (ad 27) 200 pt_9), (aI cI (ad 28) 200 ps_10), (aI cI (ad 29) 20 ha_11), (aI cI (ad 30) 10 re_12)] ∧ va_S A s.heap H locs) (fun (z : Int32 × Int32) => match z with | (q22_2, q22_3) => 10 - q22_3.toInt) ?_ ?_ ((0 : Int32), (0 : Int32)) ⟨(by omega), (by omega), (by exact rgQ_0), lv_sub hl [2, 3, 1, 0] rfl, hP, hD, hS⟩
    · rintro ⟨q22_2, q22_3⟩ ls H locs ⟨g13, g14, g15, hl, hP, hD, hS⟩
      show (0 : Int) ≤ 10 - q22_3.toInt
      omega
    · rintro n18 ih16 ⟨q22_2, q22_3⟩ ls H locs ⟨g13, g14, g15, hl, hP, hD, hS⟩ hm17
      have hm17 : 10 - q22_3.toInt < (n18 : Int) + 1 := hm17
      replace hl : lv_has ls 4 [(0, .ref (ad 0)), (1, .int d), (2, .int q22_2), (3, .int q22_3)] := hl
      replace hP : va_P D vwCl [(oC10 ad tn td lf), (oC3 ad hn), (aI cI (ad 23) 40 ho), (aI cI (ad 24) 40 hc), (aI cI (ad 25) 40 hp), (aI cI (ad 26) 40 hs), (aI cI (ad 27) 200 pt_9), (aI cI (ad 28) 200 ps_10), (aI cI (ad 29) 20 ha_11), (aI cI (ad 30) 10 re_12)] H := hP
      replace hD : va_D A [(oC10 ad tn td lf), (oC3 ad hn), (aI cI (ad 23) 40 ho), (aI cI (ad 24) 40 hc), (aI cI (ad 25) 40 hp), (aI cI (ad 26) 40 hs), (aI cI (ad 27) 200 pt_9), (aI cI (ad 28) 200 ps_10), (aI cI (ad 29) 20 ha_11), (aI cI (ad 30) 10 re_12)] := hD
      show W _ _ _ _ _ _ _ _ _ _ _ _ _ _ _ (F0 m 22 ls [])
      refine lv_iload_n hx hb dX10_rings_22 rfl (lv_at hl 3 rfl) ?_
      refine lv_bipush (v := 10) hx hb dX10_rings_23 (by decide) ?_
      refine lv_icmp_ge (tgt := 56) hx hb dX10_rings_25 (by decide) (fun c19 => ?_) (fun c19 => ?_)
      · skip
        have f20 := i_le c19
        refine lv_iload_n hx hb dX10_rings_56 rfl (lv_at hl 2 rfl) ?_
        have ce9 := i_cl (x := q22_3) (by omega)
        have hz9 := g15
        rw [show q22_3.toNatClampNeg = 10 by omega] at hz9
        have hP9 := hP
        have hD9 := hD
        exact W.iret (v := q22_2) hx hb hr (fun t ht hW => ⟨⟨q22_2, (pt_9, ps_10, ha_11, re_12), rfl, (by show sp_rings hn ho hc hp hs d q22_2; unfold sp_rings; rw [if_pos (by omega)]; exact hz9), by rw [ht]; exact hP9, va_K.moved hW.alike hK, hD9⟩, hS.F ht⟩) hS.2.2 dX10_rings_57
      · skip
        have f21 := i_nle c19
        refine lv_aload_n hx hb dX10_rings_28 rfl (lv_at hl 0 rfl) ?_
        refine va_get (D := D) (ci := 10) (v := .ref (ad 2)) (C := RX10) (T := TX10) (N := 14) hx hb hts inX10_rings_X10 hown hK hP 0 rfl rfl 1 (by decide) (hts (Cond.fieldLink RX10 19 "PortRooms" "holdings" "LPortRooms$Holdings;") (wm_t (wm_l (wm_i 1 rfl)))) (fun _ h9 => h9) rfl dX10_rings_29 ?_
        refine va_get (D := D) (ci := 3) (v := .ref (ad 30)) (C := RX3) (T := TX3) (N := 9) hx hb hts inX10_rings_X3 hown hK hP 1 rfl rfl 8 (by decide) (hts (Cond.fieldLink RX10 170 "PortRooms$Holdings" "reach" "[I") (wm_t (wm_l (wm_i 2 rfl)))) (fun _ h9 => h9) rfl dX10_rings_32 ?_
        refine lv_iload_n hx hb dX10_rings_35 rfl (lv_at hl 3 rfl) ?_
        refine va_iald hx hb hK hP 9 0 rfl rfl (i_in (by omega) (by omega)) dX10_rings_36 ?_
        refine lv_topi (fun v22 ev22 => ?_)
        have tlv22 : v22.toInt = (re_12 q22_3.toNatClampNeg).toInt := by rw [ev22]
        refine lv_iload_n hx hb dX10_rings_37 rfl (lv_at hl 3 rfl) ?_
        refine st_i1 (va_runS (As := [.int v22, .int q22_3]) (rest := []) ⟨hx, hb, hml, hown, hts⟩ (ct_X10_hasBit l D cI cY cJ cQ _ v22 q22_3) (va_cwS 2 hts gX10_rings_X10_hasBit rfl rfl rfl cdX10_hasBit ⟨Nat.le_of_ble_eq_true rfl, Nat.le_of_ble_eq_true rfl⟩) (cPreS (hP.sub [] rfl) hK (hD.sub [] (by decide +kernel) rfl) hN) rfl rfl hl.1 rfl (lv_room (Nat.le_of_ble_eq_true rfl)) dX10_rings_38 ⟨Nat.le_of_ble_eq_true rfl, Nat.le_of_ble_eq_true rfl⟩) hP hD hS hA [] rfl (fun _ => rfl) (fun r25 u23 H locs hw24 => ?_)
        clear hP hS
        intro hP hS
        replace hw24 : r25 = if hbP v22 q22_3 then 1 else 0 := hw24
        refine lv_if_eq (tgt := 50) hx hb dX10_rings_41 (by decide) (fun c26 => ?_) (fun c26 => ?_)
        · skip
          have f27 := bo_f hw24 c26
          obtain ⟨v28, ev28⟩ : ∃ y : Int32, y = q22_3 + 1 := ⟨_, rfl⟩
          try have tv28 : v28.toInt = q22_3.toInt + 1 := by rw [ev28]; exact (i_add (x := q22_3) (y := (1 : Int32)) (by rw [k1]; omega) (by rw [k1]; omega)).trans (by rw [k1])
          refine lv_iinc (v := v28) (lv' := [(3, .int v28), (0, .ref (ad 0)), (1, .int d), (2, .int q22_2)]) hx hb dX10_rings_50 hl (k := 3) rfl (by rw [ev28]; rfl) (by decide) rfl (fun ls hl => ?_)
          refine lv_goto (tgt := 22) hx hb dX10_rings_53 (by decide) ?_
          have clc29 := i_cl (x := q22_3) (by omega)
          have clc30 := i_cl (x := v28) (by omega)
          exact ih16 (q22_2, v28) ls H locs ⟨(by omega), (by omega), (by exact rgQ_no g15 (by omega) (by rw [← re_pp hw7 hw7L (by omega) (by omega), ← ev22]; exact hbn (by omega) (by omega) f27)), lv_sub hl [1, 2, 3, 0] rfl, hP.sub [0, 1, 2, 3, 4, 5, 6, 7, 8, 9] rfl, hD.sub [0, 1, 2, 3, 4, 5, 6, 7, 8, 9] (by decide +kernel) rfl, hS⟩ (by show 10 - v28.toInt < _; omega)
        · skip
          have f31 := bo_t hw24 c26
          refine lv_iload_n hx hb dX10_rings_44 rfl (lv_at hl 2 rfl) ?_
          refine lv_iconst (v := 1) hx hb dX10_rings_45 (by decide) ?_
          refine lv_iload_n hx hb dX10_rings_46 rfl (lv_at hl 3 rfl) ?_
          refine lv_ishl hx hb dX10_rings_47 ?_
          refine lv_topi (fun v32 ev32 => ?_)
          refine lv_ior hx hb dX10_rings_48 ?_
          refine lv_topi (fun v33 ev33 => ?_)
          refine lv_istore_n (lv' := [(2, .int v33), (0, .ref (ad 0)), (1, .int d), (3, .int q22_3)]) hx hb dX10_rings_49 rfl hl (by decide) rfl (fun ls hl => ?_)
          obtain ⟨v34, ev34⟩ : ∃ y : Int32, y = q22_3 + 1 := ⟨_, rfl⟩
          try have tv34 : v34.toInt = q22_3.toInt + 1 := by rw [ev34]; exact (i_add (x := q22_3) (y := (1 : Int32)) (by rw [k1]; omega) (by rw [k1]; omega)).trans (by rw [k1])
          refine lv_iinc (v := v34) (lv' := [(3, .int v34), (2, .int v33), (0, .ref (ad 0)), (1, .int d)]) hx hb dX10_rings_50 hl (k := 3) rfl (by rw [ev34]; rfl) (by decide) rfl (fun ls hl => ?_)
          refine lv_goto (tgt := 22) hx hb dX10_rings_53 (by decide) ?_
          have clc35 := i_cl (x := q22_3) (by omega)
          have clc36 := i_cl (x := v34) (by omega)
          exact ih16 (v33, v34) ls H locs ⟨(by omega), (by omega), (by exact rgQ_up (c := q22_3) g15 (by omega) (by omega) (by omega) (by rw [← re_pp hw7 hw7L (by omega) (by omega), ← ev22]; exact (hbb (by omega) (by omega)).mp f31) (by rw [ev33, ev32])), lv_sub hl [2, 3, 1, 0] rfl, hP.sub [0, 1, 2, 3, 4, 5, 6, 7, 8, 9] rfl, hD.sub [0, 1, 2, 3, 4, 5, 6, 7, 8, 9] (by decide +kernel) rfl, hS⟩ (by show 10 - v34.toInt < _; omega)
  · skip
    have f37 := bo_f hw2 c4
    refine lv_ldc hx hb hown (hts (Cond.constant RX10 89 (-1000001)) (wm_t (wm_l (wm_i 0 rfl)))) dX10_rings_7 ?_
    have hP9 := hP
    have hD9 := hD
    exact W.iret (v := (-1000001)) hx hb hr (fun t ht hW => ⟨⟨(-1000001), (pt, ps, ha, re), rfl, (by show sp_rings hn ho hc hp hs d ((-1000001) : Int32); unfold sp_rings; rw [if_neg (by omega)]; omega), by rw [ht]; exact hP9, va_K.moved hW.alike hK, hD9⟩, hS.F ht⟩) hS.2.2 dX10_rings_9
