theorem cdX11_isRoom : yX11_isRoom.cls ≠ "java/lang/invoke/MethodHandle" ∧ yX11_isRoom.cls ≠ "java/lang/invoke/VarHandle" ∧ (parseMethodDescriptor yX11_isRoom.desc).map (fun d => d.parameters.length) = some 1 := by decide +kernel
theorem cdX11_insideOf : yX11_insideOf.cls ≠ "java/lang/invoke/MethodHandle" ∧ yX11_insideOf.cls ≠ "java/lang/invoke/VarHandle" ∧ (parseMethodDescriptor yX11_insideOf.desc).map (fun d => d.parameters.length) = some 2 := by decide +kernel
theorem cdX11_lotOf : yX11_lotOf.cls ≠ "java/lang/invoke/MethodHandle" ∧ yX11_lotOf.cls ≠ "java/lang/invoke/VarHandle" ∧ (parseMethodDescriptor yX11_lotOf.desc).map (fun d => d.parameters.length) = some 2 := by decide +kernel
theorem cdX11_drawnOn : yX11_drawnOn.cls ≠ "java/lang/invoke/MethodHandle" ∧ yX11_drawnOn.cls ≠ "java/lang/invoke/VarHandle" ∧ (parseMethodDescriptor yX11_drawnOn.desc).map (fun d => d.parameters.length) = some 2 := by decide +kernel
theorem Gd_X11_isRoom : gdA wsX11_isRoom := gd_cons (by decide +kernel) (gd_app (gd_all (ws := wsX11_isRoom_o1) (by decide +kernel)) Gd_X11_in)
theorem inX11_room_X11 : ∀ w ∈ u_ws RX11 TX11 64, w ∈ wsX11_room := fun _ h => (List.mem_cons_of_mem _ (List.mem_append_right _ (List.mem_append_left _ (List.mem_append_left _ h))))
theorem Gd_X11_insideOf : gdA wsX11_insideOf := gd_cons (by decide +kernel) (gd_app (gd_all (ws := wsX11_insideOf_o1) (by decide +kernel)) Gd_X110)
theorem inX11_insideOf_X11 : ∀ w ∈ u_ws RX11 TX11 64, w ∈ wsX11_insideOf := fun _ h => (List.mem_cons_of_mem _ (List.mem_append_right _ h))
theorem inX11_move_X11 : ∀ w ∈ u_ws RX11 TX11 64, w ∈ wsX11_move := fun _ h => (List.mem_cons_of_mem _ (List.mem_append_right _ (List.mem_append_left _ (List.mem_append_left _ h))))
theorem inX11_inside_X11 : ∀ w ∈ u_ws RX11 TX11 64, w ∈ wsX11_inside := fun _ h => (List.mem_cons_of_mem _ (List.mem_append_right _ (List.mem_append_left _ (List.mem_append_left _ h))))
theorem Gd_X11_lotOf : gdA wsX11_lotOf := gd_cons (by decide +kernel) (gd_app (gd_all (ws := wsX11_lotOf_o1) (by decide +kernel)) Gd_X110)
theorem inX11_lotOf_X11 : ∀ w ∈ u_ws RX11 TX11 64, w ∈ wsX11_lotOf := fun _ h => (List.mem_cons_of_mem _ (List.mem_append_right _ h))
theorem inX11_lot_X11 : ∀ w ∈ u_ws RX11 TX11 64, w ∈ wsX11_lot := fun _ h => (List.mem_cons_of_mem _ (List.mem_append_right _ (List.mem_append_left _ (List.mem_append_left _ h))))
theorem Gd_X11_drawnOn : gdA wsX11_drawnOn := gd_cons (by decide +kernel) (gd_app (gd_all (ws := wsX11_drawnOn_o1) (by decide +kernel)) (gd_app Gd_X110 Gd_X11_lotOf))
theorem inX11_drawnOn_X11 : ∀ w ∈ u_ws RX11 TX11 64, w ∈ wsX11_drawnOn := fun _ h => (List.mem_cons_of_mem _ (List.mem_append_right _ (List.mem_append_left _ h)))
theorem inX11_drawn_X11 : ∀ w ∈ u_ws RX11 TX11 64, w ∈ wsX11_drawn := fun _ h => (List.mem_cons_of_mem _ (List.mem_append_right _ (List.mem_append_left _ (List.mem_append_left _ h))))
theorem inX11_often_X11 : ∀ w ∈ u_ws RX11 TX11 64, w ∈ wsX11_often := fun _ h => (List.mem_cons_of_mem _ (List.mem_append_right _ (List.mem_append_left _ (List.mem_append_left _ (List.mem_append_left _ h)))))
theorem ggX11_room_X11_isRoom : GoodIn wsX11_room wsX11_isRoom := goodIn_s (fun _ h => wm_t (wm_r (wm_l (wm_r h)))) Gd_X11_isRoom
theorem gX11_room_X11_isRoom : GoodIn wsX11_room (va_wsS RX11 327 yX11_isRoom wsX11_isRoom) := goodIn_S (own := RX11) (idx := 327) (y := yX11_isRoom) (wm_t (wm_l (wm_i 6 rfl))) (wm_t (wm_l (wm_i 7 rfl))) (wm_t (wm_l (wm_i 8 rfl))) ggX11_room_X11_isRoom
theorem ggX11_room_X11_in : GoodIn wsX11_room wsX11_in := goodIn_s (fun _ h => wm_t (wm_r (wm_r h))) Gd_X11_in
theorem gX11_room_X11_in : GoodIn wsX11_room (va_wsS RX11 147 yX11_in wsX11_in) := goodIn_S (own := RX11) (idx := 147) (y := yX11_in) (wm_t (wm_l (wm_i 9 rfl))) (wm_t (wm_l (wm_i 10 rfl))) (wm_t (wm_l (wm_i 8 rfl))) ggX11_room_X11_in
theorem dX11_room_all0 : decode cX11_room 0 = .ok (.aload_n 0, 1) ∧ decode cX11_room 1 = .ok (.iconst 0, 1) ∧ decode cX11_room 2 = .ok (.putfield 1, 3) ∧ decode cX11_room 5 = .ok (.iload_n 1, 1) ∧ decode cX11_room 6 = .ok (.invokestatic 327, 3) ∧ decode cX11_room 9 = .ok (.ifCond .eq 35, 3) ∧ decode cX11_room 12 = .ok (.iload_n 2, 1) ∧ decode cX11_room 13 = .ok (.i2l, 1) ∧ decode cX11_room 14 = .ok (.lconst 0, 1) ∧ decode cX11_room 15 = .ok (.lconst 1, 1) ∧ decode cX11_room 16 = .ok (.invokestatic 147, 3) ∧ decode cX11_room 19 = .ok (.ifCond .eq 25, 3) := by decide +kernel
theorem dX11_room_0 : decode cX11_room 0 = .ok (.aload_n 0, 1) := dX11_room_all0.1
theorem dX11_room_1 : decode cX11_room 1 = .ok (.iconst 0, 1) := dX11_room_all0.2.1
theorem dX11_room_2 : decode cX11_room 2 = .ok (.putfield 1, 3) := dX11_room_all0.2.2.1
theorem dX11_room_5 : decode cX11_room 5 = .ok (.iload_n 1, 1) := dX11_room_all0.2.2.2.1
theorem dX11_room_6 : decode cX11_room 6 = .ok (.invokestatic 327, 3) := dX11_room_all0.2.2.2.2.1
theorem dX11_room_9 : decode cX11_room 9 = .ok (.ifCond .eq 35, 3) := dX11_room_all0.2.2.2.2.2.1
theorem dX11_room_12 : decode cX11_room 12 = .ok (.iload_n 2, 1) := dX11_room_all0.2.2.2.2.2.2.1
theorem dX11_room_13 : decode cX11_room 13 = .ok (.i2l, 1) := dX11_room_all0.2.2.2.2.2.2.2.1
theorem dX11_room_14 : decode cX11_room 14 = .ok (.lconst 0, 1) := dX11_room_all0.2.2.2.2.2.2.2.2.1
theorem dX11_room_15 : decode cX11_room 15 = .ok (.lconst 1, 1) := dX11_room_all0.2.2.2.2.2.2.2.2.2.1
theorem dX11_room_16 : decode cX11_room 16 = .ok (.invokestatic 147, 3) := dX11_room_all0.2.2.2.2.2.2.2.2.2.2.1
theorem dX11_room_19 : decode cX11_room 19 = .ok (.ifCond .eq 25, 3) := dX11_room_all0.2.2.2.2.2.2.2.2.2.2.2
theorem dX11_room_all1 : decode cX11_room 22 = .ok (.iload_n 3, 1) ∧ decode cX11_room 23 = .ok (.i2l, 1) ∧ decode cX11_room 24 = .ok (.lconst 0, 1) ∧ decode cX11_room 25 = .ok (.iload_n 2, 1) ∧ decode cX11_room 26 = .ok (.ifCond .ne 9, 3) ∧ decode cX11_room 29 = .ok (.ldc2_w 330, 3) ∧ decode cX11_room 32 = .ok (.goto 6, 3) ∧ decode cX11_room 35 = .ok (.ldc2_w 195, 3) ∧ decode cX11_room 38 = .ok (.invokestatic 147, 3) ∧ decode cX11_room 41 = .ok (.ifCond .ne 6, 3) ∧ decode cX11_room 44 = .ok (.ldc 157, 2) ∧ decode cX11_room 46 = .ok (.ireturn, 1) := by decide +kernel
theorem dX11_room_22 : decode cX11_room 22 = .ok (.iload_n 3, 1) := dX11_room_all1.1
theorem dX11_room_23 : decode cX11_room 23 = .ok (.i2l, 1) := dX11_room_all1.2.1
theorem dX11_room_24 : decode cX11_room 24 = .ok (.lconst 0, 1) := dX11_room_all1.2.2.1
theorem dX11_room_25 : decode cX11_room 25 = .ok (.iload_n 2, 1) := dX11_room_all1.2.2.2.1
theorem dX11_room_26 : decode cX11_room 26 = .ok (.ifCond .ne 9, 3) := dX11_room_all1.2.2.2.2.1
theorem dX11_room_29 : decode cX11_room 29 = .ok (.ldc2_w 330, 3) := dX11_room_all1.2.2.2.2.2.1
theorem dX11_room_32 : decode cX11_room 32 = .ok (.goto 6, 3) := dX11_room_all1.2.2.2.2.2.2.1
theorem dX11_room_35 : decode cX11_room 35 = .ok (.ldc2_w 195, 3) := dX11_room_all1.2.2.2.2.2.2.2.1
theorem dX11_room_38 : decode cX11_room 38 = .ok (.invokestatic 147, 3) := dX11_room_all1.2.2.2.2.2.2.2.2.1
theorem dX11_room_41 : decode cX11_room 41 = .ok (.ifCond .ne 6, 3) := dX11_room_all1.2.2.2.2.2.2.2.2.2.1
theorem dX11_room_44 : decode cX11_room 44 = .ok (.ldc 157, 2) := dX11_room_all1.2.2.2.2.2.2.2.2.2.2.1
theorem dX11_room_46 : decode cX11_room 46 = .ok (.ireturn, 1) := dX11_room_all1.2.2.2.2.2.2.2.2.2.2.2
theorem dX11_room_all2 : decode cX11_room 47 = .ok (.iload_n 2, 1) ∧ decode cX11_room 48 = .ok (.ifCond .ne 12, 3) ∧ decode cX11_room 51 = .ok (.aload_n 0, 1) ∧ decode cX11_room 52 = .ok (.getfield 102, 3) ∧ decode cX11_room 55 = .ok (.iload_n 1, 1) ∧ decode cX11_room 56 = .ok (.iaload, 1) ∧ decode cX11_room 57 = .ok (.goto 9, 3) ∧ decode cX11_room 60 = .ok (.aload_n 0, 1) ∧ decode cX11_room 61 = .ok (.getfield 105, 3) ∧ decode cX11_room 64 = .ok (.iload_n 1, 1) ∧ decode cX11_room 65 = .ok (.iaload, 1) ∧ decode cX11_room 66 = .ok (.istore 4, 2) := by decide +kernel
theorem dX11_room_47 : decode cX11_room 47 = .ok (.iload_n 2, 1) := dX11_room_all2.1
theorem dX11_room_48 : decode cX11_room 48 = .ok (.ifCond .ne 12, 3) := dX11_room_all2.2.1
theorem dX11_room_51 : decode cX11_room 51 = .ok (.aload_n 0, 1) := dX11_room_all2.2.2.1
theorem dX11_room_52 : decode cX11_room 52 = .ok (.getfield 102, 3) := dX11_room_all2.2.2.2.1
theorem dX11_room_55 : decode cX11_room 55 = .ok (.iload_n 1, 1) := dX11_room_all2.2.2.2.2.1
theorem dX11_room_56 : decode cX11_room 56 = .ok (.iaload, 1) := dX11_room_all2.2.2.2.2.2.1
theorem dX11_room_57 : decode cX11_room 57 = .ok (.goto 9, 3) := dX11_room_all2.2.2.2.2.2.2.1
theorem dX11_room_60 : decode cX11_room 60 = .ok (.aload_n 0, 1) := dX11_room_all2.2.2.2.2.2.2.2.1
theorem dX11_room_61 : decode cX11_room 61 = .ok (.getfield 105, 3) := dX11_room_all2.2.2.2.2.2.2.2.2.1
theorem dX11_room_64 : decode cX11_room 64 = .ok (.iload_n 1, 1) := dX11_room_all2.2.2.2.2.2.2.2.2.2.1
theorem dX11_room_65 : decode cX11_room 65 = .ok (.iaload, 1) := dX11_room_all2.2.2.2.2.2.2.2.2.2.2.1
theorem dX11_room_66 : decode cX11_room 66 = .ok (.istore 4, 2) := dX11_room_all2.2.2.2.2.2.2.2.2.2.2.2
theorem dX11_room_all3 : decode cX11_room 68 = .ok (.aload_n 0, 1) ∧ decode cX11_room 69 = .ok (.getfield 102, 3) ∧ decode cX11_room 72 = .ok (.iload_n 1, 1) ∧ decode cX11_room 73 = .ok (.iload_n 2, 1) ∧ decode cX11_room 74 = .ok (.ifCond .ne 7, 3) ∧ decode cX11_room 77 = .ok (.iload_n 3, 1) ∧ decode cX11_room 78 = .ok (.goto 9, 3) ∧ decode cX11_room 81 = .ok (.aload_n 0, 1) ∧ decode cX11_room 82 = .ok (.getfield 102, 3) ∧ decode cX11_room 85 = .ok (.iload_n 1, 1) ∧ decode cX11_room 86 = .ok (.iaload, 1) ∧ decode cX11_room 87 = .ok (.iastore, 1) := by decide +kernel
theorem dX11_room_68 : decode cX11_room 68 = .ok (.aload_n 0, 1) := dX11_room_all3.1
theorem dX11_room_69 : decode cX11_room 69 = .ok (.getfield 102, 3) := dX11_room_all3.2.1
theorem dX11_room_72 : decode cX11_room 72 = .ok (.iload_n 1, 1) := dX11_room_all3.2.2.1
theorem dX11_room_73 : decode cX11_room 73 = .ok (.iload_n 2, 1) := dX11_room_all3.2.2.2.1
theorem dX11_room_74 : decode cX11_room 74 = .ok (.ifCond .ne 7, 3) := dX11_room_all3.2.2.2.2.1
theorem dX11_room_77 : decode cX11_room 77 = .ok (.iload_n 3, 1) := dX11_room_all3.2.2.2.2.2.1
theorem dX11_room_78 : decode cX11_room 78 = .ok (.goto 9, 3) := dX11_room_all3.2.2.2.2.2.2.1
theorem dX11_room_81 : decode cX11_room 81 = .ok (.aload_n 0, 1) := dX11_room_all3.2.2.2.2.2.2.2.1
theorem dX11_room_82 : decode cX11_room 82 = .ok (.getfield 102, 3) := dX11_room_all3.2.2.2.2.2.2.2.2.1
theorem dX11_room_85 : decode cX11_room 85 = .ok (.iload_n 1, 1) := dX11_room_all3.2.2.2.2.2.2.2.2.2.1
theorem dX11_room_86 : decode cX11_room 86 = .ok (.iaload, 1) := dX11_room_all3.2.2.2.2.2.2.2.2.2.2.1
theorem dX11_room_87 : decode cX11_room 87 = .ok (.iastore, 1) := dX11_room_all3.2.2.2.2.2.2.2.2.2.2.2
theorem dX11_room_all4 : decode cX11_room 88 = .ok (.aload_n 0, 1) ∧ decode cX11_room 89 = .ok (.getfield 105, 3) ∧ decode cX11_room 92 = .ok (.iload_n 1, 1) ∧ decode cX11_room 93 = .ok (.iload_n 2, 1) ∧ decode cX11_room 94 = .ok (.iconst 1, 1) ∧ decode cX11_room 95 = .ok (.if_icmp .ne 7, 3) ∧ decode cX11_room 98 = .ok (.iload_n 3, 1) ∧ decode cX11_room 99 = .ok (.goto 9, 3) ∧ decode cX11_room 102 = .ok (.aload_n 0, 1) ∧ decode cX11_room 103 = .ok (.getfield 105, 3) ∧ decode cX11_room 106 = .ok (.iload_n 1, 1) ∧ decode cX11_room 107 = .ok (.iaload, 1) := by decide +kernel
theorem dX11_room_88 : decode cX11_room 88 = .ok (.aload_n 0, 1) := dX11_room_all4.1
theorem dX11_room_89 : decode cX11_room 89 = .ok (.getfield 105, 3) := dX11_room_all4.2.1
theorem dX11_room_92 : decode cX11_room 92 = .ok (.iload_n 1, 1) := dX11_room_all4.2.2.1
theorem dX11_room_93 : decode cX11_room 93 = .ok (.iload_n 2, 1) := dX11_room_all4.2.2.2.1
theorem dX11_room_94 : decode cX11_room 94 = .ok (.iconst 1, 1) := dX11_room_all4.2.2.2.2.1
theorem dX11_room_95 : decode cX11_room 95 = .ok (.if_icmp .ne 7, 3) := dX11_room_all4.2.2.2.2.2.1
theorem dX11_room_98 : decode cX11_room 98 = .ok (.iload_n 3, 1) := dX11_room_all4.2.2.2.2.2.2.1
theorem dX11_room_99 : decode cX11_room 99 = .ok (.goto 9, 3) := dX11_room_all4.2.2.2.2.2.2.2.1
theorem dX11_room_102 : decode cX11_room 102 = .ok (.aload_n 0, 1) := dX11_room_all4.2.2.2.2.2.2.2.2.1
theorem dX11_room_103 : decode cX11_room 103 = .ok (.getfield 105, 3) := dX11_room_all4.2.2.2.2.2.2.2.2.2.1
theorem dX11_room_106 : decode cX11_room 106 = .ok (.iload_n 1, 1) := dX11_room_all4.2.2.2.2.2.2.2.2.2.2.1
theorem dX11_room_107 : decode cX11_room 107 = .ok (.iaload, 1) := dX11_room_all4.2.2.2.2.2.2.2.2.2.2.2
theorem dX11_room_all5 : decode cX11_room 108 = .ok (.iastore, 1) ∧ decode cX11_room 109 = .ok (.iload 4, 2) ∧ decode cX11_room 111 = .ok (.ireturn, 1) := by decide +kernel
theorem dX11_room_108 : decode cX11_room 108 = .ok (.iastore, 1) := dX11_room_all5.1
theorem dX11_room_109 : decode cX11_room 109 = .ok (.iload 4, 2) := dX11_room_all5.2.1
theorem dX11_room_111 : decode cX11_room 111 = .ok (.ireturn, 1) := dX11_room_all5.2.2
theorem dX11_insideOf_all0 : decode cX11_insideOf 0 = .ok (.iconst 0, 1) ∧ decode cX11_insideOf 1 = .ok (.istore_n 3, 1) ∧ decode cX11_insideOf 2 = .ok (.iconst 0, 1) ∧ decode cX11_insideOf 3 = .ok (.istore 4, 2) ∧ decode cX11_insideOf 5 = .ok (.iload 4, 2) ∧ decode cX11_insideOf 7 = .ok (.aload_n 0, 1) ∧ decode cX11_insideOf 8 = .ok (.getfield 214, 3) ∧ decode cX11_insideOf 11 = .ok (.if_icmp .ge 54, 3) ∧ decode cX11_insideOf 14 = .ok (.iload_n 3, 1) ∧ decode cX11_insideOf 15 = .ok (.aload_n 0, 1) ∧ decode cX11_insideOf 16 = .ok (.getfield 108, 3) ∧ decode cX11_insideOf 19 = .ok (.iload 4, 2) := by decide +kernel
theorem dX11_insideOf_0 : decode cX11_insideOf 0 = .ok (.iconst 0, 1) := dX11_insideOf_all0.1
theorem dX11_insideOf_1 : decode cX11_insideOf 1 = .ok (.istore_n 3, 1) := dX11_insideOf_all0.2.1
theorem dX11_insideOf_2 : decode cX11_insideOf 2 = .ok (.iconst 0, 1) := dX11_insideOf_all0.2.2.1
theorem dX11_insideOf_3 : decode cX11_insideOf 3 = .ok (.istore 4, 2) := dX11_insideOf_all0.2.2.2.1
theorem dX11_insideOf_5 : decode cX11_insideOf 5 = .ok (.iload 4, 2) := dX11_insideOf_all0.2.2.2.2.1
theorem dX11_insideOf_7 : decode cX11_insideOf 7 = .ok (.aload_n 0, 1) := dX11_insideOf_all0.2.2.2.2.2.1
theorem dX11_insideOf_8 : decode cX11_insideOf 8 = .ok (.getfield 214, 3) := dX11_insideOf_all0.2.2.2.2.2.2.1
theorem dX11_insideOf_11 : decode cX11_insideOf 11 = .ok (.if_icmp .ge 54, 3) := dX11_insideOf_all0.2.2.2.2.2.2.2.1
theorem dX11_insideOf_14 : decode cX11_insideOf 14 = .ok (.iload_n 3, 1) := dX11_insideOf_all0.2.2.2.2.2.2.2.2.1
theorem dX11_insideOf_15 : decode cX11_insideOf 15 = .ok (.aload_n 0, 1) := dX11_insideOf_all0.2.2.2.2.2.2.2.2.2.1
theorem dX11_insideOf_16 : decode cX11_insideOf 16 = .ok (.getfield 108, 3) := dX11_insideOf_all0.2.2.2.2.2.2.2.2.2.2.1
theorem dX11_insideOf_19 : decode cX11_insideOf 19 = .ok (.iload 4, 2) := dX11_insideOf_all0.2.2.2.2.2.2.2.2.2.2.2
theorem dX11_insideOf_all1 : decode cX11_insideOf 21 = .ok (.iaload, 1) ∧ decode cX11_insideOf 22 = .ok (.iload_n 1, 1) ∧ decode cX11_insideOf 23 = .ok (.if_icmp .eq 7, 3) ∧ decode cX11_insideOf 26 = .ok (.iconst 0, 1) ∧ decode cX11_insideOf 27 = .ok (.goto 30, 3) ∧ decode cX11_insideOf 30 = .ok (.iload_n 2, 1) ∧ decode cX11_insideOf 31 = .ok (.ifCond .ne 7, 3) ∧ decode cX11_insideOf 34 = .ok (.iconst 1, 1) ∧ decode cX11_insideOf 35 = .ok (.goto 22, 3) ∧ decode cX11_insideOf 38 = .ok (.iload_n 2, 1) ∧ decode cX11_insideOf 39 = .ok (.iconst 1, 1) ∧ decode cX11_insideOf 40 = .ok (.if_icmp .ne 13, 3) := by decide +kernel
theorem dX11_insideOf_21 : decode cX11_insideOf 21 = .ok (.iaload, 1) := dX11_insideOf_all1.1
theorem dX11_insideOf_22 : decode cX11_insideOf 22 = .ok (.iload_n 1, 1) := dX11_insideOf_all1.2.1
theorem dX11_insideOf_23 : decode cX11_insideOf 23 = .ok (.if_icmp .eq 7, 3) := dX11_insideOf_all1.2.2.1
theorem dX11_insideOf_26 : decode cX11_insideOf 26 = .ok (.iconst 0, 1) := dX11_insideOf_all1.2.2.2.1
theorem dX11_insideOf_27 : decode cX11_insideOf 27 = .ok (.goto 30, 3) := dX11_insideOf_all1.2.2.2.2.1
theorem dX11_insideOf_30 : decode cX11_insideOf 30 = .ok (.iload_n 2, 1) := dX11_insideOf_all1.2.2.2.2.2.1
theorem dX11_insideOf_31 : decode cX11_insideOf 31 = .ok (.ifCond .ne 7, 3) := dX11_insideOf_all1.2.2.2.2.2.2.1
theorem dX11_insideOf_34 : decode cX11_insideOf 34 = .ok (.iconst 1, 1) := dX11_insideOf_all1.2.2.2.2.2.2.2.1
theorem dX11_insideOf_35 : decode cX11_insideOf 35 = .ok (.goto 22, 3) := dX11_insideOf_all1.2.2.2.2.2.2.2.2.1
theorem dX11_insideOf_38 : decode cX11_insideOf 38 = .ok (.iload_n 2, 1) := dX11_insideOf_all1.2.2.2.2.2.2.2.2.2.1
theorem dX11_insideOf_39 : decode cX11_insideOf 39 = .ok (.iconst 1, 1) := dX11_insideOf_all1.2.2.2.2.2.2.2.2.2.2.1
theorem dX11_insideOf_40 : decode cX11_insideOf 40 = .ok (.if_icmp .ne 13, 3) := dX11_insideOf_all1.2.2.2.2.2.2.2.2.2.2.2
theorem dX11_insideOf_all2 : decode cX11_insideOf 43 = .ok (.aload_n 0, 1) ∧ decode cX11_insideOf 44 = .ok (.getfield 51, 3) ∧ decode cX11_insideOf 47 = .ok (.iload 4, 2) ∧ decode cX11_insideOf 49 = .ok (.iaload, 1) ∧ decode cX11_insideOf 50 = .ok (.goto 7, 3) ∧ decode cX11_insideOf 53 = .ok (.iconst 1, 1) ∧ decode cX11_insideOf 54 = .ok (.iload 4, 2) ∧ decode cX11_insideOf 56 = .ok (.ishl, 1) ∧ decode cX11_insideOf 57 = .ok (.iadd, 1) ∧ decode cX11_insideOf 58 = .ok (.istore_n 3, 1) ∧ decode cX11_insideOf 59 = .ok (.iinc 4 1, 3) ∧ decode cX11_insideOf 62 = .ok (.goto (-57), 3) := by decide +kernel
theorem dX11_insideOf_43 : decode cX11_insideOf 43 = .ok (.aload_n 0, 1) := dX11_insideOf_all2.1
theorem dX11_insideOf_44 : decode cX11_insideOf 44 = .ok (.getfield 51, 3) := dX11_insideOf_all2.2.1
theorem dX11_insideOf_47 : decode cX11_insideOf 47 = .ok (.iload 4, 2) := dX11_insideOf_all2.2.2.1
theorem dX11_insideOf_49 : decode cX11_insideOf 49 = .ok (.iaload, 1) := dX11_insideOf_all2.2.2.2.1
theorem dX11_insideOf_50 : decode cX11_insideOf 50 = .ok (.goto 7, 3) := dX11_insideOf_all2.2.2.2.2.1
theorem dX11_insideOf_53 : decode cX11_insideOf 53 = .ok (.iconst 1, 1) := dX11_insideOf_all2.2.2.2.2.2.1
theorem dX11_insideOf_54 : decode cX11_insideOf 54 = .ok (.iload 4, 2) := dX11_insideOf_all2.2.2.2.2.2.2.1
theorem dX11_insideOf_56 : decode cX11_insideOf 56 = .ok (.ishl, 1) := dX11_insideOf_all2.2.2.2.2.2.2.2.1
theorem dX11_insideOf_57 : decode cX11_insideOf 57 = .ok (.iadd, 1) := dX11_insideOf_all2.2.2.2.2.2.2.2.2.1
theorem dX11_insideOf_58 : decode cX11_insideOf 58 = .ok (.istore_n 3, 1) := dX11_insideOf_all2.2.2.2.2.2.2.2.2.2.1
theorem dX11_insideOf_59 : decode cX11_insideOf 59 = .ok (.iinc 4 1, 3) := dX11_insideOf_all2.2.2.2.2.2.2.2.2.2.2.1
theorem dX11_insideOf_62 : decode cX11_insideOf 62 = .ok (.goto (-57), 3) := dX11_insideOf_all2.2.2.2.2.2.2.2.2.2.2.2
theorem dX11_insideOf_all3 : decode cX11_insideOf 65 = .ok (.iload_n 3, 1) ∧ decode cX11_insideOf 66 = .ok (.ireturn, 1) := by decide +kernel
theorem dX11_insideOf_65 : decode cX11_insideOf 65 = .ok (.iload_n 3, 1) := dX11_insideOf_all3.1
theorem dX11_insideOf_66 : decode cX11_insideOf 66 = .ok (.ireturn, 1) := dX11_insideOf_all3.2
theorem ggX11_move_X11_isCrate : GoodIn wsX11_move wsX11_isCrate := goodIn_s (fun _ h => wm_t (wm_r (wm_l (wm_r h)))) Gd_X11_isCrate
theorem gX11_move_X11_isCrate : GoodIn wsX11_move (wsV RX11 219 RX11 yX11_isCrate wsX11_isCrate) := goodIn_V (own := RX11) (idx := 219) (C := RX11) (y := yX11_isCrate) (wm_t (wm_l (wm_i 9 rfl))) (wm_t (wm_l (wm_i 10 rfl))) (wm_t (wm_l (wm_i 11 rfl))) (wm_t (wm_l (wm_i 12 rfl))) ggX11_move_X11_isCrate
theorem ggX11_move_X11_isRoom : GoodIn wsX11_move wsX11_isRoom := goodIn_s (fun _ h => wm_t (wm_r (wm_r (wm_l h)))) Gd_X11_isRoom
theorem gX11_move_X11_isRoom : GoodIn wsX11_move (va_wsS RX11 327 yX11_isRoom wsX11_isRoom) := goodIn_S (own := RX11) (idx := 327) (y := yX11_isRoom) (wm_t (wm_l (wm_i 13 rfl))) (wm_t (wm_l (wm_i 14 rfl))) (wm_t (wm_l (wm_i 12 rfl))) ggX11_move_X11_isRoom
theorem ggX11_move_X11_insideOf : GoodIn wsX11_move wsX11_insideOf := goodIn_s (fun _ h => wm_t (wm_r (wm_r (wm_r h)))) Gd_X11_insideOf
theorem gX11_move_X11_insideOf : GoodIn wsX11_move (wsV RX11 333 RX11 yX11_insideOf wsX11_insideOf) := goodIn_V (own := RX11) (idx := 333) (C := RX11) (y := yX11_insideOf) (wm_t (wm_l (wm_i 15 rfl))) (wm_t (wm_l (wm_i 16 rfl))) (wm_t (wm_l (wm_i 17 rfl))) (wm_t (wm_l (wm_i 12 rfl))) ggX11_move_X11_insideOf
theorem dX11_move_all0 : decode cX11_move 0 = .ok (.aload_n 0, 1) ∧ decode cX11_move 1 = .ok (.iconst 0, 1) ∧ decode cX11_move 2 = .ok (.putfield 1, 3) ∧ decode cX11_move 5 = .ok (.aload_n 0, 1) ∧ decode cX11_move 6 = .ok (.iload_n 1, 1) ∧ decode cX11_move 7 = .ok (.invokevirtual 219, 3) ∧ decode cX11_move 10 = .ok (.ifCond .eq 16, 3) ∧ decode cX11_move 13 = .ok (.iload_n 2, 1) ∧ decode cX11_move 14 = .ok (.ldc 139, 2) ∧ decode cX11_move 16 = .ok (.if_icmp .eq 13, 3) ∧ decode cX11_move 19 = .ok (.iload_n 2, 1) ∧ decode cX11_move 20 = .ok (.invokestatic 327, 3) := by decide +kernel
theorem dX11_move_0 : decode cX11_move 0 = .ok (.aload_n 0, 1) := dX11_move_all0.1
theorem dX11_move_1 : decode cX11_move 1 = .ok (.iconst 0, 1) := dX11_move_all0.2.1
theorem dX11_move_2 : decode cX11_move 2 = .ok (.putfield 1, 3) := dX11_move_all0.2.2.1
theorem dX11_move_5 : decode cX11_move 5 = .ok (.aload_n 0, 1) := dX11_move_all0.2.2.2.1
theorem dX11_move_6 : decode cX11_move 6 = .ok (.iload_n 1, 1) := dX11_move_all0.2.2.2.2.1
theorem dX11_move_7 : decode cX11_move 7 = .ok (.invokevirtual 219, 3) := dX11_move_all0.2.2.2.2.2.1
theorem dX11_move_10 : decode cX11_move 10 = .ok (.ifCond .eq 16, 3) := dX11_move_all0.2.2.2.2.2.2.1
theorem dX11_move_13 : decode cX11_move 13 = .ok (.iload_n 2, 1) := dX11_move_all0.2.2.2.2.2.2.2.1
theorem dX11_move_14 : decode cX11_move 14 = .ok (.ldc 139, 2) := dX11_move_all0.2.2.2.2.2.2.2.2.1
theorem dX11_move_16 : decode cX11_move 16 = .ok (.if_icmp .eq 13, 3) := dX11_move_all0.2.2.2.2.2.2.2.2.2.1
theorem dX11_move_19 : decode cX11_move 19 = .ok (.iload_n 2, 1) := dX11_move_all0.2.2.2.2.2.2.2.2.2.2.1
theorem dX11_move_20 : decode cX11_move 20 = .ok (.invokestatic 327, 3) := dX11_move_all0.2.2.2.2.2.2.2.2.2.2.2
theorem dX11_move_all1 : decode cX11_move 23 = .ok (.ifCond .ne 6, 3) ∧ decode cX11_move 26 = .ok (.ldc 157, 2) ∧ decode cX11_move 28 = .ok (.ireturn, 1) ∧ decode cX11_move 29 = .ok (.aload_n 0, 1) ∧ decode cX11_move 30 = .ok (.getfield 108, 3) ∧ decode cX11_move 33 = .ok (.iload_n 1, 1) ∧ decode cX11_move 34 = .ok (.iaload, 1) ∧ decode cX11_move 35 = .ok (.iload_n 2, 1) ∧ decode cX11_move 36 = .ok (.if_icmp .ne 7, 3) ∧ decode cX11_move 39 = .ok (.ldc_w 332, 3) ∧ decode cX11_move 42 = .ok (.ireturn, 1) ∧ decode cX11_move 43 = .ok (.iload_n 2, 1) := by decide +kernel
theorem dX11_move_23 : decode cX11_move 23 = .ok (.ifCond .ne 6, 3) := dX11_move_all1.1
theorem dX11_move_26 : decode cX11_move 26 = .ok (.ldc 157, 2) := dX11_move_all1.2.1
theorem dX11_move_28 : decode cX11_move 28 = .ok (.ireturn, 1) := dX11_move_all1.2.2.1
theorem dX11_move_29 : decode cX11_move 29 = .ok (.aload_n 0, 1) := dX11_move_all1.2.2.2.1
theorem dX11_move_30 : decode cX11_move 30 = .ok (.getfield 108, 3) := dX11_move_all1.2.2.2.2.1
theorem dX11_move_33 : decode cX11_move 33 = .ok (.iload_n 1, 1) := dX11_move_all1.2.2.2.2.2.1
theorem dX11_move_34 : decode cX11_move 34 = .ok (.iaload, 1) := dX11_move_all1.2.2.2.2.2.2.1
theorem dX11_move_35 : decode cX11_move 35 = .ok (.iload_n 2, 1) := dX11_move_all1.2.2.2.2.2.2.2.1
theorem dX11_move_36 : decode cX11_move 36 = .ok (.if_icmp .ne 7, 3) := dX11_move_all1.2.2.2.2.2.2.2.2.1
theorem dX11_move_39 : decode cX11_move 39 = .ok (.ldc_w 332, 3) := dX11_move_all1.2.2.2.2.2.2.2.2.2.1
theorem dX11_move_42 : decode cX11_move 42 = .ok (.ireturn, 1) := dX11_move_all1.2.2.2.2.2.2.2.2.2.2.1
theorem dX11_move_43 : decode cX11_move 43 = .ok (.iload_n 2, 1) := dX11_move_all1.2.2.2.2.2.2.2.2.2.2.2
theorem dX11_move_all2 : decode cX11_move 44 = .ok (.ldc 139, 2) ∧ decode cX11_move 46 = .ok (.if_icmp .eq 43, 3) ∧ decode cX11_move 49 = .ok (.aload_n 0, 1) ∧ decode cX11_move 50 = .ok (.iload_n 2, 1) ∧ decode cX11_move 51 = .ok (.iconst 0, 1) ∧ decode cX11_move 52 = .ok (.invokevirtual 333, 3) ∧ decode cX11_move 55 = .ok (.aload_n 0, 1) ∧ decode cX11_move 56 = .ok (.getfield 102, 3) ∧ decode cX11_move 59 = .ok (.iload_n 2, 1) ∧ decode cX11_move 60 = .ok (.iaload, 1) ∧ decode cX11_move 61 = .ok (.if_icmp .ge 25, 3) ∧ decode cX11_move 64 = .ok (.aload_n 0, 1) := by decide +kernel
theorem dX11_move_44 : decode cX11_move 44 = .ok (.ldc 139, 2) := dX11_move_all2.1
theorem dX11_move_46 : decode cX11_move 46 = .ok (.if_icmp .eq 43, 3) := dX11_move_all2.2.1
theorem dX11_move_49 : decode cX11_move 49 = .ok (.aload_n 0, 1) := dX11_move_all2.2.2.1
theorem dX11_move_50 : decode cX11_move 50 = .ok (.iload_n 2, 1) := dX11_move_all2.2.2.2.1
theorem dX11_move_51 : decode cX11_move 51 = .ok (.iconst 0, 1) := dX11_move_all2.2.2.2.2.1
theorem dX11_move_52 : decode cX11_move 52 = .ok (.invokevirtual 333, 3) := dX11_move_all2.2.2.2.2.2.1
theorem dX11_move_55 : decode cX11_move 55 = .ok (.aload_n 0, 1) := dX11_move_all2.2.2.2.2.2.2.1
theorem dX11_move_56 : decode cX11_move 56 = .ok (.getfield 102, 3) := dX11_move_all2.2.2.2.2.2.2.2.1
theorem dX11_move_59 : decode cX11_move 59 = .ok (.iload_n 2, 1) := dX11_move_all2.2.2.2.2.2.2.2.2.1
theorem dX11_move_60 : decode cX11_move 60 = .ok (.iaload, 1) := dX11_move_all2.2.2.2.2.2.2.2.2.2.1
theorem dX11_move_61 : decode cX11_move 61 = .ok (.if_icmp .ge 25, 3) := dX11_move_all2.2.2.2.2.2.2.2.2.2.2.1
theorem dX11_move_64 : decode cX11_move 64 = .ok (.aload_n 0, 1) := dX11_move_all2.2.2.2.2.2.2.2.2.2.2.2
theorem dX11_move_all3 : decode cX11_move 65 = .ok (.iload_n 2, 1) ∧ decode cX11_move 66 = .ok (.iconst 1, 1) ∧ decode cX11_move 67 = .ok (.invokevirtual 333, 3) ∧ decode cX11_move 70 = .ok (.aload_n 0, 1) ∧ decode cX11_move 71 = .ok (.getfield 51, 3) ∧ decode cX11_move 74 = .ok (.iload_n 1, 1) ∧ decode cX11_move 75 = .ok (.iaload, 1) ∧ decode cX11_move 76 = .ok (.iadd, 1) ∧ decode cX11_move 77 = .ok (.aload_n 0, 1) ∧ decode cX11_move 78 = .ok (.getfield 105, 3) ∧ decode cX11_move 81 = .ok (.iload_n 2, 1) ∧ decode cX11_move 82 = .ok (.iaload, 1) := by decide +kernel
theorem dX11_move_65 : decode cX11_move 65 = .ok (.iload_n 2, 1) := dX11_move_all3.1
theorem dX11_move_66 : decode cX11_move 66 = .ok (.iconst 1, 1) := dX11_move_all3.2.1
theorem dX11_move_67 : decode cX11_move 67 = .ok (.invokevirtual 333, 3) := dX11_move_all3.2.2.1
theorem dX11_move_70 : decode cX11_move 70 = .ok (.aload_n 0, 1) := dX11_move_all3.2.2.2.1
theorem dX11_move_71 : decode cX11_move 71 = .ok (.getfield 51, 3) := dX11_move_all3.2.2.2.2.1
theorem dX11_move_74 : decode cX11_move 74 = .ok (.iload_n 1, 1) := dX11_move_all3.2.2.2.2.2.1
theorem dX11_move_75 : decode cX11_move 75 = .ok (.iaload, 1) := dX11_move_all3.2.2.2.2.2.2.1
theorem dX11_move_76 : decode cX11_move 76 = .ok (.iadd, 1) := dX11_move_all3.2.2.2.2.2.2.2.1
theorem dX11_move_77 : decode cX11_move 77 = .ok (.aload_n 0, 1) := dX11_move_all3.2.2.2.2.2.2.2.2.1
theorem dX11_move_78 : decode cX11_move 78 = .ok (.getfield 105, 3) := dX11_move_all3.2.2.2.2.2.2.2.2.2.1
theorem dX11_move_81 : decode cX11_move 81 = .ok (.iload_n 2, 1) := dX11_move_all3.2.2.2.2.2.2.2.2.2.2.1
theorem dX11_move_82 : decode cX11_move 82 = .ok (.iaload, 1) := dX11_move_all3.2.2.2.2.2.2.2.2.2.2.2
theorem dX11_move_all4 : decode cX11_move 83 = .ok (.if_icmp .le 6, 3) ∧ decode cX11_move 86 = .ok (.ldc 184, 2) ∧ decode cX11_move 88 = .ok (.ireturn, 1) ∧ decode cX11_move 89 = .ok (.aload_n 0, 1) ∧ decode cX11_move 90 = .ok (.getfield 108, 3) ∧ decode cX11_move 93 = .ok (.iload_n 1, 1) ∧ decode cX11_move 94 = .ok (.iaload, 1) ∧ decode cX11_move 95 = .ok (.istore_n 3, 1) ∧ decode cX11_move 96 = .ok (.aload_n 0, 1) ∧ decode cX11_move 97 = .ok (.getfield 108, 3) ∧ decode cX11_move 100 = .ok (.iload_n 1, 1) ∧ decode cX11_move 101 = .ok (.iload_n 2, 1) := by decide +kernel
theorem dX11_move_83 : decode cX11_move 83 = .ok (.if_icmp .le 6, 3) := dX11_move_all4.1
theorem dX11_move_86 : decode cX11_move 86 = .ok (.ldc 184, 2) := dX11_move_all4.2.1
theorem dX11_move_88 : decode cX11_move 88 = .ok (.ireturn, 1) := dX11_move_all4.2.2.1
theorem dX11_move_89 : decode cX11_move 89 = .ok (.aload_n 0, 1) := dX11_move_all4.2.2.2.1
theorem dX11_move_90 : decode cX11_move 90 = .ok (.getfield 108, 3) := dX11_move_all4.2.2.2.2.1
theorem dX11_move_93 : decode cX11_move 93 = .ok (.iload_n 1, 1) := dX11_move_all4.2.2.2.2.2.1
theorem dX11_move_94 : decode cX11_move 94 = .ok (.iaload, 1) := dX11_move_all4.2.2.2.2.2.2.1
theorem dX11_move_95 : decode cX11_move 95 = .ok (.istore_n 3, 1) := dX11_move_all4.2.2.2.2.2.2.2.1
theorem dX11_move_96 : decode cX11_move 96 = .ok (.aload_n 0, 1) := dX11_move_all4.2.2.2.2.2.2.2.2.1
theorem dX11_move_97 : decode cX11_move 97 = .ok (.getfield 108, 3) := dX11_move_all4.2.2.2.2.2.2.2.2.2.1
theorem dX11_move_100 : decode cX11_move 100 = .ok (.iload_n 1, 1) := dX11_move_all4.2.2.2.2.2.2.2.2.2.2.1
theorem dX11_move_101 : decode cX11_move 101 = .ok (.iload_n 2, 1) := dX11_move_all4.2.2.2.2.2.2.2.2.2.2.2
theorem dX11_move_all5 : decode cX11_move 102 = .ok (.iastore, 1) ∧ decode cX11_move 103 = .ok (.iload_n 3, 1) ∧ decode cX11_move 104 = .ok (.ireturn, 1) := by decide +kernel
theorem dX11_move_102 : decode cX11_move 102 = .ok (.iastore, 1) := dX11_move_all5.1
theorem dX11_move_103 : decode cX11_move 103 = .ok (.iload_n 3, 1) := dX11_move_all5.2.1
theorem dX11_move_104 : decode cX11_move 104 = .ok (.ireturn, 1) := dX11_move_all5.2.2
theorem ggX11_inside_X11_isRoom : GoodIn wsX11_inside wsX11_isRoom := goodIn_s (fun _ h => wm_t (wm_r (wm_l (wm_r h)))) Gd_X11_isRoom
theorem gX11_inside_X11_isRoom : GoodIn wsX11_inside (va_wsS RX11 327 yX11_isRoom wsX11_isRoom) := goodIn_S (own := RX11) (idx := 327) (y := yX11_isRoom) (wm_t (wm_l (wm_i 3 rfl))) (wm_t (wm_l (wm_i 4 rfl))) (wm_t (wm_l (wm_i 5 rfl))) ggX11_inside_X11_isRoom
theorem ggX11_inside_X11_in : GoodIn wsX11_inside wsX11_in := goodIn_s (fun _ h => wm_t (wm_r (wm_r (wm_l h)))) Gd_X11_in
theorem gX11_inside_X11_in : GoodIn wsX11_inside (va_wsS RX11 147 yX11_in wsX11_in) := goodIn_S (own := RX11) (idx := 147) (y := yX11_in) (wm_t (wm_l (wm_i 6 rfl))) (wm_t (wm_l (wm_i 7 rfl))) (wm_t (wm_l (wm_i 5 rfl))) ggX11_inside_X11_in
theorem ggX11_inside_X11_insideOf : GoodIn wsX11_inside wsX11_insideOf := goodIn_s (fun _ h => wm_t (wm_r (wm_r (wm_r h)))) Gd_X11_insideOf
theorem gX11_inside_X11_insideOf : GoodIn wsX11_inside (wsV RX11 333 RX11 yX11_insideOf wsX11_insideOf) := goodIn_V (own := RX11) (idx := 333) (C := RX11) (y := yX11_insideOf) (wm_t (wm_l (wm_i 8 rfl))) (wm_t (wm_l (wm_i 9 rfl))) (wm_t (wm_l (wm_i 10 rfl))) (wm_t (wm_l (wm_i 5 rfl))) ggX11_inside_X11_insideOf
theorem dX11_inside_all0 : decode cX11_inside 0 = .ok (.aload_n 0, 1) ∧ decode cX11_inside 1 = .ok (.iconst 0, 1) ∧ decode cX11_inside 2 = .ok (.putfield 1, 3) ∧ decode cX11_inside 5 = .ok (.iload_n 1, 1) ∧ decode cX11_inside 6 = .ok (.invokestatic 327, 3) ∧ decode cX11_inside 9 = .ok (.ifCond .eq 15, 3) ∧ decode cX11_inside 12 = .ok (.iload_n 2, 1) ∧ decode cX11_inside 13 = .ok (.i2l, 1) ∧ decode cX11_inside 14 = .ok (.lconst 0, 1) ∧ decode cX11_inside 15 = .ok (.ldc2_w 155, 3) ∧ decode cX11_inside 18 = .ok (.invokestatic 147, 3) ∧ decode cX11_inside 21 = .ok (.ifCond .ne 8, 3) := by decide +kernel
theorem dX11_inside_0 : decode cX11_inside 0 = .ok (.aload_n 0, 1) := dX11_inside_all0.1
theorem dX11_inside_1 : decode cX11_inside 1 = .ok (.iconst 0, 1) := dX11_inside_all0.2.1
theorem dX11_inside_2 : decode cX11_inside 2 = .ok (.putfield 1, 3) := dX11_inside_all0.2.2.1
theorem dX11_inside_5 : decode cX11_inside 5 = .ok (.iload_n 1, 1) := dX11_inside_all0.2.2.2.1
theorem dX11_inside_6 : decode cX11_inside 6 = .ok (.invokestatic 327, 3) := dX11_inside_all0.2.2.2.2.1
theorem dX11_inside_9 : decode cX11_inside 9 = .ok (.ifCond .eq 15, 3) := dX11_inside_all0.2.2.2.2.2.1
theorem dX11_inside_12 : decode cX11_inside 12 = .ok (.iload_n 2, 1) := dX11_inside_all0.2.2.2.2.2.2.1
theorem dX11_inside_13 : decode cX11_inside 13 = .ok (.i2l, 1) := dX11_inside_all0.2.2.2.2.2.2.2.1
theorem dX11_inside_14 : decode cX11_inside 14 = .ok (.lconst 0, 1) := dX11_inside_all0.2.2.2.2.2.2.2.2.1
theorem dX11_inside_15 : decode cX11_inside 15 = .ok (.ldc2_w 155, 3) := dX11_inside_all0.2.2.2.2.2.2.2.2.2.1
theorem dX11_inside_18 : decode cX11_inside 18 = .ok (.invokestatic 147, 3) := dX11_inside_all0.2.2.2.2.2.2.2.2.2.2.1
theorem dX11_inside_21 : decode cX11_inside 21 = .ok (.ifCond .ne 8, 3) := dX11_inside_all0.2.2.2.2.2.2.2.2.2.2.2
theorem dX11_inside_all1 : decode cX11_inside 24 = .ok (.ldc 157, 2) ∧ decode cX11_inside 26 = .ok (.goto 9, 3) ∧ decode cX11_inside 29 = .ok (.aload_n 0, 1) ∧ decode cX11_inside 30 = .ok (.iload_n 1, 1) ∧ decode cX11_inside 31 = .ok (.iload_n 2, 1) ∧ decode cX11_inside 32 = .ok (.invokevirtual 333, 3) ∧ decode cX11_inside 35 = .ok (.ireturn, 1) := by decide +kernel
theorem dX11_inside_24 : decode cX11_inside 24 = .ok (.ldc 157, 2) := dX11_inside_all1.1
theorem dX11_inside_26 : decode cX11_inside 26 = .ok (.goto 9, 3) := dX11_inside_all1.2.1
theorem dX11_inside_29 : decode cX11_inside 29 = .ok (.aload_n 0, 1) := dX11_inside_all1.2.2.1
theorem dX11_inside_30 : decode cX11_inside 30 = .ok (.iload_n 1, 1) := dX11_inside_all1.2.2.2.1
theorem dX11_inside_31 : decode cX11_inside 31 = .ok (.iload_n 2, 1) := dX11_inside_all1.2.2.2.2.1
theorem dX11_inside_32 : decode cX11_inside 32 = .ok (.invokevirtual 333, 3) := dX11_inside_all1.2.2.2.2.2.1
theorem dX11_inside_35 : decode cX11_inside 35 = .ok (.ireturn, 1) := dX11_inside_all1.2.2.2.2.2.2
theorem dX11_lotOf_all0 : decode cX11_lotOf 0 = .ok (.aload_n 0, 1) ∧ decode cX11_lotOf 1 = .ok (.getfield 135, 3) ∧ decode cX11_lotOf 4 = .ok (.iload_n 1, 1) ∧ decode cX11_lotOf 5 = .ok (.i2l, 1) ∧ decode cX11_lotOf 6 = .ok (.ldc2_w 336, 3) ∧ decode cX11_lotOf 9 = .ok (.lmul, 1) ∧ decode cX11_lotOf 10 = .ok (.ladd, 1) ∧ decode cX11_lotOf 11 = .ok (.iload_n 2, 1) ∧ decode cX11_lotOf 12 = .ok (.i2l, 1) ∧ decode cX11_lotOf 13 = .ok (.ldc2_w 338, 3) ∧ decode cX11_lotOf 16 = .ok (.lmul, 1) ∧ decode cX11_lotOf 17 = .ok (.ladd, 1) := by decide +kernel
theorem dX11_lotOf_0 : decode cX11_lotOf 0 = .ok (.aload_n 0, 1) := dX11_lotOf_all0.1
theorem dX11_lotOf_1 : decode cX11_lotOf 1 = .ok (.getfield 135, 3) := dX11_lotOf_all0.2.1
theorem dX11_lotOf_4 : decode cX11_lotOf 4 = .ok (.iload_n 1, 1) := dX11_lotOf_all0.2.2.1
theorem dX11_lotOf_5 : decode cX11_lotOf 5 = .ok (.i2l, 1) := dX11_lotOf_all0.2.2.2.1
theorem dX11_lotOf_6 : decode cX11_lotOf 6 = .ok (.ldc2_w 336, 3) := dX11_lotOf_all0.2.2.2.2.1
theorem dX11_lotOf_9 : decode cX11_lotOf 9 = .ok (.lmul, 1) := dX11_lotOf_all0.2.2.2.2.2.1
theorem dX11_lotOf_10 : decode cX11_lotOf 10 = .ok (.ladd, 1) := dX11_lotOf_all0.2.2.2.2.2.2.1
theorem dX11_lotOf_11 : decode cX11_lotOf 11 = .ok (.iload_n 2, 1) := dX11_lotOf_all0.2.2.2.2.2.2.2.1
theorem dX11_lotOf_12 : decode cX11_lotOf 12 = .ok (.i2l, 1) := dX11_lotOf_all0.2.2.2.2.2.2.2.2.1
theorem dX11_lotOf_13 : decode cX11_lotOf 13 = .ok (.ldc2_w 338, 3) := dX11_lotOf_all0.2.2.2.2.2.2.2.2.2.1
theorem dX11_lotOf_16 : decode cX11_lotOf 16 = .ok (.lmul, 1) := dX11_lotOf_all0.2.2.2.2.2.2.2.2.2.2.1
theorem dX11_lotOf_17 : decode cX11_lotOf 17 = .ok (.ladd, 1) := dX11_lotOf_all0.2.2.2.2.2.2.2.2.2.2.2
theorem dX11_lotOf_all1 : decode cX11_lotOf 18 = .ok (.lstore_n 3, 1) ∧ decode cX11_lotOf 19 = .ok (.lload_n 3, 1) ∧ decode cX11_lotOf 20 = .ok (.ldc2_w 340, 3) ∧ decode cX11_lotOf 23 = .ok (.lmul, 1) ∧ decode cX11_lotOf 24 = .ok (.lstore_n 3, 1) ∧ decode cX11_lotOf 25 = .ok (.lload_n 3, 1) ∧ decode cX11_lotOf 26 = .ok (.lload_n 3, 1) ∧ decode cX11_lotOf 27 = .ok (.bipush 29, 2) ∧ decode cX11_lotOf 29 = .ok (.lushr, 1) ∧ decode cX11_lotOf 30 = .ok (.lxor, 1) ∧ decode cX11_lotOf 31 = .ok (.lstore_n 3, 1) ∧ decode cX11_lotOf 32 = .ok (.lload_n 3, 1) := by decide +kernel
theorem dX11_lotOf_18 : decode cX11_lotOf 18 = .ok (.lstore_n 3, 1) := dX11_lotOf_all1.1
theorem dX11_lotOf_19 : decode cX11_lotOf 19 = .ok (.lload_n 3, 1) := dX11_lotOf_all1.2.1
theorem dX11_lotOf_20 : decode cX11_lotOf 20 = .ok (.ldc2_w 340, 3) := dX11_lotOf_all1.2.2.1
theorem dX11_lotOf_23 : decode cX11_lotOf 23 = .ok (.lmul, 1) := dX11_lotOf_all1.2.2.2.1
theorem dX11_lotOf_24 : decode cX11_lotOf 24 = .ok (.lstore_n 3, 1) := dX11_lotOf_all1.2.2.2.2.1
theorem dX11_lotOf_25 : decode cX11_lotOf 25 = .ok (.lload_n 3, 1) := dX11_lotOf_all1.2.2.2.2.2.1
theorem dX11_lotOf_26 : decode cX11_lotOf 26 = .ok (.lload_n 3, 1) := dX11_lotOf_all1.2.2.2.2.2.2.1
theorem dX11_lotOf_27 : decode cX11_lotOf 27 = .ok (.bipush 29, 2) := dX11_lotOf_all1.2.2.2.2.2.2.2.1
theorem dX11_lotOf_29 : decode cX11_lotOf 29 = .ok (.lushr, 1) := dX11_lotOf_all1.2.2.2.2.2.2.2.2.1
theorem dX11_lotOf_30 : decode cX11_lotOf 30 = .ok (.lxor, 1) := dX11_lotOf_all1.2.2.2.2.2.2.2.2.2.1
theorem dX11_lotOf_31 : decode cX11_lotOf 31 = .ok (.lstore_n 3, 1) := dX11_lotOf_all1.2.2.2.2.2.2.2.2.2.2.1
theorem dX11_lotOf_32 : decode cX11_lotOf 32 = .ok (.lload_n 3, 1) := dX11_lotOf_all1.2.2.2.2.2.2.2.2.2.2.2
theorem dX11_lotOf_all2 : decode cX11_lotOf 33 = .ok (.ldc2_w 342, 3) ∧ decode cX11_lotOf 36 = .ok (.lmul, 1) ∧ decode cX11_lotOf 37 = .ok (.lstore_n 3, 1) ∧ decode cX11_lotOf 38 = .ok (.lload_n 3, 1) ∧ decode cX11_lotOf 39 = .ok (.lload_n 3, 1) ∧ decode cX11_lotOf 40 = .ok (.bipush 32, 2) ∧ decode cX11_lotOf 42 = .ok (.lushr, 1) ∧ decode cX11_lotOf 43 = .ok (.lxor, 1) ∧ decode cX11_lotOf 44 = .ok (.lstore_n 3, 1) ∧ decode cX11_lotOf 45 = .ok (.lload_n 3, 1) ∧ decode cX11_lotOf 46 = .ok (.ldc2_w 344, 3) ∧ decode cX11_lotOf 49 = .ok (.land, 1) := by decide +kernel
theorem dX11_lotOf_33 : decode cX11_lotOf 33 = .ok (.ldc2_w 342, 3) := dX11_lotOf_all2.1
theorem dX11_lotOf_36 : decode cX11_lotOf 36 = .ok (.lmul, 1) := dX11_lotOf_all2.2.1
theorem dX11_lotOf_37 : decode cX11_lotOf 37 = .ok (.lstore_n 3, 1) := dX11_lotOf_all2.2.2.1
theorem dX11_lotOf_38 : decode cX11_lotOf 38 = .ok (.lload_n 3, 1) := dX11_lotOf_all2.2.2.2.1
theorem dX11_lotOf_39 : decode cX11_lotOf 39 = .ok (.lload_n 3, 1) := dX11_lotOf_all2.2.2.2.2.1
theorem dX11_lotOf_40 : decode cX11_lotOf 40 = .ok (.bipush 32, 2) := dX11_lotOf_all2.2.2.2.2.2.1
theorem dX11_lotOf_42 : decode cX11_lotOf 42 = .ok (.lushr, 1) := dX11_lotOf_all2.2.2.2.2.2.2.1
theorem dX11_lotOf_43 : decode cX11_lotOf 43 = .ok (.lxor, 1) := dX11_lotOf_all2.2.2.2.2.2.2.2.1
theorem dX11_lotOf_44 : decode cX11_lotOf 44 = .ok (.lstore_n 3, 1) := dX11_lotOf_all2.2.2.2.2.2.2.2.2.1
theorem dX11_lotOf_45 : decode cX11_lotOf 45 = .ok (.lload_n 3, 1) := dX11_lotOf_all2.2.2.2.2.2.2.2.2.2.1
theorem dX11_lotOf_46 : decode cX11_lotOf 46 = .ok (.ldc2_w 344, 3) := dX11_lotOf_all2.2.2.2.2.2.2.2.2.2.2.1
theorem dX11_lotOf_49 : decode cX11_lotOf 49 = .ok (.land, 1) := dX11_lotOf_all2.2.2.2.2.2.2.2.2.2.2.2
theorem dX11_lotOf_50 : decode cX11_lotOf 50 = .ok (.lreturn, 1) := by decide +kernel
theorem ggX11_lot_X11_in : GoodIn wsX11_lot wsX11_in := goodIn_s (fun _ h => wm_t (wm_r (wm_l (wm_r h)))) Gd_X11_in
theorem gX11_lot_X11_in : GoodIn wsX11_lot (va_wsS RX11 147 yX11_in wsX11_in) := goodIn_S (own := RX11) (idx := 147) (y := yX11_in) (wm_t (wm_l (wm_i 4 rfl))) (wm_t (wm_l (wm_i 5 rfl))) (wm_t (wm_l (wm_i 6 rfl))) ggX11_lot_X11_in
theorem ggX11_lot_X11_isDay : GoodIn wsX11_lot wsX11_isDay := goodIn_s (fun _ h => wm_t (wm_r (wm_r (wm_l h)))) Gd_X11_isDay
theorem gX11_lot_X11_isDay : GoodIn wsX11_lot (va_wsS RX11 178 yX11_isDay wsX11_isDay) := goodIn_S (own := RX11) (idx := 178) (y := yX11_isDay) (wm_t (wm_l (wm_i 7 rfl))) (wm_t (wm_l (wm_i 8 rfl))) (wm_t (wm_l (wm_i 6 rfl))) ggX11_lot_X11_isDay
theorem ggX11_lot_X11_lotOf : GoodIn wsX11_lot wsX11_lotOf := goodIn_s (fun _ h => wm_t (wm_r (wm_r (wm_r h)))) Gd_X11_lotOf
theorem gX11_lot_X11_lotOf : GoodIn wsX11_lot (wsV RX11 348 RX11 yX11_lotOf wsX11_lotOf) := goodIn_V (own := RX11) (idx := 348) (C := RX11) (y := yX11_lotOf) (wm_t (wm_l (wm_i 9 rfl))) (wm_t (wm_l (wm_i 10 rfl))) (wm_t (wm_l (wm_i 11 rfl))) (wm_t (wm_l (wm_i 6 rfl))) ggX11_lot_X11_lotOf
theorem dX11_lot_all0 : decode cX11_lot 0 = .ok (.aload_n 0, 1) ∧ decode cX11_lot 1 = .ok (.iconst 0, 1) ∧ decode cX11_lot 2 = .ok (.putfield 1, 3) ∧ decode cX11_lot 5 = .ok (.iload_n 1, 1) ∧ decode cX11_lot 6 = .ok (.i2l, 1) ∧ decode cX11_lot 7 = .ok (.lconst 0, 1) ∧ decode cX11_lot 8 = .ok (.ldc2_w 346, 3) ∧ decode cX11_lot 11 = .ok (.invokestatic 147, 3) ∧ decode cX11_lot 14 = .ok (.ifCond .eq 22, 3) ∧ decode cX11_lot 17 = .ok (.iload_n 2, 1) ∧ decode cX11_lot 18 = .ok (.invokestatic 178, 3) ∧ decode cX11_lot 21 = .ok (.ifCond .eq 15, 3) := by decide +kernel
theorem dX11_lot_0 : decode cX11_lot 0 = .ok (.aload_n 0, 1) := dX11_lot_all0.1
theorem dX11_lot_1 : decode cX11_lot 1 = .ok (.iconst 0, 1) := dX11_lot_all0.2.1
theorem dX11_lot_2 : decode cX11_lot 2 = .ok (.putfield 1, 3) := dX11_lot_all0.2.2.1
theorem dX11_lot_5 : decode cX11_lot 5 = .ok (.iload_n 1, 1) := dX11_lot_all0.2.2.2.1
theorem dX11_lot_6 : decode cX11_lot 6 = .ok (.i2l, 1) := dX11_lot_all0.2.2.2.2.1
theorem dX11_lot_7 : decode cX11_lot 7 = .ok (.lconst 0, 1) := dX11_lot_all0.2.2.2.2.2.1
theorem dX11_lot_8 : decode cX11_lot 8 = .ok (.ldc2_w 346, 3) := dX11_lot_all0.2.2.2.2.2.2.1
theorem dX11_lot_11 : decode cX11_lot 11 = .ok (.invokestatic 147, 3) := dX11_lot_all0.2.2.2.2.2.2.2.1
theorem dX11_lot_14 : decode cX11_lot 14 = .ok (.ifCond .eq 22, 3) := dX11_lot_all0.2.2.2.2.2.2.2.2.1
theorem dX11_lot_17 : decode cX11_lot 17 = .ok (.iload_n 2, 1) := dX11_lot_all0.2.2.2.2.2.2.2.2.2.1
theorem dX11_lot_18 : decode cX11_lot 18 = .ok (.invokestatic 178, 3) := dX11_lot_all0.2.2.2.2.2.2.2.2.2.2.1
theorem dX11_lot_21 : decode cX11_lot 21 = .ok (.ifCond .eq 15, 3) := dX11_lot_all0.2.2.2.2.2.2.2.2.2.2.2
theorem dX11_lot_all1 : decode cX11_lot 24 = .ok (.iload_n 3, 1) ∧ decode cX11_lot 25 = .ok (.i2l, 1) ∧ decode cX11_lot 26 = .ok (.lconst 1, 1) ∧ decode cX11_lot 27 = .ok (.ldc2_w 195, 3) ∧ decode cX11_lot 30 = .ok (.invokestatic 147, 3) ∧ decode cX11_lot 33 = .ok (.ifCond .ne 8, 3) ∧ decode cX11_lot 36 = .ok (.ldc 157, 2) ∧ decode cX11_lot 38 = .ok (.goto 13, 3) ∧ decode cX11_lot 41 = .ok (.aload_n 0, 1) ∧ decode cX11_lot 42 = .ok (.iload_n 1, 1) ∧ decode cX11_lot 43 = .ok (.iload_n 2, 1) ∧ decode cX11_lot 44 = .ok (.invokevirtual 348, 3) := by decide +kernel
theorem dX11_lot_24 : decode cX11_lot 24 = .ok (.iload_n 3, 1) := dX11_lot_all1.1
theorem dX11_lot_25 : decode cX11_lot 25 = .ok (.i2l, 1) := dX11_lot_all1.2.1
theorem dX11_lot_26 : decode cX11_lot 26 = .ok (.lconst 1, 1) := dX11_lot_all1.2.2.1
theorem dX11_lot_27 : decode cX11_lot 27 = .ok (.ldc2_w 195, 3) := dX11_lot_all1.2.2.2.1
theorem dX11_lot_30 : decode cX11_lot 30 = .ok (.invokestatic 147, 3) := dX11_lot_all1.2.2.2.2.1
theorem dX11_lot_33 : decode cX11_lot 33 = .ok (.ifCond .ne 8, 3) := dX11_lot_all1.2.2.2.2.2.1
theorem dX11_lot_36 : decode cX11_lot 36 = .ok (.ldc 157, 2) := dX11_lot_all1.2.2.2.2.2.2.1
theorem dX11_lot_38 : decode cX11_lot 38 = .ok (.goto 13, 3) := dX11_lot_all1.2.2.2.2.2.2.2.1
theorem dX11_lot_41 : decode cX11_lot 41 = .ok (.aload_n 0, 1) := dX11_lot_all1.2.2.2.2.2.2.2.2.1
theorem dX11_lot_42 : decode cX11_lot 42 = .ok (.iload_n 1, 1) := dX11_lot_all1.2.2.2.2.2.2.2.2.2.1
theorem dX11_lot_43 : decode cX11_lot 43 = .ok (.iload_n 2, 1) := dX11_lot_all1.2.2.2.2.2.2.2.2.2.2.1
theorem dX11_lot_44 : decode cX11_lot 44 = .ok (.invokevirtual 348, 3) := dX11_lot_all1.2.2.2.2.2.2.2.2.2.2.2
theorem dX11_lot_all2 : decode cX11_lot 47 = .ok (.iload_n 3, 1) ∧ decode cX11_lot 48 = .ok (.i2l, 1) ∧ decode cX11_lot 49 = .ok (.lrem, 1) ∧ decode cX11_lot 50 = .ok (.l2i, 1) ∧ decode cX11_lot 51 = .ok (.ireturn, 1) := by decide +kernel
theorem dX11_lot_47 : decode cX11_lot 47 = .ok (.iload_n 3, 1) := dX11_lot_all2.1
theorem dX11_lot_48 : decode cX11_lot 48 = .ok (.i2l, 1) := dX11_lot_all2.2.1
theorem dX11_lot_49 : decode cX11_lot 49 = .ok (.lrem, 1) := dX11_lot_all2.2.2.1
theorem dX11_lot_50 : decode cX11_lot 50 = .ok (.l2i, 1) := dX11_lot_all2.2.2.2.1
theorem dX11_lot_51 : decode cX11_lot 51 = .ok (.ireturn, 1) := dX11_lot_all2.2.2.2.2
theorem ggX11_drawnOn_X11_lotOf : GoodIn wsX11_drawnOn wsX11_lotOf := goodIn_s (fun _ h => wm_t (wm_r (wm_r h))) Gd_X11_lotOf
theorem gX11_drawnOn_X11_lotOf : GoodIn wsX11_drawnOn (wsV RX11 348 RX11 yX11_lotOf wsX11_lotOf) := goodIn_V (own := RX11) (idx := 348) (C := RX11) (y := yX11_lotOf) (wm_t (wm_l (wm_i 3 rfl))) (wm_t (wm_l (wm_i 4 rfl))) (wm_t (wm_l (wm_i 5 rfl))) (wm_t (wm_l (wm_i 6 rfl))) ggX11_drawnOn_X11_lotOf
theorem dX11_drawnOn_all0 : decode cX11_drawnOn 0 = .ok (.iconst 0, 1) ∧ decode cX11_drawnOn 1 = .ok (.istore_n 3, 1) ∧ decode cX11_drawnOn 2 = .ok (.iconst 0, 1) ∧ decode cX11_drawnOn 3 = .ok (.istore 4, 2) ∧ decode cX11_drawnOn 5 = .ok (.iload 4, 2) ∧ decode cX11_drawnOn 7 = .ok (.iload_n 2, 1) ∧ decode cX11_drawnOn 8 = .ok (.if_icmp .ge 116, 3) ∧ decode cX11_drawnOn 11 = .ok (.ldc 139, 2) ∧ decode cX11_drawnOn 13 = .ok (.istore 5, 2) ∧ decode cX11_drawnOn 15 = .ok (.iconst 0, 1) ∧ decode cX11_drawnOn 16 = .ok (.istore 6, 2) ∧ decode cX11_drawnOn 18 = .ok (.iload 6, 2) := by decide +kernel
theorem dX11_drawnOn_0 : decode cX11_drawnOn 0 = .ok (.iconst 0, 1) := dX11_drawnOn_all0.1
theorem dX11_drawnOn_1 : decode cX11_drawnOn 1 = .ok (.istore_n 3, 1) := dX11_drawnOn_all0.2.1
theorem dX11_drawnOn_2 : decode cX11_drawnOn 2 = .ok (.iconst 0, 1) := dX11_drawnOn_all0.2.2.1
theorem dX11_drawnOn_3 : decode cX11_drawnOn 3 = .ok (.istore 4, 2) := dX11_drawnOn_all0.2.2.2.1
theorem dX11_drawnOn_5 : decode cX11_drawnOn 5 = .ok (.iload 4, 2) := dX11_drawnOn_all0.2.2.2.2.1
theorem dX11_drawnOn_7 : decode cX11_drawnOn 7 = .ok (.iload_n 2, 1) := dX11_drawnOn_all0.2.2.2.2.2.1
theorem dX11_drawnOn_8 : decode cX11_drawnOn 8 = .ok (.if_icmp .ge 116, 3) := dX11_drawnOn_all0.2.2.2.2.2.2.1
theorem dX11_drawnOn_11 : decode cX11_drawnOn 11 = .ok (.ldc 139, 2) := dX11_drawnOn_all0.2.2.2.2.2.2.2.1
theorem dX11_drawnOn_13 : decode cX11_drawnOn 13 = .ok (.istore 5, 2) := dX11_drawnOn_all0.2.2.2.2.2.2.2.2.1
theorem dX11_drawnOn_15 : decode cX11_drawnOn 15 = .ok (.iconst 0, 1) := dX11_drawnOn_all0.2.2.2.2.2.2.2.2.2.1
theorem dX11_drawnOn_16 : decode cX11_drawnOn 16 = .ok (.istore 6, 2) := dX11_drawnOn_all0.2.2.2.2.2.2.2.2.2.2.1
theorem dX11_drawnOn_18 : decode cX11_drawnOn 18 = .ok (.iload 6, 2) := dX11_drawnOn_all0.2.2.2.2.2.2.2.2.2.2.2
theorem dX11_drawnOn_all1 : decode cX11_drawnOn 20 = .ok (.aload_n 0, 1) ∧ decode cX11_drawnOn 21 = .ok (.getfield 214, 3) ∧ decode cX11_drawnOn 24 = .ok (.if_icmp .ge 76, 3) ∧ decode cX11_drawnOn 27 = .ok (.aload_n 0, 1) ∧ decode cX11_drawnOn 28 = .ok (.getfield 108, 3) ∧ decode cX11_drawnOn 31 = .ok (.iload 6, 2) ∧ decode cX11_drawnOn 33 = .ok (.iaload, 1) ∧ decode cX11_drawnOn 34 = .ok (.ldc 139, 2) ∧ decode cX11_drawnOn 36 = .ok (.if_icmp .eq 16, 3) ∧ decode cX11_drawnOn 39 = .ok (.iload_n 3, 1) ∧ decode cX11_drawnOn 40 = .ok (.iload 6, 2) ∧ decode cX11_drawnOn 42 = .ok (.ishr, 1) := by decide +kernel
theorem dX11_drawnOn_20 : decode cX11_drawnOn 20 = .ok (.aload_n 0, 1) := dX11_drawnOn_all1.1
theorem dX11_drawnOn_21 : decode cX11_drawnOn 21 = .ok (.getfield 214, 3) := dX11_drawnOn_all1.2.1
theorem dX11_drawnOn_24 : decode cX11_drawnOn 24 = .ok (.if_icmp .ge 76, 3) := dX11_drawnOn_all1.2.2.1
theorem dX11_drawnOn_27 : decode cX11_drawnOn 27 = .ok (.aload_n 0, 1) := dX11_drawnOn_all1.2.2.2.1
theorem dX11_drawnOn_28 : decode cX11_drawnOn 28 = .ok (.getfield 108, 3) := dX11_drawnOn_all1.2.2.2.2.1
theorem dX11_drawnOn_31 : decode cX11_drawnOn 31 = .ok (.iload 6, 2) := dX11_drawnOn_all1.2.2.2.2.2.1
theorem dX11_drawnOn_33 : decode cX11_drawnOn 33 = .ok (.iaload, 1) := dX11_drawnOn_all1.2.2.2.2.2.2.1
theorem dX11_drawnOn_34 : decode cX11_drawnOn 34 = .ok (.ldc 139, 2) := dX11_drawnOn_all1.2.2.2.2.2.2.2.1
theorem dX11_drawnOn_36 : decode cX11_drawnOn 36 = .ok (.if_icmp .eq 16, 3) := dX11_drawnOn_all1.2.2.2.2.2.2.2.2.1
theorem dX11_drawnOn_39 : decode cX11_drawnOn 39 = .ok (.iload_n 3, 1) := dX11_drawnOn_all1.2.2.2.2.2.2.2.2.2.1
theorem dX11_drawnOn_40 : decode cX11_drawnOn 40 = .ok (.iload 6, 2) := dX11_drawnOn_all1.2.2.2.2.2.2.2.2.2.2.1
theorem dX11_drawnOn_42 : decode cX11_drawnOn 42 = .ok (.ishr, 1) := dX11_drawnOn_all1.2.2.2.2.2.2.2.2.2.2.2
theorem dX11_drawnOn_all2 : decode cX11_drawnOn 43 = .ok (.iconst 1, 1) ∧ decode cX11_drawnOn 44 = .ok (.iand, 1) ∧ decode cX11_drawnOn 45 = .ok (.ifCond .ne 7, 3) ∧ decode cX11_drawnOn 48 = .ok (.iconst 1, 1) ∧ decode cX11_drawnOn 49 = .ok (.goto 4, 3) ∧ decode cX11_drawnOn 52 = .ok (.iconst 0, 1) ∧ decode cX11_drawnOn 53 = .ok (.istore 7, 2) ∧ decode cX11_drawnOn 55 = .ok (.iload 7, 2) ∧ decode cX11_drawnOn 57 = .ok (.ifCond .eq 33, 3) ∧ decode cX11_drawnOn 60 = .ok (.iload 5, 2) ∧ decode cX11_drawnOn 62 = .ok (.ldc 139, 2) ∧ decode cX11_drawnOn 64 = .ok (.if_icmp .eq 21, 3) := by decide +kernel
theorem dX11_drawnOn_43 : decode cX11_drawnOn 43 = .ok (.iconst 1, 1) := dX11_drawnOn_all2.1
theorem dX11_drawnOn_44 : decode cX11_drawnOn 44 = .ok (.iand, 1) := dX11_drawnOn_all2.2.1
theorem dX11_drawnOn_45 : decode cX11_drawnOn 45 = .ok (.ifCond .ne 7, 3) := dX11_drawnOn_all2.2.2.1
theorem dX11_drawnOn_48 : decode cX11_drawnOn 48 = .ok (.iconst 1, 1) := dX11_drawnOn_all2.2.2.2.1
theorem dX11_drawnOn_49 : decode cX11_drawnOn 49 = .ok (.goto 4, 3) := dX11_drawnOn_all2.2.2.2.2.1
theorem dX11_drawnOn_52 : decode cX11_drawnOn 52 = .ok (.iconst 0, 1) := dX11_drawnOn_all2.2.2.2.2.2.1
theorem dX11_drawnOn_53 : decode cX11_drawnOn 53 = .ok (.istore 7, 2) := dX11_drawnOn_all2.2.2.2.2.2.2.1
theorem dX11_drawnOn_55 : decode cX11_drawnOn 55 = .ok (.iload 7, 2) := dX11_drawnOn_all2.2.2.2.2.2.2.2.1
theorem dX11_drawnOn_57 : decode cX11_drawnOn 57 = .ok (.ifCond .eq 33, 3) := dX11_drawnOn_all2.2.2.2.2.2.2.2.2.1
theorem dX11_drawnOn_60 : decode cX11_drawnOn 60 = .ok (.iload 5, 2) := dX11_drawnOn_all2.2.2.2.2.2.2.2.2.2.1
theorem dX11_drawnOn_62 : decode cX11_drawnOn 62 = .ok (.ldc 139, 2) := dX11_drawnOn_all2.2.2.2.2.2.2.2.2.2.2.1
theorem dX11_drawnOn_64 : decode cX11_drawnOn 64 = .ok (.if_icmp .eq 21, 3) := dX11_drawnOn_all2.2.2.2.2.2.2.2.2.2.2.2
theorem dX11_drawnOn_all3 : decode cX11_drawnOn 67 = .ok (.aload_n 0, 1) ∧ decode cX11_drawnOn 68 = .ok (.iload 6, 2) ∧ decode cX11_drawnOn 70 = .ok (.iload_n 1, 1) ∧ decode cX11_drawnOn 71 = .ok (.invokevirtual 348, 3) ∧ decode cX11_drawnOn 74 = .ok (.aload_n 0, 1) ∧ decode cX11_drawnOn 75 = .ok (.iload 5, 2) ∧ decode cX11_drawnOn 77 = .ok (.iload_n 1, 1) ∧ decode cX11_drawnOn 78 = .ok (.invokevirtual 348, 3) ∧ decode cX11_drawnOn 81 = .ok (.lcmp, 1) ∧ decode cX11_drawnOn 82 = .ok (.ifCond .ge 8, 3) ∧ decode cX11_drawnOn 85 = .ok (.iload 6, 2) ∧ decode cX11_drawnOn 87 = .ok (.goto 5, 3) := by decide +kernel
theorem dX11_drawnOn_67 : decode cX11_drawnOn 67 = .ok (.aload_n 0, 1) := dX11_drawnOn_all3.1
theorem dX11_drawnOn_68 : decode cX11_drawnOn 68 = .ok (.iload 6, 2) := dX11_drawnOn_all3.2.1
theorem dX11_drawnOn_70 : decode cX11_drawnOn 70 = .ok (.iload_n 1, 1) := dX11_drawnOn_all3.2.2.1
theorem dX11_drawnOn_71 : decode cX11_drawnOn 71 = .ok (.invokevirtual 348, 3) := dX11_drawnOn_all3.2.2.2.1
theorem dX11_drawnOn_74 : decode cX11_drawnOn 74 = .ok (.aload_n 0, 1) := dX11_drawnOn_all3.2.2.2.2.1
theorem dX11_drawnOn_75 : decode cX11_drawnOn 75 = .ok (.iload 5, 2) := dX11_drawnOn_all3.2.2.2.2.2.1
theorem dX11_drawnOn_77 : decode cX11_drawnOn 77 = .ok (.iload_n 1, 1) := dX11_drawnOn_all3.2.2.2.2.2.2.1
theorem dX11_drawnOn_78 : decode cX11_drawnOn 78 = .ok (.invokevirtual 348, 3) := dX11_drawnOn_all3.2.2.2.2.2.2.2.1
theorem dX11_drawnOn_81 : decode cX11_drawnOn 81 = .ok (.lcmp, 1) := dX11_drawnOn_all3.2.2.2.2.2.2.2.2.1
theorem dX11_drawnOn_82 : decode cX11_drawnOn 82 = .ok (.ifCond .ge 8, 3) := dX11_drawnOn_all3.2.2.2.2.2.2.2.2.2.1
theorem dX11_drawnOn_85 : decode cX11_drawnOn 85 = .ok (.iload 6, 2) := dX11_drawnOn_all3.2.2.2.2.2.2.2.2.2.2.1
theorem dX11_drawnOn_87 : decode cX11_drawnOn 87 = .ok (.goto 5, 3) := dX11_drawnOn_all3.2.2.2.2.2.2.2.2.2.2.2
theorem dX11_drawnOn_all4 : decode cX11_drawnOn 90 = .ok (.iload 5, 2) ∧ decode cX11_drawnOn 92 = .ok (.istore 5, 2) ∧ decode cX11_drawnOn 94 = .ok (.iinc 6 1, 3) ∧ decode cX11_drawnOn 97 = .ok (.goto (-79), 3) ∧ decode cX11_drawnOn 100 = .ok (.iload_n 3, 1) ∧ decode cX11_drawnOn 101 = .ok (.iload 5, 2) ∧ decode cX11_drawnOn 103 = .ok (.ldc 139, 2) ∧ decode cX11_drawnOn 105 = .ok (.if_icmp .ne 7, 3) ∧ decode cX11_drawnOn 108 = .ok (.iconst 0, 1) ∧ decode cX11_drawnOn 109 = .ok (.goto 7, 3) ∧ decode cX11_drawnOn 112 = .ok (.iconst 1, 1) ∧ decode cX11_drawnOn 113 = .ok (.iload 5, 2) := by decide +kernel
theorem dX11_drawnOn_90 : decode cX11_drawnOn 90 = .ok (.iload 5, 2) := dX11_drawnOn_all4.1
theorem dX11_drawnOn_92 : decode cX11_drawnOn 92 = .ok (.istore 5, 2) := dX11_drawnOn_all4.2.1
theorem dX11_drawnOn_94 : decode cX11_drawnOn 94 = .ok (.iinc 6 1, 3) := dX11_drawnOn_all4.2.2.1
theorem dX11_drawnOn_97 : decode cX11_drawnOn 97 = .ok (.goto (-79), 3) := dX11_drawnOn_all4.2.2.2.1
theorem dX11_drawnOn_100 : decode cX11_drawnOn 100 = .ok (.iload_n 3, 1) := dX11_drawnOn_all4.2.2.2.2.1
theorem dX11_drawnOn_101 : decode cX11_drawnOn 101 = .ok (.iload 5, 2) := dX11_drawnOn_all4.2.2.2.2.2.1
theorem dX11_drawnOn_103 : decode cX11_drawnOn 103 = .ok (.ldc 139, 2) := dX11_drawnOn_all4.2.2.2.2.2.2.1
theorem dX11_drawnOn_105 : decode cX11_drawnOn 105 = .ok (.if_icmp .ne 7, 3) := dX11_drawnOn_all4.2.2.2.2.2.2.2.1
theorem dX11_drawnOn_108 : decode cX11_drawnOn 108 = .ok (.iconst 0, 1) := dX11_drawnOn_all4.2.2.2.2.2.2.2.2.1
theorem dX11_drawnOn_109 : decode cX11_drawnOn 109 = .ok (.goto 7, 3) := dX11_drawnOn_all4.2.2.2.2.2.2.2.2.2.1
theorem dX11_drawnOn_112 : decode cX11_drawnOn 112 = .ok (.iconst 1, 1) := dX11_drawnOn_all4.2.2.2.2.2.2.2.2.2.2.1
theorem dX11_drawnOn_113 : decode cX11_drawnOn 113 = .ok (.iload 5, 2) := dX11_drawnOn_all4.2.2.2.2.2.2.2.2.2.2.2
theorem dX11_drawnOn_all5 : decode cX11_drawnOn 115 = .ok (.ishl, 1) ∧ decode cX11_drawnOn 116 = .ok (.ior, 1) ∧ decode cX11_drawnOn 117 = .ok (.istore_n 3, 1) ∧ decode cX11_drawnOn 118 = .ok (.iinc 4 1, 3) ∧ decode cX11_drawnOn 121 = .ok (.goto (-116), 3) ∧ decode cX11_drawnOn 124 = .ok (.iload_n 3, 1) ∧ decode cX11_drawnOn 125 = .ok (.ireturn, 1) := by decide +kernel
theorem dX11_drawnOn_115 : decode cX11_drawnOn 115 = .ok (.ishl, 1) := dX11_drawnOn_all5.1
theorem dX11_drawnOn_116 : decode cX11_drawnOn 116 = .ok (.ior, 1) := dX11_drawnOn_all5.2.1
theorem dX11_drawnOn_117 : decode cX11_drawnOn 117 = .ok (.istore_n 3, 1) := dX11_drawnOn_all5.2.2.1
theorem dX11_drawnOn_118 : decode cX11_drawnOn 118 = .ok (.iinc 4 1, 3) := dX11_drawnOn_all5.2.2.2.1
theorem dX11_drawnOn_121 : decode cX11_drawnOn 121 = .ok (.goto (-116), 3) := dX11_drawnOn_all5.2.2.2.2.1
theorem dX11_drawnOn_124 : decode cX11_drawnOn 124 = .ok (.iload_n 3, 1) := dX11_drawnOn_all5.2.2.2.2.2.1
theorem dX11_drawnOn_125 : decode cX11_drawnOn 125 = .ok (.ireturn, 1) := dX11_drawnOn_all5.2.2.2.2.2.2
theorem ggX11_drawn_X11_isDay : GoodIn wsX11_drawn wsX11_isDay := goodIn_s (fun _ h => wm_t (wm_r (wm_l (wm_r h)))) Gd_X11_isDay
theorem gX11_drawn_X11_isDay : GoodIn wsX11_drawn (va_wsS RX11 178 yX11_isDay wsX11_isDay) := goodIn_S (own := RX11) (idx := 178) (y := yX11_isDay) (wm_t (wm_l (wm_i 3 rfl))) (wm_t (wm_l (wm_i 4 rfl))) (wm_t (wm_l (wm_i 5 rfl))) ggX11_drawn_X11_isDay
theorem ggX11_drawn_X11_in : GoodIn wsX11_drawn wsX11_in := goodIn_s (fun _ h => wm_t (wm_r (wm_r (wm_l h)))) Gd_X11_in
theorem gX11_drawn_X11_in : GoodIn wsX11_drawn (va_wsS RX11 147 yX11_in wsX11_in) := goodIn_S (own := RX11) (idx := 147) (y := yX11_in) (wm_t (wm_l (wm_i 6 rfl))) (wm_t (wm_l (wm_i 7 rfl))) (wm_t (wm_l (wm_i 5 rfl))) ggX11_drawn_X11_in
theorem ggX11_drawn_X11_drawnOn : GoodIn wsX11_drawn wsX11_drawnOn := goodIn_s (fun _ h => wm_t (wm_r (wm_r (wm_r h)))) Gd_X11_drawnOn
theorem gX11_drawn_X11_drawnOn : GoodIn wsX11_drawn (wsV RX11 351 RX11 yX11_drawnOn wsX11_drawnOn) := goodIn_V (own := RX11) (idx := 351) (C := RX11) (y := yX11_drawnOn) (wm_t (wm_l (wm_i 8 rfl))) (wm_t (wm_l (wm_i 9 rfl))) (wm_t (wm_l (wm_i 10 rfl))) (wm_t (wm_l (wm_i 5 rfl))) ggX11_drawn_X11_drawnOn
theorem dX11_drawn_all0 : decode cX11_drawn 0 = .ok (.aload_n 0, 1) ∧ decode cX11_drawn 1 = .ok (.iconst 0, 1) ∧ decode cX11_drawn 2 = .ok (.putfield 1, 3) ∧ decode cX11_drawn 5 = .ok (.iload_n 1, 1) ∧ decode cX11_drawn 6 = .ok (.invokestatic 178, 3) ∧ decode cX11_drawn 9 = .ok (.ifCond .eq 15, 3) ∧ decode cX11_drawn 12 = .ok (.iload_n 2, 1) ∧ decode cX11_drawn 13 = .ok (.i2l, 1) ∧ decode cX11_drawn 14 = .ok (.lconst 0, 1) ∧ decode cX11_drawn 15 = .ok (.ldc2_w 330, 3) ∧ decode cX11_drawn 18 = .ok (.invokestatic 147, 3) ∧ decode cX11_drawn 21 = .ok (.ifCond .ne 8, 3) := by decide +kernel
theorem dX11_drawn_0 : decode cX11_drawn 0 = .ok (.aload_n 0, 1) := dX11_drawn_all0.1
theorem dX11_drawn_1 : decode cX11_drawn 1 = .ok (.iconst 0, 1) := dX11_drawn_all0.2.1
theorem dX11_drawn_2 : decode cX11_drawn 2 = .ok (.putfield 1, 3) := dX11_drawn_all0.2.2.1
theorem dX11_drawn_5 : decode cX11_drawn 5 = .ok (.iload_n 1, 1) := dX11_drawn_all0.2.2.2.1
theorem dX11_drawn_6 : decode cX11_drawn 6 = .ok (.invokestatic 178, 3) := dX11_drawn_all0.2.2.2.2.1
theorem dX11_drawn_9 : decode cX11_drawn 9 = .ok (.ifCond .eq 15, 3) := dX11_drawn_all0.2.2.2.2.2.1
theorem dX11_drawn_12 : decode cX11_drawn 12 = .ok (.iload_n 2, 1) := dX11_drawn_all0.2.2.2.2.2.2.1
theorem dX11_drawn_13 : decode cX11_drawn 13 = .ok (.i2l, 1) := dX11_drawn_all0.2.2.2.2.2.2.2.1
theorem dX11_drawn_14 : decode cX11_drawn 14 = .ok (.lconst 0, 1) := dX11_drawn_all0.2.2.2.2.2.2.2.2.1
theorem dX11_drawn_15 : decode cX11_drawn 15 = .ok (.ldc2_w 330, 3) := dX11_drawn_all0.2.2.2.2.2.2.2.2.2.1
theorem dX11_drawn_18 : decode cX11_drawn 18 = .ok (.invokestatic 147, 3) := dX11_drawn_all0.2.2.2.2.2.2.2.2.2.2.1
theorem dX11_drawn_21 : decode cX11_drawn 21 = .ok (.ifCond .ne 8, 3) := dX11_drawn_all0.2.2.2.2.2.2.2.2.2.2.2
theorem dX11_drawn_all1 : decode cX11_drawn 24 = .ok (.ldc 157, 2) ∧ decode cX11_drawn 26 = .ok (.goto 9, 3) ∧ decode cX11_drawn 29 = .ok (.aload_n 0, 1) ∧ decode cX11_drawn 30 = .ok (.iload_n 1, 1) ∧ decode cX11_drawn 31 = .ok (.iload_n 2, 1) ∧ decode cX11_drawn 32 = .ok (.invokevirtual 351, 3) ∧ decode cX11_drawn 35 = .ok (.ireturn, 1) := by decide +kernel
theorem dX11_drawn_24 : decode cX11_drawn 24 = .ok (.ldc 157, 2) := dX11_drawn_all1.1
theorem dX11_drawn_26 : decode cX11_drawn 26 = .ok (.goto 9, 3) := dX11_drawn_all1.2.1
theorem dX11_drawn_29 : decode cX11_drawn 29 = .ok (.aload_n 0, 1) := dX11_drawn_all1.2.2.1
theorem dX11_drawn_30 : decode cX11_drawn 30 = .ok (.iload_n 1, 1) := dX11_drawn_all1.2.2.2.1
theorem dX11_drawn_31 : decode cX11_drawn 31 = .ok (.iload_n 2, 1) := dX11_drawn_all1.2.2.2.2.1
theorem dX11_drawn_32 : decode cX11_drawn 32 = .ok (.invokevirtual 351, 3) := dX11_drawn_all1.2.2.2.2.2.1
theorem dX11_drawn_35 : decode cX11_drawn 35 = .ok (.ireturn, 1) := dX11_drawn_all1.2.2.2.2.2.2
theorem ggX11_often_X11_isCrate : GoodIn wsX11_often wsX11_isCrate := goodIn_s (fun _ h => wm_t (wm_r (wm_l (wm_l (wm_r h))))) Gd_X11_isCrate
theorem gX11_often_X11_isCrate : GoodIn wsX11_often (wsV RX11 219 RX11 yX11_isCrate wsX11_isCrate) := goodIn_V (own := RX11) (idx := 219) (C := RX11) (y := yX11_isCrate) (wm_t (wm_l (wm_i 3 rfl))) (wm_t (wm_l (wm_i 4 rfl))) (wm_t (wm_l (wm_i 5 rfl))) (wm_t (wm_l (wm_i 6 rfl))) ggX11_often_X11_isCrate
theorem ggX11_often_X11_isDay : GoodIn wsX11_often wsX11_isDay := goodIn_s (fun _ h => wm_t (wm_r (wm_l (wm_r h)))) Gd_X11_isDay
theorem gX11_often_X11_isDay : GoodIn wsX11_often (va_wsS RX11 178 yX11_isDay wsX11_isDay) := goodIn_S (own := RX11) (idx := 178) (y := yX11_isDay) (wm_t (wm_l (wm_i 9 rfl))) (wm_t (wm_l (wm_i 10 rfl))) (wm_t (wm_l (wm_i 6 rfl))) ggX11_often_X11_isDay
theorem ggX11_often_X11_in : GoodIn wsX11_often wsX11_in := goodIn_s (fun _ h => wm_t (wm_r (wm_r (wm_l h)))) Gd_X11_in
theorem gX11_often_X11_in : GoodIn wsX11_often (va_wsS RX11 147 yX11_in wsX11_in) := goodIn_S (own := RX11) (idx := 147) (y := yX11_in) (wm_t (wm_l (wm_i 7 rfl))) (wm_t (wm_l (wm_i 8 rfl))) (wm_t (wm_l (wm_i 6 rfl))) ggX11_often_X11_in
theorem ggX11_often_X11_drawnOn : GoodIn wsX11_often wsX11_drawnOn := goodIn_s (fun _ h => wm_t (wm_r (wm_r (wm_r h)))) Gd_X11_drawnOn
theorem gX11_often_X11_drawnOn : GoodIn wsX11_often (wsV RX11 351 RX11 yX11_drawnOn wsX11_drawnOn) := goodIn_V (own := RX11) (idx := 351) (C := RX11) (y := yX11_drawnOn) (wm_t (wm_l (wm_i 11 rfl))) (wm_t (wm_l (wm_i 12 rfl))) (wm_t (wm_l (wm_i 13 rfl))) (wm_t (wm_l (wm_i 6 rfl))) ggX11_often_X11_drawnOn
theorem dX11_often_all0 : decode cX11_often 0 = .ok (.aload_n 0, 1) ∧ decode cX11_often 1 = .ok (.iconst 0, 1) ∧ decode cX11_often 2 = .ok (.putfield 1, 3) ∧ decode cX11_often 5 = .ok (.aload_n 0, 1) ∧ decode cX11_often 6 = .ok (.iload_n 1, 1) ∧ decode cX11_often 7 = .ok (.invokevirtual 219, 3) ∧ decode cX11_often 10 = .ok (.ifCond .eq 46, 3) ∧ decode cX11_often 13 = .ok (.iload_n 2, 1) ∧ decode cX11_often 14 = .ok (.invokestatic 178, 3) ∧ decode cX11_often 17 = .ok (.ifCond .eq 39, 3) ∧ decode cX11_often 20 = .ok (.iload_n 3, 1) ∧ decode cX11_often 21 = .ok (.invokestatic 178, 3) := by decide +kernel
theorem dX11_often_0 : decode cX11_often 0 = .ok (.aload_n 0, 1) := dX11_often_all0.1
theorem dX11_often_1 : decode cX11_often 1 = .ok (.iconst 0, 1) := dX11_often_all0.2.1
theorem dX11_often_2 : decode cX11_often 2 = .ok (.putfield 1, 3) := dX11_often_all0.2.2.1
theorem dX11_often_5 : decode cX11_often 5 = .ok (.aload_n 0, 1) := dX11_often_all0.2.2.2.1
theorem dX11_often_6 : decode cX11_often 6 = .ok (.iload_n 1, 1) := dX11_often_all0.2.2.2.2.1
theorem dX11_often_7 : decode cX11_often 7 = .ok (.invokevirtual 219, 3) := dX11_often_all0.2.2.2.2.2.1
theorem dX11_often_10 : decode cX11_often 10 = .ok (.ifCond .eq 46, 3) := dX11_often_all0.2.2.2.2.2.2.1
theorem dX11_often_13 : decode cX11_often 13 = .ok (.iload_n 2, 1) := dX11_often_all0.2.2.2.2.2.2.2.1
theorem dX11_often_14 : decode cX11_often 14 = .ok (.invokestatic 178, 3) := dX11_often_all0.2.2.2.2.2.2.2.2.1
theorem dX11_often_17 : decode cX11_often 17 = .ok (.ifCond .eq 39, 3) := dX11_often_all0.2.2.2.2.2.2.2.2.2.1
theorem dX11_often_20 : decode cX11_often 20 = .ok (.iload_n 3, 1) := dX11_often_all0.2.2.2.2.2.2.2.2.2.2.1
theorem dX11_often_21 : decode cX11_often 21 = .ok (.invokestatic 178, 3) := dX11_often_all0.2.2.2.2.2.2.2.2.2.2.2
theorem dX11_often_all1 : decode cX11_often 24 = .ok (.ifCond .eq 32, 3) ∧ decode cX11_often 27 = .ok (.iload_n 3, 1) ∧ decode cX11_often 28 = .ok (.i2l, 1) ∧ decode cX11_often 29 = .ok (.iload_n 2, 1) ∧ decode cX11_often 30 = .ok (.i2l, 1) ∧ decode cX11_often 31 = .ok (.iload_n 2, 1) ∧ decode cX11_often 32 = .ok (.sipush 399, 3) ∧ decode cX11_often 35 = .ok (.iadd, 1) ∧ decode cX11_often 36 = .ok (.i2l, 1) ∧ decode cX11_often 37 = .ok (.invokestatic 147, 3) ∧ decode cX11_often 40 = .ok (.ifCond .eq 16, 3) ∧ decode cX11_often 43 = .ok (.iload 4, 2) := by decide +kernel
theorem dX11_often_24 : decode cX11_often 24 = .ok (.ifCond .eq 32, 3) := dX11_often_all1.1
theorem dX11_often_27 : decode cX11_often 27 = .ok (.iload_n 3, 1) := dX11_often_all1.2.1
theorem dX11_often_28 : decode cX11_often 28 = .ok (.i2l, 1) := dX11_often_all1.2.2.1
theorem dX11_often_29 : decode cX11_often 29 = .ok (.iload_n 2, 1) := dX11_often_all1.2.2.2.1
theorem dX11_often_30 : decode cX11_often 30 = .ok (.i2l, 1) := dX11_often_all1.2.2.2.2.1
theorem dX11_often_31 : decode cX11_often 31 = .ok (.iload_n 2, 1) := dX11_often_all1.2.2.2.2.2.1
theorem dX11_often_32 : decode cX11_often 32 = .ok (.sipush 399, 3) := dX11_often_all1.2.2.2.2.2.2.1
theorem dX11_often_35 : decode cX11_often 35 = .ok (.iadd, 1) := dX11_often_all1.2.2.2.2.2.2.2.1
theorem dX11_often_36 : decode cX11_often 36 = .ok (.i2l, 1) := dX11_often_all1.2.2.2.2.2.2.2.2.1
theorem dX11_often_37 : decode cX11_often 37 = .ok (.invokestatic 147, 3) := dX11_often_all1.2.2.2.2.2.2.2.2.2.1
theorem dX11_often_40 : decode cX11_often 40 = .ok (.ifCond .eq 16, 3) := dX11_often_all1.2.2.2.2.2.2.2.2.2.2.1
theorem dX11_often_43 : decode cX11_often 43 = .ok (.iload 4, 2) := dX11_often_all1.2.2.2.2.2.2.2.2.2.2.2
theorem dX11_often_all2 : decode cX11_often 45 = .ok (.i2l, 1) ∧ decode cX11_often 46 = .ok (.lconst 0, 1) ∧ decode cX11_often 47 = .ok (.ldc2_w 330, 3) ∧ decode cX11_often 50 = .ok (.invokestatic 147, 3) ∧ decode cX11_often 53 = .ok (.ifCond .ne 6, 3) ∧ decode cX11_often 56 = .ok (.ldc 157, 2) ∧ decode cX11_often 58 = .ok (.ireturn, 1) ∧ decode cX11_often 59 = .ok (.iconst 0, 1) ∧ decode cX11_often 60 = .ok (.istore 5, 2) ∧ decode cX11_often 62 = .ok (.iload_n 2, 1) ∧ decode cX11_often 63 = .ok (.istore 6, 2) ∧ decode cX11_often 65 = .ok (.iload 6, 2) := by decide +kernel
theorem dX11_often_45 : decode cX11_often 45 = .ok (.i2l, 1) := dX11_often_all2.1
theorem dX11_often_46 : decode cX11_often 46 = .ok (.lconst 0, 1) := dX11_often_all2.2.1
theorem dX11_often_47 : decode cX11_often 47 = .ok (.ldc2_w 330, 3) := dX11_often_all2.2.2.1
theorem dX11_often_50 : decode cX11_often 50 = .ok (.invokestatic 147, 3) := dX11_often_all2.2.2.2.1
theorem dX11_often_53 : decode cX11_often 53 = .ok (.ifCond .ne 6, 3) := dX11_often_all2.2.2.2.2.1
theorem dX11_often_56 : decode cX11_often 56 = .ok (.ldc 157, 2) := dX11_often_all2.2.2.2.2.2.1
theorem dX11_often_58 : decode cX11_often 58 = .ok (.ireturn, 1) := dX11_often_all2.2.2.2.2.2.2.1
theorem dX11_often_59 : decode cX11_often 59 = .ok (.iconst 0, 1) := dX11_often_all2.2.2.2.2.2.2.2.1
theorem dX11_often_60 : decode cX11_often 60 = .ok (.istore 5, 2) := dX11_often_all2.2.2.2.2.2.2.2.2.1
theorem dX11_often_62 : decode cX11_often 62 = .ok (.iload_n 2, 1) := dX11_often_all2.2.2.2.2.2.2.2.2.2.1
theorem dX11_often_63 : decode cX11_often 63 = .ok (.istore 6, 2) := dX11_often_all2.2.2.2.2.2.2.2.2.2.2.1
theorem dX11_often_65 : decode cX11_often 65 = .ok (.iload 6, 2) := dX11_often_all2.2.2.2.2.2.2.2.2.2.2.2
theorem dX11_often_all3 : decode cX11_often 67 = .ok (.iload_n 3, 1) ∧ decode cX11_often 68 = .ok (.if_icmp .gt 26, 3) ∧ decode cX11_often 71 = .ok (.iload 5, 2) ∧ decode cX11_often 73 = .ok (.aload_n 0, 1) ∧ decode cX11_often 74 = .ok (.iload 6, 2) ∧ decode cX11_often 76 = .ok (.iload 4, 2) ∧ decode cX11_often 78 = .ok (.invokevirtual 351, 3) ∧ decode cX11_often 81 = .ok (.iload_n 1, 1) ∧ decode cX11_often 82 = .ok (.ishr, 1) ∧ decode cX11_often 83 = .ok (.iconst 1, 1) ∧ decode cX11_often 84 = .ok (.iand, 1) ∧ decode cX11_often 85 = .ok (.iadd, 1) := by decide +kernel
theorem dX11_often_67 : decode cX11_often 67 = .ok (.iload_n 3, 1) := dX11_often_all3.1
theorem dX11_often_68 : decode cX11_often 68 = .ok (.if_icmp .gt 26, 3) := dX11_often_all3.2.1
theorem dX11_often_71 : decode cX11_often 71 = .ok (.iload 5, 2) := dX11_often_all3.2.2.1
theorem dX11_often_73 : decode cX11_often 73 = .ok (.aload_n 0, 1) := dX11_often_all3.2.2.2.1
theorem dX11_often_74 : decode cX11_often 74 = .ok (.iload 6, 2) := dX11_often_all3.2.2.2.2.1
theorem dX11_often_76 : decode cX11_often 76 = .ok (.iload 4, 2) := dX11_often_all3.2.2.2.2.2.1
theorem dX11_often_78 : decode cX11_often 78 = .ok (.invokevirtual 351, 3) := dX11_often_all3.2.2.2.2.2.2.1
theorem dX11_often_81 : decode cX11_often 81 = .ok (.iload_n 1, 1) := dX11_often_all3.2.2.2.2.2.2.2.1
theorem dX11_often_82 : decode cX11_often 82 = .ok (.ishr, 1) := dX11_often_all3.2.2.2.2.2.2.2.2.1
theorem dX11_often_83 : decode cX11_often 83 = .ok (.iconst 1, 1) := dX11_often_all3.2.2.2.2.2.2.2.2.2.1
theorem dX11_often_84 : decode cX11_often 84 = .ok (.iand, 1) := dX11_often_all3.2.2.2.2.2.2.2.2.2.2.1
theorem dX11_often_85 : decode cX11_often 85 = .ok (.iadd, 1) := dX11_often_all3.2.2.2.2.2.2.2.2.2.2.2
theorem dX11_often_all4 : decode cX11_often 86 = .ok (.istore 5, 2) ∧ decode cX11_often 88 = .ok (.iinc 6 1, 3) ∧ decode cX11_often 91 = .ok (.goto (-26), 3) ∧ decode cX11_often 94 = .ok (.iload 5, 2) ∧ decode cX11_often 96 = .ok (.ireturn, 1) := by decide +kernel
theorem dX11_often_86 : decode cX11_often 86 = .ok (.istore 5, 2) := dX11_often_all4.1
theorem dX11_often_88 : decode cX11_often 88 = .ok (.iinc 6 1, 3) := dX11_often_all4.2.1
theorem dX11_often_91 : decode cX11_often 91 = .ok (.goto (-26), 3) := dX11_often_all4.2.2.1
theorem dX11_often_94 : decode cX11_often 94 = .ok (.iload 5, 2) := dX11_often_all4.2.2.2.1
theorem dX11_often_96 : decode cX11_often 96 = .ok (.ireturn, 1) := dX11_often_all4.2.2.2.2

theorem upd_same {f : Nat → Int32} {k : Nat} {x : Int32} (h : x = f k) : upd f k x = f := by
  funext j
  by_cases e : j = k
  · subst e; rw [upd_s, h]
  · rw [upd_n _ _ e]

set_option maxHeartbeats 4000000 in
set_option maxRecDepth 100000 in
theorem ct_X11_room (l : Launch) (D : va_G) (cI cY cJ cQ : ClassId) (sz : Nat) (md : Nat → Nat) (sd : Int32) (mth mst hn cn pn mq gn mln mnn ln mlt msz mcu mtk mfr mti mfa mfb an un lc td mtn : Int32) (aw iw : Nat → Int32) (q : Int32) (w : Int32) (v : Int32)   : Met l yX11_room wsX11_room ({ frames := 2, cells := 0, slots := 0, locals := 45 }) (cPre D (ty4 cI cY cJ cQ) [(moC md sd mth mst hn cn pn mq gn mln mnn ln mlt msz mcu mtk mfr mti mfa mfb an un lc td mtn), (aI cI (md 49) 6 aw), (aI cI (md 50) 6 iw)] sz [.ref (md 64), .int q, .int w, .int v]) (va_Qi (fun (r : Int32) (u : (Nat → Int32) × (Nat → Int32)) => (r, u) = sp_room aw iw q w v) (cB D (ty4 cI cY cJ cQ) (fun (u : (Nat → Int32) × (Nat → Int32)) => [(moC md sd 0 mst hn cn pn mq gn mln mnn ln mlt msz mcu mtk mfr mti mfa mfb an un lc td mtn), (aI cI (md 49) 6 u.1), (aI cI (md 50) 6 u.2)]) (va_A [(moC md sd mth mst hn cn pn mq gn mln mnn ln mlt msz mcu mtk mfr mti mfa mfb an un lc td mtn), (aI cI (md 49) 6 aw), (aI cI (md 50) 6 iw)] sz)) (va_A [(moC md sd mth mst hn cn pn mq gn mln mnn ln mlt msz mcu mtk mfr mti mfa mfb an un lc td mtn), (aI cI (md 49) 6 aw), (aI cI (md 50) 6 iw)] sz)) 0 0 (va_A [(moC md sd mth mst hn cn pn mq gn mln mnn ln mlt msz mcu mtk mfr mti mfa mfb an un lc td mtn), (aI cI (md 49) 6 aw), (aI cI (md 50) 6 iw)] sz) := by
  refine Met.ofW (cc := cX11_room) (maxL := 5) (ret := (some .int)) (by decide) rfl ?_
  intro p e s m args below meth c s₁ B hml hv
  obtain ⟨rfl, hsz, hP, hK, hD0, hN⟩ := hv
  have hx := B.exec
  have hb := B.bytes
  have hr := B.returns
  have hts := atoms_spec (ws := wsX11_room) B.pre
  have hown : s.vm.findClass RX11 = some m.cls := findClass_of_methodNamed B.named
  have hlocks := B.notSynchronized
  subst hsz
  have hD := hD0.self (sz := s.heap.size)
  generalize hAe : va_A [(moC md sd mth mst hn cn pn mq gn mln mnn ln mlt msz mcu mtk mfr mti mfa mfb an un lc td mtn), (aI cI (md 49) 6 aw), (aI cI (md 50) 6 iw)] s.heap.size = A at hD ⊢
  have hA : ∀ q : Nat, s.heap.size ≤ q → A q := fun q h => by rw [← hAe]; exact Or.inr h
  have hS : va_S A s.heap s.heap [] := va_S.rf
  have hP : va_P D vwCl [(moC md sd mth mst hn cn pn mq gn mln mnn ln mlt msz mcu mtk mfr mti mfa mfb an un lc td mtn), (aI cI (md 49) 6 aw), (aI cI (md 50) 6 iw)] s.heap := hP
  have hl := lv_entry ([.ref (md 64), .int q, .int w, .int v]) (n := 5) (Nat.le_of_ble_eq_true rfl)
  rw [lg_entry_eq]
  generalize (lg_sl ([.ref (md 64), .int q, .int w, .int v]) ++ List.replicate (5 - (lg_sl ([.ref (md 64), .int q, .int w, .int v])).length) Slot.unset).toArray = ls at hl ⊢
  have hl : lv_has ls 5 [(0, .ref (md 64)), (1, .int q), (2, .int w), (3, .int v)] := hl
  have km1000001 : (-1000001 : Int32).toInt = -1000001 := by decide
  have k0 : (0 : Int32).toInt = 0 := by decide
  have k1 : (1 : Int32).toInt = 1 := by decide
  have kl0 : (0 : Int64).toInt = 0 := by decide
  have kl1 : (1 : Int64).toInt = 1 := by decide
  have kl12 : (12 : Int64).toInt = 12 := by decide
  have kl1000000 : (1000000 : Int64).toInt = 1000000 := by decide
  refine lv_aload_n hx hb dX11_room_0 rfl (lv_at hl 0 rfl) ?_
  refine lv_iconst (v := 0) hx hb dX11_room_1 (by decide) ?_
  refine va_put (D := D) (ci := 11) (v := .int 0) (ty := .int) (C := RX11) (T := TX11) (N := 64) hx hb hts inX11_room_X11 tyX11 tyX11_ok nmX11 hown hK hP hD hS 0 rfl rfl 0 (by decide) (hts (Cond.fieldLink RX11 1 "PortRoomsModel" "thrown" "I") (wm_t (wm_l (wm_i 0 rfl)))) (fun _ h9 => h9) rfl (tyX11_ok 0 (by decide)) rfl rfl (Nat.le_of_ble_eq_true rfl) dX11_room_2 (fun H locs => ?_)
  clear hP hD hS
  intro hP hD hS
  replace hP : va_P D vwCl [(moC md sd (0) mst hn cn pn mq gn mln mnn ln mlt msz mcu mtk mfr mti mfa mfb an un lc td mtn), (aI cI (md 49) 6 aw), (aI cI (md 50) 6 iw)] H := hP
  replace hD : va_D A [(moC md sd (0) mst hn cn pn mq gn mln mnn ln mlt msz mcu mtk mfr mti mfa mfb an un lc td mtn), (aI cI (md 49) 6 aw), (aI cI (md 50) 6 iw)] := hD
  refine lv_iload_n hx hb dX11_room_5 rfl (lv_at hl 1 rfl) ?_
  refine st_i1 (va_runS (As := [.int q]) (rest := []) ⟨hx, hb, hml, hown, hts⟩ (ct_X11_isRoom l D cI cY cJ cQ _ q) (va_cwS 1 hts gX11_room_X11_isRoom rfl rfl rfl cdX11_isRoom ⟨Nat.le_of_ble_eq_true rfl, Nat.le_of_ble_eq_true rfl⟩) (cPreS (hP.sub [] rfl) hK (hD.sub [] (by decide +kernel) rfl) hN) rfl rfl hl.1 rfl (lv_room (Nat.le_of_ble_eq_true rfl)) dX11_room_6 ⟨Nat.le_of_ble_eq_true rfl, Nat.le_of_ble_eq_true rfl⟩) hP hD hS hA [] rfl (fun _ => rfl) (fun r3 u1 H locs hw2 => ?_)
  clear hP hS
  intro hP hS
  replace hw2 : r3 = if 0 ≤ q.toInt ∧ q.toInt ≤ 5 then 1 else 0 := hw2
  refine lv_if_eq (tgt := 44) hx hb dX11_room_9 (by decide) (fun c4 => ?_) (fun c4 => ?_)
  · skip
    have f5 := bo_f hw2 c4
    refine lv_ldc hx hb hown (hts (Cond.constant RX11 157 (-1000001)) (wm_t (wm_l (wm_i 3 rfl)))) dX11_room_44 ?_
    have hP9 := hP
    have hD9 := hD
    exact W.iret (v := (-1000001)) hx hb hr (fun t ht hW => ⟨⟨(-1000001), (aw, iw), rfl, (by unfold sp_room; (repeat' split) <;> first | rfl | (exfalso; omega) | (rw [upd_same (f := iw) (by assumption)]; subst_vars; rfl) | (rw [upd_same (f := aw) (by assumption)]; subst_vars; rfl)), by rw [ht]; exact hP9, va_K.moved hW.alike hK, hD9⟩, hS.F ht⟩) hS.2.2 dX11_room_46
  · skip
    have f6 := bo_t hw2 c4
    refine lv_iload_n hx hb dX11_room_12 rfl (lv_at hl 2 rfl) ?_
    refine lv_i2l hx hb dX11_room_13 rfl ?_
    have w7 := i_w w
    have w8 := i_rng w
    refine lv_lconst (v := 0) hx hb dX11_room_14 (by decide) ?_
    refine lv_lconst (v := 1) hx hb dX11_room_15 (by decide) ?_
    refine st_i1 (va_runS (As := [.long (w.toInt64), .long 0, .long 1]) (rest := []) ⟨hx, hb, hml, hown, hts⟩ (ct_X11_in l D cI cY cJ cQ _ w.toInt64 (0 : Int64) (1 : Int64)) (va_cwS 3 hts gX11_room_X11_in rfl rfl rfl cdX11_in ⟨Nat.le_of_ble_eq_true rfl, Nat.le_of_ble_eq_true rfl⟩) (cPreS (hP.sub [] rfl) hK (hD.sub [] (by decide +kernel) rfl) hN) rfl rfl hl.1 rfl (lv_room (Nat.le_of_ble_eq_true rfl)) dX11_room_16 ⟨Nat.le_of_ble_eq_true rfl, Nat.le_of_ble_eq_true rfl⟩) hP hD hS hA [] rfl (fun _ => rfl) (fun r11 u9 H locs hw10 => ?_)
    clear hP hS
    intro hP hS
    replace hw10 : r11 = if (0 : Int64).toInt ≤ w.toInt64.toInt ∧ w.toInt64.toInt ≤ (1 : Int64).toInt then 1 else 0 := hw10
    refine lv_if_eq (tgt := 44) hx hb dX11_room_19 (by decide) (fun c12 => ?_) (fun c12 => ?_)
    · skip
      have f13 := bo_f hw10 c12
      refine lv_ldc hx hb hown (hts (Cond.constant RX11 157 (-1000001)) (wm_t (wm_l (wm_i 3 rfl)))) dX11_room_44 ?_
      have hP9 := hP
      have hD9 := hD
      exact W.iret (v := (-1000001)) hx hb hr (fun t ht hW => ⟨⟨(-1000001), (aw, iw), rfl, (by unfold sp_room; (repeat' split) <;> first | rfl | (exfalso; omega) | (rw [upd_same (f := iw) (by assumption)]; subst_vars; rfl) | (rw [upd_same (f := aw) (by assumption)]; subst_vars; rfl)), by rw [ht]; exact hP9, va_K.moved hW.alike hK, hD9⟩, hS.F ht⟩) hS.2.2 dX11_room_46
    · skip
      have f14 := bo_t hw10 c12
      refine lv_iload_n hx hb dX11_room_22 rfl (lv_at hl 3 rfl) ?_
      refine lv_i2l hx hb dX11_room_23 rfl ?_
      have w15 := i_w v
      have w16 := i_rng v
      refine lv_lconst (v := 0) hx hb dX11_room_24 (by decide) ?_
      refine lv_iload_n hx hb dX11_room_25 rfl (lv_at hl 2 rfl) ?_
      refine lv_if_ne (tgt := 35) hx hb dX11_room_26 (by decide) (fun c17 => ?_) (fun c17 => ?_)
      · skip
        have f18 := i_ne c17
        refine lv_ldc2 hx hb hown (hts (Cond.constantLong RX11 195 (1000000)) (wm_t (wm_l (wm_i 2 rfl)))) dX11_room_35 ?_
        refine st_i1 (va_runS (As := [.long (v.toInt64), .long 0, .long 1000000]) (rest := []) ⟨hx, hb, hml, hown, hts⟩ (ct_X11_in l D cI cY cJ cQ _ v.toInt64 (0 : Int64) (1000000 : Int64)) (va_cwS 3 hts gX11_room_X11_in rfl rfl rfl cdX11_in ⟨Nat.le_of_ble_eq_true rfl, Nat.le_of_ble_eq_true rfl⟩) (cPreS (hP.sub [] rfl) hK (hD.sub [] (by decide +kernel) rfl) hN) rfl rfl hl.1 rfl (lv_room (Nat.le_of_ble_eq_true rfl)) dX11_room_38 ⟨Nat.le_of_ble_eq_true rfl, Nat.le_of_ble_eq_true rfl⟩) hP hD hS hA [] rfl (fun _ => rfl) (fun r21 u19 H locs hw20 => ?_)
        clear hP hS
        intro hP hS
        replace hw20 : r21 = if (0 : Int64).toInt ≤ v.toInt64.toInt ∧ v.toInt64.toInt ≤ (1000000 : Int64).toInt then 1 else 0 := hw20
        refine lv_if_ne (tgt := 47) hx hb dX11_room_41 (by decide) (fun c22 => ?_) (fun c22 => ?_)
        · skip
          have f23 := bo_t hw20 c22
          refine lv_iload_n hx hb dX11_room_47 rfl (lv_at hl 2 rfl) ?_
          refine lv_if_ne (tgt := 60) hx hb dX11_room_48 (by decide) (fun c24 => ?_) (fun c24 => ?_)
          · skip
            have f25 := i_ne c24
            refine lv_aload_n hx hb dX11_room_60 rfl (lv_at hl 0 rfl) ?_
            refine va_get (D := D) (ci := 11) (v := .ref (md 50)) (C := RX11) (T := TX11) (N := 64) hx hb hts inX11_room_X11 hown hK hP 0 rfl rfl 50 (by decide) (hts (Cond.fieldLink RX11 105 "PortRoomsModel" "insured" "[I") (wm_t (wm_l (wm_i 5 rfl)))) (fun _ h9 => h9) rfl dX11_room_61 ?_
            refine lv_iload_n hx hb dX11_room_64 rfl (lv_at hl 1 rfl) ?_
            refine va_iald hx hb hK hP 2 0 rfl rfl (i_in (by omega) (by omega)) dX11_room_65 ?_
            refine lv_topi (fun v26 ev26 => ?_)
            refine lv_istore (lv' := [(4, .int v26), (0, .ref (md 64)), (1, .int q), (2, .int w), (3, .int v)]) hx hb dX11_room_66 hl (by decide) rfl (fun ls hl => ?_)
            refine lv_aload_n hx hb dX11_room_68 rfl (lv_at hl 1 rfl) ?_
            refine va_get (D := D) (ci := 11) (v := .ref (md 49)) (C := RX11) (T := TX11) (N := 64) hx hb hts inX11_room_X11 hown hK hP 0 rfl rfl 49 (by decide) (hts (Cond.fieldLink RX11 102 "PortRoomsModel" "air" "[I") (wm_t (wm_l (wm_i 4 rfl)))) (fun _ h9 => h9) rfl dX11_room_69 ?_
            refine lv_iload_n hx hb dX11_room_72 rfl (lv_at hl 2 rfl) ?_
            refine lv_iload_n hx hb dX11_room_73 rfl (lv_at hl 3 rfl) ?_
            refine lv_if_ne (tgt := 81) hx hb dX11_room_74 (by decide) (fun c27 => ?_) (fun c27 => ?_)
            · skip
              have f28 := i_ne c27
              refine lv_aload_n hx hb dX11_room_81 rfl (lv_at hl 1 rfl) ?_
              refine va_get (D := D) (ci := 11) (v := .ref (md 49)) (C := RX11) (T := TX11) (N := 64) hx hb hts inX11_room_X11 hown hK hP 0 rfl rfl 49 (by decide) (hts (Cond.fieldLink RX11 102 "PortRoomsModel" "air" "[I") (wm_t (wm_l (wm_i 4 rfl)))) (fun _ h9 => h9) rfl dX11_room_82 ?_
              refine lv_iload_n hx hb dX11_room_85 rfl (lv_at hl 2 rfl) ?_
              refine va_iald hx hb hK hP 1 0 rfl rfl (i_in (by omega) (by omega)) dX11_room_86 ?_
              refine lv_topi (fun v29 ev29 => ?_)
              refine va_iast hx hb hK hP hD hS 1 0 rfl rfl (i_in (by omega) (by omega)) dX11_room_87 (fun H locs => ?_)
              clear hP hD hS
              intro hP hD hS
              replace hP : va_P D vwCl [(moC md sd (0) mst hn cn pn mq gn mln mnn ln mlt msz mcu mtk mfr mti mfa mfb an un lc td mtn), (aI cI (md 49) 6 (upd aw q.toNatClampNeg v29)), (aI cI (md 50) 6 iw)] H := hP
              replace hD : va_D A [(moC md sd (0) mst hn cn pn mq gn mln mnn ln mlt msz mcu mtk mfr mti mfa mfb an un lc td mtn), (aI cI (md 49) 6 (upd aw q.toNatClampNeg v29)), (aI cI (md 50) 6 iw)] := hD
              refine lv_aload_n hx hb dX11_room_88 rfl (lv_at hl 1 rfl) ?_
              refine va_get (D := D) (ci := 11) (v := .ref (md 50)) (C := RX11) (T := TX11) (N := 64) hx hb hts inX11_room_X11 hown hK hP 0 rfl rfl 50 (by decide) (hts (Cond.fieldLink RX11 105 "PortRoomsModel" "insured" "[I") (wm_t (wm_l (wm_i 5 rfl)))) (fun _ h9 => h9) rfl dX11_room_89 ?_
              refine lv_iload_n hx hb dX11_room_92 rfl (lv_at hl 2 rfl) ?_
              refine lv_iload_n hx hb dX11_room_93 rfl (lv_at hl 3 rfl) ?_
              refine lv_iconst (v := 1) hx hb dX11_room_94 (by decide) ?_
              refine lv_icmp_ne (tgt := 102) hx hb dX11_room_95 (by decide) (fun c30 => ?_) (fun c30 => ?_)
              · skip
                have f31 := i_ne c30
                refine lv_aload_n hx hb dX11_room_102 rfl (lv_at hl 1 rfl) ?_
                refine va_get (D := D) (ci := 11) (v := .ref (md 50)) (C := RX11) (T := TX11) (N := 64) hx hb hts inX11_room_X11 hown hK hP 0 rfl rfl 50 (by decide) (hts (Cond.fieldLink RX11 105 "PortRoomsModel" "insured" "[I") (wm_t (wm_l (wm_i 5 rfl)))) (fun _ h9 => h9) rfl dX11_room_103 ?_
                refine lv_iload_n hx hb dX11_room_106 rfl (lv_at hl 2 rfl) ?_
                refine va_iald hx hb hK hP 2 0 rfl rfl (i_in (by omega) (by omega)) dX11_room_107 ?_
                refine lv_topi (fun v32 ev32 => ?_)
                refine va_iast hx hb hK hP hD hS 2 0 rfl rfl (i_in (by omega) (by omega)) dX11_room_108 (fun H locs => ?_)
                clear hP hD hS
                intro hP hD hS
                replace hP : va_P D vwCl [(moC md sd (0) mst hn cn pn mq gn mln mnn ln mlt msz mcu mtk mfr mti mfa mfb an un lc td mtn), (aI cI (md 49) 6 (upd aw q.toNatClampNeg v29)), (aI cI (md 50) 6 (upd iw q.toNatClampNeg v32))] H := hP
                replace hD : va_D A [(moC md sd (0) mst hn cn pn mq gn mln mnn ln mlt msz mcu mtk mfr mti mfa mfb an un lc td mtn), (aI cI (md 49) 6 (upd aw q.toNatClampNeg v29)), (aI cI (md 50) 6 (upd iw q.toNatClampNeg v32))] := hD
                refine lv_iload hx hb dX11_room_109 (lv_at hl 0 rfl) ?_
                have hP9 := hP
                have hD9 := hD
                exact W.iret (v := v26) hx hb hr (fun t ht hW => ⟨⟨v26, (upd aw q.toNatClampNeg v29, upd iw q.toNatClampNeg v32), rfl, (by unfold sp_room; (repeat' split) <;> first | rfl | (exfalso; omega) | (rw [upd_same (f := iw) (by assumption)]; subst_vars; rfl) | (rw [upd_same (f := aw) (by assumption)]; subst_vars; rfl)), by rw [ht]; exact hP9, va_K.moved hW.alike hK, hD9⟩, hS.F ht⟩) hS.2.2 dX11_room_111
              · skip
                have f33 := i_eq c30
                refine lv_iload_n hx hb dX11_room_98 rfl (lv_at hl 4 rfl) ?_
                refine lv_goto (tgt := 108) hx hb dX11_room_99 (by decide) ?_
                refine va_iast hx hb hK hP hD hS 2 0 rfl rfl (i_in (by omega) (by omega)) dX11_room_108 (fun H locs => ?_)
                clear hP hD hS
                intro hP hD hS
                replace hP : va_P D vwCl [(moC md sd (0) mst hn cn pn mq gn mln mnn ln mlt msz mcu mtk mfr mti mfa mfb an un lc td mtn), (aI cI (md 49) 6 (upd aw q.toNatClampNeg v29)), (aI cI (md 50) 6 (upd iw q.toNatClampNeg v))] H := hP
                replace hD : va_D A [(moC md sd (0) mst hn cn pn mq gn mln mnn ln mlt msz mcu mtk mfr mti mfa mfb an un lc td mtn), (aI cI (md 49) 6 (upd aw q.toNatClampNeg v29)), (aI cI (md 50) 6 (upd iw q.toNatClampNeg v))] := hD
                refine lv_iload hx hb dX11_room_109 (lv_at hl 0 rfl) ?_
                have hP9 := hP
                have hD9 := hD
                exact W.iret (v := v26) hx hb hr (fun t ht hW => ⟨⟨v26, (upd aw q.toNatClampNeg v29, upd iw q.toNatClampNeg v), rfl, (by unfold sp_room; (repeat' split) <;> first | rfl | (exfalso; omega) | (rw [upd_same (f := iw) (by assumption)]; subst_vars; rfl) | (rw [upd_same (f := aw) (by assumption)]; subst_vars; rfl)), by rw [ht]; exact hP9, va_K.moved hW.alike hK, hD9⟩, hS.F ht⟩) hS.2.2 dX11_room_111
            · skip
              have f34 := i_eq c27
              refine lv_iload_n hx hb dX11_room_77 rfl (lv_at hl 4 rfl) ?_
              refine lv_goto (tgt := 87) hx hb dX11_room_78 (by decide) ?_
              refine va_iast hx hb hK hP hD hS 1 0 rfl rfl (i_in (by omega) (by omega)) dX11_room_87 (fun H locs => ?_)
              clear hP hD hS
              intro hP hD hS
              replace hP : va_P D vwCl [(moC md sd (0) mst hn cn pn mq gn mln mnn ln mlt msz mcu mtk mfr mti mfa mfb an un lc td mtn), (aI cI (md 49) 6 (upd aw q.toNatClampNeg v)), (aI cI (md 50) 6 iw)] H := hP
              replace hD : va_D A [(moC md sd (0) mst hn cn pn mq gn mln mnn ln mlt msz mcu mtk mfr mti mfa mfb an un lc td mtn), (aI cI (md 49) 6 (upd aw q.toNatClampNeg v)), (aI cI (md 50) 6 iw)] := hD
              refine lv_aload_n hx hb dX11_room_88 rfl (lv_at hl 1 rfl) ?_
              refine va_get (D := D) (ci := 11) (v := .ref (md 50)) (C := RX11) (T := TX11) (N := 64) hx hb hts inX11_room_X11 hown hK hP 0 rfl rfl 50 (by decide) (hts (Cond.fieldLink RX11 105 "PortRoomsModel" "insured" "[I") (wm_t (wm_l (wm_i 5 rfl)))) (fun _ h9 => h9) rfl dX11_room_89 ?_
              refine lv_iload_n hx hb dX11_room_92 rfl (lv_at hl 2 rfl) ?_
              refine lv_iload_n hx hb dX11_room_93 rfl (lv_at hl 3 rfl) ?_
              refine lv_iconst (v := 1) hx hb dX11_room_94 (by decide) ?_
              refine lv_icmp_ne (tgt := 102) hx hb dX11_room_95 (by decide) (fun c35 => ?_) (fun c35 => ?_)
              · skip
                have f36 := i_ne c35
                refine lv_aload_n hx hb dX11_room_102 rfl (lv_at hl 1 rfl) ?_
                refine va_get (D := D) (ci := 11) (v := .ref (md 50)) (C := RX11) (T := TX11) (N := 64) hx hb hts inX11_room_X11 hown hK hP 0 rfl rfl 50 (by decide) (hts (Cond.fieldLink RX11 105 "PortRoomsModel" "insured" "[I") (wm_t (wm_l (wm_i 5 rfl)))) (fun _ h9 => h9) rfl dX11_room_103 ?_
                refine lv_iload_n hx hb dX11_room_106 rfl (lv_at hl 2 rfl) ?_
                refine va_iald hx hb hK hP 2 0 rfl rfl (i_in (by omega) (by omega)) dX11_room_107 ?_
                refine lv_topi (fun v37 ev37 => ?_)
                refine va_iast hx hb hK hP hD hS 2 0 rfl rfl (i_in (by omega) (by omega)) dX11_room_108 (fun H locs => ?_)
                clear hP hD hS
                intro hP hD hS
                replace hP : va_P D vwCl [(moC md sd (0) mst hn cn pn mq gn mln mnn ln mlt msz mcu mtk mfr mti mfa mfb an un lc td mtn), (aI cI (md 49) 6 (upd aw q.toNatClampNeg v)), (aI cI (md 50) 6 (upd iw q.toNatClampNeg v37))] H := hP
                replace hD : va_D A [(moC md sd (0) mst hn cn pn mq gn mln mnn ln mlt msz mcu mtk mfr mti mfa mfb an un lc td mtn), (aI cI (md 49) 6 (upd aw q.toNatClampNeg v)), (aI cI (md 50) 6 (upd iw q.toNatClampNeg v37))] := hD
                refine lv_iload hx hb dX11_room_109 (lv_at hl 0 rfl) ?_
                have hP9 := hP
                have hD9 := hD
                exact W.iret (v := v26) hx hb hr (fun t ht hW => ⟨⟨v26, (upd aw q.toNatClampNeg v, upd iw q.toNatClampNeg v37), rfl, (by unfold sp_room; (repeat' split) <;> first | rfl | (exfalso; omega) | (rw [upd_same (f := iw) (by assumption)]; subst_vars; rfl) | (rw [upd_same (f := aw) (by assumption)]; subst_vars; rfl)), by rw [ht]; exact hP9, va_K.moved hW.alike hK, hD9⟩, hS.F ht⟩) hS.2.2 dX11_room_111
              · skip
                have f38 := i_eq c35
                refine lv_iload_n hx hb dX11_room_98 rfl (lv_at hl 4 rfl) ?_
                refine lv_goto (tgt := 108) hx hb dX11_room_99 (by decide) ?_
                refine va_iast hx hb hK hP hD hS 2 0 rfl rfl (i_in (by omega) (by omega)) dX11_room_108 (fun H locs => ?_)
                clear hP hD hS
                intro hP hD hS
                replace hP : va_P D vwCl [(moC md sd (0) mst hn cn pn mq gn mln mnn ln mlt msz mcu mtk mfr mti mfa mfb an un lc td mtn), (aI cI (md 49) 6 (upd aw q.toNatClampNeg v)), (aI cI (md 50) 6 (upd iw q.toNatClampNeg v))] H := hP
                replace hD : va_D A [(moC md sd (0) mst hn cn pn mq gn mln mnn ln mlt msz mcu mtk mfr mti mfa mfb an un lc td mtn), (aI cI (md 49) 6 (upd aw q.toNatClampNeg v)), (aI cI (md 50) 6 (upd iw q.toNatClampNeg v))] := hD
                refine lv_iload hx hb dX11_room_109 (lv_at hl 0 rfl) ?_
                have hP9 := hP
                have hD9 := hD
                exact W.iret (v := v26) hx hb hr (fun t ht hW => ⟨⟨v26, (upd aw q.toNatClampNeg v, upd iw q.toNatClampNeg v), rfl, (by unfold sp_room; (repeat' split) <;> first | rfl | (exfalso; omega) | (rw [upd_same (f := iw) (by assumption)]; subst_vars; rfl) | (rw [upd_same (f := aw) (by assumption)]; subst_vars; rfl)), by rw [ht]; exact hP9, va_K.moved hW.alike hK, hD9⟩, hS.F ht⟩) hS.2.2 dX11_room_111
          · skip
            have f39 := i_eq c24
            refine lv_aload_n hx hb dX11_room_51 rfl (lv_at hl 0 rfl) ?_
            refine va_get (D := D) (ci := 11) (v := .ref (md 49)) (C := RX11) (T := TX11) (N := 64) hx hb hts inX11_room_X11 hown hK hP 0 rfl rfl 49 (by decide) (hts (Cond.fieldLink RX11 102 "PortRoomsModel" "air" "[I") (wm_t (wm_l (wm_i 4 rfl)))) (fun _ h9 => h9) rfl dX11_room_52 ?_
            refine lv_iload_n hx hb dX11_room_55 rfl (lv_at hl 1 rfl) ?_
            refine va_iald hx hb hK hP 1 0 rfl rfl (i_in (by omega) (by omega)) dX11_room_56 ?_
            refine lv_topi (fun v40 ev40 => ?_)
            refine lv_goto (tgt := 66) hx hb dX11_room_57 (by decide) ?_
            refine lv_istore (lv' := [(4, .int v40), (0, .ref (md 64)), (1, .int q), (2, .int w), (3, .int v)]) hx hb dX11_room_66 hl (by decide) rfl (fun ls hl => ?_)
            refine lv_aload_n hx hb dX11_room_68 rfl (lv_at hl 1 rfl) ?_
            refine va_get (D := D) (ci := 11) (v := .ref (md 49)) (C := RX11) (T := TX11) (N := 64) hx hb hts inX11_room_X11 hown hK hP 0 rfl rfl 49 (by decide) (hts (Cond.fieldLink RX11 102 "PortRoomsModel" "air" "[I") (wm_t (wm_l (wm_i 4 rfl)))) (fun _ h9 => h9) rfl dX11_room_69 ?_
            refine lv_iload_n hx hb dX11_room_72 rfl (lv_at hl 2 rfl) ?_
            refine lv_iload_n hx hb dX11_room_73 rfl (lv_at hl 3 rfl) ?_
            refine lv_if_ne (tgt := 81) hx hb dX11_room_74 (by decide) (fun c41 => ?_) (fun c41 => ?_)
            · skip
              have f42 := i_ne c41
              refine lv_aload_n hx hb dX11_room_81 rfl (lv_at hl 1 rfl) ?_
              refine va_get (D := D) (ci := 11) (v := .ref (md 49)) (C := RX11) (T := TX11) (N := 64) hx hb hts inX11_room_X11 hown hK hP 0 rfl rfl 49 (by decide) (hts (Cond.fieldLink RX11 102 "PortRoomsModel" "air" "[I") (wm_t (wm_l (wm_i 4 rfl)))) (fun _ h9 => h9) rfl dX11_room_82 ?_
              refine lv_iload_n hx hb dX11_room_85 rfl (lv_at hl 2 rfl) ?_
              refine va_iald hx hb hK hP 1 0 rfl rfl (i_in (by omega) (by omega)) dX11_room_86 ?_
              refine lv_topi (fun v43 ev43 => ?_)
              refine va_iast hx hb hK hP hD hS 1 0 rfl rfl (i_in (by omega) (by omega)) dX11_room_87 (fun H locs => ?_)
              clear hP hD hS
              intro hP hD hS
              replace hP : va_P D vwCl [(moC md sd (0) mst hn cn pn mq gn mln mnn ln mlt msz mcu mtk mfr mti mfa mfb an un lc td mtn), (aI cI (md 49) 6 (upd aw q.toNatClampNeg v43)), (aI cI (md 50) 6 iw)] H := hP
              replace hD : va_D A [(moC md sd (0) mst hn cn pn mq gn mln mnn ln mlt msz mcu mtk mfr mti mfa mfb an un lc td mtn), (aI cI (md 49) 6 (upd aw q.toNatClampNeg v43)), (aI cI (md 50) 6 iw)] := hD
              refine lv_aload_n hx hb dX11_room_88 rfl (lv_at hl 1 rfl) ?_
              refine va_get (D := D) (ci := 11) (v := .ref (md 50)) (C := RX11) (T := TX11) (N := 64) hx hb hts inX11_room_X11 hown hK hP 0 rfl rfl 50 (by decide) (hts (Cond.fieldLink RX11 105 "PortRoomsModel" "insured" "[I") (wm_t (wm_l (wm_i 5 rfl)))) (fun _ h9 => h9) rfl dX11_room_89 ?_
              refine lv_iload_n hx hb dX11_room_92 rfl (lv_at hl 2 rfl) ?_
              refine lv_iload_n hx hb dX11_room_93 rfl (lv_at hl 3 rfl) ?_
              refine lv_iconst (v := 1) hx hb dX11_room_94 (by decide) ?_
              refine lv_icmp_ne (tgt := 102) hx hb dX11_room_95 (by decide) (fun c44 => ?_) (fun c44 => ?_)
              · skip
                have f45 := i_ne c44
                refine lv_aload_n hx hb dX11_room_102 rfl (lv_at hl 1 rfl) ?_
                refine va_get (D := D) (ci := 11) (v := .ref (md 50)) (C := RX11) (T := TX11) (N := 64) hx hb hts inX11_room_X11 hown hK hP 0 rfl rfl 50 (by decide) (hts (Cond.fieldLink RX11 105 "PortRoomsModel" "insured" "[I") (wm_t (wm_l (wm_i 5 rfl)))) (fun _ h9 => h9) rfl dX11_room_103 ?_
                refine lv_iload_n hx hb dX11_room_106 rfl (lv_at hl 2 rfl) ?_
                refine va_iald hx hb hK hP 2 0 rfl rfl (i_in (by omega) (by omega)) dX11_room_107 ?_
                refine lv_topi (fun v46 ev46 => ?_)
                refine va_iast hx hb hK hP hD hS 2 0 rfl rfl (i_in (by omega) (by omega)) dX11_room_108 (fun H locs => ?_)
                clear hP hD hS
                intro hP hD hS
                replace hP : va_P D vwCl [(moC md sd (0) mst hn cn pn mq gn mln mnn ln mlt msz mcu mtk mfr mti mfa mfb an un lc td mtn), (aI cI (md 49) 6 (upd aw q.toNatClampNeg v43)), (aI cI (md 50) 6 (upd iw q.toNatClampNeg v46))] H := hP
                replace hD : va_D A [(moC md sd (0) mst hn cn pn mq gn mln mnn ln mlt msz mcu mtk mfr mti mfa mfb an un lc td mtn), (aI cI (md 49) 6 (upd aw q.toNatClampNeg v43)), (aI cI (md 50) 6 (upd iw q.toNatClampNeg v46))] := hD
                refine lv_iload hx hb dX11_room_109 (lv_at hl 0 rfl) ?_
                have hP9 := hP
                have hD9 := hD
                exact W.iret (v := v40) hx hb hr (fun t ht hW => ⟨⟨v40, (upd aw q.toNatClampNeg v43, upd iw q.toNatClampNeg v46), rfl, (by unfold sp_room; (repeat' split) <;> first | rfl | (exfalso; omega) | (rw [upd_same (f := iw) (by assumption)]; subst_vars; rfl) | (rw [upd_same (f := aw) (by assumption)]; subst_vars; rfl)), by rw [ht]; exact hP9, va_K.moved hW.alike hK, hD9⟩, hS.F ht⟩) hS.2.2 dX11_room_111
              · skip
                have f47 := i_eq c44
                refine lv_iload_n hx hb dX11_room_98 rfl (lv_at hl 4 rfl) ?_
                refine lv_goto (tgt := 108) hx hb dX11_room_99 (by decide) ?_
                refine va_iast hx hb hK hP hD hS 2 0 rfl rfl (i_in (by omega) (by omega)) dX11_room_108 (fun H locs => ?_)
                clear hP hD hS
                intro hP hD hS
                replace hP : va_P D vwCl [(moC md sd (0) mst hn cn pn mq gn mln mnn ln mlt msz mcu mtk mfr mti mfa mfb an un lc td mtn), (aI cI (md 49) 6 (upd aw q.toNatClampNeg v43)), (aI cI (md 50) 6 (upd iw q.toNatClampNeg v))] H := hP
                replace hD : va_D A [(moC md sd (0) mst hn cn pn mq gn mln mnn ln mlt msz mcu mtk mfr mti mfa mfb an un lc td mtn), (aI cI (md 49) 6 (upd aw q.toNatClampNeg v43)), (aI cI (md 50) 6 (upd iw q.toNatClampNeg v))] := hD
                refine lv_iload hx hb dX11_room_109 (lv_at hl 0 rfl) ?_
                have hP9 := hP
                have hD9 := hD
                exact W.iret (v := v40) hx hb hr (fun t ht hW => ⟨⟨v40, (upd aw q.toNatClampNeg v43, upd iw q.toNatClampNeg v), rfl, (by unfold sp_room; (repeat' split) <;> first | rfl | (exfalso; omega) | (rw [upd_same (f := iw) (by assumption)]; subst_vars; rfl) | (rw [upd_same (f := aw) (by assumption)]; subst_vars; rfl)), by rw [ht]; exact hP9, va_K.moved hW.alike hK, hD9⟩, hS.F ht⟩) hS.2.2 dX11_room_111
            · skip
              have f48 := i_eq c41
              refine lv_iload_n hx hb dX11_room_77 rfl (lv_at hl 4 rfl) ?_
              refine lv_goto (tgt := 87) hx hb dX11_room_78 (by decide) ?_
              refine va_iast hx hb hK hP hD hS 1 0 rfl rfl (i_in (by omega) (by omega)) dX11_room_87 (fun H locs => ?_)
              clear hP hD hS
              intro hP hD hS
              replace hP : va_P D vwCl [(moC md sd (0) mst hn cn pn mq gn mln mnn ln mlt msz mcu mtk mfr mti mfa mfb an un lc td mtn), (aI cI (md 49) 6 (upd aw q.toNatClampNeg v)), (aI cI (md 50) 6 iw)] H := hP
              replace hD : va_D A [(moC md sd (0) mst hn cn pn mq gn mln mnn ln mlt msz mcu mtk mfr mti mfa mfb an un lc td mtn), (aI cI (md 49) 6 (upd aw q.toNatClampNeg v)), (aI cI (md 50) 6 iw)] := hD
              refine lv_aload_n hx hb dX11_room_88 rfl (lv_at hl 1 rfl) ?_
              refine va_get (D := D) (ci := 11) (v := .ref (md 50)) (C := RX11) (T := TX11) (N := 64) hx hb hts inX11_room_X11 hown hK hP 0 rfl rfl 50 (by decide) (hts (Cond.fieldLink RX11 105 "PortRoomsModel" "insured" "[I") (wm_t (wm_l (wm_i 5 rfl)))) (fun _ h9 => h9) rfl dX11_room_89 ?_
              refine lv_iload_n hx hb dX11_room_92 rfl (lv_at hl 2 rfl) ?_
              refine lv_iload_n hx hb dX11_room_93 rfl (lv_at hl 3 rfl) ?_
              refine lv_iconst (v := 1) hx hb dX11_room_94 (by decide) ?_
              refine lv_icmp_ne (tgt := 102) hx hb dX11_room_95 (by decide) (fun c49 => ?_) (fun c49 => ?_)
              · skip
                have f50 := i_ne c49
                refine lv_aload_n hx hb dX11_room_102 rfl (lv_at hl 1 rfl) ?_
                refine va_get (D := D) (ci := 11) (v := .ref (md 50)) (C := RX11) (T := TX11) (N := 64) hx hb hts inX11_room_X11 hown hK hP 0 rfl rfl 50 (by decide) (hts (Cond.fieldLink RX11 105 "PortRoomsModel" "insured" "[I") (wm_t (wm_l (wm_i 5 rfl)))) (fun _ h9 => h9) rfl dX11_room_103 ?_
                refine lv_iload_n hx hb dX11_room_106 rfl (lv_at hl 2 rfl) ?_
                refine va_iald hx hb hK hP 2 0 rfl rfl (i_in (by omega) (by omega)) dX11_room_107 ?_
                refine lv_topi (fun v51 ev51 => ?_)
                refine va_iast hx hb hK hP hD hS 2 0 rfl rfl (i_in (by omega) (by omega)) dX11_room_108 (fun H locs => ?_)
                clear hP hD hS
                intro hP hD hS
                replace hP : va_P D vwCl [(moC md sd (0) mst hn cn pn mq gn mln mnn ln mlt msz mcu mtk mfr mti mfa mfb an un lc td mtn), (aI cI (md 49) 6 (upd aw q.toNatClampNeg v)), (aI cI (md 50) 6 (upd iw q.toNatClampNeg v51))] H := hP
                replace hD : va_D A [(moC md sd (0) mst hn cn pn mq gn mln mnn ln mlt msz mcu mtk mfr mti mfa mfb an un lc td mtn), (aI cI (md 49) 6 (upd aw q.toNatClampNeg v)), (aI cI (md 50) 6 (upd iw q.toNatClampNeg v51))] := hD
                refine lv_iload hx hb dX11_room_109 (lv_at hl 0 rfl) ?_
                have hP9 := hP
                have hD9 := hD
                exact W.iret (v := v40) hx hb hr (fun t ht hW => ⟨⟨v40, (upd aw q.toNatClampNeg v, upd iw q.toNatClampNeg v51), rfl, (by unfold sp_room; (repeat' split) <;> first | rfl | (exfalso; omega) | (rw [upd_same (f := iw) (by assumption)]; subst_vars; rfl) | (rw [upd_same (f := aw) (by assumption)]; subst_vars; rfl)), by rw [ht]; exact hP9, va_K.moved hW.alike hK, hD9⟩, hS.F ht⟩) hS.2.2 dX11_room_111
              · skip
                have f52 := i_eq c49
                refine lv_iload_n hx hb dX11_room_98 rfl (lv_at hl 4 rfl) ?_
                refine lv_goto (tgt := 108) hx hb dX11_room_99 (by decide) ?_
                refine va_iast hx hb hK hP hD hS 2 0 rfl rfl (i_in (by omega) (by omega)) dX11_room_108 (fun H locs => ?_)
                clear hP hD hS
                intro hP hD hS
                replace hP : va_P D vwCl [(moC md sd (0) mst hn cn pn mq gn mln mnn ln mlt msz mcu mtk mfr mti mfa mfb an un lc td mtn), (aI cI (md 49) 6 (upd aw q.toNatClampNeg v)), (aI cI (md 50) 6 (upd iw q.toNatClampNeg v))] H := hP
                replace hD : va_D A [(moC md sd (0) mst hn cn pn mq gn mln mnn ln mlt msz mcu mtk mfr mti mfa mfb an un lc td mtn), (aI cI (md 49) 6 (upd aw q.toNatClampNeg v)), (aI cI (md 50) 6 (upd iw q.toNatClampNeg v))] := hD
                refine lv_iload hx hb dX11_room_109 (lv_at hl 0 rfl) ?_
                have hP9 := hP
                have hD9 := hD
                exact W.iret (v := v40) hx hb hr (fun t ht hW => ⟨⟨v40, (upd aw q.toNatClampNeg v, upd iw q.toNatClampNeg v), rfl, (by unfold sp_room; (repeat' split) <;> first | rfl | (exfalso; omega) | (rw [upd_same (f := iw) (by assumption)]; subst_vars; rfl) | (rw [upd_same (f := aw) (by assumption)]; subst_vars; rfl)), by rw [ht]; exact hP9, va_K.moved hW.alike hK, hD9⟩, hS.F ht⟩) hS.2.2 dX11_room_111
        · skip
          have f53 := bo_f hw20 c22
          refine lv_ldc hx hb hown (hts (Cond.constant RX11 157 (-1000001)) (wm_t (wm_l (wm_i 3 rfl)))) dX11_room_44 ?_
          have hP9 := hP
          have hD9 := hD
          exact W.iret (v := (-1000001)) hx hb hr (fun t ht hW => ⟨⟨(-1000001), (aw, iw), rfl, (by unfold sp_room; (repeat' split) <;> first | rfl | (exfalso; omega) | (rw [upd_same (f := iw) (by assumption)]; subst_vars; rfl) | (rw [upd_same (f := aw) (by assumption)]; subst_vars; rfl)), by rw [ht]; exact hP9, va_K.moved hW.alike hK, hD9⟩, hS.F ht⟩) hS.2.2 dX11_room_46
      · skip
        have f54 := i_eq c17
        refine lv_ldc2 hx hb hown (hts (Cond.constantLong RX11 330 (12)) (wm_t (wm_l (wm_i 1 rfl)))) dX11_room_29 ?_
        refine lv_goto (tgt := 38) hx hb dX11_room_32 (by decide) ?_
        refine st_i1 (va_runS (As := [.long (v.toInt64), .long 0, .long 12]) (rest := []) ⟨hx, hb, hml, hown, hts⟩ (ct_X11_in l D cI cY cJ cQ _ v.toInt64 (0 : Int64) (12 : Int64)) (va_cwS 3 hts gX11_room_X11_in rfl rfl rfl cdX11_in ⟨Nat.le_of_ble_eq_true rfl, Nat.le_of_ble_eq_true rfl⟩) (cPreS (hP.sub [] rfl) hK (hD.sub [] (by decide +kernel) rfl) hN) rfl rfl hl.1 rfl (lv_room (Nat.le_of_ble_eq_true rfl)) dX11_room_38 ⟨Nat.le_of_ble_eq_true rfl, Nat.le_of_ble_eq_true rfl⟩) hP hD hS hA [] rfl (fun _ => rfl) (fun r57 u55 H locs hw56 => ?_)
        clear hP hS
        intro hP hS
        replace hw56 : r57 = if (0 : Int64).toInt ≤ v.toInt64.toInt ∧ v.toInt64.toInt ≤ (12 : Int64).toInt then 1 else 0 := hw56
        refine lv_if_ne (tgt := 47) hx hb dX11_room_41 (by decide) (fun c58 => ?_) (fun c58 => ?_)
        · skip
          have f59 := bo_t hw56 c58
          refine lv_iload_n hx hb dX11_room_47 rfl (lv_at hl 2 rfl) ?_
          refine lv_if_ne (tgt := 60) hx hb dX11_room_48 (by decide) (fun c60 => ?_) (fun c60 => ?_)
          · skip
            have f61 := i_ne c60
            refine lv_aload_n hx hb dX11_room_60 rfl (lv_at hl 0 rfl) ?_
            refine va_get (D := D) (ci := 11) (v := .ref (md 50)) (C := RX11) (T := TX11) (N := 64) hx hb hts inX11_room_X11 hown hK hP 0 rfl rfl 50 (by decide) (hts (Cond.fieldLink RX11 105 "PortRoomsModel" "insured" "[I") (wm_t (wm_l (wm_i 5 rfl)))) (fun _ h9 => h9) rfl dX11_room_61 ?_
            refine lv_iload_n hx hb dX11_room_64 rfl (lv_at hl 1 rfl) ?_
            refine va_iald hx hb hK hP 2 0 rfl rfl (i_in (by omega) (by omega)) dX11_room_65 ?_
            refine lv_topi (fun v62 ev62 => ?_)
            refine lv_istore (lv' := [(4, .int v62), (0, .ref (md 64)), (1, .int q), (2, .int w), (3, .int v)]) hx hb dX11_room_66 hl (by decide) rfl (fun ls hl => ?_)
            refine lv_aload_n hx hb dX11_room_68 rfl (lv_at hl 1 rfl) ?_
            refine va_get (D := D) (ci := 11) (v := .ref (md 49)) (C := RX11) (T := TX11) (N := 64) hx hb hts inX11_room_X11 hown hK hP 0 rfl rfl 49 (by decide) (hts (Cond.fieldLink RX11 102 "PortRoomsModel" "air" "[I") (wm_t (wm_l (wm_i 4 rfl)))) (fun _ h9 => h9) rfl dX11_room_69 ?_
            refine lv_iload_n hx hb dX11_room_72 rfl (lv_at hl 2 rfl) ?_
            refine lv_iload_n hx hb dX11_room_73 rfl (lv_at hl 3 rfl) ?_
            refine lv_if_ne (tgt := 81) hx hb dX11_room_74 (by decide) (fun c63 => ?_) (fun c63 => ?_)
            · skip
              have f64 := i_ne c63
              refine lv_aload_n hx hb dX11_room_81 rfl (lv_at hl 1 rfl) ?_
              refine va_get (D := D) (ci := 11) (v := .ref (md 49)) (C := RX11) (T := TX11) (N := 64) hx hb hts inX11_room_X11 hown hK hP 0 rfl rfl 49 (by decide) (hts (Cond.fieldLink RX11 102 "PortRoomsModel" "air" "[I") (wm_t (wm_l (wm_i 4 rfl)))) (fun _ h9 => h9) rfl dX11_room_82 ?_
              refine lv_iload_n hx hb dX11_room_85 rfl (lv_at hl 2 rfl) ?_
              refine va_iald hx hb hK hP 1 0 rfl rfl (i_in (by omega) (by omega)) dX11_room_86 ?_
              refine lv_topi (fun v65 ev65 => ?_)
              refine va_iast hx hb hK hP hD hS 1 0 rfl rfl (i_in (by omega) (by omega)) dX11_room_87 (fun H locs => ?_)
              clear hP hD hS
              intro hP hD hS
              replace hP : va_P D vwCl [(moC md sd (0) mst hn cn pn mq gn mln mnn ln mlt msz mcu mtk mfr mti mfa mfb an un lc td mtn), (aI cI (md 49) 6 (upd aw q.toNatClampNeg v65)), (aI cI (md 50) 6 iw)] H := hP
              replace hD : va_D A [(moC md sd (0) mst hn cn pn mq gn mln mnn ln mlt msz mcu mtk mfr mti mfa mfb an un lc td mtn), (aI cI (md 49) 6 (upd aw q.toNatClampNeg v65)), (aI cI (md 50) 6 iw)] := hD
              refine lv_aload_n hx hb dX11_room_88 rfl (lv_at hl 1 rfl) ?_
              refine va_get (D := D) (ci := 11) (v := .ref (md 50)) (C := RX11) (T := TX11) (N := 64) hx hb hts inX11_room_X11 hown hK hP 0 rfl rfl 50 (by decide) (hts (Cond.fieldLink RX11 105 "PortRoomsModel" "insured" "[I") (wm_t (wm_l (wm_i 5 rfl)))) (fun _ h9 => h9) rfl dX11_room_89 ?_
              refine lv_iload_n hx hb dX11_room_92 rfl (lv_at hl 2 rfl) ?_
              refine lv_iload_n hx hb dX11_room_93 rfl (lv_at hl 3 rfl) ?_
              refine lv_iconst (v := 1) hx hb dX11_room_94 (by decide) ?_
              refine lv_icmp_ne (tgt := 102) hx hb dX11_room_95 (by decide) (fun c66 => ?_) (fun c66 => ?_)
              · skip
                have f67 := i_ne c66
                refine lv_aload_n hx hb dX11_room_102 rfl (lv_at hl 1 rfl) ?_
                refine va_get (D := D) (ci := 11) (v := .ref (md 50)) (C := RX11) (T := TX11) (N := 64) hx hb hts inX11_room_X11 hown hK hP 0 rfl rfl 50 (by decide) (hts (Cond.fieldLink RX11 105 "PortRoomsModel" "insured" "[I") (wm_t (wm_l (wm_i 5 rfl)))) (fun _ h9 => h9) rfl dX11_room_103 ?_
                refine lv_iload_n hx hb dX11_room_106 rfl (lv_at hl 2 rfl) ?_
                refine va_iald hx hb hK hP 2 0 rfl rfl (i_in (by omega) (by omega)) dX11_room_107 ?_
                refine lv_topi (fun v68 ev68 => ?_)
                refine va_iast hx hb hK hP hD hS 2 0 rfl rfl (i_in (by omega) (by omega)) dX11_room_108 (fun H locs => ?_)
                clear hP hD hS
                intro hP hD hS
                replace hP : va_P D vwCl [(moC md sd (0) mst hn cn pn mq gn mln mnn ln mlt msz mcu mtk mfr mti mfa mfb an un lc td mtn), (aI cI (md 49) 6 (upd aw q.toNatClampNeg v65)), (aI cI (md 50) 6 (upd iw q.toNatClampNeg v68))] H := hP
                replace hD : va_D A [(moC md sd (0) mst hn cn pn mq gn mln mnn ln mlt msz mcu mtk mfr mti mfa mfb an un lc td mtn), (aI cI (md 49) 6 (upd aw q.toNatClampNeg v65)), (aI cI (md 50) 6 (upd iw q.toNatClampNeg v68))] := hD
                refine lv_iload hx hb dX11_room_109 (lv_at hl 0 rfl) ?_
                have hP9 := hP
                have hD9 := hD
                exact W.iret (v := v62) hx hb hr (fun t ht hW => ⟨⟨v62, (upd aw q.toNatClampNeg v65, upd iw q.toNatClampNeg v68), rfl, (by unfold sp_room; (repeat' split) <;> first | rfl | (exfalso; omega) | (rw [upd_same (f := iw) (by assumption)]; subst_vars; rfl) | (rw [upd_same (f := aw) (by assumption)]; subst_vars; rfl)), by rw [ht]; exact hP9, va_K.moved hW.alike hK, hD9⟩, hS.F ht⟩) hS.2.2 dX11_room_111
              · skip
                have f69 := i_eq c66
                refine lv_iload_n hx hb dX11_room_98 rfl (lv_at hl 4 rfl) ?_
                refine lv_goto (tgt := 108) hx hb dX11_room_99 (by decide) ?_
                refine va_iast hx hb hK hP hD hS 2 0 rfl rfl (i_in (by omega) (by omega)) dX11_room_108 (fun H locs => ?_)
                clear hP hD hS
                intro hP hD hS
                replace hP : va_P D vwCl [(moC md sd (0) mst hn cn pn mq gn mln mnn ln mlt msz mcu mtk mfr mti mfa mfb an un lc td mtn), (aI cI (md 49) 6 (upd aw q.toNatClampNeg v65)), (aI cI (md 50) 6 (upd iw q.toNatClampNeg v))] H := hP
                replace hD : va_D A [(moC md sd (0) mst hn cn pn mq gn mln mnn ln mlt msz mcu mtk mfr mti mfa mfb an un lc td mtn), (aI cI (md 49) 6 (upd aw q.toNatClampNeg v65)), (aI cI (md 50) 6 (upd iw q.toNatClampNeg v))] := hD
                refine lv_iload hx hb dX11_room_109 (lv_at hl 0 rfl) ?_
                have hP9 := hP
                have hD9 := hD
                exact W.iret (v := v62) hx hb hr (fun t ht hW => ⟨⟨v62, (upd aw q.toNatClampNeg v65, upd iw q.toNatClampNeg v), rfl, (by unfold sp_room; (repeat' split) <;> first | rfl | (exfalso; omega) | (rw [upd_same (f := iw) (by assumption)]; subst_vars; rfl) | (rw [upd_same (f := aw) (by assumption)]; subst_vars; rfl)), by rw [ht]; exact hP9, va_K.moved hW.alike hK, hD9⟩, hS.F ht⟩) hS.2.2 dX11_room_111
            · skip
              have f70 := i_eq c63
              refine lv_iload_n hx hb dX11_room_77 rfl (lv_at hl 4 rfl) ?_
              refine lv_goto (tgt := 87) hx hb dX11_room_78 (by decide) ?_
              refine va_iast hx hb hK hP hD hS 1 0 rfl rfl (i_in (by omega) (by omega)) dX11_room_87 (fun H locs => ?_)
              clear hP hD hS
              intro hP hD hS
              replace hP : va_P D vwCl [(moC md sd (0) mst hn cn pn mq gn mln mnn ln mlt msz mcu mtk mfr mti mfa mfb an un lc td mtn), (aI cI (md 49) 6 (upd aw q.toNatClampNeg v)), (aI cI (md 50) 6 iw)] H := hP
              replace hD : va_D A [(moC md sd (0) mst hn cn pn mq gn mln mnn ln mlt msz mcu mtk mfr mti mfa mfb an un lc td mtn), (aI cI (md 49) 6 (upd aw q.toNatClampNeg v)), (aI cI (md 50) 6 iw)] := hD
              refine lv_aload_n hx hb dX11_room_88 rfl (lv_at hl 1 rfl) ?_
              refine va_get (D := D) (ci := 11) (v := .ref (md 50)) (C := RX11) (T := TX11) (N := 64) hx hb hts inX11_room_X11 hown hK hP 0 rfl rfl 50 (by decide) (hts (Cond.fieldLink RX11 105 "PortRoomsModel" "insured" "[I") (wm_t (wm_l (wm_i 5 rfl)))) (fun _ h9 => h9) rfl dX11_room_89 ?_
              refine lv_iload_n hx hb dX11_room_92 rfl (lv_at hl 2 rfl) ?_
              refine lv_iload_n hx hb dX11_room_93 rfl (lv_at hl 3 rfl) ?_
              refine lv_iconst (v := 1) hx hb dX11_room_94 (by decide) ?_
              refine lv_icmp_ne (tgt := 102) hx hb dX11_room_95 (by decide) (fun c71 => ?_) (fun c71 => ?_)
              · skip
                have f72 := i_ne c71
                refine lv_aload_n hx hb dX11_room_102 rfl (lv_at hl 1 rfl) ?_
                refine va_get (D := D) (ci := 11) (v := .ref (md 50)) (C := RX11) (T := TX11) (N := 64) hx hb hts inX11_room_X11 hown hK hP 0 rfl rfl 50 (by decide) (hts (Cond.fieldLink RX11 105 "PortRoomsModel" "insured" "[I") (wm_t (wm_l (wm_i 5 rfl)))) (fun _ h9 => h9) rfl dX11_room_103 ?_
                refine lv_iload_n hx hb dX11_room_106 rfl (lv_at hl 2 rfl) ?_
                refine va_iald hx hb hK hP 2 0 rfl rfl (i_in (by omega) (by omega)) dX11_room_107 ?_
                refine lv_topi (fun v73 ev73 => ?_)
                refine va_iast hx hb hK hP hD hS 2 0 rfl rfl (i_in (by omega) (by omega)) dX11_room_108 (fun H locs => ?_)
                clear hP hD hS
                intro hP hD hS
                replace hP : va_P D vwCl [(moC md sd (0) mst hn cn pn mq gn mln mnn ln mlt msz mcu mtk mfr mti mfa mfb an un lc td mtn), (aI cI (md 49) 6 (upd aw q.toNatClampNeg v)), (aI cI (md 50) 6 (upd iw q.toNatClampNeg v73))] H := hP
                replace hD : va_D A [(moC md sd (0) mst hn cn pn mq gn mln mnn ln mlt msz mcu mtk mfr mti mfa mfb an un lc td mtn), (aI cI (md 49) 6 (upd aw q.toNatClampNeg v)), (aI cI (md 50) 6 (upd iw q.toNatClampNeg v73))] := hD
                refine lv_iload hx hb dX11_room_109 (lv_at hl 0 rfl) ?_
                have hP9 := hP
                have hD9 := hD
                exact W.iret (v := v62) hx hb hr (fun t ht hW => ⟨⟨v62, (upd aw q.toNatClampNeg v, upd iw q.toNatClampNeg v73), rfl, (by unfold sp_room; (repeat' split) <;> first | rfl | (exfalso; omega) | (rw [upd_same (f := iw) (by assumption)]; subst_vars; rfl) | (rw [upd_same (f := aw) (by assumption)]; subst_vars; rfl)), by rw [ht]; exact hP9, va_K.moved hW.alike hK, hD9⟩, hS.F ht⟩) hS.2.2 dX11_room_111
              · skip
                have f74 := i_eq c71
                refine lv_iload_n hx hb dX11_room_98 rfl (lv_at hl 4 rfl) ?_
                refine lv_goto (tgt := 108) hx hb dX11_room_99 (by decide) ?_
                refine va_iast hx hb hK hP hD hS 2 0 rfl rfl (i_in (by omega) (by omega)) dX11_room_108 (fun H locs => ?_)
                clear hP hD hS
                intro hP hD hS
                replace hP : va_P D vwCl [(moC md sd (0) mst hn cn pn mq gn mln mnn ln mlt msz mcu mtk mfr mti mfa mfb an un lc td mtn), (aI cI (md 49) 6 (upd aw q.toNatClampNeg v)), (aI cI (md 50) 6 (upd iw q.toNatClampNeg v))] H := hP
                replace hD : va_D A [(moC md sd (0) mst hn cn pn mq gn mln mnn ln mlt msz mcu mtk mfr mti mfa mfb an un lc td mtn), (aI cI (md 49) 6 (upd aw q.toNatClampNeg v)), (aI cI (md 50) 6 (upd iw q.toNatClampNeg v))] := hD
                refine lv_iload hx hb dX11_room_109 (lv_at hl 0 rfl) ?_
                have hP9 := hP
                have hD9 := hD
                exact W.iret (v := v62) hx hb hr (fun t ht hW => ⟨⟨v62, (upd aw q.toNatClampNeg v, upd iw q.toNatClampNeg v), rfl, (by unfold sp_room; (repeat' split) <;> first | rfl | (exfalso; omega) | (rw [upd_same (f := iw) (by assumption)]; subst_vars; rfl) | (rw [upd_same (f := aw) (by assumption)]; subst_vars; rfl)), by rw [ht]; exact hP9, va_K.moved hW.alike hK, hD9⟩, hS.F ht⟩) hS.2.2 dX11_room_111
          · skip
            have f75 := i_eq c60
            refine lv_aload_n hx hb dX11_room_51 rfl (lv_at hl 0 rfl) ?_
            refine va_get (D := D) (ci := 11) (v := .ref (md 49)) (C := RX11) (T := TX11) (N := 64) hx hb hts inX11_room_X11 hown hK hP 0 rfl rfl 49 (by decide) (hts (Cond.fieldLink RX11 102 "PortRoomsModel" "air" "[I") (wm_t (wm_l (wm_i 4 rfl)))) (fun _ h9 => h9) rfl dX11_room_52 ?_
            refine lv_iload_n hx hb dX11_room_55 rfl (lv_at hl 1 rfl) ?_
            refine va_iald hx hb hK hP 1 0 rfl rfl (i_in (by omega) (by omega)) dX11_room_56 ?_
            refine lv_topi (fun v76 ev76 => ?_)
            refine lv_goto (tgt := 66) hx hb dX11_room_57 (by decide) ?_
            refine lv_istore (lv' := [(4, .int v76), (0, .ref (md 64)), (1, .int q), (2, .int w), (3, .int v)]) hx hb dX11_room_66 hl (by decide) rfl (fun ls hl => ?_)
            refine lv_aload_n hx hb dX11_room_68 rfl (lv_at hl 1 rfl) ?_
            refine va_get (D := D) (ci := 11) (v := .ref (md 49)) (C := RX11) (T := TX11) (N := 64) hx hb hts inX11_room_X11 hown hK hP 0 rfl rfl 49 (by decide) (hts (Cond.fieldLink RX11 102 "PortRoomsModel" "air" "[I") (wm_t (wm_l (wm_i 4 rfl)))) (fun _ h9 => h9) rfl dX11_room_69 ?_
            refine lv_iload_n hx hb dX11_room_72 rfl (lv_at hl 2 rfl) ?_
            refine lv_iload_n hx hb dX11_room_73 rfl (lv_at hl 3 rfl) ?_
            refine lv_if_ne (tgt := 81) hx hb dX11_room_74 (by decide) (fun c77 => ?_) (fun c77 => ?_)
            · skip
              have f78 := i_ne c77
              refine lv_aload_n hx hb dX11_room_81 rfl (lv_at hl 1 rfl) ?_
              refine va_get (D := D) (ci := 11) (v := .ref (md 49)) (C := RX11) (T := TX11) (N := 64) hx hb hts inX11_room_X11 hown hK hP 0 rfl rfl 49 (by decide) (hts (Cond.fieldLink RX11 102 "PortRoomsModel" "air" "[I") (wm_t (wm_l (wm_i 4 rfl)))) (fun _ h9 => h9) rfl dX11_room_82 ?_
              refine lv_iload_n hx hb dX11_room_85 rfl (lv_at hl 2 rfl) ?_
              refine va_iald hx hb hK hP 1 0 rfl rfl (i_in (by omega) (by omega)) dX11_room_86 ?_
              refine lv_topi (fun v79 ev79 => ?_)
              refine va_iast hx hb hK hP hD hS 1 0 rfl rfl (i_in (by omega) (by omega)) dX11_room_87 (fun H locs => ?_)
              clear hP hD hS
              intro hP hD hS
              replace hP : va_P D vwCl [(moC md sd (0) mst hn cn pn mq gn mln mnn ln mlt msz mcu mtk mfr mti mfa mfb an un lc td mtn), (aI cI (md 49) 6 (upd aw q.toNatClampNeg v79)), (aI cI (md 50) 6 iw)] H := hP
              replace hD : va_D A [(moC md sd (0) mst hn cn pn mq gn mln mnn ln mlt msz mcu mtk mfr mti mfa mfb an un lc td mtn), (aI cI (md 49) 6 (upd aw q.toNatClampNeg v79)), (aI cI (md 50) 6 iw)] := hD
              refine lv_aload_n hx hb dX11_room_88 rfl (lv_at hl 1 rfl) ?_
              refine va_get (D := D) (ci := 11) (v := .ref (md 50)) (C := RX11) (T := TX11) (N := 64) hx hb hts inX11_room_X11 hown hK hP 0 rfl rfl 50 (by decide) (hts (Cond.fieldLink RX11 105 "PortRoomsModel" "insured" "[I") (wm_t (wm_l (wm_i 5 rfl)))) (fun _ h9 => h9) rfl dX11_room_89 ?_
              refine lv_iload_n hx hb dX11_room_92 rfl (lv_at hl 2 rfl) ?_
              refine lv_iload_n hx hb dX11_room_93 rfl (lv_at hl 3 rfl) ?_
              refine lv_iconst (v := 1) hx hb dX11_room_94 (by decide) ?_
              refine lv_icmp_ne (tgt := 102) hx hb dX11_room_95 (by decide) (fun c80 => ?_) (fun c80 => ?_)
              · skip
                have f81 := i_ne c80
                refine lv_aload_n hx hb dX11_room_102 rfl (lv_at hl 1 rfl) ?_
                refine va_get (D := D) (ci := 11) (v := .ref (md 50)) (C := RX11) (T := TX11) (N := 64) hx hb hts inX11_room_X11 hown hK hP 0 rfl rfl 50 (by decide) (hts (Cond.fieldLink RX11 105 "PortRoomsModel" "insured" "[I") (wm_t (wm_l (wm_i 5 rfl)))) (fun _ h9 => h9) rfl dX11_room_103 ?_
                refine lv_iload_n hx hb dX11_room_106 rfl (lv_at hl 2 rfl) ?_
                refine va_iald hx hb hK hP 2 0 rfl rfl (i_in (by omega) (by omega)) dX11_room_107 ?_
                refine lv_topi (fun v82 ev82 => ?_)
                refine va_iast hx hb hK hP hD hS 2 0 rfl rfl (i_in (by omega) (by omega)) dX11_room_108 (fun H locs => ?_)
                clear hP hD hS
                intro hP hD hS
                replace hP : va_P D vwCl [(moC md sd (0) mst hn cn pn mq gn mln mnn ln mlt msz mcu mtk mfr mti mfa mfb an un lc td mtn), (aI cI (md 49) 6 (upd aw q.toNatClampNeg v79)), (aI cI (md 50) 6 (upd iw q.toNatClampNeg v82))] H := hP
                replace hD : va_D A [(moC md sd (0) mst hn cn pn mq gn mln mnn ln mlt msz mcu mtk mfr mti mfa mfb an un lc td mtn), (aI cI (md 49) 6 (upd aw q.toNatClampNeg v79)), (aI cI (md 50) 6 (upd iw q.toNatClampNeg v82))] := hD
                refine lv_iload hx hb dX11_room_109 (lv_at hl 0 rfl) ?_
                have hP9 := hP
                have hD9 := hD
                exact W.iret (v := v76) hx hb hr (fun t ht hW => ⟨⟨v76, (upd aw q.toNatClampNeg v79, upd iw q.toNatClampNeg v82), rfl, (by unfold sp_room; (repeat' split) <;> first | rfl | (exfalso; omega) | (rw [upd_same (f := iw) (by assumption)]; subst_vars; rfl) | (rw [upd_same (f := aw) (by assumption)]; subst_vars; rfl)), by rw [ht]; exact hP9, va_K.moved hW.alike hK, hD9⟩, hS.F ht⟩) hS.2.2 dX11_room_111
              · skip
                have f83 := i_eq c80
                refine lv_iload_n hx hb dX11_room_98 rfl (lv_at hl 4 rfl) ?_
                refine lv_goto (tgt := 108) hx hb dX11_room_99 (by decide) ?_
                refine va_iast hx hb hK hP hD hS 2 0 rfl rfl (i_in (by omega) (by omega)) dX11_room_108 (fun H locs => ?_)
                clear hP hD hS
                intro hP hD hS
                replace hP : va_P D vwCl [(moC md sd (0) mst hn cn pn mq gn mln mnn ln mlt msz mcu mtk mfr mti mfa mfb an un lc td mtn), (aI cI (md 49) 6 (upd aw q.toNatClampNeg v79)), (aI cI (md 50) 6 (upd iw q.toNatClampNeg v))] H := hP
                replace hD : va_D A [(moC md sd (0) mst hn cn pn mq gn mln mnn ln mlt msz mcu mtk mfr mti mfa mfb an un lc td mtn), (aI cI (md 49) 6 (upd aw q.toNatClampNeg v79)), (aI cI (md 50) 6 (upd iw q.toNatClampNeg v))] := hD
                refine lv_iload hx hb dX11_room_109 (lv_at hl 0 rfl) ?_
                have hP9 := hP
                have hD9 := hD
                exact W.iret (v := v76) hx hb hr (fun t ht hW => ⟨⟨v76, (upd aw q.toNatClampNeg v79, upd iw q.toNatClampNeg v), rfl, (by unfold sp_room; (repeat' split) <;> first | rfl | (exfalso; omega) | (rw [upd_same (f := iw) (by assumption)]; subst_vars; rfl) | (rw [upd_same (f := aw) (by assumption)]; subst_vars; rfl)), by rw [ht]; exact hP9, va_K.moved hW.alike hK, hD9⟩, hS.F ht⟩) hS.2.2 dX11_room_111
            · skip
              have f84 := i_eq c77
              refine lv_iload_n hx hb dX11_room_77 rfl (lv_at hl 4 rfl) ?_
              refine lv_goto (tgt := 87) hx hb dX11_room_78 (by decide) ?_
              refine va_iast hx hb hK hP hD hS 1 0 rfl rfl (i_in (by omega) (by omega)) dX11_room_87 (fun H locs => ?_)
              clear hP hD hS
              intro hP hD hS
              replace hP : va_P D vwCl [(moC md sd (0) mst hn cn pn mq gn mln mnn ln mlt msz mcu mtk mfr mti mfa mfb an un lc td mtn), (aI cI (md 49) 6 (upd aw q.toNatClampNeg v)), (aI cI (md 50) 6 iw)] H := hP
              replace hD : va_D A [(moC md sd (0) mst hn cn pn mq gn mln mnn ln mlt msz mcu mtk mfr mti mfa mfb an un lc td mtn), (aI cI (md 49) 6 (upd aw q.toNatClampNeg v)), (aI cI (md 50) 6 iw)] := hD
              refine lv_aload_n hx hb dX11_room_88 rfl (lv_at hl 1 rfl) ?_
              refine va_get (D := D) (ci := 11) (v := .ref (md 50)) (C := RX11) (T := TX11) (N := 64) hx hb hts inX11_room_X11 hown hK hP 0 rfl rfl 50 (by decide) (hts (Cond.fieldLink RX11 105 "PortRoomsModel" "insured" "[I") (wm_t (wm_l (wm_i 5 rfl)))) (fun _ h9 => h9) rfl dX11_room_89 ?_
              refine lv_iload_n hx hb dX11_room_92 rfl (lv_at hl 2 rfl) ?_
              refine lv_iload_n hx hb dX11_room_93 rfl (lv_at hl 3 rfl) ?_
              refine lv_iconst (v := 1) hx hb dX11_room_94 (by decide) ?_
              refine lv_icmp_ne (tgt := 102) hx hb dX11_room_95 (by decide) (fun c85 => ?_) (fun c85 => ?_)
              · skip
                have f86 := i_ne c85
                refine lv_aload_n hx hb dX11_room_102 rfl (lv_at hl 1 rfl) ?_
                refine va_get (D := D) (ci := 11) (v := .ref (md 50)) (C := RX11) (T := TX11) (N := 64) hx hb hts inX11_room_X11 hown hK hP 0 rfl rfl 50 (by decide) (hts (Cond.fieldLink RX11 105 "PortRoomsModel" "insured" "[I") (wm_t (wm_l (wm_i 5 rfl)))) (fun _ h9 => h9) rfl dX11_room_103 ?_
                refine lv_iload_n hx hb dX11_room_106 rfl (lv_at hl 2 rfl) ?_
                refine va_iald hx hb hK hP 2 0 rfl rfl (i_in (by omega) (by omega)) dX11_room_107 ?_
                refine lv_topi (fun v87 ev87 => ?_)
                refine va_iast hx hb hK hP hD hS 2 0 rfl rfl (i_in (by omega) (by omega)) dX11_room_108 (fun H locs => ?_)
                clear hP hD hS
                intro hP hD hS
                replace hP : va_P D vwCl [(moC md sd (0) mst hn cn pn mq gn mln mnn ln mlt msz mcu mtk mfr mti mfa mfb an un lc td mtn), (aI cI (md 49) 6 (upd aw q.toNatClampNeg v)), (aI cI (md 50) 6 (upd iw q.toNatClampNeg v87))] H := hP
                replace hD : va_D A [(moC md sd (0) mst hn cn pn mq gn mln mnn ln mlt msz mcu mtk mfr mti mfa mfb an un lc td mtn), (aI cI (md 49) 6 (upd aw q.toNatClampNeg v)), (aI cI (md 50) 6 (upd iw q.toNatClampNeg v87))] := hD
                refine lv_iload hx hb dX11_room_109 (lv_at hl 0 rfl) ?_
                have hP9 := hP
                have hD9 := hD
                exact W.iret (v := v76) hx hb hr (fun t ht hW => ⟨⟨v76, (upd aw q.toNatClampNeg v, upd iw q.toNatClampNeg v87), rfl, (by unfold sp_room; (repeat' split) <;> first | rfl | (exfalso; omega) | (rw [upd_same (f := iw) (by assumption)]; subst_vars; rfl) | (rw [upd_same (f := aw) (by assumption)]; subst_vars; rfl)), by rw [ht]; exact hP9, va_K.moved hW.alike hK, hD9⟩, hS.F ht⟩) hS.2.2 dX11_room_111
              · skip
                have f88 := i_eq c85
                refine lv_iload_n hx hb dX11_room_98 rfl (lv_at hl 4 rfl) ?_
                refine lv_goto (tgt := 108) hx hb dX11_room_99 (by decide) ?_
                refine va_iast hx hb hK hP hD hS 2 0 rfl rfl (i_in (by omega) (by omega)) dX11_room_108 (fun H locs => ?_)
                clear hP hD hS
                intro hP hD hS
                replace hP : va_P D vwCl [(moC md sd (0) mst hn cn pn mq gn mln mnn ln mlt msz mcu mtk mfr mti mfa mfb an un lc td mtn), (aI cI (md 49) 6 (upd aw q.toNatClampNeg v)), (aI cI (md 50) 6 (upd iw q.toNatClampNeg v))] H := hP
                replace hD : va_D A [(moC md sd (0) mst hn cn pn mq gn mln mnn ln mlt msz mcu mtk mfr mti mfa mfb an un lc td mtn), (aI cI (md 49) 6 (upd aw q.toNatClampNeg v)), (aI cI (md 50) 6 (upd iw q.toNatClampNeg v))] := hD
                refine lv_iload hx hb dX11_room_109 (lv_at hl 0 rfl) ?_
                have hP9 := hP
                have hD9 := hD
                exact W.iret (v := v76) hx hb hr (fun t ht hW => ⟨⟨v76, (upd aw q.toNatClampNeg v, upd iw q.toNatClampNeg v), rfl, (by unfold sp_room; (repeat' split) <;> first | rfl | (exfalso; omega) | (rw [upd_same (f := iw) (by assumption)]; subst_vars; rfl) | (rw [upd_same (f := aw) (by assumption)]; subst_vars; rfl)), by rw [ht]; exact hP9, va_K.moved hW.alike hK, hD9⟩, hS.F ht⟩) hS.2.2 dX11_room_111
        · skip
          have f89 := bo_f hw56 c58
          refine lv_ldc hx hb hown (hts (Cond.constant RX11 157 (-1000001)) (wm_t (wm_l (wm_i 3 rfl)))) dX11_room_44 ?_
          have hP9 := hP
          have hD9 := hD
          exact W.iret (v := (-1000001)) hx hb hr (fun t ht hW => ⟨⟨(-1000001), (aw, iw), rfl, (by unfold sp_room; (repeat' split) <;> first | rfl | (exfalso; omega) | (rw [upd_same (f := iw) (by assumption)]; subst_vars; rfl) | (rw [upd_same (f := aw) (by assumption)]; subst_vars; rfl)), by rw [ht]; exact hP9, va_K.moved hW.alike hK, hD9⟩, hS.F ht⟩) hS.2.2 dX11_room_46


/-- what stands in a room, as the reference adds it up -/
def insV (ro wo : Nat → Int32) (r w : Int32) : Nat → Int32
  | 0 => 0
  | n + 1 => insV ro wo r w n + (if ¬ (ro n).toInt = r.toInt then 0 else if w.toInt = 0 then 1 else if w.toInt = 1 then wo n else (1 : Int32) <<< (nI n &&& 31))
theorem insV_s (ro wo : Nat → Int32) (r w : Int32) (n : Nat) : insV ro wo r w (n + 1) = insV ro wo r w n + (if ¬ (ro n).toInt = r.toInt then 0 else if w.toInt = 0 then 1 else if w.toInt = 1 then wo n else (1 : Int32) <<< (nI n &&& 31)) := rfl
def sm_move (cn : Int32) (wo ro aw iw : Nat → Int32) (k q : Int32) : Int32 × (Nat → Int32) := if 0 ≤ k.toInt ∧ k.toInt < cn.toInt ∧ (q.toInt = -1000000 ∨ (0 ≤ q.toInt ∧ q.toInt < 6)) then (if (ro k.toNatClampNeg).toInt = q.toInt then (-1000002, ro) else if q.toInt = -1000000 ∨ ((insV ro wo q 0 cn.toNatClampNeg).toInt < (aw q.toNatClampNeg).toInt ∧ (insV ro wo q 1 cn.toNatClampNeg + wo k.toNatClampNeg).toInt ≤ (iw q.toNatClampNeg).toInt) then (ro k.toNatClampNeg, upd ro k.toNatClampNeg q) else (-1000003, ro)) else (-1000001, ro)
def sm_inside (cn : Int32) (wo ro : Nat → Int32) (q w : Int32) : Int32 := if 0 ≤ q.toInt ∧ q.toInt < 6 ∧ 0 ≤ w.toInt ∧ w.toInt < 3 then insV ro wo q w cn.toNatClampNeg else -1000001

set_option maxHeartbeats 4000000 in
set_option maxRecDepth 100000 in
theorem ct_X11_insideOf (l : Launch) (D : va_G) (cI cY cJ cQ : ClassId) (sz : Nat) (md : Nat → Nat) (sd : Int32) (mth mst hn cn pn mq gn mln mnn ln mlt msz mcu mtk mfr mti mfa mfb an un lc td mtn : Int32) (wo ro : Nat → Int32) (q : Int32) (w : Int32)  (h1 : 0 ≤ cn.toInt) (h2 : cn.toInt ≤ 12)  : Met l yX11_insideOf wsX11_insideOf ({ frames := 0, cells := 0, slots := 0, locals := 0 }) (cPre D (ty4 cI cY cJ cQ) [(moC md sd mth mst hn cn pn mq gn mln mnn ln mlt msz mcu mtk mfr mti mfa mfb an un lc td mtn), (aI cI (md 17) 12 wo), (aI cI (md 51) 12 ro)] sz [.ref (md 64), .int q, .int w]) (va_Qi (fun (r : Int32) (u : Unit) => r = insV ro wo q w cn.toNatClampNeg) (cB D (ty4 cI cY cJ cQ) (fun (u : Unit) => [(moC md sd mth mst hn cn pn mq gn mln mnn ln mlt msz mcu mtk mfr mti mfa mfb an un lc td mtn), (aI cI (md 17) 12 wo), (aI cI (md 51) 12 ro)]) (va_A [(moC md sd mth mst hn cn pn mq gn mln mnn ln mlt msz mcu mtk mfr mti mfa mfb an un lc td mtn), (aI cI (md 17) 12 wo), (aI cI (md 51) 12 ro)] sz)) (va_A [(moC md sd mth mst hn cn pn mq gn mln mnn ln mlt msz mcu mtk mfr mti mfa mfb an un lc td mtn), (aI cI (md 17) 12 wo), (aI cI (md 51) 12 ro)] sz)) 0 0 (va_A [(moC md sd mth mst hn cn pn mq gn mln mnn ln mlt msz mcu mtk mfr mti mfa mfb an un lc td mtn), (aI cI (md 17) 12 wo), (aI cI (md 51) 12 ro)] sz) := by
  refine Met.ofW (cc := cX11_insideOf) (maxL := 5) (ret := (some .int)) (by decide) rfl ?_
  intro p e s m args below meth c s₁ B hml hv
  obtain ⟨rfl, hsz, hP, hK, hD0, hN⟩ := hv
  have hx := B.exec
  have hb := B.bytes
  have hr := B.returns
  have hts := atoms_spec (ws := wsX11_insideOf) B.pre
  have hown : s.vm.findClass RX11 = some m.cls := findClass_of_methodNamed B.named
  have hlocks := B.notSynchronized
  subst hsz
  have hD := hD0.self (sz := s.heap.size)
  generalize hAe : va_A [(moC md sd mth mst hn cn pn mq gn mln mnn ln mlt msz mcu mtk mfr mti mfa mfb an un lc td mtn), (aI cI (md 17) 12 wo), (aI cI (md 51) 12 ro)] s.heap.size = A at hD ⊢
  have hA : ∀ q : Nat, s.heap.size ≤ q → A q := fun q h => by rw [← hAe]; exact Or.inr h
  have hS : va_S A s.heap s.heap [] := va_S.rf
  have hP : va_P D vwCl [(moC md sd mth mst hn cn pn mq gn mln mnn ln mlt msz mcu mtk mfr mti mfa mfb an un lc td mtn), (aI cI (md 17) 12 wo), (aI cI (md 51) 12 ro)] s.heap := hP
  have hl := lv_entry ([.ref (md 64), .int q, .int w]) (n := 5) (Nat.le_of_ble_eq_true rfl)
  rw [lg_entry_eq]
  generalize (lg_sl ([.ref (md 64), .int q, .int w]) ++ List.replicate (5 - (lg_sl ([.ref (md 64), .int q, .int w])).length) Slot.unset).toArray = ls at hl ⊢
  have hl : lv_has ls 5 [(0, .ref (md 64)), (1, .int q), (2, .int w)] := hl
  have k0 : (0 : Int32).toInt = 0 := by decide
  have k1 : (1 : Int32).toInt = 1 := by decide
  refine lv_iconst (v := 0) hx hb dX11_insideOf_0 (by decide) ?_
  refine lv_istore_n (lv' := [(3, .int 0), (0, .ref (md 64)), (1, .int q), (2, .int w)]) hx hb dX11_insideOf_1 rfl hl (by decide) rfl (fun ls hl => ?_)
  refine lv_iconst (v := 0) hx hb dX11_insideOf_2 (by decide) ?_
  refine lv_istore (lv' := [(4, .int 0), (3, .int 0), (0, .ref (md 64)), (1, .int q), (2, .int w)]) hx hb dX11_insideOf_3 hl (by decide) rfl (fun ls hl => ?_)
  refine st_loop 5 (fun _ => []) (fun (z : Int32 × Int32) (ls : Array Slot) (H : Heap) (locs : List Loc) => match z with | (q5_3, q5_4) => (0 ≤ q5_4.toInt) ∧ (q5_4.toInt ≤ cn.toInt) ∧ (q5_3 = insV ro wo q w q5_4.toNatClampNeg) ∧ lv_has ls 5 [(0, .ref (md 64)), (1, .int q), (2, .int w), (3, .int q5_3), (4, .int q5_4)] ∧ va_P D vwCl [(moC md sd mth mst hn cn pn mq gn mln mnn ln mlt msz mcu mtk mfr mti mfa mfb an un lc td mtn), (aI cI (md 17) 12 wo), (aI cI (md 51) 12 ro)] H ∧ va_D A [(moC md sd mth mst hn cn pn mq gn mln mnn ln mlt msz mcu mtk mfr mti mfa mfb an un lc td mtn), (aI cI (md 17) 12 wo), (aI cI (md 51) 12 ro)] ∧ va_S A s.heap H locs) (fun (z : Int32 × Int32) => match z with | (q5_3, q5_4) => cn.toInt - q5_4.toInt) ?_ ?_ ((0 : Int32), (0 : Int32)) ⟨(by omega), (by omega), (by rfl), lv_sub hl [2, 3, 4, 1, 0] rfl, hP, hD, hS⟩
  · rintro ⟨q5_3, q5_4⟩ ls H locs ⟨g1, g2, g3, hl, hP, hD, hS⟩
    show (0 : Int) ≤ cn.toInt - q5_4.toInt
    omega
  · rintro n6 ih4 ⟨q5_3, q5_4⟩ ls H locs ⟨g1, g2, g3, hl, hP, hD, hS⟩ hm5
    have hm5 : cn.toInt - q5_4.toInt < (n6 : Int) + 1 := hm5
    replace hl : lv_has ls 5 [(0, .ref (md 64)), (1, .int q), (2, .int w), (3, .int q5_3), (4, .int q5_4)] := hl
    replace hP : va_P D vwCl [(moC md sd mth mst hn cn pn mq gn mln mnn ln mlt msz mcu mtk mfr mti mfa mfb an un lc td mtn), (aI cI (md 17) 12 wo), (aI cI (md 51) 12 ro)] H := hP
    replace hD : va_D A [(moC md sd mth mst hn cn pn mq gn mln mnn ln mlt msz mcu mtk mfr mti mfa mfb an un lc td mtn), (aI cI (md 17) 12 wo), (aI cI (md 51) 12 ro)] := hD
    show W _ _ _ _ _ _ _ _ _ _ _ _ _ _ _ (F0 m 5 ls [])
    refine lv_iload hx hb dX11_insideOf_5 (lv_at hl 4 rfl) ?_
    refine lv_aload_n hx hb dX11_insideOf_7 rfl (lv_at hl 0 rfl) ?_
    refine va_get (D := D) (ci := 11) (v := .int cn) (C := RX11) (T := TX11) (N := 64) hx hb hts inX11_insideOf_X11 hown hK hP 0 rfl rfl 15 (by decide) (hts (Cond.fieldLink RX11 214 "PortRoomsModel" "crates" "I") (wm_t (wm_l (wm_i 0 rfl)))) (fun _ h9 => h9) rfl dX11_insideOf_8 ?_
    refine lv_icmp_ge (tgt := 65) hx hb dX11_insideOf_11 (by decide) (fun c7 => ?_) (fun c7 => ?_)
    · skip
      have f8 := i_le c7
      refine lv_iload_n hx hb dX11_insideOf_65 rfl (lv_at hl 3 rfl) ?_
      have ce8 := i_cl (x := q5_4) (by omega)
      have ce9 := i_cl (x := cn) (by omega)
      have ee9 : q5_4.toNatClampNeg = cn.toNatClampNeg := by omega
      have hz9 := g3
      rw [ee9] at hz9
      have hP9 := hP
      have hD9 := hD
      exact W.iret (v := q5_3) hx hb hr (fun t ht hW => ⟨⟨q5_3, (), rfl, hz9, by rw [ht]; exact hP9, va_K.moved hW.alike hK, hD9⟩, hS.F ht⟩) hS.2.2 dX11_insideOf_66
    · skip
      have f9 := i_nle c7
      refine lv_iload_n hx hb dX11_insideOf_14 rfl (lv_at hl 3 rfl) ?_
      refine lv_aload_n hx hb dX11_insideOf_15 rfl (lv_at hl 0 rfl) ?_
      refine va_get (D := D) (ci := 11) (v := .ref (md 51)) (C := RX11) (T := TX11) (N := 64) hx hb hts inX11_insideOf_X11 hown hK hP 0 rfl rfl 51 (by decide) (hts (Cond.fieldLink RX11 108 "PortRoomsModel" "where" "[I") (wm_t (wm_l (wm_i 1 rfl)))) (fun _ h9 => h9) rfl dX11_insideOf_16 ?_
      refine lv_iload hx hb dX11_insideOf_19 (lv_at hl 4 rfl) ?_
      refine va_iald hx hb hK hP 2 0 rfl rfl (i_in (by omega) (by omega)) dX11_insideOf_21 ?_
      refine lv_topi (fun v10 ev10 => ?_)
      have tlv10 : v10.toInt = (ro q5_4.toNatClampNeg).toInt := by rw [ev10]
      refine lv_iload_n hx hb dX11_insideOf_22 rfl (lv_at hl 1 rfl) ?_
      refine lv_icmp_eq (tgt := 30) hx hb dX11_insideOf_23 (by decide) (fun c11 => ?_) (fun c11 => ?_)
      · skip
        have f12 := i_eq c11
        refine lv_iload_n hx hb dX11_insideOf_30 rfl (lv_at hl 2 rfl) ?_
        refine lv_if_ne (tgt := 38) hx hb dX11_insideOf_31 (by decide) (fun c13 => ?_) (fun c13 => ?_)
        · skip
          have f14 := i_ne c13
          refine lv_iload_n hx hb dX11_insideOf_38 rfl (lv_at hl 2 rfl) ?_
          refine lv_iconst (v := 1) hx hb dX11_insideOf_39 (by decide) ?_
          refine lv_icmp_ne (tgt := 53) hx hb dX11_insideOf_40 (by decide) (fun c15 => ?_) (fun c15 => ?_)
          · skip
            have f16 := i_ne c15
            refine lv_iconst (v := 1) hx hb dX11_insideOf_53 (by decide) ?_
            refine lv_iload hx hb dX11_insideOf_54 (lv_at hl 4 rfl) ?_
            refine lv_ishl hx hb dX11_insideOf_56 ?_
            refine lv_topi (fun v17 ev17 => ?_)
            refine lv_iadd hx hb dX11_insideOf_57 ?_
            refine lv_topi (fun v18 ev18 => ?_)
            refine lv_istore_n (lv' := [(3, .int v18), (0, .ref (md 64)), (1, .int q), (2, .int w), (4, .int q5_4)]) hx hb dX11_insideOf_58 rfl hl (by decide) rfl (fun ls hl => ?_)
            obtain ⟨v19, ev19⟩ : ∃ y : Int32, y = q5_4 + 1 := ⟨_, rfl⟩
            try have tv19 : v19.toInt = q5_4.toInt + 1 := by rw [ev19]; exact (i_add (x := q5_4) (y := (1 : Int32)) (by rw [k1]; omega) (by rw [k1]; omega)).trans (by rw [k1])
            refine lv_iinc (v := v19) (lv' := [(4, .int v19), (3, .int v18), (0, .ref (md 64)), (1, .int q), (2, .int w)]) hx hb dX11_insideOf_59 hl (k := 4) rfl (by rw [ev19]; rfl) (by decide) rfl (fun ls hl => ?_)
            refine lv_goto (tgt := 5) hx hb dX11_insideOf_62 (by decide) ?_
            have clk8 := i_cl (x := q5_4) (by omega)
            have clk9 := i_cl (x := v19) (by omega)
            have ek9 : v19.toNatClampNeg = q5_4.toNatClampNeg + 1 := by omega
            have nk9 : nI q5_4.toNatClampNeg = q5_4 := i_nI (by omega)
            exact ih4 (v18, v19) ls H locs ⟨(by omega), (by omega), (by rw [ek9, insV_s, nk9, ← g3]; (repeat' split) <;> first | (exfalso; omega) | (exfalso; contradiction) | rfl | (subst_vars; rfl)), lv_sub hl [2, 3, 4, 1, 0] rfl, hP.sub [0, 1, 2] rfl, hD.sub [0, 1, 2] (by decide +kernel) rfl, hS⟩ (by show cn.toInt - v19.toInt < _; omega)
          · skip
            have f20 := i_eq c15
            refine lv_aload_n hx hb dX11_insideOf_43 rfl (lv_at hl 0 rfl) ?_
            refine va_get (D := D) (ci := 11) (v := .ref (md 17)) (C := RX11) (T := TX11) (N := 64) hx hb hts inX11_insideOf_X11 hown hK hP 0 rfl rfl 17 (by decide) (hts (Cond.fieldLink RX11 51 "PortRoomsModel" "worth" "[I") (wm_t (wm_l (wm_i 2 rfl)))) (fun _ h9 => h9) rfl dX11_insideOf_44 ?_
            refine lv_iload hx hb dX11_insideOf_47 (lv_at hl 4 rfl) ?_
            refine va_iald hx hb hK hP 1 0 rfl rfl (i_in (by omega) (by omega)) dX11_insideOf_49 ?_
            refine lv_topi (fun v21 ev21 => ?_)
            have tlv21 : v21.toInt = (wo q5_4.toNatClampNeg).toInt := by rw [ev21]
            refine lv_goto (tgt := 57) hx hb dX11_insideOf_50 (by decide) ?_
            refine lv_iadd hx hb dX11_insideOf_57 ?_
            refine lv_topi (fun v22 ev22 => ?_)
            refine lv_istore_n (lv' := [(3, .int v22), (0, .ref (md 64)), (1, .int q), (2, .int w), (4, .int q5_4)]) hx hb dX11_insideOf_58 rfl hl (by decide) rfl (fun ls hl => ?_)
            obtain ⟨v23, ev23⟩ : ∃ y : Int32, y = q5_4 + 1 := ⟨_, rfl⟩
            try have tv23 : v23.toInt = q5_4.toInt + 1 := by rw [ev23]; exact (i_add (x := q5_4) (y := (1 : Int32)) (by rw [k1]; omega) (by rw [k1]; omega)).trans (by rw [k1])
            refine lv_iinc (v := v23) (lv' := [(4, .int v23), (3, .int v22), (0, .ref (md 64)), (1, .int q), (2, .int w)]) hx hb dX11_insideOf_59 hl (k := 4) rfl (by rw [ev23]; rfl) (by decide) rfl (fun ls hl => ?_)
            refine lv_goto (tgt := 5) hx hb dX11_insideOf_62 (by decide) ?_
            have clk8 := i_cl (x := q5_4) (by omega)
            have clk9 := i_cl (x := v23) (by omega)
            have ek9 : v23.toNatClampNeg = q5_4.toNatClampNeg + 1 := by omega
            have nk9 : nI q5_4.toNatClampNeg = q5_4 := i_nI (by omega)
            exact ih4 (v22, v23) ls H locs ⟨(by omega), (by omega), (by rw [ek9, insV_s, nk9, ← g3]; (repeat' split) <;> first | (exfalso; omega) | (exfalso; contradiction) | rfl | (subst_vars; rfl)), lv_sub hl [2, 3, 4, 1, 0] rfl, hP.sub [0, 1, 2] rfl, hD.sub [0, 1, 2] (by decide +kernel) rfl, hS⟩ (by show cn.toInt - v23.toInt < _; omega)
        · skip
          have f24 := i_eq c13
          refine lv_iconst (v := 1) hx hb dX11_insideOf_34 (by decide) ?_
          refine lv_goto (tgt := 57) hx hb dX11_insideOf_35 (by decide) ?_
          refine lv_iadd hx hb dX11_insideOf_57 ?_
          refine lv_topi (fun v25 ev25 => ?_)
          refine lv_istore_n (lv' := [(3, .int v25), (0, .ref (md 64)), (1, .int q), (2, .int w), (4, .int q5_4)]) hx hb dX11_insideOf_58 rfl hl (by decide) rfl (fun ls hl => ?_)
          obtain ⟨v26, ev26⟩ : ∃ y : Int32, y = q5_4 + 1 := ⟨_, rfl⟩
          try have tv26 : v26.toInt = q5_4.toInt + 1 := by rw [ev26]; exact (i_add (x := q5_4) (y := (1 : Int32)) (by rw [k1]; omega) (by rw [k1]; omega)).trans (by rw [k1])
          refine lv_iinc (v := v26) (lv' := [(4, .int v26), (3, .int v25), (0, .ref (md 64)), (1, .int q), (2, .int w)]) hx hb dX11_insideOf_59 hl (k := 4) rfl (by rw [ev26]; rfl) (by decide) rfl (fun ls hl => ?_)
          refine lv_goto (tgt := 5) hx hb dX11_insideOf_62 (by decide) ?_
          have clk8 := i_cl (x := q5_4) (by omega)
          have clk9 := i_cl (x := v26) (by omega)
          have ek9 : v26.toNatClampNeg = q5_4.toNatClampNeg + 1 := by omega
          have nk9 : nI q5_4.toNatClampNeg = q5_4 := i_nI (by omega)
          exact ih4 (v25, v26) ls H locs ⟨(by omega), (by omega), (by rw [ek9, insV_s, nk9, ← g3]; (repeat' split) <;> first | (exfalso; omega) | (exfalso; contradiction) | rfl | (subst_vars; rfl)), lv_sub hl [2, 3, 4, 1, 0] rfl, hP.sub [0, 1, 2] rfl, hD.sub [0, 1, 2] (by decide +kernel) rfl, hS⟩ (by show cn.toInt - v26.toInt < _; omega)
      · skip
        have f27 := i_ne c11
        refine lv_iconst (v := 0) hx hb dX11_insideOf_26 (by decide) ?_
        refine lv_goto (tgt := 57) hx hb dX11_insideOf_27 (by decide) ?_
        refine lv_iadd hx hb dX11_insideOf_57 ?_
        refine lv_topi (fun v28 ev28 => ?_)
        refine lv_istore_n (lv' := [(3, .int v28), (0, .ref (md 64)), (1, .int q), (2, .int w), (4, .int q5_4)]) hx hb dX11_insideOf_58 rfl hl (by decide) rfl (fun ls hl => ?_)
        obtain ⟨v29, ev29⟩ : ∃ y : Int32, y = q5_4 + 1 := ⟨_, rfl⟩
        try have tv29 : v29.toInt = q5_4.toInt + 1 := by rw [ev29]; exact (i_add (x := q5_4) (y := (1 : Int32)) (by rw [k1]; omega) (by rw [k1]; omega)).trans (by rw [k1])
        refine lv_iinc (v := v29) (lv' := [(4, .int v29), (3, .int v28), (0, .ref (md 64)), (1, .int q), (2, .int w)]) hx hb dX11_insideOf_59 hl (k := 4) rfl (by rw [ev29]; rfl) (by decide) rfl (fun ls hl => ?_)
        refine lv_goto (tgt := 5) hx hb dX11_insideOf_62 (by decide) ?_
        have clk8 := i_cl (x := q5_4) (by omega)
        have clk9 := i_cl (x := v29) (by omega)
        have ek9 : v29.toNatClampNeg = q5_4.toNatClampNeg + 1 := by omega
        have nk9 : nI q5_4.toNatClampNeg = q5_4 := i_nI (by omega)
        exact ih4 (v28, v29) ls H locs ⟨(by omega), (by omega), (by rw [ek9, insV_s, nk9, ← g3]; (repeat' split) <;> first | (exfalso; omega) | (exfalso; contradiction) | rfl | (subst_vars; rfl)), lv_sub hl [2, 3, 4, 1, 0] rfl, hP.sub [0, 1, 2] rfl, hD.sub [0, 1, 2] (by decide +kernel) rfl, hS⟩ (by show cn.toInt - v29.toInt < _; omega)

set_option maxHeartbeats 4000000 in
set_option maxRecDepth 100000 in
theorem ct_X11_move (l : Launch) (D : va_G) (cI cY cJ cQ : ClassId) (sz : Nat) (md : Nat → Nat) (sd : Int32) (mth mst hn cn pn mq gn mln mnn ln mlt msz mcu mtk mfr mti mfa mfb an un lc td mtn : Int32) (wo ro aw iw : Nat → Int32) (k : Int32) (q : Int32)  (h1 : 0 ≤ cn.toInt) (h2 : cn.toInt ≤ 12)  : Met l yX11_move wsX11_move ({ frames := 2, cells := 0, slots := 0, locals := 46 }) (cPre D (ty4 cI cY cJ cQ) [(moC md sd mth mst hn cn pn mq gn mln mnn ln mlt msz mcu mtk mfr mti mfa mfb an un lc td mtn), (aI cI (md 17) 12 wo), (aI cI (md 51) 12 ro), (aI cI (md 49) 6 aw), (aI cI (md 50) 6 iw)] sz [.ref (md 64), .int k, .int q]) (va_Qi (fun (r : Int32) (u : (Nat → Int32)) => (r, u) = sm_move cn wo ro aw iw k q) (cB D (ty4 cI cY cJ cQ) (fun (u : (Nat → Int32)) => [(moC md sd 0 mst hn cn pn mq gn mln mnn ln mlt msz mcu mtk mfr mti mfa mfb an un lc td mtn), (aI cI (md 17) 12 wo), (aI cI (md 51) 12 u), (aI cI (md 49) 6 aw), (aI cI (md 50) 6 iw)]) (va_A [(moC md sd mth mst hn cn pn mq gn mln mnn ln mlt msz mcu mtk mfr mti mfa mfb an un lc td mtn), (aI cI (md 17) 12 wo), (aI cI (md 51) 12 ro), (aI cI (md 49) 6 aw), (aI cI (md 50) 6 iw)] sz)) (va_A [(moC md sd mth mst hn cn pn mq gn mln mnn ln mlt msz mcu mtk mfr mti mfa mfb an un lc td mtn), (aI cI (md 17) 12 wo), (aI cI (md 51) 12 ro), (aI cI (md 49) 6 aw), (aI cI (md 50) 6 iw)] sz)) 0 0 (va_A [(moC md sd mth mst hn cn pn mq gn mln mnn ln mlt msz mcu mtk mfr mti mfa mfb an un lc td mtn), (aI cI (md 17) 12 wo), (aI cI (md 51) 12 ro), (aI cI (md 49) 6 aw), (aI cI (md 50) 6 iw)] sz) := by
  refine Met.ofW (cc := cX11_move) (maxL := 4) (ret := (some .int)) (by decide) rfl ?_
  intro p e s m args below meth c s₁ B hml hv
  obtain ⟨rfl, hsz, hP, hK, hD0, hN⟩ := hv
  have hx := B.exec
  have hb := B.bytes
  have hr := B.returns
  have hts := atoms_spec (ws := wsX11_move) B.pre
  have hown : s.vm.findClass RX11 = some m.cls := findClass_of_methodNamed B.named
  have hlocks := B.notSynchronized
  subst hsz
  have hD := hD0.self (sz := s.heap.size)
  generalize hAe : va_A [(moC md sd mth mst hn cn pn mq gn mln mnn ln mlt msz mcu mtk mfr mti mfa mfb an un lc td mtn), (aI cI (md 17) 12 wo), (aI cI (md 51) 12 ro), (aI cI (md 49) 6 aw), (aI cI (md 50) 6 iw)] s.heap.size = A at hD ⊢
  have hA : ∀ q : Nat, s.heap.size ≤ q → A q := fun q h => by rw [← hAe]; exact Or.inr h
  have hS : va_S A s.heap s.heap [] := va_S.rf
  have hP : va_P D vwCl [(moC md sd mth mst hn cn pn mq gn mln mnn ln mlt msz mcu mtk mfr mti mfa mfb an un lc td mtn), (aI cI (md 17) 12 wo), (aI cI (md 51) 12 ro), (aI cI (md 49) 6 aw), (aI cI (md 50) 6 iw)] s.heap := hP
  have hl := lv_entry ([.ref (md 64), .int k, .int q]) (n := 4) (Nat.le_of_ble_eq_true rfl)
  rw [lg_entry_eq]
  generalize (lg_sl ([.ref (md 64), .int k, .int q]) ++ List.replicate (4 - (lg_sl ([.ref (md 64), .int k, .int q])).length) Slot.unset).toArray = ls at hl ⊢
  have hl : lv_has ls 4 [(0, .ref (md 64)), (1, .int k), (2, .int q)] := hl
  have km1000003 : (-1000003 : Int32).toInt = -1000003 := by decide
  have km1000002 : (-1000002 : Int32).toInt = -1000002 := by decide
  have km1000001 : (-1000001 : Int32).toInt = -1000001 := by decide
  have km1000000 : (-1000000 : Int32).toInt = -1000000 := by decide
  have k0 : (0 : Int32).toInt = 0 := by decide
  have k1 : (1 : Int32).toInt = 1 := by decide
  refine lv_aload_n hx hb dX11_move_0 rfl (lv_at hl 0 rfl) ?_
  refine lv_iconst (v := 0) hx hb dX11_move_1 (by decide) ?_
  refine va_put (D := D) (ci := 11) (v := .int 0) (ty := .int) (C := RX11) (T := TX11) (N := 64) hx hb hts inX11_move_X11 tyX11 tyX11_ok nmX11 hown hK hP hD hS 0 rfl rfl 0 (by decide) (hts (Cond.fieldLink RX11 1 "PortRoomsModel" "thrown" "I") (wm_t (wm_l (wm_i 0 rfl)))) (fun _ h9 => h9) rfl (tyX11_ok 0 (by decide)) rfl rfl (Nat.le_of_ble_eq_true rfl) dX11_move_2 (fun H locs => ?_)
  clear hP hD hS
  intro hP hD hS
  replace hP : va_P D vwCl [(moC md sd (0) mst hn cn pn mq gn mln mnn ln mlt msz mcu mtk mfr mti mfa mfb an un lc td mtn), (aI cI (md 17) 12 wo), (aI cI (md 51) 12 ro), (aI cI (md 49) 6 aw), (aI cI (md 50) 6 iw)] H := hP
  replace hD : va_D A [(moC md sd (0) mst hn cn pn mq gn mln mnn ln mlt msz mcu mtk mfr mti mfa mfb an un lc td mtn), (aI cI (md 17) 12 wo), (aI cI (md 51) 12 ro), (aI cI (md 49) 6 aw), (aI cI (md 50) 6 iw)] := hD
  refine lv_aload_n hx hb dX11_move_5 rfl (lv_at hl 0 rfl) ?_
  refine lv_iload_n hx hb dX11_move_6 rfl (lv_at hl 1 rfl) ?_
  refine st_i1 (va_runV (C := RX11) (As := [.int k]) (rest := []) ⟨hx, hb, hml, hown, hts⟩ (ct_X11_isCrate l D cI cY cJ cQ _ md sd 0 mst hn cn pn mq gn mln mnn ln mlt msz mcu mtk mfr mti mfa mfb an un lc td mtn k h1 h2) (cwV 1 hts gX11_move_X11_isCrate rfl rfl rfl ⟨rfl, cdX11_isCrate⟩ ⟨Nat.le_of_ble_eq_true rfl, Nat.le_of_ble_eq_true rfl⟩) (cPreV (hP.sub [0] rfl) hK (hD.sub [0] (by decide +kernel) rfl) hN (ci := 11) (q0 := 0) rfl rfl) rfl rfl hl.1 rfl (lv_room (Nat.le_of_ble_eq_true rfl)) dX11_move_7 ⟨Nat.le_of_ble_eq_true rfl, Nat.le_of_ble_eq_true rfl⟩) hP hD hS hA [0] rfl (fun _ => rfl) (fun r3 u1 H locs hw2 => ?_)
  clear hP hS
  intro hP hS
  replace hw2 : r3 = if 0 ≤ k.toInt ∧ k.toInt < cn.toInt then 1 else 0 := hw2
  refine lv_if_eq (tgt := 26) hx hb dX11_move_10 (by decide) (fun c4 => ?_) (fun c4 => ?_)
  · skip
    have f5 := bo_f hw2 c4
    refine lv_ldc hx hb hown (hts (Cond.constant RX11 157 (-1000001)) (wm_t (wm_l (wm_i 2 rfl)))) dX11_move_26 ?_
    have hP9 := hP
    have hD9 := hD
    exact W.iret (v := (-1000001)) hx hb hr (fun t ht hW => ⟨⟨(-1000001), ro, rfl, (by subst_vars; unfold sm_move; (repeat' split) <;> first | rfl | (exfalso; omega)), by rw [ht]; exact hP9, va_K.moved hW.alike hK, hD9⟩, hS.F ht⟩) hS.2.2 dX11_move_28
  · skip
    have f6 := bo_t hw2 c4
    refine lv_iload_n hx hb dX11_move_13 rfl (lv_at hl 2 rfl) ?_
    refine lv_ldc hx hb hown (hts (Cond.constant RX11 139 (-1000000)) (wm_t (wm_l (wm_i 1 rfl)))) dX11_move_14 ?_
    refine lv_icmp_eq (tgt := 29) hx hb dX11_move_16 (by decide) (fun c7 => ?_) (fun c7 => ?_)
    · skip
      have f8 := i_eq c7
      refine lv_aload_n hx hb dX11_move_29 rfl (lv_at hl 0 rfl) ?_
      refine va_get (D := D) (ci := 11) (v := .ref (md 51)) (C := RX11) (T := TX11) (N := 64) hx hb hts inX11_move_X11 hown hK hP 0 rfl rfl 51 (by decide) (hts (Cond.fieldLink RX11 108 "PortRoomsModel" "where" "[I") (wm_t (wm_l (wm_i 3 rfl)))) (fun _ h9 => h9) rfl dX11_move_30 ?_
      refine lv_iload_n hx hb dX11_move_33 rfl (lv_at hl 1 rfl) ?_
      refine va_iald hx hb hK hP 2 0 rfl rfl (i_in (by omega) (by omega)) dX11_move_34 ?_
      refine lv_topi (fun v9 ev9 => ?_)
      have tlv9 : v9.toInt = (ro k.toNatClampNeg).toInt := by rw [ev9]
      refine lv_iload_n hx hb dX11_move_35 rfl (lv_at hl 2 rfl) ?_
      refine lv_icmp_ne (tgt := 43) hx hb dX11_move_36 (by decide) (fun c10 => ?_) (fun c10 => ?_)
      · skip
        have f11 := i_ne c10
        refine lv_iload_n hx hb dX11_move_43 rfl (lv_at hl 2 rfl) ?_
        refine lv_ldc hx hb hown (hts (Cond.constant RX11 139 (-1000000)) (wm_t (wm_l (wm_i 1 rfl)))) dX11_move_44 ?_
        refine lv_icmp_eq (tgt := 89) hx hb dX11_move_46 (by decide) (fun c12 => ?_) (fun c12 => ?_)
        · skip
          have f13 := i_eq c12
          refine lv_aload_n hx hb dX11_move_89 rfl (lv_at hl 0 rfl) ?_
          refine va_get (D := D) (ci := 11) (v := .ref (md 51)) (C := RX11) (T := TX11) (N := 64) hx hb hts inX11_move_X11 hown hK hP 0 rfl rfl 51 (by decide) (hts (Cond.fieldLink RX11 108 "PortRoomsModel" "where" "[I") (wm_t (wm_l (wm_i 3 rfl)))) (fun _ h9 => h9) rfl dX11_move_90 ?_
          refine lv_iload_n hx hb dX11_move_93 rfl (lv_at hl 1 rfl) ?_
          refine va_iald hx hb hK hP 2 0 rfl rfl (i_in (by omega) (by omega)) dX11_move_94 ?_
          refine lv_topi (fun v14 ev14 => ?_)
          have tlv14 : v14.toInt = (ro k.toNatClampNeg).toInt := by rw [ev14]
          refine lv_istore_n (lv' := [(3, .int v14), (0, .ref (md 64)), (1, .int k), (2, .int q)]) hx hb dX11_move_95 rfl hl (by decide) rfl (fun ls hl => ?_)
          refine lv_aload_n hx hb dX11_move_96 rfl (lv_at hl 1 rfl) ?_
          refine va_get (D := D) (ci := 11) (v := .ref (md 51)) (C := RX11) (T := TX11) (N := 64) hx hb hts inX11_move_X11 hown hK hP 0 rfl rfl 51 (by decide) (hts (Cond.fieldLink RX11 108 "PortRoomsModel" "where" "[I") (wm_t (wm_l (wm_i 3 rfl)))) (fun _ h9 => h9) rfl dX11_move_97 ?_
          refine lv_iload_n hx hb dX11_move_100 rfl (lv_at hl 2 rfl) ?_
          refine lv_iload_n hx hb dX11_move_101 rfl (lv_at hl 3 rfl) ?_
          refine va_iast hx hb hK hP hD hS 2 0 rfl rfl (i_in (by omega) (by omega)) dX11_move_102 (fun H locs => ?_)
          clear hP hD hS
          intro hP hD hS
          replace hP : va_P D vwCl [(moC md sd (0) mst hn cn pn mq gn mln mnn ln mlt msz mcu mtk mfr mti mfa mfb an un lc td mtn), (aI cI (md 17) 12 wo), (aI cI (md 51) 12 (upd ro k.toNatClampNeg q)), (aI cI (md 49) 6 aw), (aI cI (md 50) 6 iw)] H := hP
          replace hD : va_D A [(moC md sd (0) mst hn cn pn mq gn mln mnn ln mlt msz mcu mtk mfr mti mfa mfb an un lc td mtn), (aI cI (md 17) 12 wo), (aI cI (md 51) 12 (upd ro k.toNatClampNeg q)), (aI cI (md 49) 6 aw), (aI cI (md 50) 6 iw)] := hD
          refine lv_iload_n hx hb dX11_move_103 rfl (lv_at hl 0 rfl) ?_
          have hP9 := hP
          have hD9 := hD
          exact W.iret (v := v14) hx hb hr (fun t ht hW => ⟨⟨v14, upd ro k.toNatClampNeg q, rfl, (by subst_vars; unfold sm_move; (repeat' split) <;> first | rfl | (exfalso; omega)), by rw [ht]; exact hP9, va_K.moved hW.alike hK, hD9⟩, hS.F ht⟩) hS.2.2 dX11_move_104
        · skip
          have f15 := i_ne c12
          refine lv_aload_n hx hb dX11_move_49 rfl (lv_at hl 0 rfl) ?_
          refine lv_iload_n hx hb dX11_move_50 rfl (lv_at hl 2 rfl) ?_
          refine lv_iconst (v := 0) hx hb dX11_move_51 (by decide) ?_
          refine st_i1 (va_runV (C := RX11) (As := [.int q, .int 0]) (rest := []) ⟨hx, hb, hml, hown, hts⟩ (ct_X11_insideOf l D cI cY cJ cQ _ md sd 0 mst hn cn pn mq gn mln mnn ln mlt msz mcu mtk mfr mti mfa mfb an un lc td mtn wo ro q (0 : Int32) h1 h2) (cwV 2 hts gX11_move_X11_insideOf rfl rfl rfl ⟨rfl, cdX11_insideOf⟩ ⟨Nat.le_of_ble_eq_true rfl, Nat.le_of_ble_eq_true rfl⟩) (cPreV (hP.sub [0, 1, 2] rfl) hK (hD.sub [0, 1, 2] (by decide +kernel) rfl) hN (ci := 11) (q0 := 0) rfl rfl) rfl rfl hl.1 rfl (lv_room (Nat.le_of_ble_eq_true rfl)) dX11_move_52 ⟨Nat.le_of_ble_eq_true rfl, Nat.le_of_ble_eq_true rfl⟩) hP hD hS hA [0, 1, 2] rfl (fun _ => rfl) (fun r18 u16 H locs hw17 => ?_)
          clear hP hS
          intro hP hS
          replace hw17 : r18 = insV ro wo q (0 : Int32) cn.toNatClampNeg := hw17
          subst hw17
          refine lv_aload_n hx hb dX11_move_55 rfl (lv_at hl 0 rfl) ?_
          refine va_get (D := D) (ci := 11) (v := .ref (md 49)) (C := RX11) (T := TX11) (N := 64) hx hb hts inX11_move_X11 hown hK hP 0 rfl rfl 49 (by decide) (hts (Cond.fieldLink RX11 102 "PortRoomsModel" "air" "[I") (wm_t (wm_l (wm_i 5 rfl)))) (fun _ h9 => h9) rfl dX11_move_56 ?_
          refine lv_iload_n hx hb dX11_move_59 rfl (lv_at hl 2 rfl) ?_
          refine va_iald hx hb hK hP 3 0 rfl rfl (i_in (by omega) (by omega)) dX11_move_60 ?_
          refine lv_topi (fun v19 ev19 => ?_)
          have tlv19 : v19.toInt = (aw q.toNatClampNeg).toInt := by rw [ev19]
          refine lv_icmp_ge (tgt := 86) hx hb dX11_move_61 (by decide) (fun c20 => ?_) (fun c20 => ?_)
          · skip
            have f21 := i_le c20
            refine lv_ldc hx hb hown (hts (Cond.constant RX11 184 (-1000003)) (wm_t (wm_l (wm_i 8 rfl)))) dX11_move_86 ?_
            have hP9 := hP
            have hD9 := hD
            exact W.iret (v := (-1000003)) hx hb hr (fun t ht hW => ⟨⟨(-1000003), ro, rfl, (by subst_vars; unfold sm_move; (repeat' split) <;> first | rfl | (exfalso; omega)), by rw [ht]; exact hP9, va_K.moved hW.alike hK, hD9⟩, hS.F ht⟩) hS.2.2 dX11_move_88
          · skip
            have f22 := i_nle c20
            refine lv_aload_n hx hb dX11_move_64 rfl (lv_at hl 0 rfl) ?_
            refine lv_iload_n hx hb dX11_move_65 rfl (lv_at hl 2 rfl) ?_
            refine lv_iconst (v := 1) hx hb dX11_move_66 (by decide) ?_
            refine st_i1 (va_runV (C := RX11) (As := [.int q, .int 1]) (rest := []) ⟨hx, hb, hml, hown, hts⟩ (ct_X11_insideOf l D cI cY cJ cQ _ md sd 0 mst hn cn pn mq gn mln mnn ln mlt msz mcu mtk mfr mti mfa mfb an un lc td mtn wo ro q (1 : Int32) h1 h2) (cwV 2 hts gX11_move_X11_insideOf rfl rfl rfl ⟨rfl, cdX11_insideOf⟩ ⟨Nat.le_of_ble_eq_true rfl, Nat.le_of_ble_eq_true rfl⟩) (cPreV (hP.sub [0, 1, 2] rfl) hK (hD.sub [0, 1, 2] (by decide +kernel) rfl) hN (ci := 11) (q0 := 0) rfl rfl) rfl rfl hl.1 rfl (lv_room (Nat.le_of_ble_eq_true rfl)) dX11_move_67 ⟨Nat.le_of_ble_eq_true rfl, Nat.le_of_ble_eq_true rfl⟩) hP hD hS hA [0, 1, 2] rfl (fun _ => rfl) (fun r25 u23 H locs hw24 => ?_)
            clear hP hS
            intro hP hS
            replace hw24 : r25 = insV ro wo q (1 : Int32) cn.toNatClampNeg := hw24
            subst hw24
            refine lv_aload_n hx hb dX11_move_70 rfl (lv_at hl 0 rfl) ?_
            refine va_get (D := D) (ci := 11) (v := .ref (md 17)) (C := RX11) (T := TX11) (N := 64) hx hb hts inX11_move_X11 hown hK hP 0 rfl rfl 17 (by decide) (hts (Cond.fieldLink RX11 51 "PortRoomsModel" "worth" "[I") (wm_t (wm_l (wm_i 6 rfl)))) (fun _ h9 => h9) rfl dX11_move_71 ?_
            refine lv_iload_n hx hb dX11_move_74 rfl (lv_at hl 1 rfl) ?_
            refine va_iald hx hb hK hP 1 0 rfl rfl (i_in (by omega) (by omega)) dX11_move_75 ?_
            refine lv_topi (fun v26 ev26 => ?_)
            have tlv26 : v26.toInt = (wo k.toNatClampNeg).toInt := by rw [ev26]
            refine lv_iadd hx hb dX11_move_76 ?_
            refine lv_topi (fun v27 ev27 => ?_)
            refine lv_aload_n hx hb dX11_move_77 rfl (lv_at hl 0 rfl) ?_
            refine va_get (D := D) (ci := 11) (v := .ref (md 50)) (C := RX11) (T := TX11) (N := 64) hx hb hts inX11_move_X11 hown hK hP 0 rfl rfl 50 (by decide) (hts (Cond.fieldLink RX11 105 "PortRoomsModel" "insured" "[I") (wm_t (wm_l (wm_i 7 rfl)))) (fun _ h9 => h9) rfl dX11_move_78 ?_
            refine lv_iload_n hx hb dX11_move_81 rfl (lv_at hl 2 rfl) ?_
            refine va_iald hx hb hK hP 4 0 rfl rfl (i_in (by omega) (by omega)) dX11_move_82 ?_
            refine lv_topi (fun v28 ev28 => ?_)
            have tlv28 : v28.toInt = (iw q.toNatClampNeg).toInt := by rw [ev28]
            refine lv_icmp_le (tgt := 89) hx hb dX11_move_83 (by decide) (fun c29 => ?_) (fun c29 => ?_)
            · skip
              have f30 := i_le c29
              refine lv_aload_n hx hb dX11_move_89 rfl (lv_at hl 0 rfl) ?_
              refine va_get (D := D) (ci := 11) (v := .ref (md 51)) (C := RX11) (T := TX11) (N := 64) hx hb hts inX11_move_X11 hown hK hP 0 rfl rfl 51 (by decide) (hts (Cond.fieldLink RX11 108 "PortRoomsModel" "where" "[I") (wm_t (wm_l (wm_i 3 rfl)))) (fun _ h9 => h9) rfl dX11_move_90 ?_
              refine lv_iload_n hx hb dX11_move_93 rfl (lv_at hl 1 rfl) ?_
              refine va_iald hx hb hK hP 2 0 rfl rfl (i_in (by omega) (by omega)) dX11_move_94 ?_
              refine lv_topi (fun v31 ev31 => ?_)
              have tlv31 : v31.toInt = (ro k.toNatClampNeg).toInt := by rw [ev31]
              refine lv_istore_n (lv' := [(3, .int v31), (0, .ref (md 64)), (1, .int k), (2, .int q)]) hx hb dX11_move_95 rfl hl (by decide) rfl (fun ls hl => ?_)
              refine lv_aload_n hx hb dX11_move_96 rfl (lv_at hl 1 rfl) ?_
              refine va_get (D := D) (ci := 11) (v := .ref (md 51)) (C := RX11) (T := TX11) (N := 64) hx hb hts inX11_move_X11 hown hK hP 0 rfl rfl 51 (by decide) (hts (Cond.fieldLink RX11 108 "PortRoomsModel" "where" "[I") (wm_t (wm_l (wm_i 3 rfl)))) (fun _ h9 => h9) rfl dX11_move_97 ?_
              refine lv_iload_n hx hb dX11_move_100 rfl (lv_at hl 2 rfl) ?_
              refine lv_iload_n hx hb dX11_move_101 rfl (lv_at hl 3 rfl) ?_
              refine va_iast hx hb hK hP hD hS 2 0 rfl rfl (i_in (by omega) (by omega)) dX11_move_102 (fun H locs => ?_)
              clear hP hD hS
              intro hP hD hS
              replace hP : va_P D vwCl [(moC md sd (0) mst hn cn pn mq gn mln mnn ln mlt msz mcu mtk mfr mti mfa mfb an un lc td mtn), (aI cI (md 17) 12 wo), (aI cI (md 51) 12 (upd ro k.toNatClampNeg q)), (aI cI (md 49) 6 aw), (aI cI (md 50) 6 iw)] H := hP
              replace hD : va_D A [(moC md sd (0) mst hn cn pn mq gn mln mnn ln mlt msz mcu mtk mfr mti mfa mfb an un lc td mtn), (aI cI (md 17) 12 wo), (aI cI (md 51) 12 (upd ro k.toNatClampNeg q)), (aI cI (md 49) 6 aw), (aI cI (md 50) 6 iw)] := hD
              refine lv_iload_n hx hb dX11_move_103 rfl (lv_at hl 0 rfl) ?_
              have hP9 := hP
              have hD9 := hD
              exact W.iret (v := v31) hx hb hr (fun t ht hW => ⟨⟨v31, upd ro k.toNatClampNeg q, rfl, (by subst_vars; unfold sm_move; (repeat' split) <;> first | rfl | (exfalso; omega)), by rw [ht]; exact hP9, va_K.moved hW.alike hK, hD9⟩, hS.F ht⟩) hS.2.2 dX11_move_104
            · skip
              have f32 := i_nle c29
              refine lv_ldc hx hb hown (hts (Cond.constant RX11 184 (-1000003)) (wm_t (wm_l (wm_i 8 rfl)))) dX11_move_86 ?_
              have hP9 := hP
              have hD9 := hD
              exact W.iret (v := (-1000003)) hx hb hr (fun t ht hW => ⟨⟨(-1000003), ro, rfl, (by subst_vars; unfold sm_move; (repeat' split) <;> first | rfl | (exfalso; omega)), by rw [ht]; exact hP9, va_K.moved hW.alike hK, hD9⟩, hS.F ht⟩) hS.2.2 dX11_move_88
      · skip
        have f33 := i_eq c10
        refine lv_ldcw hx hb hown (hts (Cond.constant RX11 332 (-1000002)) (wm_t (wm_l (wm_i 4 rfl)))) dX11_move_39 ?_
        have hP9 := hP
        have hD9 := hD
        exact W.iret (v := (-1000002)) hx hb hr (fun t ht hW => ⟨⟨(-1000002), ro, rfl, (by subst_vars; unfold sm_move; (repeat' split) <;> first | rfl | (exfalso; omega)), by rw [ht]; exact hP9, va_K.moved hW.alike hK, hD9⟩, hS.F ht⟩) hS.2.2 dX11_move_42
    · skip
      have f34 := i_ne c7
      refine lv_iload_n hx hb dX11_move_19 rfl (lv_at hl 2 rfl) ?_
      refine st_i1 (va_runS (As := [.int q]) (rest := []) ⟨hx, hb, hml, hown, hts⟩ (ct_X11_isRoom l D cI cY cJ cQ _ q) (va_cwS 1 hts gX11_move_X11_isRoom rfl rfl rfl cdX11_isRoom ⟨Nat.le_of_ble_eq_true rfl, Nat.le_of_ble_eq_true rfl⟩) (cPreS (hP.sub [] rfl) hK (hD.sub [] (by decide +kernel) rfl) hN) rfl rfl hl.1 rfl (lv_room (Nat.le_of_ble_eq_true rfl)) dX11_move_20 ⟨Nat.le_of_ble_eq_true rfl, Nat.le_of_ble_eq_true rfl⟩) hP hD hS hA [] rfl (fun _ => rfl) (fun r37 u35 H locs hw36 => ?_)
      clear hP hS
      intro hP hS
      replace hw36 : r37 = if 0 ≤ q.toInt ∧ q.toInt ≤ 5 then 1 else 0 := hw36
      refine lv_if_ne (tgt := 29) hx hb dX11_move_23 (by decide) (fun c38 => ?_) (fun c38 => ?_)
      · skip
        have f39 := bo_t hw36 c38
        refine lv_aload_n hx hb dX11_move_29 rfl (lv_at hl 0 rfl) ?_
        refine va_get (D := D) (ci := 11) (v := .ref (md 51)) (C := RX11) (T := TX11) (N := 64) hx hb hts inX11_move_X11 hown hK hP 0 rfl rfl 51 (by decide) (hts (Cond.fieldLink RX11 108 "PortRoomsModel" "where" "[I") (wm_t (wm_l (wm_i 3 rfl)))) (fun _ h9 => h9) rfl dX11_move_30 ?_
        refine lv_iload_n hx hb dX11_move_33 rfl (lv_at hl 1 rfl) ?_
        refine va_iald hx hb hK hP 2 0 rfl rfl (i_in (by omega) (by omega)) dX11_move_34 ?_
        refine lv_topi (fun v40 ev40 => ?_)
        have tlv40 : v40.toInt = (ro k.toNatClampNeg).toInt := by rw [ev40]
        refine lv_iload_n hx hb dX11_move_35 rfl (lv_at hl 2 rfl) ?_
        refine lv_icmp_ne (tgt := 43) hx hb dX11_move_36 (by decide) (fun c41 => ?_) (fun c41 => ?_)
        · skip
          have f42 := i_ne c41
          refine lv_iload_n hx hb dX11_move_43 rfl (lv_at hl 2 rfl) ?_
          refine lv_ldc hx hb hown (hts (Cond.constant RX11 139 (-1000000)) (wm_t (wm_l (wm_i 1 rfl)))) dX11_move_44 ?_
          refine lv_icmp_eq (tgt := 89) hx hb dX11_move_46 (by decide) (fun c43 => ?_) (fun c43 => ?_)
          · skip
            have f44 := i_eq c43
            refine lv_aload_n hx hb dX11_move_89 rfl (lv_at hl 0 rfl) ?_
            refine va_get (D := D) (ci := 11) (v := .ref (md 51)) (C := RX11) (T := TX11) (N := 64) hx hb hts inX11_move_X11 hown hK hP 0 rfl rfl 51 (by decide) (hts (Cond.fieldLink RX11 108 "PortRoomsModel" "where" "[I") (wm_t (wm_l (wm_i 3 rfl)))) (fun _ h9 => h9) rfl dX11_move_90 ?_
            refine lv_iload_n hx hb dX11_move_93 rfl (lv_at hl 1 rfl) ?_
            refine va_iald hx hb hK hP 2 0 rfl rfl (i_in (by omega) (by omega)) dX11_move_94 ?_
            refine lv_topi (fun v45 ev45 => ?_)
            have tlv45 : v45.toInt = (ro k.toNatClampNeg).toInt := by rw [ev45]
            refine lv_istore_n (lv' := [(3, .int v45), (0, .ref (md 64)), (1, .int k), (2, .int q)]) hx hb dX11_move_95 rfl hl (by decide) rfl (fun ls hl => ?_)
            refine lv_aload_n hx hb dX11_move_96 rfl (lv_at hl 1 rfl) ?_
            refine va_get (D := D) (ci := 11) (v := .ref (md 51)) (C := RX11) (T := TX11) (N := 64) hx hb hts inX11_move_X11 hown hK hP 0 rfl rfl 51 (by decide) (hts (Cond.fieldLink RX11 108 "PortRoomsModel" "where" "[I") (wm_t (wm_l (wm_i 3 rfl)))) (fun _ h9 => h9) rfl dX11_move_97 ?_
            refine lv_iload_n hx hb dX11_move_100 rfl (lv_at hl 2 rfl) ?_
            refine lv_iload_n hx hb dX11_move_101 rfl (lv_at hl 3 rfl) ?_
            refine va_iast hx hb hK hP hD hS 2 0 rfl rfl (i_in (by omega) (by omega)) dX11_move_102 (fun H locs => ?_)
            clear hP hD hS
            intro hP hD hS
            replace hP : va_P D vwCl [(moC md sd (0) mst hn cn pn mq gn mln mnn ln mlt msz mcu mtk mfr mti mfa mfb an un lc td mtn), (aI cI (md 17) 12 wo), (aI cI (md 51) 12 (upd ro k.toNatClampNeg q)), (aI cI (md 49) 6 aw), (aI cI (md 50) 6 iw)] H := hP
            replace hD : va_D A [(moC md sd (0) mst hn cn pn mq gn mln mnn ln mlt msz mcu mtk mfr mti mfa mfb an un lc td mtn), (aI cI (md 17) 12 wo), (aI cI (md 51) 12 (upd ro k.toNatClampNeg q)), (aI cI (md 49) 6 aw), (aI cI (md 50) 6 iw)] := hD
            refine lv_iload_n hx hb dX11_move_103 rfl (lv_at hl 0 rfl) ?_
            have hP9 := hP
            have hD9 := hD
            exact W.iret (v := v45) hx hb hr (fun t ht hW => ⟨⟨v45, upd ro k.toNatClampNeg q, rfl, (by subst_vars; unfold sm_move; (repeat' split) <;> first | rfl | (exfalso; omega)), by rw [ht]; exact hP9, va_K.moved hW.alike hK, hD9⟩, hS.F ht⟩) hS.2.2 dX11_move_104
          · skip
            have f46 := i_ne c43
            refine lv_aload_n hx hb dX11_move_49 rfl (lv_at hl 0 rfl) ?_
            refine lv_iload_n hx hb dX11_move_50 rfl (lv_at hl 2 rfl) ?_
            refine lv_iconst (v := 0) hx hb dX11_move_51 (by decide) ?_
            refine st_i1 (va_runV (C := RX11) (As := [.int q, .int 0]) (rest := []) ⟨hx, hb, hml, hown, hts⟩ (ct_X11_insideOf l D cI cY cJ cQ _ md sd 0 mst hn cn pn mq gn mln mnn ln mlt msz mcu mtk mfr mti mfa mfb an un lc td mtn wo ro q (0 : Int32) h1 h2) (cwV 2 hts gX11_move_X11_insideOf rfl rfl rfl ⟨rfl, cdX11_insideOf⟩ ⟨Nat.le_of_ble_eq_true rfl, Nat.le_of_ble_eq_true rfl⟩) (cPreV (hP.sub [0, 1, 2] rfl) hK (hD.sub [0, 1, 2] (by decide +kernel) rfl) hN (ci := 11) (q0 := 0) rfl rfl) rfl rfl hl.1 rfl (lv_room (Nat.le_of_ble_eq_true rfl)) dX11_move_52 ⟨Nat.le_of_ble_eq_true rfl, Nat.le_of_ble_eq_true rfl⟩) hP hD hS hA [0, 1, 2] rfl (fun _ => rfl) (fun r49 u47 H locs hw48 => ?_)
            clear hP hS
            intro hP hS
            replace hw48 : r49 = insV ro wo q (0 : Int32) cn.toNatClampNeg := hw48
            subst hw48
            refine lv_aload_n hx hb dX11_move_55 rfl (lv_at hl 0 rfl) ?_
            refine va_get (D := D) (ci := 11) (v := .ref (md 49)) (C := RX11) (T := TX11) (N := 64) hx hb hts inX11_move_X11 hown hK hP 0 rfl rfl 49 (by decide) (hts (Cond.fieldLink RX11 102 "PortRoomsModel" "air" "[I") (wm_t (wm_l (wm_i 5 rfl)))) (fun _ h9 => h9) rfl dX11_move_56 ?_
            refine lv_iload_n hx hb dX11_move_59 rfl (lv_at hl 2 rfl) ?_
            refine va_iald hx hb hK hP 3 0 rfl rfl (i_in (by omega) (by omega)) dX11_move_60 ?_
            refine lv_topi (fun v50 ev50 => ?_)
            have tlv50 : v50.toInt = (aw q.toNatClampNeg).toInt := by rw [ev50]
            refine lv_icmp_ge (tgt := 86) hx hb dX11_move_61 (by decide) (fun c51 => ?_) (fun c51 => ?_)
            · skip
              have f52 := i_le c51
              refine lv_ldc hx hb hown (hts (Cond.constant RX11 184 (-1000003)) (wm_t (wm_l (wm_i 8 rfl)))) dX11_move_86 ?_
              have hP9 := hP
              have hD9 := hD
              exact W.iret (v := (-1000003)) hx hb hr (fun t ht hW => ⟨⟨(-1000003), ro, rfl, (by subst_vars; unfold sm_move; (repeat' split) <;> first | rfl | (exfalso; omega)), by rw [ht]; exact hP9, va_K.moved hW.alike hK, hD9⟩, hS.F ht⟩) hS.2.2 dX11_move_88
            · skip
              have f53 := i_nle c51
              refine lv_aload_n hx hb dX11_move_64 rfl (lv_at hl 0 rfl) ?_
              refine lv_iload_n hx hb dX11_move_65 rfl (lv_at hl 2 rfl) ?_
              refine lv_iconst (v := 1) hx hb dX11_move_66 (by decide) ?_
              refine st_i1 (va_runV (C := RX11) (As := [.int q, .int 1]) (rest := []) ⟨hx, hb, hml, hown, hts⟩ (ct_X11_insideOf l D cI cY cJ cQ _ md sd 0 mst hn cn pn mq gn mln mnn ln mlt msz mcu mtk mfr mti mfa mfb an un lc td mtn wo ro q (1 : Int32) h1 h2) (cwV 2 hts gX11_move_X11_insideOf rfl rfl rfl ⟨rfl, cdX11_insideOf⟩ ⟨Nat.le_of_ble_eq_true rfl, Nat.le_of_ble_eq_true rfl⟩) (cPreV (hP.sub [0, 1, 2] rfl) hK (hD.sub [0, 1, 2] (by decide +kernel) rfl) hN (ci := 11) (q0 := 0) rfl rfl) rfl rfl hl.1 rfl (lv_room (Nat.le_of_ble_eq_true rfl)) dX11_move_67 ⟨Nat.le_of_ble_eq_true rfl, Nat.le_of_ble_eq_true rfl⟩) hP hD hS hA [0, 1, 2] rfl (fun _ => rfl) (fun r56 u54 H locs hw55 => ?_)
              clear hP hS
              intro hP hS
              replace hw55 : r56 = insV ro wo q (1 : Int32) cn.toNatClampNeg := hw55
              subst hw55
              refine lv_aload_n hx hb dX11_move_70 rfl (lv_at hl 0 rfl) ?_
              refine va_get (D := D) (ci := 11) (v := .ref (md 17)) (C := RX11) (T := TX11) (N := 64) hx hb hts inX11_move_X11 hown hK hP 0 rfl rfl 17 (by decide) (hts (Cond.fieldLink RX11 51 "PortRoomsModel" "worth" "[I") (wm_t (wm_l (wm_i 6 rfl)))) (fun _ h9 => h9) rfl dX11_move_71 ?_
              refine lv_iload_n hx hb dX11_move_74 rfl (lv_at hl 1 rfl) ?_
              refine va_iald hx hb hK hP 1 0 rfl rfl (i_in (by omega) (by omega)) dX11_move_75 ?_
              refine lv_topi (fun v57 ev57 => ?_)
              have tlv57 : v57.toInt = (wo k.toNatClampNeg).toInt := by rw [ev57]
              refine lv_iadd hx hb dX11_move_76 ?_
              refine lv_topi (fun v58 ev58 => ?_)
              refine lv_aload_n hx hb dX11_move_77 rfl (lv_at hl 0 rfl) ?_
              refine va_get (D := D) (ci := 11) (v := .ref (md 50)) (C := RX11) (T := TX11) (N := 64) hx hb hts inX11_move_X11 hown hK hP 0 rfl rfl 50 (by decide) (hts (Cond.fieldLink RX11 105 "PortRoomsModel" "insured" "[I") (wm_t (wm_l (wm_i 7 rfl)))) (fun _ h9 => h9) rfl dX11_move_78 ?_
              refine lv_iload_n hx hb dX11_move_81 rfl (lv_at hl 2 rfl) ?_
              refine va_iald hx hb hK hP 4 0 rfl rfl (i_in (by omega) (by omega)) dX11_move_82 ?_
              refine lv_topi (fun v59 ev59 => ?_)
              have tlv59 : v59.toInt = (iw q.toNatClampNeg).toInt := by rw [ev59]
              refine lv_icmp_le (tgt := 89) hx hb dX11_move_83 (by decide) (fun c60 => ?_) (fun c60 => ?_)
              · skip
                have f61 := i_le c60
                refine lv_aload_n hx hb dX11_move_89 rfl (lv_at hl 0 rfl) ?_
                refine va_get (D := D) (ci := 11) (v := .ref (md 51)) (C := RX11) (T := TX11) (N := 64) hx hb hts inX11_move_X11 hown hK hP 0 rfl rfl 51 (by decide) (hts (Cond.fieldLink RX11 108 "PortRoomsModel" "where" "[I") (wm_t (wm_l (wm_i 3 rfl)))) (fun _ h9 => h9) rfl dX11_move_90 ?_
                refine lv_iload_n hx hb dX11_move_93 rfl (lv_at hl 1 rfl) ?_
                refine va_iald hx hb hK hP 2 0 rfl rfl (i_in (by omega) (by omega)) dX11_move_94 ?_
                refine lv_topi (fun v62 ev62 => ?_)
                have tlv62 : v62.toInt = (ro k.toNatClampNeg).toInt := by rw [ev62]
                refine lv_istore_n (lv' := [(3, .int v62), (0, .ref (md 64)), (1, .int k), (2, .int q)]) hx hb dX11_move_95 rfl hl (by decide) rfl (fun ls hl => ?_)
                refine lv_aload_n hx hb dX11_move_96 rfl (lv_at hl 1 rfl) ?_
                refine va_get (D := D) (ci := 11) (v := .ref (md 51)) (C := RX11) (T := TX11) (N := 64) hx hb hts inX11_move_X11 hown hK hP 0 rfl rfl 51 (by decide) (hts (Cond.fieldLink RX11 108 "PortRoomsModel" "where" "[I") (wm_t (wm_l (wm_i 3 rfl)))) (fun _ h9 => h9) rfl dX11_move_97 ?_
                refine lv_iload_n hx hb dX11_move_100 rfl (lv_at hl 2 rfl) ?_
                refine lv_iload_n hx hb dX11_move_101 rfl (lv_at hl 3 rfl) ?_
                refine va_iast hx hb hK hP hD hS 2 0 rfl rfl (i_in (by omega) (by omega)) dX11_move_102 (fun H locs => ?_)
                clear hP hD hS
                intro hP hD hS
                replace hP : va_P D vwCl [(moC md sd (0) mst hn cn pn mq gn mln mnn ln mlt msz mcu mtk mfr mti mfa mfb an un lc td mtn), (aI cI (md 17) 12 wo), (aI cI (md 51) 12 (upd ro k.toNatClampNeg q)), (aI cI (md 49) 6 aw), (aI cI (md 50) 6 iw)] H := hP
                replace hD : va_D A [(moC md sd (0) mst hn cn pn mq gn mln mnn ln mlt msz mcu mtk mfr mti mfa mfb an un lc td mtn), (aI cI (md 17) 12 wo), (aI cI (md 51) 12 (upd ro k.toNatClampNeg q)), (aI cI (md 49) 6 aw), (aI cI (md 50) 6 iw)] := hD
                refine lv_iload_n hx hb dX11_move_103 rfl (lv_at hl 0 rfl) ?_
                have hP9 := hP
                have hD9 := hD
                exact W.iret (v := v62) hx hb hr (fun t ht hW => ⟨⟨v62, upd ro k.toNatClampNeg q, rfl, (by subst_vars; unfold sm_move; (repeat' split) <;> first | rfl | (exfalso; omega)), by rw [ht]; exact hP9, va_K.moved hW.alike hK, hD9⟩, hS.F ht⟩) hS.2.2 dX11_move_104
              · skip
                have f63 := i_nle c60
                refine lv_ldc hx hb hown (hts (Cond.constant RX11 184 (-1000003)) (wm_t (wm_l (wm_i 8 rfl)))) dX11_move_86 ?_
                have hP9 := hP
                have hD9 := hD
                exact W.iret (v := (-1000003)) hx hb hr (fun t ht hW => ⟨⟨(-1000003), ro, rfl, (by subst_vars; unfold sm_move; (repeat' split) <;> first | rfl | (exfalso; omega)), by rw [ht]; exact hP9, va_K.moved hW.alike hK, hD9⟩, hS.F ht⟩) hS.2.2 dX11_move_88
        · skip
          have f64 := i_eq c41
          refine lv_ldcw hx hb hown (hts (Cond.constant RX11 332 (-1000002)) (wm_t (wm_l (wm_i 4 rfl)))) dX11_move_39 ?_
          have hP9 := hP
          have hD9 := hD
          exact W.iret (v := (-1000002)) hx hb hr (fun t ht hW => ⟨⟨(-1000002), ro, rfl, (by subst_vars; unfold sm_move; (repeat' split) <;> first | rfl | (exfalso; omega)), by rw [ht]; exact hP9, va_K.moved hW.alike hK, hD9⟩, hS.F ht⟩) hS.2.2 dX11_move_42
      · skip
        have f65 := bo_f hw36 c38
        refine lv_ldc hx hb hown (hts (Cond.constant RX11 157 (-1000001)) (wm_t (wm_l (wm_i 2 rfl)))) dX11_move_26 ?_
        have hP9 := hP
        have hD9 := hD
        exact W.iret (v := (-1000001)) hx hb hr (fun t ht hW => ⟨⟨(-1000001), ro, rfl, (by subst_vars; unfold sm_move; (repeat' split) <;> first | rfl | (exfalso; omega)), by rw [ht]; exact hP9, va_K.moved hW.alike hK, hD9⟩, hS.F ht⟩) hS.2.2 dX11_move_28

set_option maxHeartbeats 4000000 in
set_option maxRecDepth 100000 in
theorem ct_X11_inside (l : Launch) (D : va_G) (cI cY cJ cQ : ClassId) (sz : Nat) (md : Nat → Nat) (sd : Int32) (mth mst hn cn pn mq gn mln mnn ln mlt msz mcu mtk mfr mti mfa mfb an un lc td mtn : Int32) (wo ro : Nat → Int32) (q : Int32) (w : Int32)  (h1 : 0 ≤ cn.toInt) (h2 : cn.toInt ≤ 12)  : Met l yX11_inside wsX11_inside ({ frames := 2, cells := 0, slots := 0, locals := 45 }) (cPre D (ty4 cI cY cJ cQ) [(moC md sd mth mst hn cn pn mq gn mln mnn ln mlt msz mcu mtk mfr mti mfa mfb an un lc td mtn), (aI cI (md 17) 12 wo), (aI cI (md 51) 12 ro)] sz [.ref (md 64), .int q, .int w]) (va_Qi (fun (r : Int32) (u : Unit) => r = sm_inside cn wo ro q w) (cB D (ty4 cI cY cJ cQ) (fun (u : Unit) => [(moC md sd 0 mst hn cn pn mq gn mln mnn ln mlt msz mcu mtk mfr mti mfa mfb an un lc td mtn), (aI cI (md 17) 12 wo), (aI cI (md 51) 12 ro)]) (va_A [(moC md sd mth mst hn cn pn mq gn mln mnn ln mlt msz mcu mtk mfr mti mfa mfb an un lc td mtn), (aI cI (md 17) 12 wo), (aI cI (md 51) 12 ro)] sz)) (va_A [(moC md sd mth mst hn cn pn mq gn mln mnn ln mlt msz mcu mtk mfr mti mfa mfb an un lc td mtn), (aI cI (md 17) 12 wo), (aI cI (md 51) 12 ro)] sz)) 0 0 (va_A [(moC md sd mth mst hn cn pn mq gn mln mnn ln mlt msz mcu mtk mfr mti mfa mfb an un lc td mtn), (aI cI (md 17) 12 wo), (aI cI (md 51) 12 ro)] sz) := by
  refine Met.ofW (cc := cX11_inside) (maxL := 3) (ret := (some .int)) (by decide) rfl ?_
  intro p e s m args below meth c s₁ B hml hv
  obtain ⟨rfl, hsz, hP, hK, hD0, hN⟩ := hv
  have hx := B.exec
  have hb := B.bytes
  have hr := B.returns
  have hts := atoms_spec (ws := wsX11_inside) B.pre
  have hown : s.vm.findClass RX11 = some m.cls := findClass_of_methodNamed B.named
  have hlocks := B.notSynchronized
  subst hsz
  have hD := hD0.self (sz := s.heap.size)
  generalize hAe : va_A [(moC md sd mth mst hn cn pn mq gn mln mnn ln mlt msz mcu mtk mfr mti mfa mfb an un lc td mtn), (aI cI (md 17) 12 wo), (aI cI (md 51) 12 ro)] s.heap.size = A at hD ⊢
  have hA : ∀ q : Nat, s.heap.size ≤ q → A q := fun q h => by rw [← hAe]; exact Or.inr h
  have hS : va_S A s.heap s.heap [] := va_S.rf
  have hP : va_P D vwCl [(moC md sd mth mst hn cn pn mq gn mln mnn ln mlt msz mcu mtk mfr mti mfa mfb an un lc td mtn), (aI cI (md 17) 12 wo), (aI cI (md 51) 12 ro)] s.heap := hP
  have hl := lv_entry ([.ref (md 64), .int q, .int w]) (n := 3) (Nat.le_of_ble_eq_true rfl)
  rw [lg_entry_eq]
  generalize (lg_sl ([.ref (md 64), .int q, .int w]) ++ List.replicate (3 - (lg_sl ([.ref (md 64), .int q, .int w])).length) Slot.unset).toArray = ls at hl ⊢
  have hl : lv_has ls 3 [(0, .ref (md 64)), (1, .int q), (2, .int w)] := hl
  have km1000001 : (-1000001 : Int32).toInt = -1000001 := by decide
  have k0 : (0 : Int32).toInt = 0 := by decide
  have kl0 : (0 : Int64).toInt = 0 := by decide
  have kl2 : (2 : Int64).toInt = 2 := by decide
  refine lv_aload_n hx hb dX11_inside_0 rfl (lv_at hl 0 rfl) ?_
  refine lv_iconst (v := 0) hx hb dX11_inside_1 (by decide) ?_
  refine va_put (D := D) (ci := 11) (v := .int 0) (ty := .int) (C := RX11) (T := TX11) (N := 64) hx hb hts inX11_inside_X11 tyX11 tyX11_ok nmX11 hown hK hP hD hS 0 rfl rfl 0 (by decide) (hts (Cond.fieldLink RX11 1 "PortRoomsModel" "thrown" "I") (wm_t (wm_l (wm_i 0 rfl)))) (fun _ h9 => h9) rfl (tyX11_ok 0 (by decide)) rfl rfl (Nat.le_of_ble_eq_true rfl) dX11_inside_2 (fun H locs => ?_)
  clear hP hD hS
  intro hP hD hS
  replace hP : va_P D vwCl [(moC md sd (0) mst hn cn pn mq gn mln mnn ln mlt msz mcu mtk mfr mti mfa mfb an un lc td mtn), (aI cI (md 17) 12 wo), (aI cI (md 51) 12 ro)] H := hP
  replace hD : va_D A [(moC md sd (0) mst hn cn pn mq gn mln mnn ln mlt msz mcu mtk mfr mti mfa mfb an un lc td mtn), (aI cI (md 17) 12 wo), (aI cI (md 51) 12 ro)] := hD
  refine lv_iload_n hx hb dX11_inside_5 rfl (lv_at hl 1 rfl) ?_
  refine st_i1 (va_runS (As := [.int q]) (rest := []) ⟨hx, hb, hml, hown, hts⟩ (ct_X11_isRoom l D cI cY cJ cQ _ q) (va_cwS 1 hts gX11_inside_X11_isRoom rfl rfl rfl cdX11_isRoom ⟨Nat.le_of_ble_eq_true rfl, Nat.le_of_ble_eq_true rfl⟩) (cPreS (hP.sub [] rfl) hK (hD.sub [] (by decide +kernel) rfl) hN) rfl rfl hl.1 rfl (lv_room (Nat.le_of_ble_eq_true rfl)) dX11_inside_6 ⟨Nat.le_of_ble_eq_true rfl, Nat.le_of_ble_eq_true rfl⟩) hP hD hS hA [] rfl (fun _ => rfl) (fun r3 u1 H locs hw2 => ?_)
  clear hP hS
  intro hP hS
  replace hw2 : r3 = if 0 ≤ q.toInt ∧ q.toInt ≤ 5 then 1 else 0 := hw2
  refine lv_if_eq (tgt := 24) hx hb dX11_inside_9 (by decide) (fun c4 => ?_) (fun c4 => ?_)
  · skip
    have f5 := bo_f hw2 c4
    refine lv_ldc hx hb hown (hts (Cond.constant RX11 157 (-1000001)) (wm_t (wm_l (wm_i 2 rfl)))) dX11_inside_24 ?_
    refine lv_goto (tgt := 35) hx hb dX11_inside_26 (by decide) ?_
    have hP9 := hP
    have hD9 := hD
    exact W.iret (v := (-1000001)) hx hb hr (fun t ht hW => ⟨⟨(-1000001), (), rfl, (by unfold sm_inside; (repeat' split) <;> first | rfl | (exfalso; omega) | (subst_vars; rfl)), by rw [ht]; exact hP9, va_K.moved hW.alike hK, hD9⟩, hS.F ht⟩) hS.2.2 dX11_inside_35
  · skip
    have f6 := bo_t hw2 c4
    refine lv_iload_n hx hb dX11_inside_12 rfl (lv_at hl 2 rfl) ?_
    refine lv_i2l hx hb dX11_inside_13 rfl ?_
    have w7 := i_w w
    have w8 := i_rng w
    refine lv_lconst (v := 0) hx hb dX11_inside_14 (by decide) ?_
    refine lv_ldc2 hx hb hown (hts (Cond.constantLong RX11 155 (2)) (wm_t (wm_l (wm_i 1 rfl)))) dX11_inside_15 ?_
    refine st_i1 (va_runS (As := [.long (w.toInt64), .long 0, .long 2]) (rest := []) ⟨hx, hb, hml, hown, hts⟩ (ct_X11_in l D cI cY cJ cQ _ w.toInt64 (0 : Int64) (2 : Int64)) (va_cwS 3 hts gX11_inside_X11_in rfl rfl rfl cdX11_in ⟨Nat.le_of_ble_eq_true rfl, Nat.le_of_ble_eq_true rfl⟩) (cPreS (hP.sub [] rfl) hK (hD.sub [] (by decide +kernel) rfl) hN) rfl rfl hl.1 rfl (lv_room (Nat.le_of_ble_eq_true rfl)) dX11_inside_18 ⟨Nat.le_of_ble_eq_true rfl, Nat.le_of_ble_eq_true rfl⟩) hP hD hS hA [] rfl (fun _ => rfl) (fun r11 u9 H locs hw10 => ?_)
    clear hP hS
    intro hP hS
    replace hw10 : r11 = if (0 : Int64).toInt ≤ w.toInt64.toInt ∧ w.toInt64.toInt ≤ (2 : Int64).toInt then 1 else 0 := hw10
    refine lv_if_ne (tgt := 29) hx hb dX11_inside_21 (by decide) (fun c12 => ?_) (fun c12 => ?_)
    · skip
      have f13 := bo_t hw10 c12
      refine lv_aload_n hx hb dX11_inside_29 rfl (lv_at hl 0 rfl) ?_
      refine lv_iload_n hx hb dX11_inside_30 rfl (lv_at hl 1 rfl) ?_
      refine lv_iload_n hx hb dX11_inside_31 rfl (lv_at hl 2 rfl) ?_
      refine st_i1 (va_runV (C := RX11) (As := [.int q, .int w]) (rest := []) ⟨hx, hb, hml, hown, hts⟩ (ct_X11_insideOf l D cI cY cJ cQ _ md sd 0 mst hn cn pn mq gn mln mnn ln mlt msz mcu mtk mfr mti mfa mfb an un lc td mtn wo ro q w h1 h2) (cwV 2 hts gX11_inside_X11_insideOf rfl rfl rfl ⟨rfl, cdX11_insideOf⟩ ⟨Nat.le_of_ble_eq_true rfl, Nat.le_of_ble_eq_true rfl⟩) (cPreV (hP.sub [0, 1, 2] rfl) hK (hD.sub [0, 1, 2] (by decide +kernel) rfl) hN (ci := 11) (q0 := 0) rfl rfl) rfl rfl hl.1 rfl (lv_room (Nat.le_of_ble_eq_true rfl)) dX11_inside_32 ⟨Nat.le_of_ble_eq_true rfl, Nat.le_of_ble_eq_true rfl⟩) hP hD hS hA [0, 1, 2] rfl (fun _ => rfl) (fun r16 u14 H locs hw15 => ?_)
      clear hP hS
      intro hP hS
      replace hw15 : r16 = insV ro wo q w cn.toNatClampNeg := hw15
      subst hw15
      have hP9 := hP
      have hD9 := hD
      exact W.iret (v := insV ro wo q w cn.toNatClampNeg) hx hb hr (fun t ht hW => ⟨⟨insV ro wo q w cn.toNatClampNeg, (), rfl, (by unfold sm_inside; (repeat' split) <;> first | rfl | (exfalso; omega) | (subst_vars; rfl)), by rw [ht]; exact hP9, va_K.moved hW.alike hK, hD9⟩, hS.F ht⟩) hS.2.2 dX11_inside_35
    · skip
      have f17 := bo_f hw10 c12
      refine lv_ldc hx hb hown (hts (Cond.constant RX11 157 (-1000001)) (wm_t (wm_l (wm_i 2 rfl)))) dX11_inside_24 ?_
      refine lv_goto (tgt := 35) hx hb dX11_inside_26 (by decide) ?_
      have hP9 := hP
      have hD9 := hD
      exact W.iret (v := (-1000001)) hx hb hr (fun t ht hW => ⟨⟨(-1000001), (), rfl, (by unfold sm_inside; (repeat' split) <;> first | rfl | (exfalso; omega) | (subst_vars; rfl)), by rw [ht]; exact hP9, va_K.moved hW.alike hK, hD9⟩, hS.F ht⟩) hS.2.2 dX11_inside_35

set_option maxHeartbeats 4000000 in
set_option maxRecDepth 100000 in
theorem ct_X11_lotOf (l : Launch) (D : va_G) (cI cY cJ cQ : ClassId) (sz : Nat) (md : Nat → Nat) (sd : Int32) (mth mst hn cn pn mq gn mln mnn ln mlt msz mcu mtk mfr mti mfa mfb an un lc td mtn : Int32) (a : Int32) (d : Int32)   : Met l yX11_lotOf wsX11_lotOf ({ frames := 0, cells := 0, slots := 0, locals := 0 }) (cPre D (ty4 cI cY cJ cQ) [(moC md sd mth mst hn cn pn mq gn mln mnn ln mlt msz mcu mtk mfr mti mfa mfb an un lc td mtn)] sz [.ref (md 64), .int a, .int d]) (va_Ql (fun (r : Int64) (u : Unit) => r = an_lot sd a d) (cB D (ty4 cI cY cJ cQ) (fun (u : Unit) => [(moC md sd mth mst hn cn pn mq gn mln mnn ln mlt msz mcu mtk mfr mti mfa mfb an un lc td mtn)]) (va_A [(moC md sd mth mst hn cn pn mq gn mln mnn ln mlt msz mcu mtk mfr mti mfa mfb an un lc td mtn)] sz)) (va_A [(moC md sd mth mst hn cn pn mq gn mln mnn ln mlt msz mcu mtk mfr mti mfa mfb an un lc td mtn)] sz)) 0 0 (va_A [(moC md sd mth mst hn cn pn mq gn mln mnn ln mlt msz mcu mtk mfr mti mfa mfb an un lc td mtn)] sz) := by
  refine Met.ofW (cc := cX11_lotOf) (maxL := 5) (ret := (some .long)) (by decide) rfl ?_
  intro p e s m args below meth c s₁ B hml hv
  obtain ⟨rfl, hsz, hP, hK, hD0, hN⟩ := hv
  have hx := B.exec
  have hb := B.bytes
  have hr := B.returns
  have hts := atoms_spec (ws := wsX11_lotOf) B.pre
  have hown : s.vm.findClass RX11 = some m.cls := findClass_of_methodNamed B.named
  have hlocks := B.notSynchronized
  subst hsz
  have hD := hD0.self (sz := s.heap.size)
  generalize hAe : va_A [(moC md sd mth mst hn cn pn mq gn mln mnn ln mlt msz mcu mtk mfr mti mfa mfb an un lc td mtn)] s.heap.size = A at hD ⊢
  have hA : ∀ q : Nat, s.heap.size ≤ q → A q := fun q h => by rw [← hAe]; exact Or.inr h
  have hS : va_S A s.heap s.heap [] := va_S.rf
  have hP : va_P D vwCl [(moC md sd mth mst hn cn pn mq gn mln mnn ln mlt msz mcu mtk mfr mti mfa mfb an un lc td mtn)] s.heap := hP
  have hl := lv_entry ([.ref (md 64), .int a, .int d]) (n := 5) (Nat.le_of_ble_eq_true rfl)
  rw [lg_entry_eq]
  generalize (lg_sl ([.ref (md 64), .int a, .int d]) ++ List.replicate (5 - (lg_sl ([.ref (md 64), .int a, .int d])).length) Slot.unset).toArray = ls at hl ⊢
  have hl : lv_has ls 5 [(0, .ref (md 64)), (1, .int a), (2, .int d)] := hl
  refine lv_aload_n hx hb dX11_lotOf_0 rfl (lv_at hl 0 rfl) ?_
  refine va_get (D := D) (ci := 11) (v := .long (sd.toInt64)) (C := RX11) (T := TX11) (N := 64) hx hb hts inX11_lotOf_X11 hown hK hP 0 rfl rfl 1 (by decide) (hts (Cond.fieldLink RX11 135 "PortRoomsModel" "seed" "J") (wm_t (wm_l (wm_i 0 rfl)))) (fun _ h9 => h9) rfl dX11_lotOf_1 ?_
  refine lv_iload_n hx hb dX11_lotOf_4 rfl (lv_at hl 1 rfl) ?_
  refine lv_i2l hx hb dX11_lotOf_5 rfl ?_
  refine lv_ldc2 hx hb hown (hts (Cond.constantLong RX11 336 (1000003)) (wm_t (wm_l (wm_i 1 rfl)))) dX11_lotOf_6 ?_
  refine lv_lmul hx hb dX11_lotOf_9 ?_
  refine lv_topl (fun z1 ez1 => ?_)
  refine lv_ladd hx hb dX11_lotOf_10 ?_
  refine lv_topl (fun z2 ez2 => ?_)
  refine lv_iload_n hx hb dX11_lotOf_11 rfl (lv_at hl 2 rfl) ?_
  refine lv_i2l hx hb dX11_lotOf_12 rfl ?_
  refine lv_ldc2 hx hb hown (hts (Cond.constantLong RX11 338 (8191)) (wm_t (wm_l (wm_i 2 rfl)))) dX11_lotOf_13 ?_
  refine lv_lmul hx hb dX11_lotOf_16 ?_
  refine lv_topl (fun z3 ez3 => ?_)
  refine lv_ladd hx hb dX11_lotOf_17 ?_
  refine lv_topl (fun z4 ez4 => ?_)
  refine lv_lstore_n (lv' := [(3, .long z4), (0, .ref (md 64)), (1, .int a), (2, .int d)]) hx hb dX11_lotOf_18 rfl hl (by decide) rfl (fun ls hl => ?_)
  refine lv_lload_n hx hb dX11_lotOf_19 rfl (lv_at hl 0 rfl) ?_
  refine lv_ldc2 hx hb hown (hts (Cond.constantLong RX11 340 (-7046029254386353131)) (wm_t (wm_l (wm_i 3 rfl)))) dX11_lotOf_20 ?_
  refine lv_lmul hx hb dX11_lotOf_23 ?_
  refine lv_topl (fun z5 ez5 => ?_)
  refine lv_lstore_n (lv' := [(3, .long z5), (0, .ref (md 64)), (1, .int a), (2, .int d)]) hx hb dX11_lotOf_24 rfl hl (by decide) rfl (fun ls hl => ?_)
  refine lv_lload_n hx hb dX11_lotOf_25 rfl (lv_at hl 0 rfl) ?_
  refine lv_lload_n hx hb dX11_lotOf_26 rfl (lv_at hl 0 rfl) ?_
  refine lv_bipush (v := 29) hx hb dX11_lotOf_27 (by decide) ?_
  refine lv_lushr hx hb dX11_lotOf_29 rfl ?_
  refine lv_topl (fun z6 ez6 => ?_)
  refine lv_lxor hx hb dX11_lotOf_30 ?_
  refine lv_topl (fun z7 ez7 => ?_)
  refine lv_lstore_n (lv' := [(3, .long z7), (0, .ref (md 64)), (1, .int a), (2, .int d)]) hx hb dX11_lotOf_31 rfl hl (by decide) rfl (fun ls hl => ?_)
  refine lv_lload_n hx hb dX11_lotOf_32 rfl (lv_at hl 0 rfl) ?_
  refine lv_ldc2 hx hb hown (hts (Cond.constantLong RX11 342 (-4658895280553007687)) (wm_t (wm_l (wm_i 4 rfl)))) dX11_lotOf_33 ?_
  refine lv_lmul hx hb dX11_lotOf_36 ?_
  refine lv_topl (fun z8 ez8 => ?_)
  refine lv_lstore_n (lv' := [(3, .long z8), (0, .ref (md 64)), (1, .int a), (2, .int d)]) hx hb dX11_lotOf_37 rfl hl (by decide) rfl (fun ls hl => ?_)
  refine lv_lload_n hx hb dX11_lotOf_38 rfl (lv_at hl 0 rfl) ?_
  refine lv_lload_n hx hb dX11_lotOf_39 rfl (lv_at hl 0 rfl) ?_
  refine lv_bipush (v := 32) hx hb dX11_lotOf_40 (by decide) ?_
  refine lv_lushr hx hb dX11_lotOf_42 rfl ?_
  refine lv_topl (fun z9 ez9 => ?_)
  refine lv_lxor hx hb dX11_lotOf_43 ?_
  refine lv_topl (fun z10 ez10 => ?_)
  refine lv_lstore_n (lv' := [(3, .long z10), (0, .ref (md 64)), (1, .int a), (2, .int d)]) hx hb dX11_lotOf_44 rfl hl (by decide) rfl (fun ls hl => ?_)
  refine lv_lload_n hx hb dX11_lotOf_45 rfl (lv_at hl 0 rfl) ?_
  refine lv_ldc2 hx hb hown (hts (Cond.constantLong RX11 344 (9223372036854775807)) (wm_t (wm_l (wm_i 5 rfl)))) dX11_lotOf_46 ?_
  refine lv_land hx hb dX11_lotOf_49 ?_
  refine lv_topl (fun z11 ez11 => ?_)
  have hP9 := hP
  have hD9 := hD
  exact W.lret (v := z11) hx hb hr (fun t ht hW => ⟨⟨z11, (), rfl, (by subst_vars; rfl), by rw [ht]; exact hP9, va_K.moved hW.alike hK, hD9⟩, hS.F ht⟩) hS.2.2 dX11_lotOf_50

set_option maxHeartbeats 4000000 in
set_option maxRecDepth 100000 in
theorem ct_X11_lot (l : Launch) (D : va_G) (cI cY cJ cQ : ClassId) (sz : Nat) (md : Nat → Nat) (sd : Int32) (mth mst hn cn pn mq gn mln mnn ln mlt msz mcu mtk mfr mti mfa mfb an un lc td mtn : Int32) (a : Int32) (d : Int32) (n : Int32)   : Met l yX11_lot wsX11_lot ({ frames := 2, cells := 0, slots := 0, locals := 45 }) (cPre D (ty4 cI cY cJ cQ) [(moC md sd mth mst hn cn pn mq gn mln mnn ln mlt msz mcu mtk mfr mti mfa mfb an un lc td mtn)] sz [.ref (md 64), .int a, .int d, .int n]) (va_Qi (fun (r : Int32) (u : Unit) => r = an_lotn sd a d n) (cB D (ty4 cI cY cJ cQ) (fun (u : Unit) => [(moC md sd 0 mst hn cn pn mq gn mln mnn ln mlt msz mcu mtk mfr mti mfa mfb an un lc td mtn)]) (va_A [(moC md sd mth mst hn cn pn mq gn mln mnn ln mlt msz mcu mtk mfr mti mfa mfb an un lc td mtn)] sz)) (va_A [(moC md sd mth mst hn cn pn mq gn mln mnn ln mlt msz mcu mtk mfr mti mfa mfb an un lc td mtn)] sz)) 0 0 (va_A [(moC md sd mth mst hn cn pn mq gn mln mnn ln mlt msz mcu mtk mfr mti mfa mfb an un lc td mtn)] sz) := by
  refine Met.ofW (cc := cX11_lot) (maxL := 4) (ret := (some .int)) (by decide) rfl ?_
  intro p e s m args below meth c s₁ B hml hv
  obtain ⟨rfl, hsz, hP, hK, hD0, hN⟩ := hv
  have hx := B.exec
  have hb := B.bytes
  have hr := B.returns
  have hts := atoms_spec (ws := wsX11_lot) B.pre
  have hown : s.vm.findClass RX11 = some m.cls := findClass_of_methodNamed B.named
  have hlocks := B.notSynchronized
  subst hsz
  have hD := hD0.self (sz := s.heap.size)
  generalize hAe : va_A [(moC md sd mth mst hn cn pn mq gn mln mnn ln mlt msz mcu mtk mfr mti mfa mfb an un lc td mtn)] s.heap.size = A at hD ⊢
  have hA : ∀ q : Nat, s.heap.size ≤ q → A q := fun q h => by rw [← hAe]; exact Or.inr h
  have hS : va_S A s.heap s.heap [] := va_S.rf
  have hP : va_P D vwCl [(moC md sd mth mst hn cn pn mq gn mln mnn ln mlt msz mcu mtk mfr mti mfa mfb an un lc td mtn)] s.heap := hP
  have hl := lv_entry ([.ref (md 64), .int a, .int d, .int n]) (n := 4) (Nat.le_of_ble_eq_true rfl)
  rw [lg_entry_eq]
  generalize (lg_sl ([.ref (md 64), .int a, .int d, .int n]) ++ List.replicate (4 - (lg_sl ([.ref (md 64), .int a, .int d, .int n])).length) Slot.unset).toArray = ls at hl ⊢
  have hl : lv_has ls 4 [(0, .ref (md 64)), (1, .int a), (2, .int d), (3, .int n)] := hl
  have k0 : (0 : Int32).toInt = 0 := by decide
  have kl0 : (0 : Int64).toInt = 0 := by decide
  have kl1 : (1 : Int64).toInt = 1 := by decide
  have kl11 : (11 : Int64).toInt = 11 := by decide
  have kl1000000 : (1000000 : Int64).toInt = 1000000 := by decide
  refine lv_aload_n hx hb dX11_lot_0 rfl (lv_at hl 0 rfl) ?_
  refine lv_iconst (v := 0) hx hb dX11_lot_1 (by decide) ?_
  refine va_put (D := D) (ci := 11) (v := .int 0) (ty := .int) (C := RX11) (T := TX11) (N := 64) hx hb hts inX11_lot_X11 tyX11 tyX11_ok nmX11 hown hK hP hD hS 0 rfl rfl 0 (by decide) (hts (Cond.fieldLink RX11 1 "PortRoomsModel" "thrown" "I") (wm_t (wm_l (wm_i 0 rfl)))) (fun _ h9 => h9) rfl (tyX11_ok 0 (by decide)) rfl rfl (Nat.le_of_ble_eq_true rfl) dX11_lot_2 (fun H locs => ?_)
  clear hP hD hS
  intro hP hD hS
  replace hP : va_P D vwCl [(moC md sd (0) mst hn cn pn mq gn mln mnn ln mlt msz mcu mtk mfr mti mfa mfb an un lc td mtn)] H := hP
  replace hD : va_D A [(moC md sd (0) mst hn cn pn mq gn mln mnn ln mlt msz mcu mtk mfr mti mfa mfb an un lc td mtn)] := hD
  refine lv_iload_n hx hb dX11_lot_5 rfl (lv_at hl 1 rfl) ?_
  refine lv_i2l hx hb dX11_lot_6 rfl ?_
  have w1 := i_w a
  have w2 := i_rng a
  refine lv_lconst (v := 0) hx hb dX11_lot_7 (by decide) ?_
  refine lv_ldc2 hx hb hown (hts (Cond.constantLong RX11 346 (11)) (wm_t (wm_l (wm_i 1 rfl)))) dX11_lot_8 ?_
  refine st_i1 (va_runS (As := [.long (a.toInt64), .long 0, .long 11]) (rest := []) ⟨hx, hb, hml, hown, hts⟩ (ct_X11_in l D cI cY cJ cQ _ a.toInt64 (0 : Int64) (11 : Int64)) (va_cwS 3 hts gX11_lot_X11_in rfl rfl rfl cdX11_in ⟨Nat.le_of_ble_eq_true rfl, Nat.le_of_ble_eq_true rfl⟩) (cPreS (hP.sub [] rfl) hK (hD.sub [] (by decide +kernel) rfl) hN) rfl rfl hl.1 rfl (lv_room (Nat.le_of_ble_eq_true rfl)) dX11_lot_11 ⟨Nat.le_of_ble_eq_true rfl, Nat.le_of_ble_eq_true rfl⟩) hP hD hS hA [] rfl (fun _ => rfl) (fun r5 u3 H locs hw4 => ?_)
  clear hP hS
  intro hP hS
  replace hw4 : r5 = if (0 : Int64).toInt ≤ a.toInt64.toInt ∧ a.toInt64.toInt ≤ (11 : Int64).toInt then 1 else 0 := hw4
  refine lv_if_eq (tgt := 36) hx hb dX11_lot_14 (by decide) (fun c6 => ?_) (fun c6 => ?_)
  · skip
    have f7 := bo_f hw4 c6
    refine lv_ldc hx hb hown (hts (Cond.constant RX11 157 (-1000001)) (wm_t (wm_l (wm_i 3 rfl)))) dX11_lot_36 ?_
    refine lv_goto (tgt := 51) hx hb dX11_lot_38 (by decide) ?_
    have hP9 := hP
    have hD9 := hD
    exact W.iret (v := (-1000001)) hx hb hr (fun t ht hW => ⟨⟨(-1000001), (), rfl, (by unfold an_lotn; rw [if_neg (by omega)]), by rw [ht]; exact hP9, va_K.moved hW.alike hK, hD9⟩, hS.F ht⟩) hS.2.2 dX11_lot_51
  · skip
    have f8 := bo_t hw4 c6
    refine lv_iload_n hx hb dX11_lot_17 rfl (lv_at hl 2 rfl) ?_
    refine st_i1 (va_runS (As := [.int d]) (rest := []) ⟨hx, hb, hml, hown, hts⟩ (ct_X11_isDay l D cI cY cJ cQ _ d) (va_cwS 1 hts gX11_lot_X11_isDay rfl rfl rfl cdX11_isDay ⟨Nat.le_of_ble_eq_true rfl, Nat.le_of_ble_eq_true rfl⟩) (cPreS (hP.sub [] rfl) hK (hD.sub [] (by decide +kernel) rfl) hN) rfl rfl hl.1 rfl (lv_room (Nat.le_of_ble_eq_true rfl)) dX11_lot_18 ⟨Nat.le_of_ble_eq_true rfl, Nat.le_of_ble_eq_true rfl⟩) hP hD hS hA [] rfl (fun _ => rfl) (fun r11 u9 H locs hw10 => ?_)
    clear hP hS
    intro hP hS
    replace hw10 : r11 = if 0 ≤ d.toInt ∧ d.toInt ≤ 9999 then 1 else 0 := hw10
    refine lv_if_eq (tgt := 36) hx hb dX11_lot_21 (by decide) (fun c12 => ?_) (fun c12 => ?_)
    · skip
      have f13 := bo_f hw10 c12
      refine lv_ldc hx hb hown (hts (Cond.constant RX11 157 (-1000001)) (wm_t (wm_l (wm_i 3 rfl)))) dX11_lot_36 ?_
      refine lv_goto (tgt := 51) hx hb dX11_lot_38 (by decide) ?_
      have hP9 := hP
      have hD9 := hD
      exact W.iret (v := (-1000001)) hx hb hr (fun t ht hW => ⟨⟨(-1000001), (), rfl, (by unfold an_lotn; rw [if_neg (by omega)]), by rw [ht]; exact hP9, va_K.moved hW.alike hK, hD9⟩, hS.F ht⟩) hS.2.2 dX11_lot_51
    · skip
      have f14 := bo_t hw10 c12
      refine lv_iload_n hx hb dX11_lot_24 rfl (lv_at hl 3 rfl) ?_
      refine lv_i2l hx hb dX11_lot_25 rfl ?_
      have w15 := i_w n
      have w16 := i_rng n
      refine lv_lconst (v := 1) hx hb dX11_lot_26 (by decide) ?_
      refine lv_ldc2 hx hb hown (hts (Cond.constantLong RX11 195 (1000000)) (wm_t (wm_l (wm_i 2 rfl)))) dX11_lot_27 ?_
      refine st_i1 (va_runS (As := [.long (n.toInt64), .long 1, .long 1000000]) (rest := []) ⟨hx, hb, hml, hown, hts⟩ (ct_X11_in l D cI cY cJ cQ _ n.toInt64 (1 : Int64) (1000000 : Int64)) (va_cwS 3 hts gX11_lot_X11_in rfl rfl rfl cdX11_in ⟨Nat.le_of_ble_eq_true rfl, Nat.le_of_ble_eq_true rfl⟩) (cPreS (hP.sub [] rfl) hK (hD.sub [] (by decide +kernel) rfl) hN) rfl rfl hl.1 rfl (lv_room (Nat.le_of_ble_eq_true rfl)) dX11_lot_30 ⟨Nat.le_of_ble_eq_true rfl, Nat.le_of_ble_eq_true rfl⟩) hP hD hS hA [] rfl (fun _ => rfl) (fun r19 u17 H locs hw18 => ?_)
      clear hP hS
      intro hP hS
      replace hw18 : r19 = if (1 : Int64).toInt ≤ n.toInt64.toInt ∧ n.toInt64.toInt ≤ (1000000 : Int64).toInt then 1 else 0 := hw18
      refine lv_if_ne (tgt := 41) hx hb dX11_lot_33 (by decide) (fun c20 => ?_) (fun c20 => ?_)
      · skip
        have f21 := bo_t hw18 c20
        refine lv_aload_n hx hb dX11_lot_41 rfl (lv_at hl 0 rfl) ?_
        refine lv_iload_n hx hb dX11_lot_42 rfl (lv_at hl 1 rfl) ?_
        refine lv_iload_n hx hb dX11_lot_43 rfl (lv_at hl 2 rfl) ?_
        refine st_l1 (va_runV (C := RX11) (As := [.int a, .int d]) (rest := []) ⟨hx, hb, hml, hown, hts⟩ (ct_X11_lotOf l D cI cY cJ cQ _ md sd 0 mst hn cn pn mq gn mln mnn ln mlt msz mcu mtk mfr mti mfa mfb an un lc td mtn a d) (cwV 2 hts gX11_lot_X11_lotOf rfl rfl rfl ⟨rfl, cdX11_lotOf⟩ ⟨Nat.le_of_ble_eq_true rfl, Nat.le_of_ble_eq_true rfl⟩) (cPreV (hP.sub [0] rfl) hK (hD.sub [0] (by decide +kernel) rfl) hN (ci := 11) (q0 := 0) rfl rfl) rfl rfl hl.1 rfl (lv_room (Nat.le_of_ble_eq_true rfl)) dX11_lot_44 ⟨Nat.le_of_ble_eq_true rfl, Nat.le_of_ble_eq_true rfl⟩) hP hD hS hA [0] rfl (fun _ => rfl) (fun r24 u22 H locs hw23 => ?_)
        clear hP hS
        intro hP hS
        replace hw23 : r24 = an_lot sd a d := hw23
        refine lv_iload_n hx hb dX11_lot_47 rfl (lv_at hl 3 rfl) ?_
        refine lv_i2l hx hb dX11_lot_48 rfl ?_
        have w25 := i_w n
        have w26 := i_rng n
        refine lv_lrem hx hb dX11_lot_49 (fun h => by have := congrArg Int64.toInt h; rw [i_w] at this; have h0 : (0 : Int64).toInt = 0 := rfl; omega) ?_
        refine lv_topl (fun z27 ez27 => ?_)
        refine lv_l2i hx hb dX11_lot_50 rfl ?_
        refine lv_topi (fun v28 ev28 => ?_)
        have hP9 := hP
        have hD9 := hD
        exact W.iret (v := v28) hx hb hr (fun t ht hW => ⟨⟨v28, (), rfl, (by unfold an_lotn; rw [if_pos (by omega)]; subst_vars; rfl), by rw [ht]; exact hP9, va_K.moved hW.alike hK, hD9⟩, hS.F ht⟩) hS.2.2 dX11_lot_51
      · skip
        have f29 := bo_f hw18 c20
        refine lv_ldc hx hb hown (hts (Cond.constant RX11 157 (-1000001)) (wm_t (wm_l (wm_i 3 rfl)))) dX11_lot_36 ?_
        refine lv_goto (tgt := 51) hx hb dX11_lot_38 (by decide) ?_
        have hP9 := hP
        have hD9 := hD
        exact W.iret (v := (-1000001)) hx hb hr (fun t ht hW => ⟨⟨(-1000001), (), rfl, (by unfold an_lotn; rw [if_neg (by omega)]), by rw [ht]; exact hP9, va_K.moved hW.alike hK, hD9⟩, hS.F ht⟩) hS.2.2 dX11_lot_51


/-- the crate drawn next, as the reference finds it -/
def bdV (ro : Nat → Int32) (lo : Nat → Int64) (set : Int32) : Nat → Int32
  | 0 => -1000000
  | n + 1 => if ¬ (ro n).toInt = -1000000 ∧ bt set n = false ∧ ((bdV ro lo set n).toInt = -1000000 ∨ (lo n).toInt < (lo (bdV ro lo set n).toNatClampNeg).toInt) then nI n else bdV ro lo set n
theorem bdV_s (ro : Nat → Int32) (lo : Nat → Int64) (set : Int32) (n : Nat) : bdV ro lo set (n + 1) = if ¬ (ro n).toInt = -1000000 ∧ bt set n = false ∧ ((bdV ro lo set n).toInt = -1000000 ∨ (lo n).toInt < (lo (bdV ro lo set n).toNatClampNeg).toInt) then nI n else bdV ro lo set n := rfl
/-- the crates drawn, one after the other -/
def dmV (ro : Nat → Int32) (lo : Nat → Int64) (cn : Nat) : Nat → Int32
  | 0 => 0
  | n + 1 => dmV ro lo cn n ||| (if (bdV ro lo (dmV ro lo cn n) cn).toInt = -1000000 then 0 else (1 : Int32) <<< (bdV ro lo (dmV ro lo cn n) cn &&& 31))
theorem dmV_s (ro : Nat → Int32) (lo : Nat → Int64) (cn n : Nat) : dmV ro lo cn (n + 1) = dmV ro lo cn n ||| (if (bdV ro lo (dmV ro lo cn n) cn).toInt = -1000000 then 0 else (1 : Int32) <<< (bdV ro lo (dmV ro lo cn n) cn &&& 31)) := rfl
def sm_drawn (sd cn : Int32) (ro : Nat → Int32) (d n : Int32) : Int32 := if 0 ≤ d.toInt ∧ d.toInt < 10000 ∧ 0 ≤ n.toInt ∧ n.toInt ≤ 12 then dmV ro (lotF sd d) cn.toNatClampNeg n.toNatClampNeg else -1000001
def omV (sd : Int32) (ro : Nat → Int32) (cn : Nat) (k n : Int32) (A : Nat) : Nat → Int32
  | 0 => 0
  | j + 1 => omV sd ro cn k n A j + ((dmV ro (lotF sd (nI (A + j))) cn n.toNatClampNeg >>> (k &&& 31)) &&& 1)
theorem omV_s (sd : Int32) (ro : Nat → Int32) (cn : Nat) (k n : Int32) (A j : Nat) : omV sd ro cn k n A (j + 1) = omV sd ro cn k n A j + ((dmV ro (lotF sd (nI (A + j))) cn n.toNatClampNeg >>> (k &&& 31)) &&& 1) := rfl
def sm_often (sd cn : Int32) (ro : Nat → Int32) (k a b n : Int32) : Int32 := if 0 ≤ k.toInt ∧ k.toInt < cn.toInt ∧ 0 ≤ a.toInt ∧ b.toInt < 10000 ∧ a.toInt ≤ b.toInt ∧ b.toInt - a.toInt < 400 ∧ 0 ≤ n.toInt ∧ n.toInt ≤ 12 then omV sd ro cn.toNatClampNeg k n a.toNatClampNeg (b.toNatClampNeg - a.toNatClampNeg + 1) else -1000001

set_option maxHeartbeats 4000000 in
set_option maxRecDepth 100000 in
theorem ct_X11_drawnOn (l : Launch) (D : va_G) (cI cY cJ cQ : ClassId) (sz : Nat) (md : Nat → Nat) (sd : Int32) (mth mst hn cn pn mq gn mln mnn ln mlt msz mcu mtk mfr mti mfa mfb an un lc td mtn : Int32) (ro : Nat → Int32) (d : Int32) (n : Int32)  (h1 : 0 ≤ cn.toInt) (h2 : cn.toInt ≤ 12) (h3 : 0 ≤ n.toInt) (h4 : n.toInt ≤ 12)  : Met l yX11_drawnOn wsX11_drawnOn ({ frames := 1, cells := 0, slots := 0, locals := 24 }) (cPre D (ty4 cI cY cJ cQ) [(moC md sd mth mst hn cn pn mq gn mln mnn ln mlt msz mcu mtk mfr mti mfa mfb an un lc td mtn), (aI cI (md 51) 12 ro)] sz [.ref (md 64), .int d, .int n]) (va_Qi (fun (r : Int32) (u : Unit) => r = dmV ro (lotF sd d) cn.toNatClampNeg n.toNatClampNeg) (cB D (ty4 cI cY cJ cQ) (fun (u : Unit) => [(moC md sd mth mst hn cn pn mq gn mln mnn ln mlt msz mcu mtk mfr mti mfa mfb an un lc td mtn), (aI cI (md 51) 12 ro)]) (va_A [(moC md sd mth mst hn cn pn mq gn mln mnn ln mlt msz mcu mtk mfr mti mfa mfb an un lc td mtn), (aI cI (md 51) 12 ro)] sz)) (va_A [(moC md sd mth mst hn cn pn mq gn mln mnn ln mlt msz mcu mtk mfr mti mfa mfb an un lc td mtn), (aI cI (md 51) 12 ro)] sz)) 0 0 (va_A [(moC md sd mth mst hn cn pn mq gn mln mnn ln mlt msz mcu mtk mfr mti mfa mfb an un lc td mtn), (aI cI (md 51) 12 ro)] sz) := by
  refine Met.ofW (cc := cX11_drawnOn) (maxL := 8) (ret := (some .int)) (by decide) rfl ?_
  intro p e s m args below meth c s₁ B hml hv
  obtain ⟨rfl, hsz, hP, hK, hD0, hN⟩ := hv
  have hx := B.exec
  have hb := B.bytes
  have hr := B.returns
  have hts := atoms_spec (ws := wsX11_drawnOn) B.pre
  have hown : s.vm.findClass RX11 = some m.cls := findClass_of_methodNamed B.named
  have hlocks := B.notSynchronized
  subst hsz
  have hD := hD0.self (sz := s.heap.size)
  generalize hAe : va_A [(moC md sd mth mst hn cn pn mq gn mln mnn ln mlt msz mcu mtk mfr mti mfa mfb an un lc td mtn), (aI cI (md 51) 12 ro)] s.heap.size = A at hD ⊢
  have hA : ∀ q : Nat, s.heap.size ≤ q → A q := fun q h => by rw [← hAe]; exact Or.inr h
  have hS : va_S A s.heap s.heap [] := va_S.rf
  have hP : va_P D vwCl [(moC md sd mth mst hn cn pn mq gn mln mnn ln mlt msz mcu mtk mfr mti mfa mfb an un lc td mtn), (aI cI (md 51) 12 ro)] s.heap := hP
  have hl := lv_entry ([.ref (md 64), .int d, .int n]) (n := 8) (Nat.le_of_ble_eq_true rfl)
  rw [lg_entry_eq]
  generalize (lg_sl ([.ref (md 64), .int d, .int n]) ++ List.replicate (8 - (lg_sl ([.ref (md 64), .int d, .int n])).length) Slot.unset).toArray = ls at hl ⊢
  have hl : lv_has ls 8 [(0, .ref (md 64)), (1, .int d), (2, .int n)] := hl
  have km1000000 : (-1000000 : Int32).toInt = -1000000 := by decide
  have k0 : (0 : Int32).toInt = 0 := by decide
  have k1 : (1 : Int32).toInt = 1 := by decide
  generalize hLF : lotF sd d = LF
  refine lv_iconst (v := 0) hx hb dX11_drawnOn_0 (by decide) ?_
  refine lv_istore_n (lv' := [(3, .int 0), (0, .ref (md 64)), (1, .int d), (2, .int n)]) hx hb dX11_drawnOn_1 rfl hl (by decide) rfl (fun ls hl => ?_)
  refine lv_iconst (v := 0) hx hb dX11_drawnOn_2 (by decide) ?_
  refine lv_istore (lv' := [(4, .int 0), (3, .int 0), (0, .ref (md 64)), (1, .int d), (2, .int n)]) hx hb dX11_drawnOn_3 hl (by decide) rfl (fun ls hl => ?_)
  refine st_loop 5 (fun _ => []) (fun (z : Int32 × Int32) (ls : Array Slot) (H : Heap) (locs : List Loc) => match z with | (q5_3, q5_4) => (0 ≤ q5_4.toInt) ∧ (q5_4.toInt ≤ n.toInt) ∧ (q5_3 = dmV ro LF cn.toNatClampNeg q5_4.toNatClampNeg) ∧ lv_has ls 8 [(0, .ref (md 64)), (1, .int d), (2, .int n), (3, .int q5_3), (4, .int q5_4)] ∧ va_P D vwCl [(moC md sd mth mst hn cn pn mq gn mln mnn ln mlt msz mcu mtk mfr mti mfa mfb an un lc td mtn), (aI cI (md 51) 12 ro)] H ∧ va_D A [(moC md sd mth mst hn cn pn mq gn mln mnn ln mlt msz mcu mtk mfr mti mfa mfb an un lc td mtn), (aI cI (md 51) 12 ro)] ∧ va_S A s.heap H locs) (fun (z : Int32 × Int32) => match z with | (q5_3, q5_4) => n.toInt - q5_4.toInt) ?_ ?_ ((0 : Int32), (0 : Int32)) ⟨(by omega), (by omega), (by rfl), lv_sub hl [2, 3, 4, 1, 0] rfl, hP, hD, hS⟩
  · rintro ⟨q5_3, q5_4⟩ ls H locs ⟨g1, g2, g3, hl, hP, hD, hS⟩
    show (0 : Int) ≤ n.toInt - q5_4.toInt
    omega
  · rintro n6 ih4 ⟨q5_3, q5_4⟩ ls H locs ⟨g1, g2, g3, hl, hP, hD, hS⟩ hm5
    have hm5 : n.toInt - q5_4.toInt < (n6 : Int) + 1 := hm5
    replace hl : lv_has ls 8 [(0, .ref (md 64)), (1, .int d), (2, .int n), (3, .int q5_3), (4, .int q5_4)] := hl
    replace hP : va_P D vwCl [(moC md sd mth mst hn cn pn mq gn mln mnn ln mlt msz mcu mtk mfr mti mfa mfb an un lc td mtn), (aI cI (md 51) 12 ro)] H := hP
    replace hD : va_D A [(moC md sd mth mst hn cn pn mq gn mln mnn ln mlt msz mcu mtk mfr mti mfa mfb an un lc td mtn), (aI cI (md 51) 12 ro)] := hD
    show W _ _ _ _ _ _ _ _ _ _ _ _ _ _ _ (F0 m 5 ls [])
    refine lv_iload hx hb dX11_drawnOn_5 (lv_at hl 4 rfl) ?_
    refine lv_iload_n hx hb dX11_drawnOn_7 rfl (lv_at hl 2 rfl) ?_
    refine lv_icmp_ge (tgt := 124) hx hb dX11_drawnOn_8 (by decide) (fun c7 => ?_) (fun c7 => ?_)
    · skip
      have f8 := i_le c7
      refine lv_iload_n hx hb dX11_drawnOn_124 rfl (lv_at hl 3 rfl) ?_
      have ce8 := i_cl (x := q5_4) (by omega)
      have ce9 := i_cl (x := n) (by omega)
      have ee9 : q5_4.toNatClampNeg = n.toNatClampNeg := by omega
      have hz9 := g3
      rw [ee9] at hz9
      have hP9 := hP
      have hD9 := hD
      exact W.iret (v := q5_3) hx hb hr (fun t ht hW => ⟨⟨q5_3, (), rfl, hz9, by rw [ht]; exact hP9, va_K.moved hW.alike hK, hD9⟩, hS.F ht⟩) hS.2.2 dX11_drawnOn_125
    · skip
      have f9 := i_nle c7
      refine lv_ldc hx hb hown (hts (Cond.constant RX11 139 (-1000000)) (wm_t (wm_l (wm_i 0 rfl)))) dX11_drawnOn_11 ?_
      refine lv_istore (lv' := [(5, .int (-1000000)), (0, .ref (md 64)), (1, .int d), (2, .int n), (3, .int q5_3), (4, .int q5_4)]) hx hb dX11_drawnOn_13 hl (by decide) rfl (fun ls hl => ?_)
      refine lv_iconst (v := 0) hx hb dX11_drawnOn_15 (by decide) ?_
      refine lv_istore (lv' := [(6, .int 0), (5, .int (-1000000)), (0, .ref (md 64)), (1, .int d), (2, .int n), (3, .int q5_3), (4, .int q5_4)]) hx hb dX11_drawnOn_16 hl (by decide) rfl (fun ls hl => ?_)
      refine st_loop 18 (fun _ => []) (fun (z : Int32 × Int32) (ls : Array Slot) (H : Heap) (locs : List Loc) => match z with | (q18_5, q18_6) => (0 ≤ q18_6.toInt) ∧ (q18_6.toInt ≤ cn.toInt) ∧ (q18_5.toInt = -1000000 ∨ (0 ≤ q18_5.toInt ∧ q18_5.toInt < cn.toInt)) ∧ (q18_5 = bdV ro LF q5_3 q18_6.toNatClampNeg) ∧ lv_has ls 8 [(0, .ref (md 64)), (1, .int d), (2, .int n), (3, .int q5_3), (4, .int q5_4), (5, .int q18_5), (6, .int q18_6)] ∧ va_P D vwCl [(moC md sd mth mst hn cn pn mq gn mln mnn ln mlt msz mcu mtk mfr mti mfa mfb an un lc td mtn), (aI cI (md 51) 12 ro)] H ∧ va_D A [(moC md sd mth mst hn cn pn mq gn mln mnn ln mlt msz mcu mtk mfr mti mfa mfb an un lc td mtn), (aI cI (md 51) 12 ro)] ∧ va_S A s.heap H locs) (fun (z : Int32 × Int32) => match z with | (q18_5, q18_6) => cn.toInt - q18_6.toInt) ?_ ?_ (((-1000000) : Int32), (0 : Int32)) ⟨(by omega), (by omega), (by omega), (by rfl), lv_sub hl [2, 3, 4, 5, 6, 1, 0] rfl, hP, hD, hS⟩
      · rintro ⟨q18_5, q18_6⟩ ls H locs ⟨g10, g11, g12, g13, hl, hP, hD, hS⟩
        show (0 : Int) ≤ cn.toInt - q18_6.toInt
        omega
      · rintro n16 ih14 ⟨q18_5, q18_6⟩ ls H locs ⟨g10, g11, g12, g13, hl, hP, hD, hS⟩ hm15
        have hm15 : cn.toInt - q18_6.toInt < (n16 : Int) + 1 := hm15
        replace hl : lv_has ls 8 [(0, .ref (md 64)), (1, .int d), (2, .int n), (3, .int q5_3), (4, .int q5_4), (5, .int q18_5), (6, .int q18_6)] := hl
        replace hP : va_P D vwCl [(moC md sd mth mst hn cn pn mq gn mln mnn ln mlt msz mcu mtk mfr mti mfa mfb an un lc td mtn), (aI cI (md 51) 12 ro)] H := hP
        replace hD : va_D A [(moC md sd mth mst hn cn pn mq gn mln mnn ln mlt msz mcu mtk mfr mti mfa mfb an un lc td mtn), (aI cI (md 51) 12 ro)] := hD
        show W _ _ _ _ _ _ _ _ _ _ _ _ _ _ _ (F0 m 18 ls [])
        refine lv_iload hx hb dX11_drawnOn_18 (lv_at hl 6 rfl) ?_
        refine lv_aload_n hx hb dX11_drawnOn_20 rfl (lv_at hl 0 rfl) ?_
        refine va_get (D := D) (ci := 11) (v := .int cn) (C := RX11) (T := TX11) (N := 64) hx hb hts inX11_drawnOn_X11 hown hK hP 0 rfl rfl 15 (by decide) (hts (Cond.fieldLink RX11 214 "PortRoomsModel" "crates" "I") (wm_t (wm_l (wm_i 1 rfl)))) (fun _ h9 => h9) rfl dX11_drawnOn_21 ?_
        refine lv_icmp_ge (tgt := 100) hx hb dX11_drawnOn_24 (by decide) (fun c17 => ?_) (fun c17 => ?_)
        · skip
          have f18 := i_le c17
          refine lv_iload_n hx hb dX11_drawnOn_100 rfl (lv_at hl 3 rfl) ?_
          refine lv_iload hx hb dX11_drawnOn_101 (lv_at hl 5 rfl) ?_
          refine lv_ldc hx hb hown (hts (Cond.constant RX11 139 (-1000000)) (wm_t (wm_l (wm_i 0 rfl)))) dX11_drawnOn_103 ?_
          refine lv_icmp_ne (tgt := 112) hx hb dX11_drawnOn_105 (by decide) (fun c19 => ?_) (fun c19 => ?_)
          · skip
            have f20 := i_ne c19
            refine lv_iconst (v := 1) hx hb dX11_drawnOn_112 (by decide) ?_
            refine lv_iload hx hb dX11_drawnOn_113 (lv_at hl 5 rfl) ?_
            refine lv_ishl hx hb dX11_drawnOn_115 ?_
            refine lv_topi (fun v21 ev21 => ?_)
            refine lv_ior hx hb dX11_drawnOn_116 ?_
            refine lv_topi (fun v22 ev22 => ?_)
            refine lv_istore_n (lv' := [(3, .int v22), (0, .ref (md 64)), (1, .int d), (2, .int n), (4, .int q5_4), (5, .int q18_5), (6, .int q18_6)]) hx hb dX11_drawnOn_117 rfl hl (by decide) rfl (fun ls hl => ?_)
            obtain ⟨v23, ev23⟩ : ∃ y : Int32, y = q5_4 + 1 := ⟨_, rfl⟩
            try have tv23 : v23.toInt = q5_4.toInt + 1 := by rw [ev23]; exact (i_add (x := q5_4) (y := (1 : Int32)) (by rw [k1]; omega) (by rw [k1]; omega)).trans (by rw [k1])
            refine lv_iinc (v := v23) (lv' := [(4, .int v23), (3, .int v22), (0, .ref (md 64)), (1, .int d), (2, .int n), (5, .int q18_5), (6, .int q18_6)]) hx hb dX11_drawnOn_118 hl (k := 4) rfl (by rw [ev23]; rfl) (by decide) rfl (fun ls hl => ?_)
            refine lv_goto (tgt := 5) hx hb dX11_drawnOn_121 (by decide) ?_
            have ce8 := i_cl (x := q18_6) (by omega)
            have ce9 := i_cl (x := cn) (by omega)
            have ee9 : q18_6.toNatClampNeg = cn.toNatClampNeg := by omega
            have hz9 := g13
            rw [ee9] at hz9
            have clj8 := i_cl (x := q5_4) (by omega)
            have clj9 := i_cl (x := v23) (by omega)
            have ej9 : v23.toNatClampNeg = q5_4.toNatClampNeg + 1 := by omega
            exact ih4 (v22, v23) ls H locs ⟨(by omega), (by omega), (by rw [ej9, dmV_s, ← g3, ← hz9]; first | (rw [if_pos (by omega)]; exact ev22) | (rw [if_neg (by omega), ← ev21]; exact ev22)), lv_sub hl [2, 3, 4, 1, 0] rfl, hP.sub [0, 1] rfl, hD.sub [0, 1] (by decide +kernel) rfl, hS⟩ (by show n.toInt - v23.toInt < _; omega)
          · skip
            have f24 := i_eq c19
            refine lv_iconst (v := 0) hx hb dX11_drawnOn_108 (by decide) ?_
            refine lv_goto (tgt := 116) hx hb dX11_drawnOn_109 (by decide) ?_
            refine lv_ior hx hb dX11_drawnOn_116 ?_
            refine lv_topi (fun v25 ev25 => ?_)
            refine lv_istore_n (lv' := [(3, .int v25), (0, .ref (md 64)), (1, .int d), (2, .int n), (4, .int q5_4), (5, .int q18_5), (6, .int q18_6)]) hx hb dX11_drawnOn_117 rfl hl (by decide) rfl (fun ls hl => ?_)
            obtain ⟨v26, ev26⟩ : ∃ y : Int32, y = q5_4 + 1 := ⟨_, rfl⟩
            try have tv26 : v26.toInt = q5_4.toInt + 1 := by rw [ev26]; exact (i_add (x := q5_4) (y := (1 : Int32)) (by rw [k1]; omega) (by rw [k1]; omega)).trans (by rw [k1])
            refine lv_iinc (v := v26) (lv' := [(4, .int v26), (3, .int v25), (0, .ref (md 64)), (1, .int d), (2, .int n), (5, .int q18_5), (6, .int q18_6)]) hx hb dX11_drawnOn_118 hl (k := 4) rfl (by rw [ev26]; rfl) (by decide) rfl (fun ls hl => ?_)
            refine lv_goto (tgt := 5) hx hb dX11_drawnOn_121 (by decide) ?_
            have ce8 := i_cl (x := q18_6) (by omega)
            have ce9 := i_cl (x := cn) (by omega)
            have ee9 : q18_6.toNatClampNeg = cn.toNatClampNeg := by omega
            have hz9 := g13
            rw [ee9] at hz9
            have clj8 := i_cl (x := q5_4) (by omega)
            have clj9 := i_cl (x := v26) (by omega)
            have ej9 : v26.toNatClampNeg = q5_4.toNatClampNeg + 1 := by omega
            exact ih4 (v25, v26) ls H locs ⟨(by omega), (by omega), (by rw [ej9, dmV_s, ← g3, ← hz9]; first | (rw [if_pos (by omega)]; exact ev25) | (rw [if_neg (by omega), ← ev21]; exact ev25)), lv_sub hl [2, 3, 4, 1, 0] rfl, hP.sub [0, 1] rfl, hD.sub [0, 1] (by decide +kernel) rfl, hS⟩ (by show n.toInt - v26.toInt < _; omega)
        · skip
          have f27 := i_nle c17
          refine lv_aload_n hx hb dX11_drawnOn_27 rfl (lv_at hl 0 rfl) ?_
          refine va_get (D := D) (ci := 11) (v := .ref (md 51)) (C := RX11) (T := TX11) (N := 64) hx hb hts inX11_drawnOn_X11 hown hK hP 0 rfl rfl 51 (by decide) (hts (Cond.fieldLink RX11 108 "PortRoomsModel" "where" "[I") (wm_t (wm_l (wm_i 2 rfl)))) (fun _ h9 => h9) rfl dX11_drawnOn_28 ?_
          refine lv_iload hx hb dX11_drawnOn_31 (lv_at hl 6 rfl) ?_
          refine va_iald hx hb hK hP 1 0 rfl rfl (i_in (by omega) (by omega)) dX11_drawnOn_33 ?_
          refine lv_topi (fun v28 ev28 => ?_)
          have tlv28 : v28.toInt = (ro q18_6.toNatClampNeg).toInt := by rw [ev28]
          refine lv_ldc hx hb hown (hts (Cond.constant RX11 139 (-1000000)) (wm_t (wm_l (wm_i 0 rfl)))) dX11_drawnOn_34 ?_
          refine lv_icmp_eq (tgt := 52) hx hb dX11_drawnOn_36 (by decide) (fun c29 => ?_) (fun c29 => ?_)
          · skip
            have f30 := i_eq c29
            refine lv_iconst (v := 0) hx hb dX11_drawnOn_52 (by decide) ?_
            refine lv_istore (lv' := [(7, .int 0), (0, .ref (md 64)), (1, .int d), (2, .int n), (3, .int q5_3), (4, .int q5_4), (5, .int q18_5), (6, .int q18_6)]) hx hb dX11_drawnOn_53 hl (by decide) rfl (fun ls hl => ?_)
            refine lv_iload hx hb dX11_drawnOn_55 (lv_at hl 0 rfl) ?_
            refine lv_if_eq (tgt := 90) hx hb dX11_drawnOn_57 (by decide) (fun _ => ?_) (fun c => absurd (by decide) c)
            refine lv_iload hx hb dX11_drawnOn_90 (lv_at hl 6 rfl) ?_
            refine lv_istore (lv' := [(5, .int q18_5), (7, .int 0), (0, .ref (md 64)), (1, .int d), (2, .int n), (3, .int q5_3), (4, .int q5_4), (6, .int q18_6)]) hx hb dX11_drawnOn_92 hl (by decide) rfl (fun ls hl => ?_)
            obtain ⟨v31, ev31⟩ : ∃ y : Int32, y = q18_6 + 1 := ⟨_, rfl⟩
            try have tv31 : v31.toInt = q18_6.toInt + 1 := by rw [ev31]; exact (i_add (x := q18_6) (y := (1 : Int32)) (by rw [k1]; omega) (by rw [k1]; omega)).trans (by rw [k1])
            refine lv_iinc (v := v31) (lv' := [(6, .int v31), (5, .int q18_5), (7, .int 0), (0, .ref (md 64)), (1, .int d), (2, .int n), (3, .int q5_3), (4, .int q5_4)]) hx hb dX11_drawnOn_94 hl (k := 7) rfl (by rw [ev31]; rfl) (by decide) rfl (fun ls hl => ?_)
            refine lv_goto (tgt := 18) hx hb dX11_drawnOn_97 (by decide) ?_
            have clk8 := i_cl (x := q18_6) (by omega)
            have clk9 := i_cl (x := v31) (by omega)
            have ek9 : v31.toNatClampNeg = q18_6.toNatClampNeg + 1 := by omega
            have nk9 : nI q18_6.toNatClampNeg = q18_6 := i_nI (by omega)
            exact ih14 (q18_5, v31) ls H locs ⟨(by omega), (by omega), (by omega), (by rw [ek9, bdV_s, nk9, ← g13]; first | (rw [if_pos ⟨by omega, by assumption, by omega⟩]) | (rw [if_neg (fun z9 => by have z8 := z9.1; omega)]) | (rw [if_neg (fun z9 => hbt9 z9.2.1)]) | (rw [if_neg (fun z9 => by have z8 := z9.2.2; omega)])), lv_sub hl [3, 4, 5, 6, 7, 1, 0] rfl, hP.sub [0, 1] rfl, hD.sub [0, 1] (by decide +kernel) rfl, hS⟩ (by show cn.toInt - v31.toInt < _; omega)
          · skip
            have f32 := i_ne c29
            refine lv_iload_n hx hb dX11_drawnOn_39 rfl (lv_at hl 3 rfl) ?_
            refine lv_iload hx hb dX11_drawnOn_40 (lv_at hl 6 rfl) ?_
            refine lv_ishr hx hb dX11_drawnOn_42 ?_
            refine lv_topi (fun v33 ev33 => ?_)
            refine lv_iconst (v := 1) hx hb dX11_drawnOn_43 (by decide) ?_
            refine lv_iand hx hb dX11_drawnOn_44 ?_
            refine lv_topi (fun v34 ev34 => ?_)
            refine lv_if_ne (tgt := 52) hx hb dX11_drawnOn_45 (by decide) (fun c35 => ?_) (fun c35 => ?_)
            · skip
              have f36 := i_ne c35
              have hbt9 : ¬ bt q5_3 q18_6.toNatClampNeg = false := fun h9 => by have z0 := (bt_bit (x := q5_3) (c := q18_6) (by omega) (by omega)).mpr h9; rw [← ev33, ← ev34] at z0; rw [z0] at f36; exact f36 rfl
              refine lv_iconst (v := 0) hx hb dX11_drawnOn_52 (by decide) ?_
              refine lv_istore (lv' := [(7, .int 0), (0, .ref (md 64)), (1, .int d), (2, .int n), (3, .int q5_3), (4, .int q5_4), (5, .int q18_5), (6, .int q18_6)]) hx hb dX11_drawnOn_53 hl (by decide) rfl (fun ls hl => ?_)
              refine lv_iload hx hb dX11_drawnOn_55 (lv_at hl 0 rfl) ?_
              refine lv_if_eq (tgt := 90) hx hb dX11_drawnOn_57 (by decide) (fun _ => ?_) (fun c => absurd (by decide) c)
              refine lv_iload hx hb dX11_drawnOn_90 (lv_at hl 6 rfl) ?_
              refine lv_istore (lv' := [(5, .int q18_5), (7, .int 0), (0, .ref (md 64)), (1, .int d), (2, .int n), (3, .int q5_3), (4, .int q5_4), (6, .int q18_6)]) hx hb dX11_drawnOn_92 hl (by decide) rfl (fun ls hl => ?_)
              obtain ⟨v37, ev37⟩ : ∃ y : Int32, y = q18_6 + 1 := ⟨_, rfl⟩
              try have tv37 : v37.toInt = q18_6.toInt + 1 := by rw [ev37]; exact (i_add (x := q18_6) (y := (1 : Int32)) (by rw [k1]; omega) (by rw [k1]; omega)).trans (by rw [k1])
              refine lv_iinc (v := v37) (lv' := [(6, .int v37), (5, .int q18_5), (7, .int 0), (0, .ref (md 64)), (1, .int d), (2, .int n), (3, .int q5_3), (4, .int q5_4)]) hx hb dX11_drawnOn_94 hl (k := 7) rfl (by rw [ev37]; rfl) (by decide) rfl (fun ls hl => ?_)
              refine lv_goto (tgt := 18) hx hb dX11_drawnOn_97 (by decide) ?_
              have clk8 := i_cl (x := q18_6) (by omega)
              have clk9 := i_cl (x := v37) (by omega)
              have ek9 : v37.toNatClampNeg = q18_6.toNatClampNeg + 1 := by omega
              have nk9 : nI q18_6.toNatClampNeg = q18_6 := i_nI (by omega)
              exact ih14 (q18_5, v37) ls H locs ⟨(by omega), (by omega), (by omega), (by rw [ek9, bdV_s, nk9, ← g13]; first | (rw [if_pos ⟨by omega, by assumption, by omega⟩]) | (rw [if_neg (fun z9 => by have z8 := z9.1; omega)]) | (rw [if_neg (fun z9 => hbt9 z9.2.1)]) | (rw [if_neg (fun z9 => by have z8 := z9.2.2; omega)])), lv_sub hl [3, 4, 5, 6, 7, 1, 0] rfl, hP.sub [0, 1] rfl, hD.sub [0, 1] (by decide +kernel) rfl, hS⟩ (by show cn.toInt - v37.toInt < _; omega)
            · skip
              have f38 := i_eq c35
              have hb9 : bt q5_3 q18_6.toNatClampNeg = false := (bt_bit (x := q5_3) (c := q18_6) (by omega) (by omega)).mp (by rw [← ev33, ← ev34]; exact i_of (by assumption))
              refine lv_iconst (v := 1) hx hb dX11_drawnOn_48 (by decide) ?_
              refine lv_goto (tgt := 53) hx hb dX11_drawnOn_49 (by decide) ?_
              refine lv_istore (lv' := [(7, .int 1), (0, .ref (md 64)), (1, .int d), (2, .int n), (3, .int q5_3), (4, .int q5_4), (5, .int q18_5), (6, .int q18_6)]) hx hb dX11_drawnOn_53 hl (by decide) rfl (fun ls hl => ?_)
              refine lv_iload hx hb dX11_drawnOn_55 (lv_at hl 0 rfl) ?_
              refine lv_if_eq (tgt := 90) hx hb dX11_drawnOn_57 (by decide) (fun c => absurd c (by decide)) (fun _ => ?_)
              refine lv_iload hx hb dX11_drawnOn_60 (lv_at hl 6 rfl) ?_
              refine lv_ldc hx hb hown (hts (Cond.constant RX11 139 (-1000000)) (wm_t (wm_l (wm_i 0 rfl)))) dX11_drawnOn_62 ?_
              refine lv_icmp_eq (tgt := 85) hx hb dX11_drawnOn_64 (by decide) (fun c39 => ?_) (fun c39 => ?_)
              · skip
                have f40 := i_eq c39
                refine lv_iload hx hb dX11_drawnOn_85 (lv_at hl 7 rfl) ?_
                refine lv_goto (tgt := 92) hx hb dX11_drawnOn_87 (by decide) ?_
                refine lv_istore (lv' := [(5, .int q18_6), (7, .int 1), (0, .ref (md 64)), (1, .int d), (2, .int n), (3, .int q5_3), (4, .int q5_4), (6, .int q18_6)]) hx hb dX11_drawnOn_92 hl (by decide) rfl (fun ls hl => ?_)
                obtain ⟨v41, ev41⟩ : ∃ y : Int32, y = q18_6 + 1 := ⟨_, rfl⟩
                try have tv41 : v41.toInt = q18_6.toInt + 1 := by rw [ev41]; exact (i_add (x := q18_6) (y := (1 : Int32)) (by rw [k1]; omega) (by rw [k1]; omega)).trans (by rw [k1])
                refine lv_iinc (v := v41) (lv' := [(6, .int v41), (5, .int q18_6), (7, .int 1), (0, .ref (md 64)), (1, .int d), (2, .int n), (3, .int q5_3), (4, .int q5_4)]) hx hb dX11_drawnOn_94 hl (k := 7) rfl (by rw [ev41]; rfl) (by decide) rfl (fun ls hl => ?_)
                refine lv_goto (tgt := 18) hx hb dX11_drawnOn_97 (by decide) ?_
                have clk8 := i_cl (x := q18_6) (by omega)
                have clk9 := i_cl (x := v41) (by omega)
                have ek9 : v41.toNatClampNeg = q18_6.toNatClampNeg + 1 := by omega
                have nk9 : nI q18_6.toNatClampNeg = q18_6 := i_nI (by omega)
                exact ih14 (q18_6, v41) ls H locs ⟨(by omega), (by omega), (by omega), (by rw [ek9, bdV_s, nk9, ← g13]; first | (rw [if_pos ⟨by omega, by assumption, by omega⟩]) | (rw [if_neg (fun z9 => by have z8 := z9.1; omega)]) | (rw [if_neg (fun z9 => hbt9 z9.2.1)]) | (rw [if_neg (fun z9 => by have z8 := z9.2.2; omega)])), lv_sub hl [3, 4, 5, 6, 7, 1, 0] rfl, hP.sub [0, 1] rfl, hD.sub [0, 1] (by decide +kernel) rfl, hS⟩ (by show cn.toInt - v41.toInt < _; omega)
              · skip
                have f42 := i_ne c39
                refine lv_aload_n hx hb dX11_drawnOn_67 rfl (lv_at hl 1 rfl) ?_
                refine lv_iload hx hb dX11_drawnOn_68 (lv_at hl 7 rfl) ?_
                refine lv_iload_n hx hb dX11_drawnOn_70 rfl (lv_at hl 2 rfl) ?_
                refine st_l1 (va_runV (C := RX11) (As := [.int q18_6, .int d]) (rest := []) ⟨hx, hb, hml, hown, hts⟩ (ct_X11_lotOf l D cI cY cJ cQ _ md sd mth mst hn cn pn mq gn mln mnn ln mlt msz mcu mtk mfr mti mfa mfb an un lc td mtn q18_6 d) (cwV 2 hts gX11_drawnOn_X11_lotOf rfl rfl rfl ⟨rfl, cdX11_lotOf⟩ ⟨Nat.le_of_ble_eq_true rfl, Nat.le_of_ble_eq_true rfl⟩) (cPreV (hP.sub [0] rfl) hK (hD.sub [0] (by decide +kernel) rfl) hN (ci := 11) (q0 := 0) rfl rfl) rfl rfl hl.1 rfl (lv_room (Nat.le_of_ble_eq_true rfl)) dX11_drawnOn_71 ⟨Nat.le_of_ble_eq_true rfl, Nat.le_of_ble_eq_true rfl⟩) hP hD hS hA [0] rfl (fun _ => rfl) (fun r45 u43 H locs hw44 => ?_)
                clear hP hS
                intro hP hS
                replace hw44 : r45 = an_lot sd q18_6 d := hw44
                refine lv_aload_n hx hb dX11_drawnOn_74 rfl (lv_at hl 1 rfl) ?_
                refine lv_iload hx hb dX11_drawnOn_75 (lv_at hl 6 rfl) ?_
                refine lv_iload_n hx hb dX11_drawnOn_77 rfl (lv_at hl 2 rfl) ?_
                refine st_l1 (va_runV (C := RX11) (As := [.int q18_5, .int d]) (rest := [.long r45]) ⟨hx, hb, hml, hown, hts⟩ (ct_X11_lotOf l D cI cY cJ cQ _ md sd mth mst hn cn pn mq gn mln mnn ln mlt msz mcu mtk mfr mti mfa mfb an un lc td mtn q18_5 d) (cwV 2 hts gX11_drawnOn_X11_lotOf rfl rfl rfl ⟨rfl, cdX11_lotOf⟩ ⟨Nat.le_of_ble_eq_true rfl, Nat.le_of_ble_eq_true rfl⟩) (cPreV (hP.sub [0] rfl) hK (hD.sub [0] (by decide +kernel) rfl) hN (ci := 11) (q0 := 0) rfl rfl) rfl rfl hl.1 rfl (lv_room (Nat.le_of_ble_eq_true rfl)) dX11_drawnOn_78 ⟨Nat.le_of_ble_eq_true rfl, Nat.le_of_ble_eq_true rfl⟩) hP hD hS hA [0] rfl (fun _ => rfl) (fun r48 u46 H locs hw47 => ?_)
                clear hP hS
                intro hP hS
                replace hw47 : r48 = an_lot sd q18_5 d := hw47
                refine W.lcmp hx hb dX11_drawnOn_81 ?_
                refine lv_topi (fun v49 ev49 => ?_)
                refine lv_if_ge (tgt := 90) hx hb dX11_drawnOn_82 (by decide) (fun c50 => ?_) (fun c50 => ?_)
                · skip
                  have f51 := lc_ge ev49 c50
                  refine lv_iload hx hb dX11_drawnOn_90 (lv_at hl 6 rfl) ?_
                  refine lv_istore (lv' := [(5, .int q18_5), (7, .int 1), (0, .ref (md 64)), (1, .int d), (2, .int n), (3, .int q5_3), (4, .int q5_4), (6, .int q18_6)]) hx hb dX11_drawnOn_92 hl (by decide) rfl (fun ls hl => ?_)
                  obtain ⟨v52, ev52⟩ : ∃ y : Int32, y = q18_6 + 1 := ⟨_, rfl⟩
                  try have tv52 : v52.toInt = q18_6.toInt + 1 := by rw [ev52]; exact (i_add (x := q18_6) (y := (1 : Int32)) (by rw [k1]; omega) (by rw [k1]; omega)).trans (by rw [k1])
                  refine lv_iinc (v := v52) (lv' := [(6, .int v52), (5, .int q18_5), (7, .int 1), (0, .ref (md 64)), (1, .int d), (2, .int n), (3, .int q5_3), (4, .int q5_4)]) hx hb dX11_drawnOn_94 hl (k := 7) rfl (by rw [ev52]; rfl) (by decide) rfl (fun ls hl => ?_)
                  refine lv_goto (tgt := 18) hx hb dX11_drawnOn_97 (by decide) ?_
                  have clk8 := i_cl (x := q18_6) (by omega)
                  have clk9 := i_cl (x := v52) (by omega)
                  have ek9 : v52.toNatClampNeg = q18_6.toNatClampNeg + 1 := by omega
                  have nk9 : nI q18_6.toNatClampNeg = q18_6 := i_nI (by omega)
                  have hlr45 : (LF q18_6.toNatClampNeg).toInt = r45.toInt := by rw [← hLF, lotF_e, i_nI (by omega), ← hw44]
                  have hlr48 : (LF q18_5.toNatClampNeg).toInt = r48.toInt := by rw [← hLF, lotF_e, i_nI (by omega), ← hw47]
                  exact ih14 (q18_5, v52) ls H locs ⟨(by omega), (by omega), (by omega), (by rw [ek9, bdV_s, nk9, ← g13]; first | (rw [if_pos ⟨by omega, by assumption, by omega⟩]) | (rw [if_neg (fun z9 => by have z8 := z9.1; omega)]) | (rw [if_neg (fun z9 => hbt9 z9.2.1)]) | (rw [if_neg (fun z9 => by have z8 := z9.2.2; omega)])), lv_sub hl [3, 4, 5, 6, 7, 1, 0] rfl, hP.sub [0, 1] rfl, hD.sub [0, 1] (by decide +kernel) rfl, hS⟩ (by show cn.toInt - v52.toInt < _; omega)
                · skip
                  have f53 := lc_geN ev49 c50
                  refine lv_iload hx hb dX11_drawnOn_85 (lv_at hl 7 rfl) ?_
                  refine lv_goto (tgt := 92) hx hb dX11_drawnOn_87 (by decide) ?_
                  refine lv_istore (lv' := [(5, .int q18_6), (7, .int 1), (0, .ref (md 64)), (1, .int d), (2, .int n), (3, .int q5_3), (4, .int q5_4), (6, .int q18_6)]) hx hb dX11_drawnOn_92 hl (by decide) rfl (fun ls hl => ?_)
                  obtain ⟨v54, ev54⟩ : ∃ y : Int32, y = q18_6 + 1 := ⟨_, rfl⟩
                  try have tv54 : v54.toInt = q18_6.toInt + 1 := by rw [ev54]; exact (i_add (x := q18_6) (y := (1 : Int32)) (by rw [k1]; omega) (by rw [k1]; omega)).trans (by rw [k1])
                  refine lv_iinc (v := v54) (lv' := [(6, .int v54), (5, .int q18_6), (7, .int 1), (0, .ref (md 64)), (1, .int d), (2, .int n), (3, .int q5_3), (4, .int q5_4)]) hx hb dX11_drawnOn_94 hl (k := 7) rfl (by rw [ev54]; rfl) (by decide) rfl (fun ls hl => ?_)
                  refine lv_goto (tgt := 18) hx hb dX11_drawnOn_97 (by decide) ?_
                  have clk8 := i_cl (x := q18_6) (by omega)
                  have clk9 := i_cl (x := v54) (by omega)
                  have ek9 : v54.toNatClampNeg = q18_6.toNatClampNeg + 1 := by omega
                  have nk9 : nI q18_6.toNatClampNeg = q18_6 := i_nI (by omega)
                  have hlr45 : (LF q18_6.toNatClampNeg).toInt = r45.toInt := by rw [← hLF, lotF_e, i_nI (by omega), ← hw44]
                  have hlr48 : (LF q18_5.toNatClampNeg).toInt = r48.toInt := by rw [← hLF, lotF_e, i_nI (by omega), ← hw47]
                  exact ih14 (q18_6, v54) ls H locs ⟨(by omega), (by omega), (by omega), (by rw [ek9, bdV_s, nk9, ← g13]; first | (rw [if_pos ⟨by omega, by assumption, by omega⟩]) | (rw [if_neg (fun z9 => by have z8 := z9.1; omega)]) | (rw [if_neg (fun z9 => hbt9 z9.2.1)]) | (rw [if_neg (fun z9 => by have z8 := z9.2.2; omega)])), lv_sub hl [3, 4, 5, 6, 7, 1, 0] rfl, hP.sub [0, 1] rfl, hD.sub [0, 1] (by decide +kernel) rfl, hS⟩ (by show cn.toInt - v54.toInt < _; omega)

set_option maxHeartbeats 4000000 in
set_option maxRecDepth 100000 in
theorem ct_X11_drawn (l : Launch) (D : va_G) (cI cY cJ cQ : ClassId) (sz : Nat) (md : Nat → Nat) (sd : Int32) (mth mst hn cn pn mq gn mln mnn ln mlt msz mcu mtk mfr mti mfa mfb an un lc td mtn : Int32) (ro : Nat → Int32) (d : Int32) (n : Int32)  (h1 : 0 ≤ cn.toInt) (h2 : cn.toInt ≤ 12)  : Met l yX11_drawn wsX11_drawn ({ frames := 2, cells := 0, slots := 0, locals := 51 }) (cPre D (ty4 cI cY cJ cQ) [(moC md sd mth mst hn cn pn mq gn mln mnn ln mlt msz mcu mtk mfr mti mfa mfb an un lc td mtn), (aI cI (md 51) 12 ro)] sz [.ref (md 64), .int d, .int n]) (va_Qi (fun (r : Int32) (u : Unit) => r = sm_drawn sd cn ro d n) (cB D (ty4 cI cY cJ cQ) (fun (u : Unit) => [(moC md sd 0 mst hn cn pn mq gn mln mnn ln mlt msz mcu mtk mfr mti mfa mfb an un lc td mtn), (aI cI (md 51) 12 ro)]) (va_A [(moC md sd mth mst hn cn pn mq gn mln mnn ln mlt msz mcu mtk mfr mti mfa mfb an un lc td mtn), (aI cI (md 51) 12 ro)] sz)) (va_A [(moC md sd mth mst hn cn pn mq gn mln mnn ln mlt msz mcu mtk mfr mti mfa mfb an un lc td mtn), (aI cI (md 51) 12 ro)] sz)) 0 0 (va_A [(moC md sd mth mst hn cn pn mq gn mln mnn ln mlt msz mcu mtk mfr mti mfa mfb an un lc td mtn), (aI cI (md 51) 12 ro)] sz) := by
  refine Met.ofW (cc := cX11_drawn) (maxL := 3) (ret := (some .int)) (by decide) rfl ?_
  intro p e s m args below meth c s₁ B hml hv
  obtain ⟨rfl, hsz, hP, hK, hD0, hN⟩ := hv
  have hx := B.exec
  have hb := B.bytes
  have hr := B.returns
  have hts := atoms_spec (ws := wsX11_drawn) B.pre
  have hown : s.vm.findClass RX11 = some m.cls := findClass_of_methodNamed B.named
  have hlocks := B.notSynchronized
  subst hsz
  have hD := hD0.self (sz := s.heap.size)
  generalize hAe : va_A [(moC md sd mth mst hn cn pn mq gn mln mnn ln mlt msz mcu mtk mfr mti mfa mfb an un lc td mtn), (aI cI (md 51) 12 ro)] s.heap.size = A at hD ⊢
  have hA : ∀ q : Nat, s.heap.size ≤ q → A q := fun q h => by rw [← hAe]; exact Or.inr h
  have hS : va_S A s.heap s.heap [] := va_S.rf
  have hP : va_P D vwCl [(moC md sd mth mst hn cn pn mq gn mln mnn ln mlt msz mcu mtk mfr mti mfa mfb an un lc td mtn), (aI cI (md 51) 12 ro)] s.heap := hP
  have hl := lv_entry ([.ref (md 64), .int d, .int n]) (n := 3) (Nat.le_of_ble_eq_true rfl)
  rw [lg_entry_eq]
  generalize (lg_sl ([.ref (md 64), .int d, .int n]) ++ List.replicate (3 - (lg_sl ([.ref (md 64), .int d, .int n])).length) Slot.unset).toArray = ls at hl ⊢
  have hl : lv_has ls 3 [(0, .ref (md 64)), (1, .int d), (2, .int n)] := hl
  have km1000001 : (-1000001 : Int32).toInt = -1000001 := by decide
  have k0 : (0 : Int32).toInt = 0 := by decide
  have kl0 : (0 : Int64).toInt = 0 := by decide
  have kl12 : (12 : Int64).toInt = 12 := by decide
  refine lv_aload_n hx hb dX11_drawn_0 rfl (lv_at hl 0 rfl) ?_
  refine lv_iconst (v := 0) hx hb dX11_drawn_1 (by decide) ?_
  refine va_put (D := D) (ci := 11) (v := .int 0) (ty := .int) (C := RX11) (T := TX11) (N := 64) hx hb hts inX11_drawn_X11 tyX11 tyX11_ok nmX11 hown hK hP hD hS 0 rfl rfl 0 (by decide) (hts (Cond.fieldLink RX11 1 "PortRoomsModel" "thrown" "I") (wm_t (wm_l (wm_i 0 rfl)))) (fun _ h9 => h9) rfl (tyX11_ok 0 (by decide)) rfl rfl (Nat.le_of_ble_eq_true rfl) dX11_drawn_2 (fun H locs => ?_)
  clear hP hD hS
  intro hP hD hS
  replace hP : va_P D vwCl [(moC md sd (0) mst hn cn pn mq gn mln mnn ln mlt msz mcu mtk mfr mti mfa mfb an un lc td mtn), (aI cI (md 51) 12 ro)] H := hP
  replace hD : va_D A [(moC md sd (0) mst hn cn pn mq gn mln mnn ln mlt msz mcu mtk mfr mti mfa mfb an un lc td mtn), (aI cI (md 51) 12 ro)] := hD
  refine lv_iload_n hx hb dX11_drawn_5 rfl (lv_at hl 1 rfl) ?_
  refine st_i1 (va_runS (As := [.int d]) (rest := []) ⟨hx, hb, hml, hown, hts⟩ (ct_X11_isDay l D cI cY cJ cQ _ d) (va_cwS 1 hts gX11_drawn_X11_isDay rfl rfl rfl cdX11_isDay ⟨Nat.le_of_ble_eq_true rfl, Nat.le_of_ble_eq_true rfl⟩) (cPreS (hP.sub [] rfl) hK (hD.sub [] (by decide +kernel) rfl) hN) rfl rfl hl.1 rfl (lv_room (Nat.le_of_ble_eq_true rfl)) dX11_drawn_6 ⟨Nat.le_of_ble_eq_true rfl, Nat.le_of_ble_eq_true rfl⟩) hP hD hS hA [] rfl (fun _ => rfl) (fun r3 u1 H locs hw2 => ?_)
  clear hP hS
  intro hP hS
  replace hw2 : r3 = if 0 ≤ d.toInt ∧ d.toInt ≤ 9999 then 1 else 0 := hw2
  refine lv_if_eq (tgt := 24) hx hb dX11_drawn_9 (by decide) (fun c4 => ?_) (fun c4 => ?_)
  · skip
    have f5 := bo_f hw2 c4
    refine lv_ldc hx hb hown (hts (Cond.constant RX11 157 (-1000001)) (wm_t (wm_l (wm_i 2 rfl)))) dX11_drawn_24 ?_
    refine lv_goto (tgt := 35) hx hb dX11_drawn_26 (by decide) ?_
    have hP9 := hP
    have hD9 := hD
    exact W.iret (v := (-1000001)) hx hb hr (fun t ht hW => ⟨⟨(-1000001), (), rfl, (by unfold sm_drawn; (repeat' split) <;> first | rfl | (exfalso; omega) | (subst_vars; rfl)), by rw [ht]; exact hP9, va_K.moved hW.alike hK, hD9⟩, hS.F ht⟩) hS.2.2 dX11_drawn_35
  · skip
    have f6 := bo_t hw2 c4
    refine lv_iload_n hx hb dX11_drawn_12 rfl (lv_at hl 2 rfl) ?_
    refine lv_i2l hx hb dX11_drawn_13 rfl ?_
    have w7 := i_w n
    have w8 := i_rng n
    refine lv_lconst (v := 0) hx hb dX11_drawn_14 (by decide) ?_
    refine lv_ldc2 hx hb hown (hts (Cond.constantLong RX11 330 (12)) (wm_t (wm_l (wm_i 1 rfl)))) dX11_drawn_15 ?_
    refine st_i1 (va_runS (As := [.long (n.toInt64), .long 0, .long 12]) (rest := []) ⟨hx, hb, hml, hown, hts⟩ (ct_X11_in l D cI cY cJ cQ _ n.toInt64 (0 : Int64) (12 : Int64)) (va_cwS 3 hts gX11_drawn_X11_in rfl rfl rfl cdX11_in ⟨Nat.le_of_ble_eq_true rfl, Nat.le_of_ble_eq_true rfl⟩) (cPreS (hP.sub [] rfl) hK (hD.sub [] (by decide +kernel) rfl) hN) rfl rfl hl.1 rfl (lv_room (Nat.le_of_ble_eq_true rfl)) dX11_drawn_18 ⟨Nat.le_of_ble_eq_true rfl, Nat.le_of_ble_eq_true rfl⟩) hP hD hS hA [] rfl (fun _ => rfl) (fun r11 u9 H locs hw10 => ?_)
    clear hP hS
    intro hP hS
    replace hw10 : r11 = if (0 : Int64).toInt ≤ n.toInt64.toInt ∧ n.toInt64.toInt ≤ (12 : Int64).toInt then 1 else 0 := hw10
    refine lv_if_ne (tgt := 29) hx hb dX11_drawn_21 (by decide) (fun c12 => ?_) (fun c12 => ?_)
    · skip
      have f13 := bo_t hw10 c12
      refine lv_aload_n hx hb dX11_drawn_29 rfl (lv_at hl 0 rfl) ?_
      refine lv_iload_n hx hb dX11_drawn_30 rfl (lv_at hl 1 rfl) ?_
      refine lv_iload_n hx hb dX11_drawn_31 rfl (lv_at hl 2 rfl) ?_
      refine st_i1 (va_runV (C := RX11) (As := [.int d, .int n]) (rest := []) ⟨hx, hb, hml, hown, hts⟩ (ct_X11_drawnOn l D cI cY cJ cQ _ md sd 0 mst hn cn pn mq gn mln mnn ln mlt msz mcu mtk mfr mti mfa mfb an un lc td mtn ro d n h1 h2 (by omega) (by omega)) (cwV 2 hts gX11_drawn_X11_drawnOn rfl rfl rfl ⟨rfl, cdX11_drawnOn⟩ ⟨Nat.le_of_ble_eq_true rfl, Nat.le_of_ble_eq_true rfl⟩) (cPreV (hP.sub [0, 1] rfl) hK (hD.sub [0, 1] (by decide +kernel) rfl) hN (ci := 11) (q0 := 0) rfl rfl) rfl rfl hl.1 rfl (lv_room (Nat.le_of_ble_eq_true rfl)) dX11_drawn_32 ⟨Nat.le_of_ble_eq_true rfl, Nat.le_of_ble_eq_true rfl⟩) hP hD hS hA [0, 1] rfl (fun _ => rfl) (fun r16 u14 H locs hw15 => ?_)
      clear hP hS
      intro hP hS
      replace hw15 : r16 = dmV ro (lotF sd d) cn.toNatClampNeg n.toNatClampNeg := hw15
      subst hw15
      have hP9 := hP
      have hD9 := hD
      exact W.iret (v := dmV ro (lotF sd d) cn.toNatClampNeg n.toNatClampNeg) hx hb hr (fun t ht hW => ⟨⟨dmV ro (lotF sd d) cn.toNatClampNeg n.toNatClampNeg, (), rfl, (by unfold sm_drawn; (repeat' split) <;> first | rfl | (exfalso; omega) | (subst_vars; rfl)), by rw [ht]; exact hP9, va_K.moved hW.alike hK, hD9⟩, hS.F ht⟩) hS.2.2 dX11_drawn_35
    · skip
      have f17 := bo_f hw10 c12
      refine lv_ldc hx hb hown (hts (Cond.constant RX11 157 (-1000001)) (wm_t (wm_l (wm_i 2 rfl)))) dX11_drawn_24 ?_
      refine lv_goto (tgt := 35) hx hb dX11_drawn_26 (by decide) ?_
      have hP9 := hP
      have hD9 := hD
      exact W.iret (v := (-1000001)) hx hb hr (fun t ht hW => ⟨⟨(-1000001), (), rfl, (by unfold sm_drawn; (repeat' split) <;> first | rfl | (exfalso; omega) | (subst_vars; rfl)), by rw [ht]; exact hP9, va_K.moved hW.alike hK, hD9⟩, hS.F ht⟩) hS.2.2 dX11_drawn_35

set_option maxHeartbeats 4000000 in
set_option maxRecDepth 100000 in
theorem ct_X11_often (l : Launch) (D : va_G) (cI cY cJ cQ : ClassId) (sz : Nat) (md : Nat → Nat) (sd : Int32) (mth mst hn cn pn mq gn mln mnn ln mlt msz mcu mtk mfr mti mfa mfb an un lc td mtn : Int32) (ro : Nat → Int32) (k : Int32) (a : Int32) (b : Int32) (n : Int32)  (h1 : 0 ≤ cn.toInt) (h2 : cn.toInt ≤ 12)  : Met l yX11_often wsX11_often ({ frames := 2, cells := 0, slots := 0, locals := 51 }) (cPre D (ty4 cI cY cJ cQ) [(moC md sd mth mst hn cn pn mq gn mln mnn ln mlt msz mcu mtk mfr mti mfa mfb an un lc td mtn), (aI cI (md 51) 12 ro)] sz [.ref (md 64), .int k, .int a, .int b, .int n]) (va_Qi (fun (r : Int32) (u : Unit) => r = sm_often sd cn ro k a b n) (cB D (ty4 cI cY cJ cQ) (fun (u : Unit) => [(moC md sd 0 mst hn cn pn mq gn mln mnn ln mlt msz mcu mtk mfr mti mfa mfb an un lc td mtn), (aI cI (md 51) 12 ro)]) (va_A [(moC md sd mth mst hn cn pn mq gn mln mnn ln mlt msz mcu mtk mfr mti mfa mfb an un lc td mtn), (aI cI (md 51) 12 ro)] sz)) (va_A [(moC md sd mth mst hn cn pn mq gn mln mnn ln mlt msz mcu mtk mfr mti mfa mfb an un lc td mtn), (aI cI (md 51) 12 ro)] sz)) 0 0 (va_A [(moC md sd mth mst hn cn pn mq gn mln mnn ln mlt msz mcu mtk mfr mti mfa mfb an un lc td mtn), (aI cI (md 51) 12 ro)] sz) := by
  refine Met.ofW (cc := cX11_often) (maxL := 7) (ret := (some .int)) (by decide) rfl ?_
  intro p e s m args below meth c s₁ B hml hv
  obtain ⟨rfl, hsz, hP, hK, hD0, hN⟩ := hv
  have hx := B.exec
  have hb := B.bytes
  have hr := B.returns
  have hts := atoms_spec (ws := wsX11_often) B.pre
  have hown : s.vm.findClass RX11 = some m.cls := findClass_of_methodNamed B.named
  have hlocks := B.notSynchronized
  subst hsz
  have hD := hD0.self (sz := s.heap.size)
  generalize hAe : va_A [(moC md sd mth mst hn cn pn mq gn mln mnn ln mlt msz mcu mtk mfr mti mfa mfb an un lc td mtn), (aI cI (md 51) 12 ro)] s.heap.size = A at hD ⊢
  have hA : ∀ q : Nat, s.heap.size ≤ q → A q := fun q h => by rw [← hAe]; exact Or.inr h
  have hS : va_S A s.heap s.heap [] := va_S.rf
  have hP : va_P D vwCl [(moC md sd mth mst hn cn pn mq gn mln mnn ln mlt msz mcu mtk mfr mti mfa mfb an un lc td mtn), (aI cI (md 51) 12 ro)] s.heap := hP
  have hl := lv_entry ([.ref (md 64), .int k, .int a, .int b, .int n]) (n := 7) (Nat.le_of_ble_eq_true rfl)
  rw [lg_entry_eq]
  generalize (lg_sl ([.ref (md 64), .int k, .int a, .int b, .int n]) ++ List.replicate (7 - (lg_sl ([.ref (md 64), .int k, .int a, .int b, .int n])).length) Slot.unset).toArray = ls at hl ⊢
  have hl : lv_has ls 7 [(0, .ref (md 64)), (1, .int k), (2, .int a), (3, .int b), (4, .int n)] := hl
  have k0 : (0 : Int32).toInt = 0 := by decide
  have k1 : (1 : Int32).toInt = 1 := by decide
  have k399 : (399 : Int32).toInt = 399 := by decide
  have kl0 : (0 : Int64).toInt = 0 := by decide
  have kl12 : (12 : Int64).toInt = 12 := by decide
  refine lv_aload_n hx hb dX11_often_0 rfl (lv_at hl 0 rfl) ?_
  refine lv_iconst (v := 0) hx hb dX11_often_1 (by decide) ?_
  refine va_put (D := D) (ci := 11) (v := .int 0) (ty := .int) (C := RX11) (T := TX11) (N := 64) hx hb hts inX11_often_X11 tyX11 tyX11_ok nmX11 hown hK hP hD hS 0 rfl rfl 0 (by decide) (hts (Cond.fieldLink RX11 1 "PortRoomsModel" "thrown" "I") (wm_t (wm_l (wm_i 0 rfl)))) (fun _ h9 => h9) rfl (tyX11_ok 0 (by decide)) rfl rfl (Nat.le_of_ble_eq_true rfl) dX11_often_2 (fun H locs => ?_)
  clear hP hD hS
  intro hP hD hS
  replace hP : va_P D vwCl [(moC md sd (0) mst hn cn pn mq gn mln mnn ln mlt msz mcu mtk mfr mti mfa mfb an un lc td mtn), (aI cI (md 51) 12 ro)] H := hP
  replace hD : va_D A [(moC md sd (0) mst hn cn pn mq gn mln mnn ln mlt msz mcu mtk mfr mti mfa mfb an un lc td mtn), (aI cI (md 51) 12 ro)] := hD
  refine lv_aload_n hx hb dX11_often_5 rfl (lv_at hl 0 rfl) ?_
  refine lv_iload_n hx hb dX11_often_6 rfl (lv_at hl 1 rfl) ?_
  refine st_i1 (va_runV (C := RX11) (As := [.int k]) (rest := []) ⟨hx, hb, hml, hown, hts⟩ (ct_X11_isCrate l D cI cY cJ cQ _ md sd 0 mst hn cn pn mq gn mln mnn ln mlt msz mcu mtk mfr mti mfa mfb an un lc td mtn k h1 h2) (cwV 1 hts gX11_often_X11_isCrate rfl rfl rfl ⟨rfl, cdX11_isCrate⟩ ⟨Nat.le_of_ble_eq_true rfl, Nat.le_of_ble_eq_true rfl⟩) (cPreV (hP.sub [0] rfl) hK (hD.sub [0] (by decide +kernel) rfl) hN (ci := 11) (q0 := 0) rfl rfl) rfl rfl hl.1 rfl (lv_room (Nat.le_of_ble_eq_true rfl)) dX11_often_7 ⟨Nat.le_of_ble_eq_true rfl, Nat.le_of_ble_eq_true rfl⟩) hP hD hS hA [0] rfl (fun _ => rfl) (fun r3 u1 H locs hw2 => ?_)
  clear hP hS
  intro hP hS
  replace hw2 : r3 = if 0 ≤ k.toInt ∧ k.toInt < cn.toInt then 1 else 0 := hw2
  refine lv_if_eq (tgt := 56) hx hb dX11_often_10 (by decide) (fun c4 => ?_) (fun c4 => ?_)
  · skip
    have f5 := bo_f hw2 c4
    refine lv_ldc hx hb hown (hts (Cond.constant RX11 157 (-1000001)) (wm_t (wm_l (wm_i 2 rfl)))) dX11_often_56 ?_
    have hP9 := hP
    have hD9 := hD
    exact W.iret (v := (-1000001)) hx hb hr (fun t ht hW => ⟨⟨(-1000001), (), rfl, (by unfold sm_often; rw [if_neg (by omega)]), by rw [ht]; exact hP9, va_K.moved hW.alike hK, hD9⟩, hS.F ht⟩) hS.2.2 dX11_often_58
  · skip
    have f6 := bo_t hw2 c4
    refine lv_iload_n hx hb dX11_often_13 rfl (lv_at hl 2 rfl) ?_
    refine st_i1 (va_runS (As := [.int a]) (rest := []) ⟨hx, hb, hml, hown, hts⟩ (ct_X11_isDay l D cI cY cJ cQ _ a) (va_cwS 1 hts gX11_often_X11_isDay rfl rfl rfl cdX11_isDay ⟨Nat.le_of_ble_eq_true rfl, Nat.le_of_ble_eq_true rfl⟩) (cPreS (hP.sub [] rfl) hK (hD.sub [] (by decide +kernel) rfl) hN) rfl rfl hl.1 rfl (lv_room (Nat.le_of_ble_eq_true rfl)) dX11_often_14 ⟨Nat.le_of_ble_eq_true rfl, Nat.le_of_ble_eq_true rfl⟩) hP hD hS hA [] rfl (fun _ => rfl) (fun r9 u7 H locs hw8 => ?_)
    clear hP hS
    intro hP hS
    replace hw8 : r9 = if 0 ≤ a.toInt ∧ a.toInt ≤ 9999 then 1 else 0 := hw8
    refine lv_if_eq (tgt := 56) hx hb dX11_often_17 (by decide) (fun c10 => ?_) (fun c10 => ?_)
    · skip
      have f11 := bo_f hw8 c10
      refine lv_ldc hx hb hown (hts (Cond.constant RX11 157 (-1000001)) (wm_t (wm_l (wm_i 2 rfl)))) dX11_often_56 ?_
      have hP9 := hP
      have hD9 := hD
      exact W.iret (v := (-1000001)) hx hb hr (fun t ht hW => ⟨⟨(-1000001), (), rfl, (by unfold sm_often; rw [if_neg (by omega)]), by rw [ht]; exact hP9, va_K.moved hW.alike hK, hD9⟩, hS.F ht⟩) hS.2.2 dX11_often_58
    · skip
      have f12 := bo_t hw8 c10
      refine lv_iload_n hx hb dX11_often_20 rfl (lv_at hl 3 rfl) ?_
      refine st_i1 (va_runS (As := [.int b]) (rest := []) ⟨hx, hb, hml, hown, hts⟩ (ct_X11_isDay l D cI cY cJ cQ _ b) (va_cwS 1 hts gX11_often_X11_isDay rfl rfl rfl cdX11_isDay ⟨Nat.le_of_ble_eq_true rfl, Nat.le_of_ble_eq_true rfl⟩) (cPreS (hP.sub [] rfl) hK (hD.sub [] (by decide +kernel) rfl) hN) rfl rfl hl.1 rfl (lv_room (Nat.le_of_ble_eq_true rfl)) dX11_often_21 ⟨Nat.le_of_ble_eq_true rfl, Nat.le_of_ble_eq_true rfl⟩) hP hD hS hA [] rfl (fun _ => rfl) (fun r15 u13 H locs hw14 => ?_)
      clear hP hS
      intro hP hS
      replace hw14 : r15 = if 0 ≤ b.toInt ∧ b.toInt ≤ 9999 then 1 else 0 := hw14
      refine lv_if_eq (tgt := 56) hx hb dX11_often_24 (by decide) (fun c16 => ?_) (fun c16 => ?_)
      · skip
        have f17 := bo_f hw14 c16
        refine lv_ldc hx hb hown (hts (Cond.constant RX11 157 (-1000001)) (wm_t (wm_l (wm_i 2 rfl)))) dX11_often_56 ?_
        have hP9 := hP
        have hD9 := hD
        exact W.iret (v := (-1000001)) hx hb hr (fun t ht hW => ⟨⟨(-1000001), (), rfl, (by unfold sm_often; rw [if_neg (by omega)]), by rw [ht]; exact hP9, va_K.moved hW.alike hK, hD9⟩, hS.F ht⟩) hS.2.2 dX11_often_58
      · skip
        have f18 := bo_t hw14 c16
        refine lv_iload_n hx hb dX11_often_27 rfl (lv_at hl 3 rfl) ?_
        refine lv_i2l hx hb dX11_often_28 rfl ?_
        have w19 := i_w b
        have w20 := i_rng b
        refine lv_iload_n hx hb dX11_often_29 rfl (lv_at hl 2 rfl) ?_
        refine lv_i2l hx hb dX11_often_30 rfl ?_
        have w21 := i_w a
        have w22 := i_rng a
        refine lv_iload_n hx hb dX11_often_31 rfl (lv_at hl 2 rfl) ?_
        refine lv_sipush (v := 399) hx hb dX11_often_32 (by decide) ?_
        refine lv_iadd hx hb dX11_often_35 ?_
        refine lv_topi (fun v23 ev23 => ?_)
        try have tv23 : v23.toInt = a.toInt + 399 := by rw [ev23]; exact (i_add (x := a) (y := (399 : Int32)) (by rw [k399]; omega) (by rw [k399]; omega)).trans (by rw [k399])
        refine lv_i2l hx hb dX11_often_36 rfl ?_
        have w24 := i_w v23
        have w25 := i_rng v23
        refine st_i1 (va_runS (As := [.long (b.toInt64), .long (a.toInt64), .long (v23.toInt64)]) (rest := []) ⟨hx, hb, hml, hown, hts⟩ (ct_X11_in l D cI cY cJ cQ _ b.toInt64 a.toInt64 v23.toInt64) (va_cwS 3 hts gX11_often_X11_in rfl rfl rfl cdX11_in ⟨Nat.le_of_ble_eq_true rfl, Nat.le_of_ble_eq_true rfl⟩) (cPreS (hP.sub [] rfl) hK (hD.sub [] (by decide +kernel) rfl) hN) rfl rfl hl.1 rfl (lv_room (Nat.le_of_ble_eq_true rfl)) dX11_often_37 ⟨Nat.le_of_ble_eq_true rfl, Nat.le_of_ble_eq_true rfl⟩) hP hD hS hA [] rfl (fun _ => rfl) (fun r28 u26 H locs hw27 => ?_)
        clear hP hS
        intro hP hS
        replace hw27 : r28 = if a.toInt64.toInt ≤ b.toInt64.toInt ∧ b.toInt64.toInt ≤ v23.toInt64.toInt then 1 else 0 := hw27
        refine lv_if_eq (tgt := 56) hx hb dX11_often_40 (by decide) (fun c29 => ?_) (fun c29 => ?_)
        · skip
          have f30 := bo_f hw27 c29
          refine lv_ldc hx hb hown (hts (Cond.constant RX11 157 (-1000001)) (wm_t (wm_l (wm_i 2 rfl)))) dX11_often_56 ?_
          have hP9 := hP
          have hD9 := hD
          exact W.iret (v := (-1000001)) hx hb hr (fun t ht hW => ⟨⟨(-1000001), (), rfl, (by unfold sm_often; rw [if_neg (by omega)]), by rw [ht]; exact hP9, va_K.moved hW.alike hK, hD9⟩, hS.F ht⟩) hS.2.2 dX11_often_58
        · skip
          have f31 := bo_t hw27 c29
          refine lv_iload hx hb dX11_often_43 (lv_at hl 4 rfl) ?_
          refine lv_i2l hx hb dX11_often_45 rfl ?_
          have w32 := i_w n
          have w33 := i_rng n
          refine lv_lconst (v := 0) hx hb dX11_often_46 (by decide) ?_
          refine lv_ldc2 hx hb hown (hts (Cond.constantLong RX11 330 (12)) (wm_t (wm_l (wm_i 1 rfl)))) dX11_often_47 ?_
          refine st_i1 (va_runS (As := [.long (n.toInt64), .long 0, .long 12]) (rest := []) ⟨hx, hb, hml, hown, hts⟩ (ct_X11_in l D cI cY cJ cQ _ n.toInt64 (0 : Int64) (12 : Int64)) (va_cwS 3 hts gX11_often_X11_in rfl rfl rfl cdX11_in ⟨Nat.le_of_ble_eq_true rfl, Nat.le_of_ble_eq_true rfl⟩) (cPreS (hP.sub [] rfl) hK (hD.sub [] (by decide +kernel) rfl) hN) rfl rfl hl.1 rfl (lv_room (Nat.le_of_ble_eq_true rfl)) dX11_often_50 ⟨Nat.le_of_ble_eq_true rfl, Nat.le_of_ble_eq_true rfl⟩) hP hD hS hA [] rfl (fun _ => rfl) (fun r36 u34 H locs hw35 => ?_)
          clear hP hS
          intro hP hS
          replace hw35 : r36 = if (0 : Int64).toInt ≤ n.toInt64.toInt ∧ n.toInt64.toInt ≤ (12 : Int64).toInt then 1 else 0 := hw35
          refine lv_if_ne (tgt := 59) hx hb dX11_often_53 (by decide) (fun c37 => ?_) (fun c37 => ?_)
          · skip
            have f38 := bo_t hw35 c37
            refine lv_iconst (v := 0) hx hb dX11_often_59 (by decide) ?_
            refine lv_istore (lv' := [(5, .int 0), (0, .ref (md 64)), (1, .int k), (2, .int a), (3, .int b), (4, .int n)]) hx hb dX11_often_60 hl (by decide) rfl (fun ls hl => ?_)
            refine lv_iload_n hx hb dX11_often_62 rfl (lv_at hl 3 rfl) ?_
            refine lv_istore (lv' := [(6, .int a), (5, .int 0), (0, .ref (md 64)), (1, .int k), (2, .int a), (3, .int b), (4, .int n)]) hx hb dX11_often_63 hl (by decide) rfl (fun ls hl => ?_)
            refine st_loop 65 (fun _ => []) (fun (z : Int32 × Int32) (ls : Array Slot) (H : Heap) (locs : List Loc) => match z with | (q65_5, q65_6) => (0 ≤ q65_6.toInt) ∧ (q65_6.toInt ≤ b.toInt + 1) ∧ (a.toInt ≤ q65_6.toInt) ∧ (q65_5 = omV sd ro cn.toNatClampNeg k n a.toNatClampNeg (q65_6.toNatClampNeg - a.toNatClampNeg)) ∧ lv_has ls 7 [(0, .ref (md 64)), (1, .int k), (2, .int a), (3, .int b), (4, .int n), (5, .int q65_5), (6, .int q65_6)] ∧ va_P D vwCl [(moC md sd (0) mst hn cn pn mq gn mln mnn ln mlt msz mcu mtk mfr mti mfa mfb an un lc td mtn), (aI cI (md 51) 12 ro)] H ∧ va_D A [(moC md sd (0) mst hn cn pn mq gn mln mnn ln mlt msz mcu mtk mfr mti mfa mfb an un lc td mtn), (aI cI (md 51) 12 ro)] ∧ va_S A s.heap H locs) (fun (z : Int32 × Int32) => match z with | (q65_5, q65_6) => b.toInt + 1 - q65_6.toInt) ?_ ?_ ((0 : Int32), a) ⟨(by omega), (by omega), (by omega), (by rw [Nat.sub_self]; rfl), lv_sub hl [2, 3, 4, 5, 6, 1, 0] rfl, hP, hD, hS⟩
            · rintro ⟨q65_5, q65_6⟩ ls H locs ⟨g39, g40, g41, g42, hl, hP, hD, hS⟩
              show (0 : Int) ≤ b.toInt + 1 - q65_6.toInt
              omega
            · rintro n45 ih43 ⟨q65_5, q65_6⟩ ls H locs ⟨g39, g40, g41, g42, hl, hP, hD, hS⟩ hm44
              have hm44 : b.toInt + 1 - q65_6.toInt < (n45 : Int) + 1 := hm44
              replace hl : lv_has ls 7 [(0, .ref (md 64)), (1, .int k), (2, .int a), (3, .int b), (4, .int n), (5, .int q65_5), (6, .int q65_6)] := hl
              replace hP : va_P D vwCl [(moC md sd (0) mst hn cn pn mq gn mln mnn ln mlt msz mcu mtk mfr mti mfa mfb an un lc td mtn), (aI cI (md 51) 12 ro)] H := hP
              replace hD : va_D A [(moC md sd (0) mst hn cn pn mq gn mln mnn ln mlt msz mcu mtk mfr mti mfa mfb an un lc td mtn), (aI cI (md 51) 12 ro)] := hD
              show W _ _ _ _ _ _ _ _ _ _ _ _ _ _ _ (F0 m 65 ls [])
              refine lv_iload hx hb dX11_often_65 (lv_at hl 6 rfl) ?_
              refine lv_iload_n hx hb dX11_often_67 rfl (lv_at hl 3 rfl) ?_
              refine lv_icmp_gt (tgt := 94) hx hb dX11_often_68 (by decide) (fun c46 => ?_) (fun c46 => ?_)
              · skip
                have f47 := i_lt c46
                refine lv_iload hx hb dX11_often_94 (lv_at hl 5 rfl) ?_
                have cea9 := i_cl (x := a) (by omega)
                have ceb9 := i_cl (x := b) (by omega)
                have ce9 := i_cl (x := q65_6) (by omega)
                have ee9 : q65_6.toNatClampNeg - a.toNatClampNeg = b.toNatClampNeg - a.toNatClampNeg + 1 := by omega
                have hz9 := g42
                rw [ee9] at hz9
                have hP9 := hP
                have hD9 := hD
                exact W.iret (v := q65_5) hx hb hr (fun t ht hW => ⟨⟨q65_5, (), rfl, (by unfold sm_often; rw [if_pos (by omega)]; exact hz9), by rw [ht]; exact hP9, va_K.moved hW.alike hK, hD9⟩, hS.F ht⟩) hS.2.2 dX11_often_96
              · skip
                have f48 := i_nlt c46
                refine lv_iload hx hb dX11_often_71 (lv_at hl 5 rfl) ?_
                refine lv_aload_n hx hb dX11_often_73 rfl (lv_at hl 0 rfl) ?_
                refine lv_iload hx hb dX11_often_74 (lv_at hl 6 rfl) ?_
                refine lv_iload hx hb dX11_often_76 (lv_at hl 4 rfl) ?_
                refine st_i1 (va_runV (C := RX11) (As := [.int q65_6, .int n]) (rest := [.int q65_5]) ⟨hx, hb, hml, hown, hts⟩ (ct_X11_drawnOn l D cI cY cJ cQ _ md sd 0 mst hn cn pn mq gn mln mnn ln mlt msz mcu mtk mfr mti mfa mfb an un lc td mtn ro q65_6 n h1 h2 (by omega) (by omega)) (cwV 2 hts gX11_often_X11_drawnOn rfl rfl rfl ⟨rfl, cdX11_drawnOn⟩ ⟨Nat.le_of_ble_eq_true rfl, Nat.le_of_ble_eq_true rfl⟩) (cPreV (hP.sub [0, 1] rfl) hK (hD.sub [0, 1] (by decide +kernel) rfl) hN (ci := 11) (q0 := 0) rfl rfl) rfl rfl hl.1 rfl (lv_room (Nat.le_of_ble_eq_true rfl)) dX11_often_78 ⟨Nat.le_of_ble_eq_true rfl, Nat.le_of_ble_eq_true rfl⟩) hP hD hS hA [0, 1] rfl (fun _ => rfl) (fun r51 u49 H locs hw50 => ?_)
                clear hP hS
                intro hP hS
                replace hw50 : r51 = dmV ro (lotF sd q65_6) cn.toNatClampNeg n.toNatClampNeg := hw50
                subst hw50
                refine lv_iload_n hx hb dX11_often_81 rfl (lv_at hl 1 rfl) ?_
                refine lv_ishr hx hb dX11_often_82 ?_
                refine lv_topi (fun v52 ev52 => ?_)
                refine lv_iconst (v := 1) hx hb dX11_often_83 (by decide) ?_
                refine lv_iand hx hb dX11_often_84 ?_
                refine lv_topi (fun v53 ev53 => ?_)
                refine lv_iadd hx hb dX11_often_85 ?_
                refine lv_topi (fun v54 ev54 => ?_)
                refine lv_istore (lv' := [(5, .int v54), (0, .ref (md 64)), (1, .int k), (2, .int a), (3, .int b), (4, .int n), (6, .int q65_6)]) hx hb dX11_often_86 hl (by decide) rfl (fun ls hl => ?_)
                obtain ⟨v55, ev55⟩ : ∃ y : Int32, y = q65_6 + 1 := ⟨_, rfl⟩
                try have tv55 : v55.toInt = q65_6.toInt + 1 := by rw [ev55]; exact (i_add (x := q65_6) (y := (1 : Int32)) (by rw [k1]; omega) (by rw [k1]; omega)).trans (by rw [k1])
                refine lv_iinc (v := v55) (lv' := [(6, .int v55), (5, .int v54), (0, .ref (md 64)), (1, .int k), (2, .int a), (3, .int b), (4, .int n)]) hx hb dX11_often_88 hl (k := 6) rfl (by rw [ev55]; rfl) (by decide) rfl (fun ls hl => ?_)
                refine lv_goto (tgt := 65) hx hb dX11_often_91 (by decide) ?_
                have cla8 := i_cl (x := a) (by omega)
                have clk8 := i_cl (x := q65_6) (by omega)
                have clk9 := i_cl (x := v55) (by omega)
                have ek9 : v55.toNatClampNeg - a.toNatClampNeg = (q65_6.toNatClampNeg - a.toNatClampNeg) + 1 := by omega
                have ea9 : a.toNatClampNeg + (q65_6.toNatClampNeg - a.toNatClampNeg) = q65_6.toNatClampNeg := by omega
                have nk9 : nI q65_6.toNatClampNeg = q65_6 := i_nI (by omega)
                exact ih43 (v54, v55) ls H locs ⟨(by omega), (by omega), (by omega), (by rw [ek9, omV_s, ea9, nk9, ← g42, ev54, ev53, ev52]), lv_sub hl [2, 3, 4, 5, 6, 1, 0] rfl, hP.sub [0, 1] rfl, hD.sub [0, 1] (by decide +kernel) rfl, hS⟩ (by show b.toInt + 1 - v55.toInt < _; omega)
          · skip
            have f56 := bo_f hw35 c37
            refine lv_ldc hx hb hown (hts (Cond.constant RX11 157 (-1000001)) (wm_t (wm_l (wm_i 2 rfl)))) dX11_often_56 ?_
            have hP9 := hP
            have hD9 := hD
            exact W.iret (v := (-1000001)) hx hb hr (fun t ht hW => ⟨⟨(-1000001), (), rfl, (by unfold sm_often; rw [if_neg (by omega)]), by rw [ht]; exact hP9, va_K.moved hW.alike hK, hD9⟩, hS.F ht⟩) hS.2.2 dX11_often_58
