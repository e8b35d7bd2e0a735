theorem cdX10_duty : yX10_duty.cls ≠ "java/lang/invoke/MethodHandle" ∧ yX10_duty.cls ≠ "java/lang/invoke/VarHandle" ∧ (parseMethodDescriptor yX10_duty.desc).map (fun d => d.parameters.length) = some 2 := by decide +kernel
theorem cdX10_room : yX10_room.cls ≠ "java/lang/invoke/MethodHandle" ∧ yX10_room.cls ≠ "java/lang/invoke/VarHandle" ∧ (parseMethodDescriptor yX10_room.desc).map (fun d => d.parameters.length) = some 3 := by decide +kernel
theorem cdX10_move : yX10_move.cls ≠ "java/lang/invoke/MethodHandle" ∧ yX10_move.cls ≠ "java/lang/invoke/VarHandle" ∧ (parseMethodDescriptor yX10_move.desc).map (fun d => d.parameters.length) = some 2 := by decide +kernel
theorem cdX10_inside : yX10_inside.cls ≠ "java/lang/invoke/MethodHandle" ∧ yX10_inside.cls ≠ "java/lang/invoke/VarHandle" ∧ (parseMethodDescriptor yX10_inside.desc).map (fun d => d.parameters.length) = some 2 := by decide +kernel
theorem cdX11_duty : yX11_duty.cls ≠ "java/lang/invoke/MethodHandle" ∧ yX11_duty.cls ≠ "java/lang/invoke/VarHandle" ∧ (parseMethodDescriptor yX11_duty.desc).map (fun d => d.parameters.length) = some 2 := by decide +kernel
theorem cdX11_room : yX11_room.cls ≠ "java/lang/invoke/MethodHandle" ∧ yX11_room.cls ≠ "java/lang/invoke/VarHandle" ∧ (parseMethodDescriptor yX11_room.desc).map (fun d => d.parameters.length) = some 3 := by decide +kernel
theorem cdX11_move : yX11_move.cls ≠ "java/lang/invoke/MethodHandle" ∧ yX11_move.cls ≠ "java/lang/invoke/VarHandle" ∧ (parseMethodDescriptor yX11_move.desc).map (fun d => d.parameters.length) = some 2 := by decide +kernel
theorem cdX11_inside : yX11_inside.cls ≠ "java/lang/invoke/MethodHandle" ∧ yX11_inside.cls ≠ "java/lang/invoke/VarHandle" ∧ (parseMethodDescriptor yX11_inside.desc).map (fun d => d.parameters.length) = some 2 := by decide +kernel
theorem Gd_X10_duty : gdA wsX10_duty := gd_cons (by decide +kernel) (gd_app (gd_all (ws := wsX10_duty_o1) (by decide +kernel)) (gd_app (gd_app (gd_app Gd_X100 Gd_X00) (gd_app Gd_X10 Gd_X20)) (gd_app (gd_app Gd_X10_isCrate Gd_X10_isBelow) (gd_app Gd_X0_firstWaking Gd_X2_lineFor))))
theorem Gd_X10_room : gdA wsX10_room := gd_cons (by decide +kernel) (gd_app (gd_all (ws := wsX10_room_o1) (by decide +kernel)) (gd_app (gd_app Gd_X100 Gd_X10) (gd_app Gd_X10_isBelow Gd_X10_isFrom)))
theorem Gd_X10_move : gdA wsX10_move := gd_cons (by decide +kernel) (gd_app (gd_all (ws := wsX10_move_o1) (by decide +kernel)) (gd_app (gd_app (gd_app Gd_X100 Gd_X10) Gd_X10_isCrate) (gd_app Gd_X10_isBelow Gd_X1_fits)))
theorem Gd_X10_inside : gdA wsX10_inside := gd_cons (by decide +kernel) (gd_app (gd_all (ws := wsX10_inside_o1) (by decide +kernel)) (gd_app (gd_app (gd_app Gd_X100 Gd_X10) Gd_X10_isBelow) (gd_app (gd_app Gd_X1_setIn Gd_J6_bitCount_0f7a4) Gd_X1_worthsOf)))
theorem Gd_X11_duty : gdA wsX11_duty := gd_cons (by decide +kernel) (gd_app (gd_all (ws := wsX11_duty_o1) (by decide +kernel)) (gd_app (gd_app Gd_X110 Gd_X11_isCrate) (gd_app Gd_X11_in Gd_X11_wakes)))
theorem Gd_X11_room : gdA wsX11_room := gd_cons (by decide +kernel) (gd_app (gd_all (ws := wsX11_room_o1) (by decide +kernel)) (gd_app (gd_app Gd_X110 Gd_X11_isRoom) Gd_X11_in))
theorem Gd_X11_move : gdA wsX11_move := gd_cons (by decide +kernel) (gd_app (gd_all (ws := wsX11_move_o1) (by decide +kernel)) (gd_app (gd_app Gd_X110 Gd_X11_isCrate) (gd_app Gd_X11_isRoom Gd_X11_insideOf)))
theorem Gd_X11_inside : gdA wsX11_inside := gd_cons (by decide +kernel) (gd_app (gd_all (ws := wsX11_inside_o1) (by decide +kernel)) (gd_app (gd_app Gd_X110 Gd_X11_isRoom) (gd_app Gd_X11_in Gd_X11_insideOf)))
theorem ggL_law_X10_duty : GoodIn wsL_law wsX10_duty := goodIn_s (fun _ h => (wm_r (wm_r (wm_l (wm_l (wm_r (wm_r (wm_l (wm_l h))))))))) Gd_X10_duty
theorem gL_law_X10_duty : GoodIn wsL_law (wsV RL 110 RX10 yX10_duty wsX10_duty) := goodIn_V (own := RL) (idx := 110) (C := RX10) (y := yX10_duty) (wm_l (wm_l (wm_r (wm_r (wm_i 13 rfl))))) (wm_l (wm_l (wm_r (wm_r (wm_i 14 rfl))))) (wm_l (wm_l (wm_r (wm_r (wm_i 15 rfl))))) (wm_l (wm_l (wm_l (wm_l (wm_l (wm_i 2 rfl)))))) ggL_law_X10_duty
theorem ggL_law_X11_duty : GoodIn wsL_law wsX11_duty := goodIn_s (fun _ h => (wm_r (wm_r (wm_l (wm_l (wm_r (wm_r (wm_l (wm_r h))))))))) Gd_X11_duty
theorem gL_law_X11_duty : GoodIn wsL_law (wsV RL 113 RX11 yX11_duty wsX11_duty) := goodIn_V (own := RL) (idx := 113) (C := RX11) (y := yX11_duty) (wm_l (wm_l (wm_r (wm_r (wm_i 16 rfl))))) (wm_l (wm_l (wm_r (wm_r (wm_i 17 rfl))))) (wm_l (wm_l (wm_r (wm_r (wm_i 18 rfl))))) (wm_l (wm_l (wm_l (wm_l (wm_l (wm_i 5 rfl)))))) ggL_law_X11_duty
theorem ggL_law_X10_room : GoodIn wsL_law wsX10_room := goodIn_s (fun _ h => (wm_r (wm_r (wm_l (wm_l (wm_r (wm_r (wm_r h)))))))) Gd_X10_room
theorem gL_law_X10_room : GoodIn wsL_law (wsV RL 114 RX10 yX10_room wsX10_room) := goodIn_V (own := RL) (idx := 114) (C := RX10) (y := yX10_room) (wm_l (wm_l (wm_r (wm_r (wm_i 19 rfl))))) (wm_l (wm_l (wm_r (wm_r (wm_i 20 rfl))))) (wm_l (wm_l (wm_r (wm_r (wm_i 21 rfl))))) (wm_l (wm_l (wm_l (wm_l (wm_l (wm_i 2 rfl)))))) ggL_law_X10_room
theorem ggL_law_X11_room : GoodIn wsL_law wsX11_room := goodIn_s (fun _ h => (wm_r (wm_r (wm_l (wm_r (wm_l (wm_l (wm_l (wm_l h))))))))) Gd_X11_room
theorem gL_law_X11_room : GoodIn wsL_law (wsV RL 117 RX11 yX11_room wsX11_room) := goodIn_V (own := RL) (idx := 117) (C := RX11) (y := yX11_room) (wm_l (wm_l (wm_r (wm_r (wm_i 22 rfl))))) (wm_l (wm_l (wm_r (wm_r (wm_i 23 rfl))))) (wm_l (wm_r (wm_l (wm_l (wm_l (wm_i 0 rfl)))))) (wm_l (wm_l (wm_l (wm_l (wm_l (wm_i 5 rfl)))))) ggL_law_X11_room
theorem ggL_law_X10_move : GoodIn wsL_law wsX10_move := goodIn_s (fun _ h => (wm_r (wm_r (wm_l (wm_r (wm_l (wm_l (wm_l (wm_r h))))))))) Gd_X10_move
theorem gL_law_X10_move : GoodIn wsL_law (wsV RL 118 RX10 yX10_move wsX10_move) := goodIn_V (own := RL) (idx := 118) (C := RX10) (y := yX10_move) (wm_l (wm_r (wm_l (wm_l (wm_l (wm_i 1 rfl)))))) (wm_l (wm_r (wm_l (wm_l (wm_l (wm_i 2 rfl)))))) (wm_l (wm_r (wm_l (wm_l (wm_l (wm_i 3 rfl)))))) (wm_l (wm_l (wm_l (wm_l (wm_l (wm_i 2 rfl)))))) ggL_law_X10_move
theorem ggL_law_X11_move : GoodIn wsL_law wsX11_move := goodIn_s (fun _ h => (wm_r (wm_r (wm_l (wm_r (wm_l (wm_l (wm_r h)))))))) Gd_X11_move
theorem gL_law_X11_move : GoodIn wsL_law (wsV RL 121 RX11 yX11_move wsX11_move) := goodIn_V (own := RL) (idx := 121) (C := RX11) (y := yX11_move) (wm_l (wm_r (wm_l (wm_l (wm_l (wm_i 4 rfl)))))) (wm_l (wm_r (wm_l (wm_l (wm_l (wm_i 5 rfl)))))) (wm_l (wm_r (wm_l (wm_l (wm_l (wm_i 6 rfl)))))) (wm_l (wm_l (wm_l (wm_l (wm_l (wm_i 5 rfl)))))) ggL_law_X11_move
theorem ggL_law_X10_inside : GoodIn wsL_law wsX10_inside := goodIn_s (fun _ h => (wm_r (wm_r (wm_l (wm_r (wm_l (wm_r (wm_l (wm_l h))))))))) Gd_X10_inside
theorem gL_law_X10_inside : GoodIn wsL_law (wsV RL 122 RX10 yX10_inside wsX10_inside) := goodIn_V (own := RL) (idx := 122) (C := RX10) (y := yX10_inside) (wm_l (wm_r (wm_l (wm_l (wm_l (wm_i 7 rfl)))))) (wm_l (wm_r (wm_l (wm_l (wm_l (wm_i 8 rfl)))))) (wm_l (wm_r (wm_l (wm_l (wm_l (wm_i 9 rfl)))))) (wm_l (wm_l (wm_l (wm_l (wm_l (wm_i 2 rfl)))))) ggL_law_X10_inside
theorem ggL_law_X11_inside : GoodIn wsL_law wsX11_inside := goodIn_s (fun _ h => (wm_r (wm_r (wm_l (wm_r (wm_l (wm_r (wm_l (wm_r h))))))))) Gd_X11_inside
theorem gL_law_X11_inside : GoodIn wsL_law (wsV RL 125 RX11 yX11_inside wsX11_inside) := goodIn_V (own := RL) (idx := 125) (C := RX11) (y := yX11_inside) (wm_l (wm_r (wm_l (wm_l (wm_l (wm_i 10 rfl)))))) (wm_l (wm_r (wm_l (wm_l (wm_l (wm_i 11 rfl)))))) (wm_l (wm_r (wm_l (wm_l (wm_l (wm_i 12 rfl)))))) (wm_l (wm_l (wm_l (wm_l (wm_l (wm_i 5 rfl)))))) ggL_law_X11_inside
theorem sB_45 : dqA cL_law 1080 sL_45 := dq_next sB_44 24 rfl
theorem sB_46 : dqA cL_law 1104 sL_46 := dq_next sB_45 24 rfl
theorem sB_47 : dqA cL_law 1128 sL_47 := dq_next sB_46 24 rfl
theorem sB_48 : dqA cL_law 1152 sL_48 := dq_next sB_47 24 rfl
theorem sB_49 : dqA cL_law 1176 sL_49 := dq_next sB_48 24 rfl
theorem sB_50 : dqA cL_law 1200 sL_50 := dq_next sB_49 24 rfl
theorem dL_law_1058 : decode cL_law 1058 = .ok (.aload_n 1, 1) := dL_law_all62.2.2.2.2.2.2.2.2.1
theorem dL_law_1059 : decode cL_law 1059 = .ok (.aload_n 0, 1) := dL_law_all62.2.2.2.2.2.2.2.2.2.1
theorem dL_law_1060 : decode cL_law 1060 = .ok (.iload_n 3, 1) := dL_law_all62.2.2.2.2.2.2.2.2.2.2.1
theorem dL_law_1061 : decode cL_law 1061 = .ok (.iconst 1, 1) := dL_law_all62.2.2.2.2.2.2.2.2.2.2.2
theorem dL_law_all63 : decode cL_law 1062 = .ok (.iadd, 1) ∧ decode cL_law 1063 = .ok (.iaload, 1) ∧ decode cL_law 1064 = .ok (.aload_n 0, 1) ∧ decode cL_law 1065 = .ok (.iload_n 3, 1) ∧ decode cL_law 1066 = .ok (.iconst 2, 1) ∧ decode cL_law 1067 = .ok (.iadd, 1) ∧ decode cL_law 1068 = .ok (.iaload, 1) ∧ decode cL_law 1069 = .ok (.invokevirtual 110, 3) ∧ decode cL_law 1072 = .ok (.pop, 1) ∧ decode cL_law 1073 = .ok (.aload_n 2, 1) ∧ decode cL_law 1074 = .ok (.aload_n 0, 1) ∧ decode cL_law 1075 = .ok (.iload_n 3, 1) := ⟨dq_96 sB_44 6 rfl, dq_46 sB_44 7 rfl, dq_42 sB_44 8 rfl, dq_29 sB_44 9 rfl, dq_5 sB_44 10 rfl, dq_96 sB_44 11 rfl, dq_46 sB_44 12 rfl, dq_182 sB_44 13 rfl 110 (by decide), dq_87 sB_44 16 rfl, dq_44 sB_44 17 rfl, dq_42 sB_44 18 rfl, dq_29 sB_44 19 rfl⟩
theorem dL_law_1062 : decode cL_law 1062 = .ok (.iadd, 1) := dL_law_all63.1
theorem dL_law_1063 : decode cL_law 1063 = .ok (.iaload, 1) := dL_law_all63.2.1
theorem dL_law_1064 : decode cL_law 1064 = .ok (.aload_n 0, 1) := dL_law_all63.2.2.1
theorem dL_law_1065 : decode cL_law 1065 = .ok (.iload_n 3, 1) := dL_law_all63.2.2.2.1
theorem dL_law_1066 : decode cL_law 1066 = .ok (.iconst 2, 1) := dL_law_all63.2.2.2.2.1
theorem dL_law_1067 : decode cL_law 1067 = .ok (.iadd, 1) := dL_law_all63.2.2.2.2.2.1
theorem dL_law_1068 : decode cL_law 1068 = .ok (.iaload, 1) := dL_law_all63.2.2.2.2.2.2.1
theorem dL_law_1069 : decode cL_law 1069 = .ok (.invokevirtual 110, 3) := dL_law_all63.2.2.2.2.2.2.2.1
theorem dL_law_1072 : decode cL_law 1072 = .ok (.pop, 1) := dL_law_all63.2.2.2.2.2.2.2.2.1
theorem dL_law_1073 : decode cL_law 1073 = .ok (.aload_n 2, 1) := dL_law_all63.2.2.2.2.2.2.2.2.2.1
theorem dL_law_1074 : decode cL_law 1074 = .ok (.aload_n 0, 1) := dL_law_all63.2.2.2.2.2.2.2.2.2.2.1
theorem dL_law_1075 : decode cL_law 1075 = .ok (.iload_n 3, 1) := dL_law_all63.2.2.2.2.2.2.2.2.2.2.2
theorem dL_law_all64 : decode cL_law 1076 = .ok (.iconst 1, 1) ∧ decode cL_law 1077 = .ok (.iadd, 1) ∧ decode cL_law 1078 = .ok (.iaload, 1) ∧ decode cL_law 1079 = .ok (.aload_n 0, 1) ∧ decode cL_law 1080 = .ok (.iload_n 3, 1) ∧ decode cL_law 1081 = .ok (.iconst 2, 1) ∧ decode cL_law 1082 = .ok (.iadd, 1) ∧ decode cL_law 1083 = .ok (.iaload, 1) ∧ decode cL_law 1084 = .ok (.invokevirtual 113, 3) ∧ decode cL_law 1087 = .ok (.pop, 1) ∧ decode cL_law 1088 = .ok (.goto 564, 3) ∧ decode cL_law 1091 = .ok (.aload_n 1, 1) := ⟨dq_4 sB_44 20 rfl, dq_96 sB_44 21 rfl, dq_46 sB_44 22 rfl, dq_42 sB_44 23 rfl, dq_29 sB_45 0 rfl, dq_5 sB_45 1 rfl, dq_96 sB_45 2 rfl, dq_46 sB_45 3 rfl, dq_182 sB_45 4 rfl 113 (by decide), dq_87 sB_45 7 rfl, dq_167 sB_45 8 rfl 564 (by decide), dq_43 sB_45 11 rfl⟩
theorem dL_law_1076 : decode cL_law 1076 = .ok (.iconst 1, 1) := dL_law_all64.1
theorem dL_law_1077 : decode cL_law 1077 = .ok (.iadd, 1) := dL_law_all64.2.1
theorem dL_law_1078 : decode cL_law 1078 = .ok (.iaload, 1) := dL_law_all64.2.2.1
theorem dL_law_1079 : decode cL_law 1079 = .ok (.aload_n 0, 1) := dL_law_all64.2.2.2.1
theorem dL_law_1080 : decode cL_law 1080 = .ok (.iload_n 3, 1) := dL_law_all64.2.2.2.2.1
theorem dL_law_1081 : decode cL_law 1081 = .ok (.iconst 2, 1) := dL_law_all64.2.2.2.2.2.1
theorem dL_law_1082 : decode cL_law 1082 = .ok (.iadd, 1) := dL_law_all64.2.2.2.2.2.2.1
theorem dL_law_1083 : decode cL_law 1083 = .ok (.iaload, 1) := dL_law_all64.2.2.2.2.2.2.2.1
theorem dL_law_1084 : decode cL_law 1084 = .ok (.invokevirtual 113, 3) := dL_law_all64.2.2.2.2.2.2.2.2.1
theorem dL_law_1087 : decode cL_law 1087 = .ok (.pop, 1) := dL_law_all64.2.2.2.2.2.2.2.2.2.1
theorem dL_law_1088 : decode cL_law 1088 = .ok (.goto 564, 3) := dL_law_all64.2.2.2.2.2.2.2.2.2.2.1
theorem dL_law_1091 : decode cL_law 1091 = .ok (.aload_n 1, 1) := dL_law_all64.2.2.2.2.2.2.2.2.2.2.2
theorem dL_law_all65 : decode cL_law 1092 = .ok (.aload_n 0, 1) ∧ decode cL_law 1093 = .ok (.iload_n 3, 1) ∧ decode cL_law 1094 = .ok (.iconst 1, 1) ∧ decode cL_law 1095 = .ok (.iadd, 1) ∧ decode cL_law 1096 = .ok (.iaload, 1) ∧ decode cL_law 1097 = .ok (.aload_n 0, 1) ∧ decode cL_law 1098 = .ok (.iload_n 3, 1) ∧ decode cL_law 1099 = .ok (.iconst 2, 1) ∧ decode cL_law 1100 = .ok (.iadd, 1) ∧ decode cL_law 1101 = .ok (.iaload, 1) ∧ decode cL_law 1102 = .ok (.aload_n 0, 1) ∧ decode cL_law 1103 = .ok (.iload_n 3, 1) := ⟨dq_42 sB_45 12 rfl, dq_29 sB_45 13 rfl, dq_4 sB_45 14 rfl, dq_96 sB_45 15 rfl, dq_46 sB_45 16 rfl, dq_42 sB_45 17 rfl, dq_29 sB_45 18 rfl, dq_5 sB_45 19 rfl, dq_96 sB_45 20 rfl, dq_46 sB_45 21 rfl, dq_42 sB_45 22 rfl, dq_29 sB_45 23 rfl⟩
theorem dL_law_1092 : decode cL_law 1092 = .ok (.aload_n 0, 1) := dL_law_all65.1
theorem dL_law_1093 : decode cL_law 1093 = .ok (.iload_n 3, 1) := dL_law_all65.2.1
theorem dL_law_1094 : decode cL_law 1094 = .ok (.iconst 1, 1) := dL_law_all65.2.2.1
theorem dL_law_1095 : decode cL_law 1095 = .ok (.iadd, 1) := dL_law_all65.2.2.2.1
theorem dL_law_1096 : decode cL_law 1096 = .ok (.iaload, 1) := dL_law_all65.2.2.2.2.1
theorem dL_law_1097 : decode cL_law 1097 = .ok (.aload_n 0, 1) := dL_law_all65.2.2.2.2.2.1
theorem dL_law_1098 : decode cL_law 1098 = .ok (.iload_n 3, 1) := dL_law_all65.2.2.2.2.2.2.1
theorem dL_law_1099 : decode cL_law 1099 = .ok (.iconst 2, 1) := dL_law_all65.2.2.2.2.2.2.2.1
theorem dL_law_1100 : decode cL_law 1100 = .ok (.iadd, 1) := dL_law_all65.2.2.2.2.2.2.2.2.1
theorem dL_law_1101 : decode cL_law 1101 = .ok (.iaload, 1) := dL_law_all65.2.2.2.2.2.2.2.2.2.1
theorem dL_law_1102 : decode cL_law 1102 = .ok (.aload_n 0, 1) := dL_law_all65.2.2.2.2.2.2.2.2.2.2.1
theorem dL_law_1103 : decode cL_law 1103 = .ok (.iload_n 3, 1) := dL_law_all65.2.2.2.2.2.2.2.2.2.2.2
theorem dL_law_all66 : decode cL_law 1104 = .ok (.iconst 3, 1) ∧ decode cL_law 1105 = .ok (.iadd, 1) ∧ decode cL_law 1106 = .ok (.iaload, 1) ∧ decode cL_law 1107 = .ok (.invokevirtual 114, 3) ∧ decode cL_law 1110 = .ok (.pop, 1) ∧ decode cL_law 1111 = .ok (.aload_n 2, 1) ∧ decode cL_law 1112 = .ok (.aload_n 0, 1) ∧ decode cL_law 1113 = .ok (.iload_n 3, 1) ∧ decode cL_law 1114 = .ok (.iconst 1, 1) ∧ decode cL_law 1115 = .ok (.iadd, 1) ∧ decode cL_law 1116 = .ok (.iaload, 1) ∧ decode cL_law 1117 = .ok (.aload_n 0, 1) := ⟨dq_6 sB_46 0 rfl, dq_96 sB_46 1 rfl, dq_46 sB_46 2 rfl, dq_182 sB_46 3 rfl 114 (by decide), dq_87 sB_46 6 rfl, dq_44 sB_46 7 rfl, dq_42 sB_46 8 rfl, dq_29 sB_46 9 rfl, dq_4 sB_46 10 rfl, dq_96 sB_46 11 rfl, dq_46 sB_46 12 rfl, dq_42 sB_46 13 rfl⟩
theorem dL_law_1104 : decode cL_law 1104 = .ok (.iconst 3, 1) := dL_law_all66.1
theorem dL_law_1105 : decode cL_law 1105 = .ok (.iadd, 1) := dL_law_all66.2.1
theorem dL_law_1106 : decode cL_law 1106 = .ok (.iaload, 1) := dL_law_all66.2.2.1
theorem dL_law_1107 : decode cL_law 1107 = .ok (.invokevirtual 114, 3) := dL_law_all66.2.2.2.1
theorem dL_law_1110 : decode cL_law 1110 = .ok (.pop, 1) := dL_law_all66.2.2.2.2.1
theorem dL_law_1111 : decode cL_law 1111 = .ok (.aload_n 2, 1) := dL_law_all66.2.2.2.2.2.1
theorem dL_law_1112 : decode cL_law 1112 = .ok (.aload_n 0, 1) := dL_law_all66.2.2.2.2.2.2.1
theorem dL_law_1113 : decode cL_law 1113 = .ok (.iload_n 3, 1) := dL_law_all66.2.2.2.2.2.2.2.1
theorem dL_law_1114 : decode cL_law 1114 = .ok (.iconst 1, 1) := dL_law_all66.2.2.2.2.2.2.2.2.1
theorem dL_law_1115 : decode cL_law 1115 = .ok (.iadd, 1) := dL_law_all66.2.2.2.2.2.2.2.2.2.1
theorem dL_law_1116 : decode cL_law 1116 = .ok (.iaload, 1) := dL_law_all66.2.2.2.2.2.2.2.2.2.2.1
theorem dL_law_1117 : decode cL_law 1117 = .ok (.aload_n 0, 1) := dL_law_all66.2.2.2.2.2.2.2.2.2.2.2
theorem dL_law_all67 : decode cL_law 1118 = .ok (.iload_n 3, 1) ∧ decode cL_law 1119 = .ok (.iconst 2, 1) ∧ decode cL_law 1120 = .ok (.iadd, 1) ∧ decode cL_law 1121 = .ok (.iaload, 1) ∧ decode cL_law 1122 = .ok (.aload_n 0, 1) ∧ decode cL_law 1123 = .ok (.iload_n 3, 1) ∧ decode cL_law 1124 = .ok (.iconst 3, 1) ∧ decode cL_law 1125 = .ok (.iadd, 1) ∧ decode cL_law 1126 = .ok (.iaload, 1) ∧ decode cL_law 1127 = .ok (.invokevirtual 117, 3) ∧ decode cL_law 1130 = .ok (.pop, 1) ∧ decode cL_law 1131 = .ok (.goto 521, 3) := ⟨dq_29 sB_46 14 rfl, dq_5 sB_46 15 rfl, dq_96 sB_46 16 rfl, dq_46 sB_46 17 rfl, dq_42 sB_46 18 rfl, dq_29 sB_46 19 rfl, dq_6 sB_46 20 rfl, dq_96 sB_46 21 rfl, dq_46 sB_46 22 rfl, dq_182 sB_46 23 rfl 117 (by decide), dq_87 sB_47 2 rfl, dq_167 sB_47 3 rfl 521 (by decide)⟩
theorem dL_law_1118 : decode cL_law 1118 = .ok (.iload_n 3, 1) := dL_law_all67.1
theorem dL_law_1119 : decode cL_law 1119 = .ok (.iconst 2, 1) := dL_law_all67.2.1
theorem dL_law_1120 : decode cL_law 1120 = .ok (.iadd, 1) := dL_law_all67.2.2.1
theorem dL_law_1121 : decode cL_law 1121 = .ok (.iaload, 1) := dL_law_all67.2.2.2.1
theorem dL_law_1122 : decode cL_law 1122 = .ok (.aload_n 0, 1) := dL_law_all67.2.2.2.2.1
theorem dL_law_1123 : decode cL_law 1123 = .ok (.iload_n 3, 1) := dL_law_all67.2.2.2.2.2.1
theorem dL_law_1124 : decode cL_law 1124 = .ok (.iconst 3, 1) := dL_law_all67.2.2.2.2.2.2.1
theorem dL_law_1125 : decode cL_law 1125 = .ok (.iadd, 1) := dL_law_all67.2.2.2.2.2.2.2.1
theorem dL_law_1126 : decode cL_law 1126 = .ok (.iaload, 1) := dL_law_all67.2.2.2.2.2.2.2.2.1
theorem dL_law_1127 : decode cL_law 1127 = .ok (.invokevirtual 117, 3) := dL_law_all67.2.2.2.2.2.2.2.2.2.1
theorem dL_law_1130 : decode cL_law 1130 = .ok (.pop, 1) := dL_law_all67.2.2.2.2.2.2.2.2.2.2.1
theorem dL_law_1131 : decode cL_law 1131 = .ok (.goto 521, 3) := dL_law_all67.2.2.2.2.2.2.2.2.2.2.2
theorem dL_law_all68 : decode cL_law 1134 = .ok (.aload_n 1, 1) ∧ decode cL_law 1135 = .ok (.aload_n 0, 1) ∧ decode cL_law 1136 = .ok (.iload_n 3, 1) ∧ decode cL_law 1137 = .ok (.iconst 1, 1) ∧ decode cL_law 1138 = .ok (.iadd, 1) ∧ decode cL_law 1139 = .ok (.iaload, 1) ∧ decode cL_law 1140 = .ok (.aload_n 0, 1) ∧ decode cL_law 1141 = .ok (.iload_n 3, 1) ∧ decode cL_law 1142 = .ok (.iconst 2, 1) ∧ decode cL_law 1143 = .ok (.iadd, 1) ∧ decode cL_law 1144 = .ok (.iaload, 1) ∧ decode cL_law 1145 = .ok (.invokevirtual 118, 3) := ⟨dq_43 sB_47 6 rfl, dq_42 sB_47 7 rfl, dq_29 sB_47 8 rfl, dq_4 sB_47 9 rfl, dq_96 sB_47 10 rfl, dq_46 sB_47 11 rfl, dq_42 sB_47 12 rfl, dq_29 sB_47 13 rfl, dq_5 sB_47 14 rfl, dq_96 sB_47 15 rfl, dq_46 sB_47 16 rfl, dq_182 sB_47 17 rfl 118 (by decide)⟩
theorem dL_law_1134 : decode cL_law 1134 = .ok (.aload_n 1, 1) := dL_law_all68.1
theorem dL_law_1135 : decode cL_law 1135 = .ok (.aload_n 0, 1) := dL_law_all68.2.1
theorem dL_law_1136 : decode cL_law 1136 = .ok (.iload_n 3, 1) := dL_law_all68.2.2.1
theorem dL_law_1137 : decode cL_law 1137 = .ok (.iconst 1, 1) := dL_law_all68.2.2.2.1
theorem dL_law_1138 : decode cL_law 1138 = .ok (.iadd, 1) := dL_law_all68.2.2.2.2.1
theorem dL_law_1139 : decode cL_law 1139 = .ok (.iaload, 1) := dL_law_all68.2.2.2.2.2.1
theorem dL_law_1140 : decode cL_law 1140 = .ok (.aload_n 0, 1) := dL_law_all68.2.2.2.2.2.2.1
theorem dL_law_1141 : decode cL_law 1141 = .ok (.iload_n 3, 1) := dL_law_all68.2.2.2.2.2.2.2.1
theorem dL_law_1142 : decode cL_law 1142 = .ok (.iconst 2, 1) := dL_law_all68.2.2.2.2.2.2.2.2.1
theorem dL_law_1143 : decode cL_law 1143 = .ok (.iadd, 1) := dL_law_all68.2.2.2.2.2.2.2.2.2.1
theorem dL_law_1144 : decode cL_law 1144 = .ok (.iaload, 1) := dL_law_all68.2.2.2.2.2.2.2.2.2.2.1
theorem dL_law_1145 : decode cL_law 1145 = .ok (.invokevirtual 118, 3) := dL_law_all68.2.2.2.2.2.2.2.2.2.2.2
theorem dL_law_all69 : decode cL_law 1148 = .ok (.pop, 1) ∧ decode cL_law 1149 = .ok (.aload_n 2, 1) ∧ decode cL_law 1150 = .ok (.aload_n 0, 1) ∧ decode cL_law 1151 = .ok (.iload_n 3, 1) ∧ decode cL_law 1152 = .ok (.iconst 1, 1) ∧ decode cL_law 1153 = .ok (.iadd, 1) ∧ decode cL_law 1154 = .ok (.iaload, 1) ∧ decode cL_law 1155 = .ok (.aload_n 0, 1) ∧ decode cL_law 1156 = .ok (.iload_n 3, 1) ∧ decode cL_law 1157 = .ok (.iconst 2, 1) ∧ decode cL_law 1158 = .ok (.iadd, 1) ∧ decode cL_law 1159 = .ok (.iaload, 1) := ⟨dq_87 sB_47 20 rfl, dq_44 sB_47 21 rfl, dq_42 sB_47 22 rfl, dq_29 sB_47 23 rfl, dq_4 sB_48 0 rfl, dq_96 sB_48 1 rfl, dq_46 sB_48 2 rfl, dq_42 sB_48 3 rfl, dq_29 sB_48 4 rfl, dq_5 sB_48 5 rfl, dq_96 sB_48 6 rfl, dq_46 sB_48 7 rfl⟩
theorem dL_law_1148 : decode cL_law 1148 = .ok (.pop, 1) := dL_law_all69.1
theorem dL_law_1149 : decode cL_law 1149 = .ok (.aload_n 2, 1) := dL_law_all69.2.1
theorem dL_law_1150 : decode cL_law 1150 = .ok (.aload_n 0, 1) := dL_law_all69.2.2.1
theorem dL_law_1151 : decode cL_law 1151 = .ok (.iload_n 3, 1) := dL_law_all69.2.2.2.1
theorem dL_law_1152 : decode cL_law 1152 = .ok (.iconst 1, 1) := dL_law_all69.2.2.2.2.1
theorem dL_law_1153 : decode cL_law 1153 = .ok (.iadd, 1) := dL_law_all69.2.2.2.2.2.1
theorem dL_law_1154 : decode cL_law 1154 = .ok (.iaload, 1) := dL_law_all69.2.2.2.2.2.2.1
theorem dL_law_1155 : decode cL_law 1155 = .ok (.aload_n 0, 1) := dL_law_all69.2.2.2.2.2.2.2.1
theorem dL_law_1156 : decode cL_law 1156 = .ok (.iload_n 3, 1) := dL_law_all69.2.2.2.2.2.2.2.2.1
theorem dL_law_1157 : decode cL_law 1157 = .ok (.iconst 2, 1) := dL_law_all69.2.2.2.2.2.2.2.2.2.1
theorem dL_law_1158 : decode cL_law 1158 = .ok (.iadd, 1) := dL_law_all69.2.2.2.2.2.2.2.2.2.2.1
theorem dL_law_1159 : decode cL_law 1159 = .ok (.iaload, 1) := dL_law_all69.2.2.2.2.2.2.2.2.2.2.2
theorem dL_law_all70 : decode cL_law 1160 = .ok (.invokevirtual 121, 3) ∧ decode cL_law 1163 = .ok (.pop, 1) ∧ decode cL_law 1164 = .ok (.goto 488, 3) ∧ decode cL_law 1167 = .ok (.aload_n 1, 1) ∧ decode cL_law 1168 = .ok (.aload_n 0, 1) ∧ decode cL_law 1169 = .ok (.iload_n 3, 1) ∧ decode cL_law 1170 = .ok (.iconst 1, 1) ∧ decode cL_law 1171 = .ok (.iadd, 1) ∧ decode cL_law 1172 = .ok (.iaload, 1) ∧ decode cL_law 1173 = .ok (.aload_n 0, 1) ∧ decode cL_law 1174 = .ok (.iload_n 3, 1) ∧ decode cL_law 1175 = .ok (.iconst 2, 1) := ⟨dq_182 sB_48 8 rfl 121 (by decide), dq_87 sB_48 11 rfl, dq_167 sB_48 12 rfl 488 (by decide), dq_43 sB_48 15 rfl, dq_42 sB_48 16 rfl, dq_29 sB_48 17 rfl, dq_4 sB_48 18 rfl, dq_96 sB_48 19 rfl, dq_46 sB_48 20 rfl, dq_42 sB_48 21 rfl, dq_29 sB_48 22 rfl, dq_5 sB_48 23 rfl⟩
theorem dL_law_1160 : decode cL_law 1160 = .ok (.invokevirtual 121, 3) := dL_law_all70.1
theorem dL_law_1163 : decode cL_law 1163 = .ok (.pop, 1) := dL_law_all70.2.1
theorem dL_law_1164 : decode cL_law 1164 = .ok (.goto 488, 3) := dL_law_all70.2.2.1
theorem dL_law_1167 : decode cL_law 1167 = .ok (.aload_n 1, 1) := dL_law_all70.2.2.2.1
theorem dL_law_1168 : decode cL_law 1168 = .ok (.aload_n 0, 1) := dL_law_all70.2.2.2.2.1
theorem dL_law_1169 : decode cL_law 1169 = .ok (.iload_n 3, 1) := dL_law_all70.2.2.2.2.2.1
theorem dL_law_1170 : decode cL_law 1170 = .ok (.iconst 1, 1) := dL_law_all70.2.2.2.2.2.2.1
theorem dL_law_1171 : decode cL_law 1171 = .ok (.iadd, 1) := dL_law_all70.2.2.2.2.2.2.2.1
theorem dL_law_1172 : decode cL_law 1172 = .ok (.iaload, 1) := dL_law_all70.2.2.2.2.2.2.2.2.1
theorem dL_law_1173 : decode cL_law 1173 = .ok (.aload_n 0, 1) := dL_law_all70.2.2.2.2.2.2.2.2.2.1
theorem dL_law_1174 : decode cL_law 1174 = .ok (.iload_n 3, 1) := dL_law_all70.2.2.2.2.2.2.2.2.2.2.1
theorem dL_law_1175 : decode cL_law 1175 = .ok (.iconst 2, 1) := dL_law_all70.2.2.2.2.2.2.2.2.2.2.2
theorem dL_law_all71 : decode cL_law 1176 = .ok (.iadd, 1) ∧ decode cL_law 1177 = .ok (.iaload, 1) ∧ decode cL_law 1178 = .ok (.invokevirtual 122, 3) ∧ decode cL_law 1181 = .ok (.pop, 1) ∧ decode cL_law 1182 = .ok (.aload_n 2, 1) ∧ decode cL_law 1183 = .ok (.aload_n 0, 1) ∧ decode cL_law 1184 = .ok (.iload_n 3, 1) ∧ decode cL_law 1185 = .ok (.iconst 1, 1) ∧ decode cL_law 1186 = .ok (.iadd, 1) ∧ decode cL_law 1187 = .ok (.iaload, 1) ∧ decode cL_law 1188 = .ok (.aload_n 0, 1) ∧ decode cL_law 1189 = .ok (.iload_n 3, 1) := ⟨dq_96 sB_49 0 rfl, dq_46 sB_49 1 rfl, dq_182 sB_49 2 rfl 122 (by decide), dq_87 sB_49 5 rfl, dq_44 sB_49 6 rfl, dq_42 sB_49 7 rfl, dq_29 sB_49 8 rfl, dq_4 sB_49 9 rfl, dq_96 sB_49 10 rfl, dq_46 sB_49 11 rfl, dq_42 sB_49 12 rfl, dq_29 sB_49 13 rfl⟩
theorem dL_law_1176 : decode cL_law 1176 = .ok (.iadd, 1) := dL_law_all71.1
theorem dL_law_1177 : decode cL_law 1177 = .ok (.iaload, 1) := dL_law_all71.2.1
theorem dL_law_1178 : decode cL_law 1178 = .ok (.invokevirtual 122, 3) := dL_law_all71.2.2.1
theorem dL_law_1181 : decode cL_law 1181 = .ok (.pop, 1) := dL_law_all71.2.2.2.1
theorem dL_law_1182 : decode cL_law 1182 = .ok (.aload_n 2, 1) := dL_law_all71.2.2.2.2.1
theorem dL_law_1183 : decode cL_law 1183 = .ok (.aload_n 0, 1) := dL_law_all71.2.2.2.2.2.1
theorem dL_law_1184 : decode cL_law 1184 = .ok (.iload_n 3, 1) := dL_law_all71.2.2.2.2.2.2.1
theorem dL_law_1185 : decode cL_law 1185 = .ok (.iconst 1, 1) := dL_law_all71.2.2.2.2.2.2.2.1
theorem dL_law_1186 : decode cL_law 1186 = .ok (.iadd, 1) := dL_law_all71.2.2.2.2.2.2.2.2.1
theorem dL_law_1187 : decode cL_law 1187 = .ok (.iaload, 1) := dL_law_all71.2.2.2.2.2.2.2.2.2.1
theorem dL_law_1188 : decode cL_law 1188 = .ok (.aload_n 0, 1) := dL_law_all71.2.2.2.2.2.2.2.2.2.2.1
theorem dL_law_1189 : decode cL_law 1189 = .ok (.iload_n 3, 1) := dL_law_all71.2.2.2.2.2.2.2.2.2.2.2
theorem dL_law_all72 : decode cL_law 1190 = .ok (.iconst 2, 1) ∧ decode cL_law 1191 = .ok (.iadd, 1) ∧ decode cL_law 1192 = .ok (.iaload, 1) ∧ decode cL_law 1193 = .ok (.invokevirtual 125, 3) ∧ decode cL_law 1196 = .ok (.pop, 1) ∧ decode cL_law 1197 = .ok (.goto 455, 3) ∧ decode cL_law 1200 = .ok (.aload_n 1, 1) ∧ decode cL_law 1201 = .ok (.aload_n 0, 1) ∧ decode cL_law 1202 = .ok (.iload_n 3, 1) ∧ decode cL_law 1203 = .ok (.iconst 1, 1) ∧ decode cL_law 1204 = .ok (.iadd, 1) ∧ decode cL_law 1205 = .ok (.iaload, 1) := ⟨dq_5 sB_49 14 rfl, dq_96 sB_49 15 rfl, dq_46 sB_49 16 rfl, dq_182 sB_49 17 rfl 125 (by decide), dq_87 sB_49 20 rfl, dq_167 sB_49 21 rfl 455 (by decide), dq_43 sB_50 0 rfl, dq_42 sB_50 1 rfl, dq_29 sB_50 2 rfl, dq_4 sB_50 3 rfl, dq_96 sB_50 4 rfl, dq_46 sB_50 5 rfl⟩
theorem dL_law_1190 : decode cL_law 1190 = .ok (.iconst 2, 1) := dL_law_all72.1
theorem dL_law_1191 : decode cL_law 1191 = .ok (.iadd, 1) := dL_law_all72.2.1
theorem dL_law_1192 : decode cL_law 1192 = .ok (.iaload, 1) := dL_law_all72.2.2.1
theorem dL_law_1193 : decode cL_law 1193 = .ok (.invokevirtual 125, 3) := dL_law_all72.2.2.2.1
theorem dL_law_1196 : decode cL_law 1196 = .ok (.pop, 1) := dL_law_all72.2.2.2.2.1
theorem dL_law_1197 : decode cL_law 1197 = .ok (.goto 455, 3) := dL_law_all72.2.2.2.2.2.1
set_option maxHeartbeats 4000000 in
set_option maxRecDepth 100000 in
theorem law_case_20 {p : Program} {l : Launch} {e : Env} {s : State} {m : MethodId} {below : List Frame} {meth : Method} {c : Code} {D : va_G} {cI cY cJ cQ : ClassId} {b L aK aV : Nat} {xs : Nat → Int32} {ad rw md : Nat → Nat} {sd i : Int32} {nx : Nat → Int32} {fx rs : Nat → Nat → Int32} {lo : Nat → Int64} {ny : Nat → Int32} {fy : Nat → Nat → Int32} {fl : Nat → Int64} {H : Heap} {locs : List Loc} {ls : Array Slot} (C0 : lawC p s m meth c b L xs D cI cY cJ cQ aK aV) (I : inv nx fx rs ny fy) (hP : va_P D vwCl (wX ad rw sd cI cY cJ cQ nx fx rs lo ++ wM md sd cI cY cJ cQ ny fy fl) H) (hD : va_D (fun q : Nat => s.heap.size ≤ q) (wX ad rw sd cI cY cJ cQ nx fx rs lo ++ wM md sd cI cY cJ cQ ny fy fl)) (hS : va_S (fun q : Nat => s.heap.size ≤ q) s.heap H locs) (hl : lv_has ls 4 [(0, .ref b), (1, .ref (ad 0)), (2, .ref (md 64)), (3, .int i)]) (hi1 : 1 ≤ i.toInt) (hi2 : i.toInt + 5 < L) (kk : ∀ (nx : Nat → Int32) (fx rs : Nat → Nat → Int32) (lo : Nat → Int64) (ny : Nat → Int32) (fy : Nat → Nat → Int32) (fl : Nat → Int64) (H : Heap) (locs : List Loc) (ls : Array Slot), inv nx fx rs ny fy → va_P D vwCl (wX ad rw sd cI cY cJ cQ nx fx rs lo ++ wM md sd cI cY cJ cQ ny fy fl) H → va_D (fun q : Nat => s.heap.size ≤ q) (wX ad rw sd cI cY cJ cQ nx fx rs lo ++ wM md sd cI cY cJ cQ ny fy fl) → va_S (fun q : Nat => s.heap.size ≤ q) s.heap H locs → lv_has ls 4 [(0, .ref b), (1, .ref (ad 0)), (2, .ref (md 64)), (3, .int i)] → W p l e room_1 s m #[Value.ref b] below meth c H locs 107 4890 (lw_Z below #[Value.ref b] s) (F0 m 1652 ls [])) : W p l e room_1 s m #[Value.ref b] below meth c H locs 107 4890 (lw_Z below #[Value.ref b] s) (F0 m 1058 ls []) := by
  obtain ⟨C1, hK, hN, hT, hL⟩ := C0
  obtain ⟨hx, hb, hr, hml, hown, hts0, hX, hbl, hlocks, hgv⟩ := C1
  have hA : ∀ q : Nat, s.heap.size ≤ q → (fun q : Nat => s.heap.size ≤ q) q := fun _ h => h
  have hbA : ¬ (fun q : Nat => s.heap.size ≤ q) b := Nat.not_le.mpr hbl
  have hts : ∀ w ∈ wsL_law, w.before #[Value.ref b] s = true := fun w h => hts0 w (wsL_law_in w h)
  replace hown : s.vm.findClass RL = some m.cls := hown
  replace hb : c.code = cL_law := hb
  have hak1 : vp_in (i + 1) L := law_in hi1 hi2 hL (by decide)
  obtain ⟨xk1, exk1⟩ : ∃ y : Int32, y = xs (i + 1).toNatClampNeg := ⟨_, rfl⟩
  have hak2 : vp_in (i + 2) L := law_in hi1 hi2 hL (by decide)
  obtain ⟨xk2, exk2⟩ : ∃ y : Int32, y = xs (i + 2).toNatClampNeg := ⟨_, rfl⟩
  refine inv_el I ?_
  intro Xhna Xhnb XH XD XV XN Xcna Xcnb XF Xpna Xpnb XG XO XW Xgna Xgnb XJ Xlna Xlnb Xdla Xdlb Xana Xanb Xuna Xunb XU Xlca Xlcb Xtna Xtnb XS Mhna Mhnb MH MS Mmlna Mmlnb Mmtna Mmtnb Chn Cho Chc Chp Chs Ccn Cfo Cwo Cpn Cpk Cpf Cpo Cpd Cpe Cgn Cgk Cgs Cgd Cge Can Cak Cah Cay Caz Cun Cuk Cuy Cuw Cum Clc Clp Cla Clb Caw Ciw Cln Ctd Cro Cmtn Cmtr Cmst Csh
  have Tcn := i_eq Ccn
  have Tpn := i_eq Cpn
  have Tgn := i_eq Cgn
  have Tan := i_eq Can
  have Tun := i_eq Cun
  have Tlc := i_eq Clc
  have Tln := i_eq Cln
  refine lv_aload_n hx hb dL_law_1058 rfl (lv_at hl 1 rfl) ?_
  refine law_arg (v := 1) hx hb hX hbl hbA hS (lv_at hl 0 rfl) (lv_at hl 3 rfl) (by decide) hak1 exk1 dL_law_1059 dL_law_1060 dL_law_1061 dL_law_1062 dL_law_1063 ?_
  refine law_arg (v := 2) hx hb hX hbl hbA hS (lv_at hl 0 rfl) (lv_at hl 3 rfl) (by decide) hak2 exk2 dL_law_1064 dL_law_1065 dL_law_1066 dL_law_1067 dL_law_1068 ?_
  refine st_iU (va_runV (C := RX10) (As := [.int xk1, .int xk2]) (rest := []) ⟨hx, hb, hml, hown, hts⟩ (ct_X10_duty l D cI cY cJ cQ _ ad (nx 0) (nx 1) (nx 2) (nx 4) (nx 7) (nx 8) (nx 9) (nx 10) (nx 11) (nx 12) (nx 13) (nx 14) (nx 15) (fx 12) (fx 28) (fx 29) (fx 30) (fx 34) (fx 35) (fx 36) (fx 37) xk1 xk2 Xcna Xcnb Xana Xanb Xdla Xdlb) (cwV 2 hts gL_law_X10_duty rfl rfl rfl ⟨rfl, cdX10_duty⟩ ⟨Nat.le_of_ble_eq_true rfl, Nat.le_of_ble_eq_true rfl⟩) (cPreV (hP.sub [0, 23, 25, 42, 44, 45, 46, 50, 51, 52, 53, 54] rfl) hK (hD.sub [0, 23, 25, 42, 44, 45, 46, 50, 51, 52, 53, 54] (by decide +kernel) rfl) hN (ci := 10) (q0 := 0) rfl rfl) rfl rfl hl.1 rfl (lv_room (Nat.le_of_ble_eq_true rfl)) dL_law_1069 ⟨Nat.le_of_ble_eq_true rfl, Nat.le_of_ble_eq_true rfl⟩) hP hD hS hA [0, 23, 25, 42, 44, 45, 46, 50, 51, 52, 53, 54] rfl (fun _ => rfl) (fun r3 u1 H locs hw2 => ?_)
  clear hP hS
  intro hP hS
  replace hw2 : True := hw2
  refine lv_pop hx hb dL_law_1072 rfl ?_
  have hPx : va_P D vwCl (wX ad rw sd cI cY cJ cQ nx fx rs lo ++ wM md sd cI cY cJ cQ ny fy fl) H := hP
  have hDx : va_D (fun q : Nat => s.heap.size ≤ q) (wX ad rw sd cI cY cJ cQ nx fx rs lo ++ wM md sd cI cY cJ cQ ny fy fl) := wXM_D hD
  have hP := hPx.comm
  have hD := hDx.comm
  refine lv_aload_n hx hb dL_law_1073 rfl (lv_at hl 2 rfl) ?_
  refine law_arg (v := 1) hx hb hX hbl hbA hS (lv_at hl 0 rfl) (lv_at hl 3 rfl) (by decide) hak1 exk1 dL_law_1074 dL_law_1075 dL_law_1076 dL_law_1077 dL_law_1078 ?_
  refine law_arg (v := 2) hx hb hX hbl hbA hS (lv_at hl 0 rfl) (lv_at hl 3 rfl) (by decide) hak2 exk2 dL_law_1079 dL_law_1080 dL_law_1081 dL_law_1082 dL_law_1083 ?_
  refine st_iU (va_runV (C := RX11) (As := [.int xk1, .int xk2]) (rest := []) ⟨hx, hb, hml, hown, hts⟩ (ct_X11_duty l D cI cY cJ cQ _ md sd (ny 0) (ny 1) (ny 2) (ny 3) (ny 4) (ny 5) (ny 6) (ny 7) (ny 8) (ny 9) (ny 10) (ny 11) (ny 12) (ny 13) (ny 14) (ny 15) (ny 16) (ny 17) (ny 18) (ny 19) (ny 20) (ny 21) (ny 22) (fy 21) (fy 11) (fy 24) (fy 25) (fy 26) (fy 27) xk1 xk2 (by omega) (by omega) Mmlna Mmlnb (by omega) (by omega)) (cwV 2 hts gL_law_X11_duty rfl rfl rfl ⟨rfl, cdX11_duty⟩ ⟨Nat.le_of_ble_eq_true rfl, Nat.le_of_ble_eq_true rfl⟩) (cPreV (hP.sub [0, 23, 13, 26, 27, 28, 29] rfl) hK (hD.sub [0, 23, 13, 26, 27, 28, 29] (by decide +kernel) rfl) hN (ci := 11) (q0 := 0) rfl rfl) rfl rfl hl.1 rfl (lv_room (Nat.le_of_ble_eq_true rfl)) dL_law_1084 ⟨Nat.le_of_ble_eq_true rfl, Nat.le_of_ble_eq_true rfl⟩) hP hD hS hA [0, 23, 13, 26, 27, 28, 29] rfl (fun _ => rfl) (fun r6 u4 H locs hw5 => ?_)
  clear hP hS
  intro hP hS
  replace hw5 : True := hw5
  refine lv_pop hx hb dL_law_1087 rfl ?_
  refine lv_goto (tgt := 1652) hx hb dL_law_1088 (by decide) ?_
  have hPm : va_P D vwCl (wM md sd cI cY cJ cQ (upd ny 0 0) fy fl ++ wX ad rw sd cI cY cJ cQ nx fx rs lo) H := hP
  have hDm : va_D (fun q : Nat => s.heap.size ≤ q) (wM md sd cI cY cJ cQ (upd ny 0 0) fy fl ++ wX ad rw sd cI cY cJ cQ nx fx rs lo) := wMX_D hD
  exact kk nx fx rs lo (upd ny 0 0) fy fl H locs ls ⟨Xhna, Xhnb, XH, XD, XV, XN, Xcna, Xcnb, XF, Xpna, Xpnb, XG, XO, XW, Xgna, Xgnb, XJ, Xlna, Xlnb, Xdla, Xdlb, Xana, Xanb, Xuna, Xunb, XU, Xlca, Xlcb, Xtna, Xtnb, XS, Mhna, Mhnb, MH, MS, Mmlna, Mmlnb, Mmtna, Mmtnb, Chn, Cho, Chc, Chp, Chs, Ccn, Cfo, Cwo, Cpn, Cpk, Cpf, Cpo, Cpd, Cpe, Cgn, Cgk, Cgs, Cgd, Cge, Can, Cak, Cah, Cay, Caz, Cun, Cuk, Cuy, Cuw, Cum, Clc, Clp, Cla, Clb, Caw, Ciw, Cln, Ctd, Cro, Cmtn, Cmtr, Cmst, Csh⟩ hPm.comm hDm.comm hS hl

set_option maxHeartbeats 4000000 in
set_option maxRecDepth 100000 in
theorem law_case_21 {p : Program} {l : Launch} {e : Env} {s : State} {m : MethodId} {below : List Frame} {meth : Method} {c : Code} {D : va_G} {cI cY cJ cQ : ClassId} {b L aK aV : Nat} {xs : Nat → Int32} {ad rw md : Nat → Nat} {sd i : Int32} {nx : Nat → Int32} {fx rs : Nat → Nat → Int32} {lo : Nat → Int64} {ny : Nat → Int32} {fy : Nat → Nat → Int32} {fl : Nat → Int64} {H : Heap} {locs : List Loc} {ls : Array Slot} (C0 : lawC p s m meth c b L xs D cI cY cJ cQ aK aV) (I : inv nx fx rs ny fy) (hP : va_P D vwCl (wX ad rw sd cI cY cJ cQ nx fx rs lo ++ wM md sd cI cY cJ cQ ny fy fl) H) (hD : va_D (fun q : Nat => s.heap.size ≤ q) (wX ad rw sd cI cY cJ cQ nx fx rs lo ++ wM md sd cI cY cJ cQ ny fy fl)) (hS : va_S (fun q : Nat => s.heap.size ≤ q) s.heap H locs) (hl : lv_has ls 4 [(0, .ref b), (1, .ref (ad 0)), (2, .ref (md 64)), (3, .int i)]) (hi1 : 1 ≤ i.toInt) (hi2 : i.toInt + 5 < L) (kk : ∀ (nx : Nat → Int32) (fx rs : Nat → Nat → Int32) (lo : Nat → Int64) (ny : Nat → Int32) (fy : Nat → Nat → Int32) (fl : Nat → Int64) (H : Heap) (locs : List Loc) (ls : Array Slot), inv nx fx rs ny fy → va_P D vwCl (wX ad rw sd cI cY cJ cQ nx fx rs lo ++ wM md sd cI cY cJ cQ ny fy fl) H → va_D (fun q : Nat => s.heap.size ≤ q) (wX ad rw sd cI cY cJ cQ nx fx rs lo ++ wM md sd cI cY cJ cQ ny fy fl) → va_S (fun q : Nat => s.heap.size ≤ q) s.heap H locs → lv_has ls 4 [(0, .ref b), (1, .ref (ad 0)), (2, .ref (md 64)), (3, .int i)] → W p l e room_1 s m #[Value.ref b] below meth c H locs 107 4890 (lw_Z below #[Value.ref b] s) (F0 m 1652 ls [])) : W p l e room_1 s m #[Value.ref b] below meth c H locs 107 4890 (lw_Z below #[Value.ref b] s) (F0 m 1091 ls []) := by
  obtain ⟨C1, hK, hN, hT, hL⟩ := C0
  obtain ⟨hx, hb, hr, hml, hown, hts0, hX, hbl, hlocks, hgv⟩ := C1
  have hA : ∀ q : Nat, s.heap.size ≤ q → (fun q : Nat => s.heap.size ≤ q) q := fun _ h => h
  have hbA : ¬ (fun q : Nat => s.heap.size ≤ q) b := Nat.not_le.mpr hbl
  have hts : ∀ w ∈ wsL_law, w.before #[Value.ref b] s = true := fun w h => hts0 w (wsL_law_in w h)
  replace hown : s.vm.findClass RL = some m.cls := hown
  replace hb : c.code = cL_law := hb
  have hak1 : vp_in (i + 1) L := law_in hi1 hi2 hL (by decide)
  obtain ⟨xk1, exk1⟩ : ∃ y : Int32, y = xs (i + 1).toNatClampNeg := ⟨_, rfl⟩
  have hak2 : vp_in (i + 2) L := law_in hi1 hi2 hL (by decide)
  obtain ⟨xk2, exk2⟩ : ∃ y : Int32, y = xs (i + 2).toNatClampNeg := ⟨_, rfl⟩
  have hak3 : vp_in (i + 3) L := law_in hi1 hi2 hL (by decide)
  obtain ⟨xk3, exk3⟩ : ∃ y : Int32, y = xs (i + 3).toNatClampNeg := ⟨_, rfl⟩
  refine inv_el I ?_
  intro Xhna Xhnb XH XD XV XN Xcna Xcnb XF Xpna Xpnb XG XO XW Xgna Xgnb XJ Xlna Xlnb Xdla Xdlb Xana Xanb Xuna Xunb XU Xlca Xlcb Xtna Xtnb XS Mhna Mhnb MH MS Mmlna Mmlnb Mmtna Mmtnb Chn Cho Chc Chp Chs Ccn Cfo Cwo Cpn Cpk Cpf Cpo Cpd Cpe Cgn Cgk Cgs Cgd Cge Can Cak Cah Cay Caz Cun Cuk Cuy Cuw Cum Clc Clp Cla Clb Caw Ciw Cln Ctd Cro Cmtn Cmtr Cmst Csh
  have Tcn := i_eq Ccn
  have Tpn := i_eq Cpn
  have Tgn := i_eq Cgn
  have Tan := i_eq Can
  have Tun := i_eq Cun
  have Tlc := i_eq Clc
  have Tln := i_eq Cln
  refine lv_aload_n hx hb dL_law_1091 rfl (lv_at hl 1 rfl) ?_
  refine law_arg (v := 1) hx hb hX hbl hbA hS (lv_at hl 0 rfl) (lv_at hl 3 rfl) (by decide) hak1 exk1 dL_law_1092 dL_law_1093 dL_law_1094 dL_law_1095 dL_law_1096 ?_
  refine law_arg (v := 2) hx hb hX hbl hbA hS (lv_at hl 0 rfl) (lv_at hl 3 rfl) (by decide) hak2 exk2 dL_law_1097 dL_law_1098 dL_law_1099 dL_law_1100 dL_law_1101 ?_
  refine law_arg (v := 3) hx hb hX hbl hbA hS (lv_at hl 0 rfl) (lv_at hl 3 rfl) (by decide) hak3 exk3 dL_law_1102 dL_law_1103 dL_law_1104 dL_law_1105 dL_law_1106 ?_
  refine st_iU (va_runV (C := RX10) (As := [.int xk1, .int xk2, .int xk3]) (rest := []) ⟨hx, hb, hml, hown, hts⟩ (ct_X10_room l D cI cY cJ cQ _ ad (nx 0) (nx 1) (nx 2) (nx 4) (fx 14) (fx 15) xk1 xk2 xk3) (cwV 3 hts gL_law_X10_room rfl rfl rfl ⟨rfl, cdX10_room⟩ ⟨Nat.le_of_ble_eq_true rfl, Nat.le_of_ble_eq_true rfl⟩) (cPreV (hP.sub [0, 23, 27, 28] rfl) hK (hD.sub [0, 23, 27, 28] (by decide +kernel) rfl) hN (ci := 10) (q0 := 0) rfl rfl) rfl rfl hl.1 rfl (lv_room (Nat.le_of_ble_eq_true rfl)) dL_law_1107 ⟨Nat.le_of_ble_eq_true rfl, Nat.le_of_ble_eq_true rfl⟩) hP hD hS hA [0, 23, 27, 28] rfl (fun _ => rfl) (fun r3 u1 H locs hw2 => ?_)
  clear hP hS
  intro hP hS
  obtain ⟨aw_4, iw_5⟩ := u1
  replace hw2 : (r3, (aw_4, iw_5)) = sp_room (fx 14) (fx 15) xk1 xk2 xk3 := hw2
  refine lv_pop hx hb dL_law_1110 rfl ?_
  have hPx : va_P D vwCl (wX ad rw sd cI cY cJ cQ nx (upR (upR fx 14 aw_4) 15 iw_5) rs lo ++ wM md sd cI cY cJ cQ ny fy fl) H := hP
  have hDx : va_D (fun q : Nat => s.heap.size ≤ q) (wX ad rw sd cI cY cJ cQ nx (upR (upR fx 14 aw_4) 15 iw_5) rs lo ++ wM md sd cI cY cJ cQ ny fy fl) := wXM_D hD
  have hP := hPx.comm
  have hD := hDx.comm
  refine lv_aload_n hx hb dL_law_1111 rfl (lv_at hl 2 rfl) ?_
  refine law_arg (v := 1) hx hb hX hbl hbA hS (lv_at hl 0 rfl) (lv_at hl 3 rfl) (by decide) hak1 exk1 dL_law_1112 dL_law_1113 dL_law_1114 dL_law_1115 dL_law_1116 ?_
  refine law_arg (v := 2) hx hb hX hbl hbA hS (lv_at hl 0 rfl) (lv_at hl 3 rfl) (by decide) hak2 exk2 dL_law_1117 dL_law_1118 dL_law_1119 dL_law_1120 dL_law_1121 ?_
  refine law_arg (v := 3) hx hb hX hbl hbA hS (lv_at hl 0 rfl) (lv_at hl 3 rfl) (by decide) hak3 exk3 dL_law_1122 dL_law_1123 dL_law_1124 dL_law_1125 dL_law_1126 ?_
  refine st_iU (va_runV (C := RX11) (As := [.int xk1, .int xk2, .int xk3]) (rest := []) ⟨hx, hb, hml, hown, hts⟩ (ct_X11_room l D cI cY cJ cQ _ md sd (ny 0) (ny 1) (ny 2) (ny 3) (ny 4) (ny 5) (ny 6) (ny 7) (ny 8) (ny 9) (ny 10) (ny 11) (ny 12) (ny 13) (ny 14) (ny 15) (ny 16) (ny 17) (ny 18) (ny 19) (ny 20) (ny 21) (ny 22) (fy 28) (fy 29) xk1 xk2 xk3) (cwV 3 hts gL_law_X11_room rfl rfl rfl ⟨rfl, cdX11_room⟩ ⟨Nat.le_of_ble_eq_true rfl, Nat.le_of_ble_eq_true rfl⟩) (cPreV (hP.sub [0, 30, 31] rfl) hK (hD.sub [0, 30, 31] (by decide +kernel) rfl) hN (ci := 11) (q0 := 0) rfl rfl) rfl rfl hl.1 rfl (lv_room (Nat.le_of_ble_eq_true rfl)) dL_law_1127 ⟨Nat.le_of_ble_eq_true rfl, Nat.le_of_ble_eq_true rfl⟩) hP hD hS hA [0, 30, 31] rfl (fun _ => rfl) (fun r8 u6 H locs hw7 => ?_)
  clear hP hS
  intro hP hS
  obtain ⟨aw_9, iw_10⟩ := u6
  replace hw7 : (r8, (aw_9, iw_10)) = sp_room (fy 28) (fy 29) xk1 xk2 xk3 := hw7
  rw [Caw, Ciw] at hw7
  have e9 := hw2.trans hw7.symm
  simp only [Prod.mk.injEq] at e9
  obtain ⟨e90, e9aw, e9iw⟩ := e9
  refine lv_pop hx hb dL_law_1130 rfl ?_
  refine lv_goto (tgt := 1652) hx hb dL_law_1131 (by decide) ?_
  have hPm : va_P D vwCl (wM md sd cI cY cJ cQ (upd ny 0 0) (upR (upR fy 28 aw_9) 29 iw_10) fl ++ wX ad rw sd cI cY cJ cQ nx (upR (upR fx 14 aw_4) 15 iw_5) rs lo) H := hP
  have hDm : va_D (fun q : Nat => s.heap.size ≤ q) (wM md sd cI cY cJ cQ (upd ny 0 0) (upR (upR fy 28 aw_9) 29 iw_10) fl ++ wX ad rw sd cI cY cJ cQ nx (upR (upR fx 14 aw_4) 15 iw_5) rs lo) := wMX_D hD
  exact kk nx (upR (upR fx 14 aw_4) 15 iw_5) rs lo (upd ny 0 0) (upR (upR fy 28 aw_9) 29 iw_10) fl H locs ls ⟨Xhna, Xhnb, XH, XD, XV, XN, Xcna, Xcnb, XF, Xpna, Xpnb, XG, XO, XW, Xgna, Xgnb, XJ, Xlna, Xlnb, Xdla, Xdlb, Xana, Xanb, Xuna, Xunb, XU, Xlca, Xlcb, Xtna, Xtnb, XS, Mhna, Mhnb, MH, MS, Mmlna, Mmlnb, Mmtna, Mmtnb, Chn, Cho, Chc, Chp, Chs, Ccn, Cfo, Cwo, Cpn, Cpk, Cpf, Cpo, Cpd, Cpe, Cgn, Cgk, Cgs, Cgd, Cge, Can, Cak, Cah, Cay, Caz, Cun, Cuk, Cuy, Cuw, Cum, Clc, Clp, Cla, Clb, (show (aw_9) = (aw_4) from e9aw.symm), (show (iw_10) = (iw_5) from e9iw.symm), Cln, Ctd, Cro, Cmtn, Cmtr, Cmst, Csh⟩ hPm.comm hDm.comm hS hl

set_option maxHeartbeats 4000000 in
set_option maxRecDepth 100000 in
theorem law_case_22 {p : Program} {l : Launch} {e : Env} {s : State} {m : MethodId} {below : List Frame} {meth : Method} {c : Code} {D : va_G} {cI cY cJ cQ : ClassId} {b L aK aV : Nat} {xs : Nat → Int32} {ad rw md : Nat → Nat} {sd i : Int32} {nx : Nat → Int32} {fx rs : Nat → Nat → Int32} {lo : Nat → Int64} {ny : Nat → Int32} {fy : Nat → Nat → Int32} {fl : Nat → Int64} {H : Heap} {locs : List Loc} {ls : Array Slot} (C0 : lawC p s m meth c b L xs D cI cY cJ cQ aK aV) (I : inv nx fx rs ny fy) (hP : va_P D vwCl (wX ad rw sd cI cY cJ cQ nx fx rs lo ++ wM md sd cI cY cJ cQ ny fy fl) H) (hD : va_D (fun q : Nat => s.heap.size ≤ q) (wX ad rw sd cI cY cJ cQ nx fx rs lo ++ wM md sd cI cY cJ cQ ny fy fl)) (hS : va_S (fun q : Nat => s.heap.size ≤ q) s.heap H locs) (hl : lv_has ls 4 [(0, .ref b), (1, .ref (ad 0)), (2, .ref (md 64)), (3, .int i)]) (hi1 : 1 ≤ i.toInt) (hi2 : i.toInt + 5 < L) (kk : ∀ (nx : Nat → Int32) (fx rs : Nat → Nat → Int32) (lo : Nat → Int64) (ny : Nat → Int32) (fy : Nat → Nat → Int32) (fl : Nat → Int64) (H : Heap) (locs : List Loc) (ls : Array Slot), inv nx fx rs ny fy → va_P D vwCl (wX ad rw sd cI cY cJ cQ nx fx rs lo ++ wM md sd cI cY cJ cQ ny fy fl) H → va_D (fun q : Nat => s.heap.size ≤ q) (wX ad rw sd cI cY cJ cQ nx fx rs lo ++ wM md sd cI cY cJ cQ ny fy fl) → va_S (fun q : Nat => s.heap.size ≤ q) s.heap H locs → lv_has ls 4 [(0, .ref b), (1, .ref (ad 0)), (2, .ref (md 64)), (3, .int i)] → W p l e room_1 s m #[Value.ref b] below meth c H locs 107 4890 (lw_Z below #[Value.ref b] s) (F0 m 1652 ls [])) : W p l e room_1 s m #[Value.ref b] below meth c H locs 107 4890 (lw_Z below #[Value.ref b] s) (F0 m 1134 ls []) := by
  obtain ⟨C1, hK, hN, hT, hL⟩ := C0
  obtain ⟨hx, hb, hr, hml, hown, hts0, hX, hbl, hlocks, hgv⟩ := C1
  have hA : ∀ q : Nat, s.heap.size ≤ q → (fun q : Nat => s.heap.size ≤ q) q := fun _ h => h
  have hbA : ¬ (fun q : Nat => s.heap.size ≤ q) b := Nat.not_le.mpr hbl
  have hts : ∀ w ∈ wsL_law, w.before #[Value.ref b] s = true := fun w h => hts0 w (wsL_law_in w h)
  replace hown : s.vm.findClass RL = some m.cls := hown
  replace hb : c.code = cL_law := hb
  have hak1 : vp_in (i + 1) L := law_in hi1 hi2 hL (by decide)
  obtain ⟨xk1, exk1⟩ : ∃ y : Int32, y = xs (i + 1).toNatClampNeg := ⟨_, rfl⟩
  have hak2 : vp_in (i + 2) L := law_in hi1 hi2 hL (by decide)
  obtain ⟨xk2, exk2⟩ : ∃ y : Int32, y = xs (i + 2).toNatClampNeg := ⟨_, rfl⟩
  refine inv_el I ?_
  intro Xhna Xhnb XH XD XV XN Xcna Xcnb XF Xpna Xpnb XG XO XW Xgna Xgnb XJ Xlna Xlnb Xdla Xdlb Xana Xanb Xuna Xunb XU Xlca Xlcb Xtna Xtnb XS Mhna Mhnb MH MS Mmlna Mmlnb Mmtna Mmtnb Chn Cho Chc Chp Chs Ccn Cfo Cwo Cpn Cpk Cpf Cpo Cpd Cpe Cgn Cgk Cgs Cgd Cge Can Cak Cah Cay Caz Cun Cuk Cuy Cuw Cum Clc Clp Cla Clb Caw Ciw Cln Ctd Cro Cmtn Cmtr Cmst Csh
  have Tcn := i_eq Ccn
  have Tpn := i_eq Cpn
  have Tgn := i_eq Cgn
  have Tan := i_eq Can
  have Tun := i_eq Cun
  have Tlc := i_eq Clc
  have Tln := i_eq Cln
  refine lv_aload_n hx hb dL_law_1134 rfl (lv_at hl 1 rfl) ?_
  refine law_arg (v := 1) hx hb hX hbl hbA hS (lv_at hl 0 rfl) (lv_at hl 3 rfl) (by decide) hak1 exk1 dL_law_1135 dL_law_1136 dL_law_1137 dL_law_1138 dL_law_1139 ?_
  refine law_arg (v := 2) hx hb hX hbl hbA hS (lv_at hl 0 rfl) (lv_at hl 3 rfl) (by decide) hak2 exk2 dL_law_1140 dL_law_1141 dL_law_1142 dL_law_1143 dL_law_1144 ?_
  refine st_iU (va_runV (C := RX10) (As := [.int xk1, .int xk2]) (rest := []) ⟨hx, hb, hml, hown, hts⟩ (ct_X10_move l D cI cY cJ cQ _ ad (nx 0) (nx 1) (nx 2) (nx 4) (fx 12) (fx 13) (fx 14) (fx 15) xk1 xk2 Xcna Xcnb) (cwV 2 hts gL_law_X10_move rfl rfl rfl ⟨rfl, cdX10_move⟩ ⟨Nat.le_of_ble_eq_true rfl, Nat.le_of_ble_eq_true rfl⟩) (cPreV (hP.sub [0, 23, 25, 26, 27, 28] rfl) hK (hD.sub [0, 23, 25, 26, 27, 28] (by decide +kernel) rfl) hN (ci := 10) (q0 := 0) rfl rfl) rfl rfl hl.1 rfl (lv_room (Nat.le_of_ble_eq_true rfl)) dL_law_1145 ⟨Nat.le_of_ble_eq_true rfl, Nat.le_of_ble_eq_true rfl⟩) hP hD hS hA [0, 23, 25, 26, 27, 28] rfl (fun _ => rfl) (fun r3 u1 H locs hw2 => ?_)
  clear hP hS
  intro hP hS
  replace hw2 : (r3, u1) = sp_move (nx 4) (fx 12) (fx 13) (fx 14) (fx 15) xk1 xk2 := hw2
  refine lv_pop hx hb dL_law_1148 rfl ?_
  have hPx : va_P D vwCl (wX ad rw sd cI cY cJ cQ nx (upR fx 13 u1) rs lo ++ wM md sd cI cY cJ cQ ny fy fl) H := hP
  have hDx : va_D (fun q : Nat => s.heap.size ≤ q) (wX ad rw sd cI cY cJ cQ nx (upR fx 13 u1) rs lo ++ wM md sd cI cY cJ cQ ny fy fl) := wXM_D hD
  have hP := hPx.comm
  have hD := hDx.comm
  refine lv_aload_n hx hb dL_law_1149 rfl (lv_at hl 2 rfl) ?_
  refine law_arg (v := 1) hx hb hX hbl hbA hS (lv_at hl 0 rfl) (lv_at hl 3 rfl) (by decide) hak1 exk1 dL_law_1150 dL_law_1151 dL_law_1152 dL_law_1153 dL_law_1154 ?_
  refine law_arg (v := 2) hx hb hX hbl hbA hS (lv_at hl 0 rfl) (lv_at hl 3 rfl) (by decide) hak2 exk2 dL_law_1155 dL_law_1156 dL_law_1157 dL_law_1158 dL_law_1159 ?_
  refine st_iU (va_runV (C := RX11) (As := [.int xk1, .int xk2]) (rest := []) ⟨hx, hb, hml, hown, hts⟩ (ct_X11_move l D cI cY cJ cQ _ md sd (ny 0) (ny 1) (ny 2) (ny 3) (ny 4) (ny 5) (ny 6) (ny 7) (ny 8) (ny 9) (ny 10) (ny 11) (ny 12) (ny 13) (ny 14) (ny 15) (ny 16) (ny 17) (ny 18) (ny 19) (ny 20) (ny 21) (ny 22) (fy 11) (fy 30) (fy 28) (fy 29) xk1 xk2 (by omega) (by omega)) (cwV 2 hts gL_law_X11_move rfl rfl rfl ⟨rfl, cdX11_move⟩ ⟨Nat.le_of_ble_eq_true rfl, Nat.le_of_ble_eq_true rfl⟩) (cPreV (hP.sub [0, 13, 32, 30, 31] rfl) hK (hD.sub [0, 13, 32, 30, 31] (by decide +kernel) rfl) hN (ci := 11) (q0 := 0) rfl rfl) rfl rfl hl.1 rfl (lv_room (Nat.le_of_ble_eq_true rfl)) dL_law_1160 ⟨Nat.le_of_ble_eq_true rfl, Nat.le_of_ble_eq_true rfl⟩) hP hD hS hA [0, 13, 32, 30, 31] rfl (fun _ => rfl) (fun r6 u4 H locs hw5 => ?_)
  clear hP hS
  intro hP hS
  replace hw5 : (r6, u4) = sm_move (ny 3) (fy 11) (fy 30) (fy 28) (fy 29) xk1 xk2 := hw5
  rw [Ccn, Cwo, Cro, Caw, Ciw, ← move_eq (by omega) (by omega)] at hw5
  have e9 := hw2.trans hw5.symm
  simp only [Prod.mk.injEq] at e9
  obtain ⟨e90, e9ro⟩ := e9
  refine lv_pop hx hb dL_law_1163 rfl ?_
  refine lv_goto (tgt := 1652) hx hb dL_law_1164 (by decide) ?_
  have hPm : va_P D vwCl (wM md sd cI cY cJ cQ (upd ny 0 0) (upR fy 30 u4) fl ++ wX ad rw sd cI cY cJ cQ nx (upR fx 13 u1) rs lo) H := hP
  have hDm : va_D (fun q : Nat => s.heap.size ≤ q) (wM md sd cI cY cJ cQ (upd ny 0 0) (upR fy 30 u4) fl ++ wX ad rw sd cI cY cJ cQ nx (upR fx 13 u1) rs lo) := wMX_D hD
  exact kk nx (upR fx 13 u1) rs lo (upd ny 0 0) (upR fy 30 u4) fl H locs ls ⟨Xhna, Xhnb, XH, XD, XV, XN, Xcna, Xcnb, XF, Xpna, Xpnb, XG, XO, XW, Xgna, Xgnb, XJ, Xlna, Xlnb, Xdla, Xdlb, Xana, Xanb, Xuna, Xunb, XU, Xlca, Xlcb, Xtna, Xtnb, XS, Mhna, Mhnb, MH, MS, Mmlna, Mmlnb, Mmtna, Mmtnb, Chn, Cho, Chc, Chp, Chs, Ccn, Cfo, Cwo, Cpn, Cpk, Cpf, Cpo, Cpd, Cpe, Cgn, Cgk, Cgs, Cgd, Cge, Can, Cak, Cah, Cay, Caz, Cun, Cuk, Cuy, Cuw, Cum, Clc, Clp, Cla, Clb, Caw, Ciw, Cln, Ctd, (show (u4) = (u1) from e9ro.symm), Cmtn, Cmtr, Cmst, Csh⟩ hPm.comm hDm.comm hS hl

set_option maxHeartbeats 4000000 in
set_option maxRecDepth 100000 in
theorem law_case_23 {p : Program} {l : Launch} {e : Env} {s : State} {m : MethodId} {below : List Frame} {meth : Method} {c : Code} {D : va_G} {cI cY cJ cQ : ClassId} {b L aK aV : Nat} {xs : Nat → Int32} {ad rw md : Nat → Nat} {sd i : Int32} {nx : Nat → Int32} {fx rs : Nat → Nat → Int32} {lo : Nat → Int64} {ny : Nat → Int32} {fy : Nat → Nat → Int32} {fl : Nat → Int64} {H : Heap} {locs : List Loc} {ls : Array Slot} (C0 : lawC p s m meth c b L xs D cI cY cJ cQ aK aV) (I : inv nx fx rs ny fy) (hP : va_P D vwCl (wX ad rw sd cI cY cJ cQ nx fx rs lo ++ wM md sd cI cY cJ cQ ny fy fl) H) (hD : va_D (fun q : Nat => s.heap.size ≤ q) (wX ad rw sd cI cY cJ cQ nx fx rs lo ++ wM md sd cI cY cJ cQ ny fy fl)) (hS : va_S (fun q : Nat => s.heap.size ≤ q) s.heap H locs) (hl : lv_has ls 4 [(0, .ref b), (1, .ref (ad 0)), (2, .ref (md 64)), (3, .int i)]) (hi1 : 1 ≤ i.toInt) (hi2 : i.toInt + 5 < L) (kk : ∀ (nx : Nat → Int32) (fx rs : Nat → Nat → Int32) (lo : Nat → Int64) (ny : Nat → Int32) (fy : Nat → Nat → Int32) (fl : Nat → Int64) (H : Heap) (locs : List Loc) (ls : Array Slot), inv nx fx rs ny fy → va_P D vwCl (wX ad rw sd cI cY cJ cQ nx fx rs lo ++ wM md sd cI cY cJ cQ ny fy fl) H → va_D (fun q : Nat => s.heap.size ≤ q) (wX ad rw sd cI cY cJ cQ nx fx rs lo ++ wM md sd cI cY cJ cQ ny fy fl) → va_S (fun q : Nat => s.heap.size ≤ q) s.heap H locs → lv_has ls 4 [(0, .ref b), (1, .ref (ad 0)), (2, .ref (md 64)), (3, .int i)] → W p l e room_1 s m #[Value.ref b] below meth c H locs 107 4890 (lw_Z below #[Value.ref b] s) (F0 m 1652 ls [])) : W p l e room_1 s m #[Value.ref b] below meth c H locs 107 4890 (lw_Z below #[Value.ref b] s) (F0 m 1167 ls []) := by
  obtain ⟨C1, hK, hN, hT, hL⟩ := C0
  obtain ⟨hx, hb, hr, hml, hown, hts0, hX, hbl, hlocks, hgv⟩ := C1
  have hA : ∀ q : Nat, s.heap.size ≤ q → (fun q : Nat => s.heap.size ≤ q) q := fun _ h => h
  have hbA : ¬ (fun q : Nat => s.heap.size ≤ q) b := Nat.not_le.mpr hbl
  have hts : ∀ w ∈ wsL_law, w.before #[Value.ref b] s = true := fun w h => hts0 w (wsL_law_in w h)
  replace hown : s.vm.findClass RL = some m.cls := hown
  replace hb : c.code = cL_law := hb
  have hak1 : vp_in (i + 1) L := law_in hi1 hi2 hL (by decide)
  obtain ⟨xk1, exk1⟩ : ∃ y : Int32, y = xs (i + 1).toNatClampNeg := ⟨_, rfl⟩
  have hak2 : vp_in (i + 2) L := law_in hi1 hi2 hL (by decide)
  obtain ⟨xk2, exk2⟩ : ∃ y : Int32, y = xs (i + 2).toNatClampNeg := ⟨_, rfl⟩
  refine inv_el I ?_
  intro Xhna Xhnb XH XD XV XN Xcna Xcnb XF Xpna Xpnb XG XO XW Xgna Xgnb XJ Xlna Xlnb Xdla Xdlb Xana Xanb Xuna Xunb XU Xlca Xlcb Xtna Xtnb XS Mhna Mhnb MH MS Mmlna Mmlnb Mmtna Mmtnb Chn Cho Chc Chp Chs Ccn Cfo Cwo Cpn Cpk Cpf Cpo Cpd Cpe Cgn Cgk Cgs Cgd Cge Can Cak Cah Cay Caz Cun Cuk Cuy Cuw Cum Clc Clp Cla Clb Caw Ciw Cln Ctd Cro Cmtn Cmtr Cmst Csh
  have Tcn := i_eq Ccn
  have Tpn := i_eq Cpn
  have Tgn := i_eq Cgn
  have Tan := i_eq Can
  have Tun := i_eq Cun
  have Tlc := i_eq Clc
  have Tln := i_eq Cln
  refine lv_aload_n hx hb dL_law_1167 rfl (lv_at hl 1 rfl) ?_
  refine law_arg (v := 1) hx hb hX hbl hbA hS (lv_at hl 0 rfl) (lv_at hl 3 rfl) (by decide) hak1 exk1 dL_law_1168 dL_law_1169 dL_law_1170 dL_law_1171 dL_law_1172 ?_
  refine law_arg (v := 2) hx hb hX hbl hbA hS (lv_at hl 0 rfl) (lv_at hl 3 rfl) (by decide) hak2 exk2 dL_law_1173 dL_law_1174 dL_law_1175 dL_law_1176 dL_law_1177 ?_
  refine st_iU (va_runV (C := RX10) (As := [.int xk1, .int xk2]) (rest := []) ⟨hx, hb, hml, hown, hts⟩ (ct_X10_inside l D cI cY cJ cQ _ ad (nx 0) (nx 1) (nx 2) (nx 4) (fx 12) (fx 13) xk1 xk2 Xcna Xcnb) (cwV 2 hts gL_law_X10_inside rfl rfl rfl ⟨rfl, cdX10_inside⟩ ⟨Nat.le_of_ble_eq_true rfl, Nat.le_of_ble_eq_true rfl⟩) (cPreV (hP.sub [0, 23, 25, 26] rfl) hK (hD.sub [0, 23, 25, 26] (by decide +kernel) rfl) hN (ci := 10) (q0 := 0) rfl rfl) rfl rfl hl.1 rfl (lv_room (Nat.le_of_ble_eq_true rfl)) dL_law_1178 ⟨Nat.le_of_ble_eq_true rfl, Nat.le_of_ble_eq_true rfl⟩) hP hD hS hA [0, 23, 25, 26] rfl (fun _ => rfl) (fun r3 u1 H locs hw2 => ?_)
  clear hP hS
  intro hP hS
  replace hw2 : r3 = sp_inside (nx 4) (fx 12) (fx 13) xk1 xk2 := hw2
  refine lv_pop hx hb dL_law_1181 rfl ?_
  have hPx : va_P D vwCl (wX ad rw sd cI cY cJ cQ nx fx rs lo ++ wM md sd cI cY cJ cQ ny fy fl) H := hP
  have hDx : va_D (fun q : Nat => s.heap.size ≤ q) (wX ad rw sd cI cY cJ cQ nx fx rs lo ++ wM md sd cI cY cJ cQ ny fy fl) := wXM_D hD
  have hP := hPx.comm
  have hD := hDx.comm
  refine lv_aload_n hx hb dL_law_1182 rfl (lv_at hl 2 rfl) ?_
  refine law_arg (v := 1) hx hb hX hbl hbA hS (lv_at hl 0 rfl) (lv_at hl 3 rfl) (by decide) hak1 exk1 dL_law_1183 dL_law_1184 dL_law_1185 dL_law_1186 dL_law_1187 ?_
  refine law_arg (v := 2) hx hb hX hbl hbA hS (lv_at hl 0 rfl) (lv_at hl 3 rfl) (by decide) hak2 exk2 dL_law_1188 dL_law_1189 dL_law_1190 dL_law_1191 dL_law_1192 ?_
  refine st_iU (va_runV (C := RX11) (As := [.int xk1, .int xk2]) (rest := []) ⟨hx, hb, hml, hown, hts⟩ (ct_X11_inside l D cI cY cJ cQ _ md sd (ny 0) (ny 1) (ny 2) (ny 3) (ny 4) (ny 5) (ny 6) (ny 7) (ny 8) (ny 9) (ny 10) (ny 11) (ny 12) (ny 13) (ny 14) (ny 15) (ny 16) (ny 17) (ny 18) (ny 19) (ny 20) (ny 21) (ny 22) (fy 11) (fy 30) xk1 xk2 (by omega) (by omega)) (cwV 2 hts gL_law_X11_inside rfl rfl rfl ⟨rfl, cdX11_inside⟩ ⟨Nat.le_of_ble_eq_true rfl, Nat.le_of_ble_eq_true rfl⟩) (cPreV (hP.sub [0, 13, 32] rfl) hK (hD.sub [0, 13, 32] (by decide +kernel) rfl) hN (ci := 11) (q0 := 0) rfl rfl) rfl rfl hl.1 rfl (lv_room (Nat.le_of_ble_eq_true rfl)) dL_law_1193 ⟨Nat.le_of_ble_eq_true rfl, Nat.le_of_ble_eq_true rfl⟩) hP hD hS hA [0, 13, 32] rfl (fun _ => rfl) (fun r6 u4 H locs hw5 => ?_)
  clear hP hS
  intro hP hS
  replace hw5 : r6 = sm_inside (ny 3) (fy 11) (fy 30) xk1 xk2 := hw5
  rw [Ccn, Cwo, Cro, ← inside_eq (by omega) (by omega)] at hw5
  have e90 := hw2.trans hw5.symm
  refine lv_pop hx hb dL_law_1196 rfl ?_
  refine lv_goto (tgt := 1652) hx hb dL_law_1197 (by decide) ?_
  have hPm : va_P D vwCl (wM md sd cI cY cJ cQ (upd ny 0 0) fy fl ++ wX ad rw sd cI cY cJ cQ nx fx rs lo) H := hP
  have hDm : va_D (fun q : Nat => s.heap.size ≤ q) (wM md sd cI cY cJ cQ (upd ny 0 0) fy fl ++ wX ad rw sd cI cY cJ cQ nx fx rs lo) := wMX_D hD
  exact kk nx fx rs lo (upd ny 0 0) fy fl H locs ls ⟨Xhna, Xhnb, XH, XD, XV, XN, Xcna, Xcnb, XF, Xpna, Xpnb, XG, XO, XW, Xgna, Xgnb, XJ, Xlna, Xlnb, Xdla, Xdlb, Xana, Xanb, Xuna, Xunb, XU, Xlca, Xlcb, Xtna, Xtnb, XS, Mhna, Mhnb, MH, MS, Mmlna, Mmlnb, Mmtna, Mmtnb, Chn, Cho, Chc, Chp, Chs, Ccn, Cfo, Cwo, Cpn, Cpk, Cpf, Cpo, Cpd, Cpe, Cgn, Cgk, Cgs, Cgd, Cge, Can, Cak, Cah, Cay, Caz, Cun, Cuk, Cuy, Cuw, Cum, Clc, Clp, Cla, Clb, Caw, Ciw, Cln, Ctd, Cro, Cmtn, Cmtr, Cmst, Csh⟩ hPm.comm hDm.comm hS hl
