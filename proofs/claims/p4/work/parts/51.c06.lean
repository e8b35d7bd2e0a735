theorem cdX10_lot : yX10_lot.cls ≠ "java/lang/invoke/MethodHandle" ∧ yX10_lot.cls ≠ "java/lang/invoke/VarHandle" ∧ (parseMethodDescriptor yX10_lot.desc).map (fun d => d.parameters.length) = some 3 := by decide +kernel
theorem cdX10_drawn : yX10_drawn.cls ≠ "java/lang/invoke/MethodHandle" ∧ yX10_drawn.cls ≠ "java/lang/invoke/VarHandle" ∧ (parseMethodDescriptor yX10_drawn.desc).map (fun d => d.parameters.length) = some 2 := by decide +kernel
theorem cdX10_often : yX10_often.cls ≠ "java/lang/invoke/MethodHandle" ∧ yX10_often.cls ≠ "java/lang/invoke/VarHandle" ∧ (parseMethodDescriptor yX10_often.desc).map (fun d => d.parameters.length) = some 4 := by decide +kernel
theorem cdX10_opened : yX10_opened.cls ≠ "java/lang/invoke/MethodHandle" ∧ yX10_opened.cls ≠ "java/lang/invoke/VarHandle" ∧ (parseMethodDescriptor yX10_opened.desc).map (fun d => d.parameters.length) = some 4 := by decide +kernel
theorem cdX11_lot : yX11_lot.cls ≠ "java/lang/invoke/MethodHandle" ∧ yX11_lot.cls ≠ "java/lang/invoke/VarHandle" ∧ (parseMethodDescriptor yX11_lot.desc).map (fun d => d.parameters.length) = some 3 := by decide +kernel
theorem cdX11_drawn : yX11_drawn.cls ≠ "java/lang/invoke/MethodHandle" ∧ yX11_drawn.cls ≠ "java/lang/invoke/VarHandle" ∧ (parseMethodDescriptor yX11_drawn.desc).map (fun d => d.parameters.length) = some 2 := by decide +kernel
theorem cdX11_often : yX11_often.cls ≠ "java/lang/invoke/MethodHandle" ∧ yX11_often.cls ≠ "java/lang/invoke/VarHandle" ∧ (parseMethodDescriptor yX11_often.desc).map (fun d => d.parameters.length) = some 4 := by decide +kernel
theorem cdX11_opened : yX11_opened.cls ≠ "java/lang/invoke/MethodHandle" ∧ yX11_opened.cls ≠ "java/lang/invoke/VarHandle" ∧ (parseMethodDescriptor yX11_opened.desc).map (fun d => d.parameters.length) = some 4 := by decide +kernel
theorem Gd_X10_lot : gdA wsX10_lot := gd_cons (by decide +kernel) (gd_app (gd_all (ws := wsX10_lot_o1) (by decide +kernel)) (gd_app (gd_app (gd_app Gd_X100 Gd_X50) Gd_X10_isBelow) (gd_app (gd_app Gd_X10_isDay Gd_X10_isFrom) Gd_X5_lotOf)))
theorem Gd_X10_drawn : gdA wsX10_drawn := gd_cons (by decide +kernel) (gd_app (gd_all (ws := wsX10_drawn_o1) (by decide +kernel)) (gd_app (gd_app (gd_app (gd_app Gd_X100 Gd_X10) Gd_X50) (gd_app Gd_X10_isDay Gd_X10_isFrom)) (gd_app (gd_app Gd_X1_setInRooms Gd_X5_drawLots) (gd_app Gd_X10_hasBit Gd_X5_howManyAhead))))
theorem Gd_X10_often : gdA wsX10_often := gd_cons (by decide +kernel) (gd_app (gd_all (ws := wsX10_often_o1) (by decide +kernel)) (gd_app (gd_app (gd_app (gd_app Gd_X100 Gd_X10) Gd_X50) (gd_app Gd_X10_isCrate Gd_X10_areDays)) (gd_app (gd_app (gd_app Gd_X10_isFrom Gd_X1_setInRooms) Gd_X10_hasBit) (gd_app Gd_X5_drawLots Gd_X5_howManyAhead))))
theorem Gd_X10_opened : gdA wsX10_opened := gd_cons (by decide +kernel) (gd_app (gd_all (ws := wsX10_opened_o1) (by decide +kernel)) (gd_app (gd_app (gd_app Gd_X100 Gd_X60) (gd_app Gd_X10 Gd_X10_isCrate)) (gd_app (gd_app Gd_X10_isDay Gd_X10_isFrom) Gd_X6_tell)))
theorem Gd_X11_lot : gdA wsX11_lot := gd_cons (by decide +kernel) (gd_app (gd_all (ws := wsX11_lot_o1) (by decide +kernel)) (gd_app (gd_app Gd_X110 Gd_X11_in) (gd_app Gd_X11_isDay Gd_X11_lotOf)))
theorem Gd_X11_drawn : gdA wsX11_drawn := gd_cons (by decide +kernel) (gd_app (gd_all (ws := wsX11_drawn_o1) (by decide +kernel)) (gd_app (gd_app Gd_X110 Gd_X11_isDay) (gd_app Gd_X11_in Gd_X11_drawnOn)))
theorem Gd_X11_often : gdA wsX11_often := gd_cons (by decide +kernel) (gd_app (gd_all (ws := wsX11_often_o1) (by decide +kernel)) (gd_app (gd_app (gd_app Gd_X110 Gd_X11_isCrate) Gd_X11_isDay) (gd_app Gd_X11_in Gd_X11_drawnOn)))
theorem Gd_X11_opened : gdA wsX11_opened := gd_cons (by decide +kernel) (gd_app (gd_all (ws := wsX11_opened_o1) (by decide +kernel)) (gd_app (gd_app Gd_X110 Gd_X11_isCrate) (gd_app Gd_X11_isDay Gd_X11_in)))
theorem ggL_law_X10_lot : GoodIn wsL_law wsX10_lot := goodIn_s (fun _ h => (wm_r (wm_r (wm_l (wm_r (wm_l (wm_r (wm_r h)))))))) Gd_X10_lot
theorem gL_law_X10_lot : GoodIn wsL_law (wsV RL 126 RX10 yX10_lot wsX10_lot) := goodIn_V (own := RL) (idx := 126) (C := RX10) (y := yX10_lot) (wm_l (wm_r (wm_l (wm_l (wm_l (wm_i 13 rfl)))))) (wm_l (wm_r (wm_l (wm_l (wm_l (wm_i 14 rfl)))))) (wm_l (wm_r (wm_l (wm_l (wm_l (wm_i 15 rfl)))))) (wm_l (wm_l (wm_l (wm_l (wm_l (wm_i 2 rfl)))))) ggL_law_X10_lot
theorem ggL_law_X11_lot : GoodIn wsL_law wsX11_lot := goodIn_s (fun _ h => (wm_r (wm_r (wm_l (wm_r (wm_r (wm_l (wm_l (wm_l h))))))))) Gd_X11_lot
theorem gL_law_X11_lot : GoodIn wsL_law (wsV RL 129 RX11 yX11_lot wsX11_lot) := goodIn_V (own := RL) (idx := 129) (C := RX11) (y := yX11_lot) (wm_l (wm_r (wm_l (wm_l (wm_l (wm_i 16 rfl)))))) (wm_l (wm_r (wm_l (wm_l (wm_l (wm_i 17 rfl)))))) (wm_l (wm_r (wm_l (wm_l (wm_l (wm_i 18 rfl)))))) (wm_l (wm_l (wm_l (wm_l (wm_l (wm_i 5 rfl)))))) ggL_law_X11_lot
theorem ggL_law_X10_drawn : GoodIn wsL_law wsX10_drawn := goodIn_s (fun _ h => (wm_r (wm_r (wm_l (wm_r (wm_r (wm_l (wm_l (wm_r h))))))))) Gd_X10_drawn
theorem gL_law_X10_drawn : GoodIn wsL_law (wsV RL 130 RX10 yX10_drawn wsX10_drawn) := goodIn_V (own := RL) (idx := 130) (C := RX10) (y := yX10_drawn) (wm_l (wm_r (wm_l (wm_l (wm_l (wm_i 19 rfl)))))) (wm_l (wm_r (wm_l (wm_l (wm_l (wm_i 20 rfl)))))) (wm_l (wm_r (wm_l (wm_l (wm_l (wm_i 21 rfl)))))) (wm_l (wm_l (wm_l (wm_l (wm_l (wm_i 2 rfl)))))) ggL_law_X10_drawn
theorem ggL_law_X11_drawn : GoodIn wsL_law wsX11_drawn := goodIn_s (fun _ h => (wm_r (wm_r (wm_l (wm_r (wm_r (wm_l (wm_r h)))))))) Gd_X11_drawn
theorem gL_law_X11_drawn : GoodIn wsL_law (wsV RL 133 RX11 yX11_drawn wsX11_drawn) := goodIn_V (own := RL) (idx := 133) (C := RX11) (y := yX11_drawn) (wm_l (wm_r (wm_l (wm_l (wm_l (wm_i 22 rfl)))))) (wm_l (wm_r (wm_l (wm_l (wm_l (wm_i 23 rfl)))))) (wm_l (wm_r (wm_l (wm_l (wm_r (wm_i 0 rfl)))))) (wm_l (wm_l (wm_l (wm_l (wm_l (wm_i 5 rfl)))))) ggL_law_X11_drawn
theorem ggL_law_X10_often : GoodIn wsL_law wsX10_often := goodIn_s (fun _ h => (wm_r (wm_r (wm_l (wm_r (wm_r (wm_r (wm_l h)))))))) Gd_X10_often
theorem gL_law_X10_often : GoodIn wsL_law (wsV RL 134 RX10 yX10_often wsX10_often) := goodIn_V (own := RL) (idx := 134) (C := RX10) (y := yX10_often) (wm_l (wm_r (wm_l (wm_l (wm_r (wm_i 1 rfl)))))) (wm_l (wm_r (wm_l (wm_l (wm_r (wm_i 2 rfl)))))) (wm_l (wm_r (wm_l (wm_l (wm_r (wm_i 3 rfl)))))) (wm_l (wm_l (wm_l (wm_l (wm_l (wm_i 2 rfl)))))) ggL_law_X10_often
theorem ggL_law_X11_often : GoodIn wsL_law wsX11_often := goodIn_s (fun _ h => (wm_r (wm_r (wm_l (wm_r (wm_r (wm_r (wm_r h)))))))) Gd_X11_often
theorem gL_law_X11_often : GoodIn wsL_law (wsV RL 137 RX11 yX11_often wsX11_often) := goodIn_V (own := RL) (idx := 137) (C := RX11) (y := yX11_often) (wm_l (wm_r (wm_l (wm_l (wm_r (wm_i 4 rfl)))))) (wm_l (wm_r (wm_l (wm_l (wm_r (wm_i 5 rfl)))))) (wm_l (wm_r (wm_l (wm_l (wm_r (wm_i 6 rfl)))))) (wm_l (wm_l (wm_l (wm_l (wm_l (wm_i 5 rfl)))))) ggL_law_X11_often
theorem ggL_law_X10_opened : GoodIn wsL_law wsX10_opened := goodIn_s (fun _ h => (wm_r (wm_r (wm_r (wm_l (wm_l (wm_l (wm_l (wm_l h))))))))) Gd_X10_opened
theorem gL_law_X10_opened : GoodIn wsL_law (wsV RL 138 RX10 yX10_opened wsX10_opened) := goodIn_V (own := RL) (idx := 138) (C := RX10) (y := yX10_opened) (wm_l (wm_r (wm_l (wm_l (wm_r (wm_i 7 rfl)))))) (wm_l (wm_r (wm_l (wm_l (wm_r (wm_i 8 rfl)))))) (wm_l (wm_r (wm_l (wm_l (wm_r (wm_i 9 rfl)))))) (wm_l (wm_l (wm_l (wm_l (wm_l (wm_i 2 rfl)))))) ggL_law_X10_opened
theorem ggL_law_X11_opened : GoodIn wsL_law wsX11_opened := goodIn_s (fun _ h => (wm_r (wm_r (wm_r (wm_l (wm_l (wm_l (wm_l (wm_r h))))))))) Gd_X11_opened
theorem gL_law_X11_opened : GoodIn wsL_law (wsV RL 141 RX11 yX11_opened wsX11_opened) := goodIn_V (own := RL) (idx := 141) (C := RX11) (y := yX11_opened) (wm_l (wm_r (wm_l (wm_l (wm_r (wm_i 10 rfl)))))) (wm_l (wm_r (wm_l (wm_l (wm_r (wm_i 11 rfl)))))) (wm_l (wm_r (wm_l (wm_l (wm_r (wm_i 12 rfl)))))) (wm_l (wm_l (wm_l (wm_l (wm_l (wm_i 5 rfl)))))) ggL_law_X11_opened
theorem sB_51 : dqA cL_law 1224 sL_51 := dq_next sB_50 24 rfl
theorem sB_52 : dqA cL_law 1248 sL_52 := dq_next sB_51 24 rfl
theorem sB_53 : dqA cL_law 1272 sL_53 := dq_next sB_52 24 rfl
theorem sB_54 : dqA cL_law 1296 sL_54 := dq_next sB_53 24 rfl
theorem sB_55 : dqA cL_law 1320 sL_55 := dq_next sB_54 24 rfl
theorem sB_56 : dqA cL_law 1344 sL_56 := dq_next sB_55 24 rfl
theorem sB_57 : dqA cL_law 1368 sL_57 := dq_next sB_56 24 rfl
theorem dL_law_1200 : decode cL_law 1200 = .ok (.aload_n 1, 1) := dL_law_all72.2.2.2.2.2.2.1
theorem dL_law_1201 : decode cL_law 1201 = .ok (.aload_n 0, 1) := dL_law_all72.2.2.2.2.2.2.2.1
theorem dL_law_1202 : decode cL_law 1202 = .ok (.iload_n 3, 1) := dL_law_all72.2.2.2.2.2.2.2.2.1
theorem dL_law_1203 : decode cL_law 1203 = .ok (.iconst 1, 1) := dL_law_all72.2.2.2.2.2.2.2.2.2.1
theorem dL_law_1204 : decode cL_law 1204 = .ok (.iadd, 1) := dL_law_all72.2.2.2.2.2.2.2.2.2.2.1
theorem dL_law_1205 : decode cL_law 1205 = .ok (.iaload, 1) := dL_law_all72.2.2.2.2.2.2.2.2.2.2.2
theorem dL_law_all73 : decode cL_law 1206 = .ok (.aload_n 0, 1) ∧ decode cL_law 1207 = .ok (.iload_n 3, 1) ∧ decode cL_law 1208 = .ok (.iconst 2, 1) ∧ decode cL_law 1209 = .ok (.iadd, 1) ∧ decode cL_law 1210 = .ok (.iaload, 1) ∧ decode cL_law 1211 = .ok (.aload_n 0, 1) ∧ decode cL_law 1212 = .ok (.iload_n 3, 1) ∧ decode cL_law 1213 = .ok (.iconst 3, 1) ∧ decode cL_law 1214 = .ok (.iadd, 1) ∧ decode cL_law 1215 = .ok (.iaload, 1) ∧ decode cL_law 1216 = .ok (.invokevirtual 126, 3) ∧ decode cL_law 1219 = .ok (.pop, 1) := ⟨dq_42 sB_50 6 rfl, dq_29 sB_50 7 rfl, dq_5 sB_50 8 rfl, dq_96 sB_50 9 rfl, dq_46 sB_50 10 rfl, dq_42 sB_50 11 rfl, dq_29 sB_50 12 rfl, dq_6 sB_50 13 rfl, dq_96 sB_50 14 rfl, dq_46 sB_50 15 rfl, dq_182 sB_50 16 rfl 126 (by decide), dq_87 sB_50 19 rfl⟩
theorem dL_law_1206 : decode cL_law 1206 = .ok (.aload_n 0, 1) := dL_law_all73.1
theorem dL_law_1207 : decode cL_law 1207 = .ok (.iload_n 3, 1) := dL_law_all73.2.1
theorem dL_law_1208 : decode cL_law 1208 = .ok (.iconst 2, 1) := dL_law_all73.2.2.1
theorem dL_law_1209 : decode cL_law 1209 = .ok (.iadd, 1) := dL_law_all73.2.2.2.1
theorem dL_law_1210 : decode cL_law 1210 = .ok (.iaload, 1) := dL_law_all73.2.2.2.2.1
theorem dL_law_1211 : decode cL_law 1211 = .ok (.aload_n 0, 1) := dL_law_all73.2.2.2.2.2.1
theorem dL_law_1212 : decode cL_law 1212 = .ok (.iload_n 3, 1) := dL_law_all73.2.2.2.2.2.2.1
theorem dL_law_1213 : decode cL_law 1213 = .ok (.iconst 3, 1) := dL_law_all73.2.2.2.2.2.2.2.1
theorem dL_law_1214 : decode cL_law 1214 = .ok (.iadd, 1) := dL_law_all73.2.2.2.2.2.2.2.2.1
theorem dL_law_1215 : decode cL_law 1215 = .ok (.iaload, 1) := dL_law_all73.2.2.2.2.2.2.2.2.2.1
theorem dL_law_1216 : decode cL_law 1216 = .ok (.invokevirtual 126, 3) := dL_law_all73.2.2.2.2.2.2.2.2.2.2.1
theorem dL_law_1219 : decode cL_law 1219 = .ok (.pop, 1) := dL_law_all73.2.2.2.2.2.2.2.2.2.2.2
theorem dL_law_all74 : decode cL_law 1220 = .ok (.aload_n 2, 1) ∧ decode cL_law 1221 = .ok (.aload_n 0, 1) ∧ decode cL_law 1222 = .ok (.iload_n 3, 1) ∧ decode cL_law 1223 = .ok (.iconst 1, 1) ∧ decode cL_law 1224 = .ok (.iadd, 1) ∧ decode cL_law 1225 = .ok (.iaload, 1) ∧ decode cL_law 1226 = .ok (.aload_n 0, 1) ∧ decode cL_law 1227 = .ok (.iload_n 3, 1) ∧ decode cL_law 1228 = .ok (.iconst 2, 1) ∧ decode cL_law 1229 = .ok (.iadd, 1) ∧ decode cL_law 1230 = .ok (.iaload, 1) ∧ decode cL_law 1231 = .ok (.aload_n 0, 1) := ⟨dq_44 sB_50 20 rfl, dq_42 sB_50 21 rfl, dq_29 sB_50 22 rfl, dq_4 sB_50 23 rfl, dq_96 sB_51 0 rfl, dq_46 sB_51 1 rfl, dq_42 sB_51 2 rfl, dq_29 sB_51 3 rfl, dq_5 sB_51 4 rfl, dq_96 sB_51 5 rfl, dq_46 sB_51 6 rfl, dq_42 sB_51 7 rfl⟩
theorem dL_law_1220 : decode cL_law 1220 = .ok (.aload_n 2, 1) := dL_law_all74.1
theorem dL_law_1221 : decode cL_law 1221 = .ok (.aload_n 0, 1) := dL_law_all74.2.1
theorem dL_law_1222 : decode cL_law 1222 = .ok (.iload_n 3, 1) := dL_law_all74.2.2.1
theorem dL_law_1223 : decode cL_law 1223 = .ok (.iconst 1, 1) := dL_law_all74.2.2.2.1
theorem dL_law_1224 : decode cL_law 1224 = .ok (.iadd, 1) := dL_law_all74.2.2.2.2.1
theorem dL_law_1225 : decode cL_law 1225 = .ok (.iaload, 1) := dL_law_all74.2.2.2.2.2.1
theorem dL_law_1226 : decode cL_law 1226 = .ok (.aload_n 0, 1) := dL_law_all74.2.2.2.2.2.2.1
theorem dL_law_1227 : decode cL_law 1227 = .ok (.iload_n 3, 1) := dL_law_all74.2.2.2.2.2.2.2.1
theorem dL_law_1228 : decode cL_law 1228 = .ok (.iconst 2, 1) := dL_law_all74.2.2.2.2.2.2.2.2.1
theorem dL_law_1229 : decode cL_law 1229 = .ok (.iadd, 1) := dL_law_all74.2.2.2.2.2.2.2.2.2.1
theorem dL_law_1230 : decode cL_law 1230 = .ok (.iaload, 1) := dL_law_all74.2.2.2.2.2.2.2.2.2.2.1
theorem dL_law_1231 : decode cL_law 1231 = .ok (.aload_n 0, 1) := dL_law_all74.2.2.2.2.2.2.2.2.2.2.2
theorem dL_law_all75 : decode cL_law 1232 = .ok (.iload_n 3, 1) ∧ decode cL_law 1233 = .ok (.iconst 3, 1) ∧ decode cL_law 1234 = .ok (.iadd, 1) ∧ decode cL_law 1235 = .ok (.iaload, 1) ∧ decode cL_law 1236 = .ok (.invokevirtual 129, 3) ∧ decode cL_law 1239 = .ok (.pop, 1) ∧ decode cL_law 1240 = .ok (.goto 412, 3) ∧ decode cL_law 1243 = .ok (.aload_n 1, 1) ∧ decode cL_law 1244 = .ok (.aload_n 0, 1) ∧ decode cL_law 1245 = .ok (.iload_n 3, 1) ∧ decode cL_law 1246 = .ok (.iconst 1, 1) ∧ decode cL_law 1247 = .ok (.iadd, 1) := ⟨dq_29 sB_51 8 rfl, dq_6 sB_51 9 rfl, dq_96 sB_51 10 rfl, dq_46 sB_51 11 rfl, dq_182 sB_51 12 rfl 129 (by decide), dq_87 sB_51 15 rfl, dq_167 sB_51 16 rfl 412 (by decide), dq_43 sB_51 19 rfl, dq_42 sB_51 20 rfl, dq_29 sB_51 21 rfl, dq_4 sB_51 22 rfl, dq_96 sB_51 23 rfl⟩
theorem dL_law_1232 : decode cL_law 1232 = .ok (.iload_n 3, 1) := dL_law_all75.1
theorem dL_law_1233 : decode cL_law 1233 = .ok (.iconst 3, 1) := dL_law_all75.2.1
theorem dL_law_1234 : decode cL_law 1234 = .ok (.iadd, 1) := dL_law_all75.2.2.1
theorem dL_law_1235 : decode cL_law 1235 = .ok (.iaload, 1) := dL_law_all75.2.2.2.1
theorem dL_law_1236 : decode cL_law 1236 = .ok (.invokevirtual 129, 3) := dL_law_all75.2.2.2.2.1
theorem dL_law_1239 : decode cL_law 1239 = .ok (.pop, 1) := dL_law_all75.2.2.2.2.2.1
theorem dL_law_1240 : decode cL_law 1240 = .ok (.goto 412, 3) := dL_law_all75.2.2.2.2.2.2.1
theorem dL_law_1243 : decode cL_law 1243 = .ok (.aload_n 1, 1) := dL_law_all75.2.2.2.2.2.2.2.1
theorem dL_law_1244 : decode cL_law 1244 = .ok (.aload_n 0, 1) := dL_law_all75.2.2.2.2.2.2.2.2.1
theorem dL_law_1245 : decode cL_law 1245 = .ok (.iload_n 3, 1) := dL_law_all75.2.2.2.2.2.2.2.2.2.1
theorem dL_law_1246 : decode cL_law 1246 = .ok (.iconst 1, 1) := dL_law_all75.2.2.2.2.2.2.2.2.2.2.1
theorem dL_law_1247 : decode cL_law 1247 = .ok (.iadd, 1) := dL_law_all75.2.2.2.2.2.2.2.2.2.2.2
theorem dL_law_all76 : decode cL_law 1248 = .ok (.iaload, 1) ∧ decode cL_law 1249 = .ok (.aload_n 0, 1) ∧ decode cL_law 1250 = .ok (.iload_n 3, 1) ∧ decode cL_law 1251 = .ok (.iconst 2, 1) ∧ decode cL_law 1252 = .ok (.iadd, 1) ∧ decode cL_law 1253 = .ok (.iaload, 1) ∧ decode cL_law 1254 = .ok (.invokevirtual 130, 3) ∧ decode cL_law 1257 = .ok (.pop, 1) ∧ decode cL_law 1258 = .ok (.aload_n 2, 1) ∧ decode cL_law 1259 = .ok (.aload_n 0, 1) ∧ decode cL_law 1260 = .ok (.iload_n 3, 1) ∧ decode cL_law 1261 = .ok (.iconst 1, 1) := ⟨dq_46 sB_52 0 rfl, dq_42 sB_52 1 rfl, dq_29 sB_52 2 rfl, dq_5 sB_52 3 rfl, dq_96 sB_52 4 rfl, dq_46 sB_52 5 rfl, dq_182 sB_52 6 rfl 130 (by decide), dq_87 sB_52 9 rfl, dq_44 sB_52 10 rfl, dq_42 sB_52 11 rfl, dq_29 sB_52 12 rfl, dq_4 sB_52 13 rfl⟩
theorem dL_law_1248 : decode cL_law 1248 = .ok (.iaload, 1) := dL_law_all76.1
theorem dL_law_1249 : decode cL_law 1249 = .ok (.aload_n 0, 1) := dL_law_all76.2.1
theorem dL_law_1250 : decode cL_law 1250 = .ok (.iload_n 3, 1) := dL_law_all76.2.2.1
theorem dL_law_1251 : decode cL_law 1251 = .ok (.iconst 2, 1) := dL_law_all76.2.2.2.1
theorem dL_law_1252 : decode cL_law 1252 = .ok (.iadd, 1) := dL_law_all76.2.2.2.2.1
theorem dL_law_1253 : decode cL_law 1253 = .ok (.iaload, 1) := dL_law_all76.2.2.2.2.2.1
theorem dL_law_1254 : decode cL_law 1254 = .ok (.invokevirtual 130, 3) := dL_law_all76.2.2.2.2.2.2.1
theorem dL_law_1257 : decode cL_law 1257 = .ok (.pop, 1) := dL_law_all76.2.2.2.2.2.2.2.1
theorem dL_law_1258 : decode cL_law 1258 = .ok (.aload_n 2, 1) := dL_law_all76.2.2.2.2.2.2.2.2.1
theorem dL_law_1259 : decode cL_law 1259 = .ok (.aload_n 0, 1) := dL_law_all76.2.2.2.2.2.2.2.2.2.1
theorem dL_law_1260 : decode cL_law 1260 = .ok (.iload_n 3, 1) := dL_law_all76.2.2.2.2.2.2.2.2.2.2.1
theorem dL_law_1261 : decode cL_law 1261 = .ok (.iconst 1, 1) := dL_law_all76.2.2.2.2.2.2.2.2.2.2.2
theorem dL_law_all77 : decode cL_law 1262 = .ok (.iadd, 1) ∧ decode cL_law 1263 = .ok (.iaload, 1) ∧ decode cL_law 1264 = .ok (.aload_n 0, 1) ∧ decode cL_law 1265 = .ok (.iload_n 3, 1) ∧ decode cL_law 1266 = .ok (.iconst 2, 1) ∧ decode cL_law 1267 = .ok (.iadd, 1) ∧ decode cL_law 1268 = .ok (.iaload, 1) ∧ decode cL_law 1269 = .ok (.invokevirtual 133, 3) ∧ decode cL_law 1272 = .ok (.pop, 1) ∧ decode cL_law 1273 = .ok (.goto 379, 3) ∧ decode cL_law 1276 = .ok (.aload_n 1, 1) ∧ decode cL_law 1277 = .ok (.aload_n 0, 1) := ⟨dq_96 sB_52 14 rfl, dq_46 sB_52 15 rfl, dq_42 sB_52 16 rfl, dq_29 sB_52 17 rfl, dq_5 sB_52 18 rfl, dq_96 sB_52 19 rfl, dq_46 sB_52 20 rfl, dq_182 sB_52 21 rfl 133 (by decide), dq_87 sB_53 0 rfl, dq_167 sB_53 1 rfl 379 (by decide), dq_43 sB_53 4 rfl, dq_42 sB_53 5 rfl⟩
theorem dL_law_1262 : decode cL_law 1262 = .ok (.iadd, 1) := dL_law_all77.1
theorem dL_law_1263 : decode cL_law 1263 = .ok (.iaload, 1) := dL_law_all77.2.1
theorem dL_law_1264 : decode cL_law 1264 = .ok (.aload_n 0, 1) := dL_law_all77.2.2.1
theorem dL_law_1265 : decode cL_law 1265 = .ok (.iload_n 3, 1) := dL_law_all77.2.2.2.1
theorem dL_law_1266 : decode cL_law 1266 = .ok (.iconst 2, 1) := dL_law_all77.2.2.2.2.1
theorem dL_law_1267 : decode cL_law 1267 = .ok (.iadd, 1) := dL_law_all77.2.2.2.2.2.1
theorem dL_law_1268 : decode cL_law 1268 = .ok (.iaload, 1) := dL_law_all77.2.2.2.2.2.2.1
theorem dL_law_1269 : decode cL_law 1269 = .ok (.invokevirtual 133, 3) := dL_law_all77.2.2.2.2.2.2.2.1
theorem dL_law_1272 : decode cL_law 1272 = .ok (.pop, 1) := dL_law_all77.2.2.2.2.2.2.2.2.1
theorem dL_law_1273 : decode cL_law 1273 = .ok (.goto 379, 3) := dL_law_all77.2.2.2.2.2.2.2.2.2.1
theorem dL_law_1276 : decode cL_law 1276 = .ok (.aload_n 1, 1) := dL_law_all77.2.2.2.2.2.2.2.2.2.2.1
theorem dL_law_1277 : decode cL_law 1277 = .ok (.aload_n 0, 1) := dL_law_all77.2.2.2.2.2.2.2.2.2.2.2
theorem dL_law_all78 : decode cL_law 1278 = .ok (.iload_n 3, 1) ∧ decode cL_law 1279 = .ok (.iconst 1, 1) ∧ decode cL_law 1280 = .ok (.iadd, 1) ∧ decode cL_law 1281 = .ok (.iaload, 1) ∧ decode cL_law 1282 = .ok (.aload_n 0, 1) ∧ decode cL_law 1283 = .ok (.iload_n 3, 1) ∧ decode cL_law 1284 = .ok (.iconst 2, 1) ∧ decode cL_law 1285 = .ok (.iadd, 1) ∧ decode cL_law 1286 = .ok (.iaload, 1) ∧ decode cL_law 1287 = .ok (.aload_n 0, 1) ∧ decode cL_law 1288 = .ok (.iload_n 3, 1) ∧ decode cL_law 1289 = .ok (.iconst 3, 1) := ⟨dq_29 sB_53 6 rfl, dq_4 sB_53 7 rfl, dq_96 sB_53 8 rfl, dq_46 sB_53 9 rfl, dq_42 sB_53 10 rfl, dq_29 sB_53 11 rfl, dq_5 sB_53 12 rfl, dq_96 sB_53 13 rfl, dq_46 sB_53 14 rfl, dq_42 sB_53 15 rfl, dq_29 sB_53 16 rfl, dq_6 sB_53 17 rfl⟩
theorem dL_law_1278 : decode cL_law 1278 = .ok (.iload_n 3, 1) := dL_law_all78.1
theorem dL_law_1279 : decode cL_law 1279 = .ok (.iconst 1, 1) := dL_law_all78.2.1
theorem dL_law_1280 : decode cL_law 1280 = .ok (.iadd, 1) := dL_law_all78.2.2.1
theorem dL_law_1281 : decode cL_law 1281 = .ok (.iaload, 1) := dL_law_all78.2.2.2.1
theorem dL_law_1282 : decode cL_law 1282 = .ok (.aload_n 0, 1) := dL_law_all78.2.2.2.2.1
theorem dL_law_1283 : decode cL_law 1283 = .ok (.iload_n 3, 1) := dL_law_all78.2.2.2.2.2.1
theorem dL_law_1284 : decode cL_law 1284 = .ok (.iconst 2, 1) := dL_law_all78.2.2.2.2.2.2.1
theorem dL_law_1285 : decode cL_law 1285 = .ok (.iadd, 1) := dL_law_all78.2.2.2.2.2.2.2.1
theorem dL_law_1286 : decode cL_law 1286 = .ok (.iaload, 1) := dL_law_all78.2.2.2.2.2.2.2.2.1
theorem dL_law_1287 : decode cL_law 1287 = .ok (.aload_n 0, 1) := dL_law_all78.2.2.2.2.2.2.2.2.2.1
theorem dL_law_1288 : decode cL_law 1288 = .ok (.iload_n 3, 1) := dL_law_all78.2.2.2.2.2.2.2.2.2.2.1
theorem dL_law_1289 : decode cL_law 1289 = .ok (.iconst 3, 1) := dL_law_all78.2.2.2.2.2.2.2.2.2.2.2
theorem dL_law_all79 : decode cL_law 1290 = .ok (.iadd, 1) ∧ decode cL_law 1291 = .ok (.iaload, 1) ∧ decode cL_law 1292 = .ok (.aload_n 0, 1) ∧ decode cL_law 1293 = .ok (.iload_n 3, 1) ∧ decode cL_law 1294 = .ok (.iconst 4, 1) ∧ decode cL_law 1295 = .ok (.iadd, 1) ∧ decode cL_law 1296 = .ok (.iaload, 1) ∧ decode cL_law 1297 = .ok (.invokevirtual 134, 3) ∧ decode cL_law 1300 = .ok (.pop, 1) ∧ decode cL_law 1301 = .ok (.aload_n 2, 1) ∧ decode cL_law 1302 = .ok (.aload_n 0, 1) ∧ decode cL_law 1303 = .ok (.iload_n 3, 1) := ⟨dq_96 sB_53 18 rfl, dq_46 sB_53 19 rfl, dq_42 sB_53 20 rfl, dq_29 sB_53 21 rfl, dq_7 sB_53 22 rfl, dq_96 sB_53 23 rfl, dq_46 sB_54 0 rfl, dq_182 sB_54 1 rfl 134 (by decide), dq_87 sB_54 4 rfl, dq_44 sB_54 5 rfl, dq_42 sB_54 6 rfl, dq_29 sB_54 7 rfl⟩
theorem dL_law_1290 : decode cL_law 1290 = .ok (.iadd, 1) := dL_law_all79.1
theorem dL_law_1291 : decode cL_law 1291 = .ok (.iaload, 1) := dL_law_all79.2.1
theorem dL_law_1292 : decode cL_law 1292 = .ok (.aload_n 0, 1) := dL_law_all79.2.2.1
theorem dL_law_1293 : decode cL_law 1293 = .ok (.iload_n 3, 1) := dL_law_all79.2.2.2.1
theorem dL_law_1294 : decode cL_law 1294 = .ok (.iconst 4, 1) := dL_law_all79.2.2.2.2.1
theorem dL_law_1295 : decode cL_law 1295 = .ok (.iadd, 1) := dL_law_all79.2.2.2.2.2.1
theorem dL_law_1296 : decode cL_law 1296 = .ok (.iaload, 1) := dL_law_all79.2.2.2.2.2.2.1
theorem dL_law_1297 : decode cL_law 1297 = .ok (.invokevirtual 134, 3) := dL_law_all79.2.2.2.2.2.2.2.1
theorem dL_law_1300 : decode cL_law 1300 = .ok (.pop, 1) := dL_law_all79.2.2.2.2.2.2.2.2.1
theorem dL_law_1301 : decode cL_law 1301 = .ok (.aload_n 2, 1) := dL_law_all79.2.2.2.2.2.2.2.2.2.1
theorem dL_law_1302 : decode cL_law 1302 = .ok (.aload_n 0, 1) := dL_law_all79.2.2.2.2.2.2.2.2.2.2.1
theorem dL_law_1303 : decode cL_law 1303 = .ok (.iload_n 3, 1) := dL_law_all79.2.2.2.2.2.2.2.2.2.2.2
theorem dL_law_all80 : decode cL_law 1304 = .ok (.iconst 1, 1) ∧ decode cL_law 1305 = .ok (.iadd, 1) ∧ decode cL_law 1306 = .ok (.iaload, 1) ∧ decode cL_law 1307 = .ok (.aload_n 0, 1) ∧ decode cL_law 1308 = .ok (.iload_n 3, 1) ∧ decode cL_law 1309 = .ok (.iconst 2, 1) ∧ decode cL_law 1310 = .ok (.iadd, 1) ∧ decode cL_law 1311 = .ok (.iaload, 1) ∧ decode cL_law 1312 = .ok (.aload_n 0, 1) ∧ decode cL_law 1313 = .ok (.iload_n 3, 1) ∧ decode cL_law 1314 = .ok (.iconst 3, 1) ∧ decode cL_law 1315 = .ok (.iadd, 1) := ⟨dq_4 sB_54 8 rfl, dq_96 sB_54 9 rfl, dq_46 sB_54 10 rfl, dq_42 sB_54 11 rfl, dq_29 sB_54 12 rfl, dq_5 sB_54 13 rfl, dq_96 sB_54 14 rfl, dq_46 sB_54 15 rfl, dq_42 sB_54 16 rfl, dq_29 sB_54 17 rfl, dq_6 sB_54 18 rfl, dq_96 sB_54 19 rfl⟩
theorem dL_law_1304 : decode cL_law 1304 = .ok (.iconst 1, 1) := dL_law_all80.1
theorem dL_law_1305 : decode cL_law 1305 = .ok (.iadd, 1) := dL_law_all80.2.1
theorem dL_law_1306 : decode cL_law 1306 = .ok (.iaload, 1) := dL_law_all80.2.2.1
theorem dL_law_1307 : decode cL_law 1307 = .ok (.aload_n 0, 1) := dL_law_all80.2.2.2.1
theorem dL_law_1308 : decode cL_law 1308 = .ok (.iload_n 3, 1) := dL_law_all80.2.2.2.2.1
theorem dL_law_1309 : decode cL_law 1309 = .ok (.iconst 2, 1) := dL_law_all80.2.2.2.2.2.1
theorem dL_law_1310 : decode cL_law 1310 = .ok (.iadd, 1) := dL_law_all80.2.2.2.2.2.2.1
theorem dL_law_1311 : decode cL_law 1311 = .ok (.iaload, 1) := dL_law_all80.2.2.2.2.2.2.2.1
theorem dL_law_1312 : decode cL_law 1312 = .ok (.aload_n 0, 1) := dL_law_all80.2.2.2.2.2.2.2.2.1
theorem dL_law_1313 : decode cL_law 1313 = .ok (.iload_n 3, 1) := dL_law_all80.2.2.2.2.2.2.2.2.2.1
theorem dL_law_1314 : decode cL_law 1314 = .ok (.iconst 3, 1) := dL_law_all80.2.2.2.2.2.2.2.2.2.2.1
theorem dL_law_1315 : decode cL_law 1315 = .ok (.iadd, 1) := dL_law_all80.2.2.2.2.2.2.2.2.2.2.2
theorem dL_law_all81 : decode cL_law 1316 = .ok (.iaload, 1) ∧ decode cL_law 1317 = .ok (.aload_n 0, 1) ∧ decode cL_law 1318 = .ok (.iload_n 3, 1) ∧ decode cL_law 1319 = .ok (.iconst 4, 1) ∧ decode cL_law 1320 = .ok (.iadd, 1) ∧ decode cL_law 1321 = .ok (.iaload, 1) ∧ decode cL_law 1322 = .ok (.invokevirtual 137, 3) ∧ decode cL_law 1325 = .ok (.pop, 1) ∧ decode cL_law 1326 = .ok (.goto 326, 3) ∧ decode cL_law 1329 = .ok (.aload_n 1, 1) ∧ decode cL_law 1330 = .ok (.aload_n 0, 1) ∧ decode cL_law 1331 = .ok (.iload_n 3, 1) := ⟨dq_46 sB_54 20 rfl, dq_42 sB_54 21 rfl, dq_29 sB_54 22 rfl, dq_7 sB_54 23 rfl, dq_96 sB_55 0 rfl, dq_46 sB_55 1 rfl, dq_182 sB_55 2 rfl 137 (by decide), dq_87 sB_55 5 rfl, dq_167 sB_55 6 rfl 326 (by decide), dq_43 sB_55 9 rfl, dq_42 sB_55 10 rfl, dq_29 sB_55 11 rfl⟩
theorem dL_law_1316 : decode cL_law 1316 = .ok (.iaload, 1) := dL_law_all81.1
theorem dL_law_1317 : decode cL_law 1317 = .ok (.aload_n 0, 1) := dL_law_all81.2.1
theorem dL_law_1318 : decode cL_law 1318 = .ok (.iload_n 3, 1) := dL_law_all81.2.2.1
theorem dL_law_1319 : decode cL_law 1319 = .ok (.iconst 4, 1) := dL_law_all81.2.2.2.1
theorem dL_law_1320 : decode cL_law 1320 = .ok (.iadd, 1) := dL_law_all81.2.2.2.2.1
theorem dL_law_1321 : decode cL_law 1321 = .ok (.iaload, 1) := dL_law_all81.2.2.2.2.2.1
theorem dL_law_1322 : decode cL_law 1322 = .ok (.invokevirtual 137, 3) := dL_law_all81.2.2.2.2.2.2.1
theorem dL_law_1325 : decode cL_law 1325 = .ok (.pop, 1) := dL_law_all81.2.2.2.2.2.2.2.1
theorem dL_law_1326 : decode cL_law 1326 = .ok (.goto 326, 3) := dL_law_all81.2.2.2.2.2.2.2.2.1
theorem dL_law_1329 : decode cL_law 1329 = .ok (.aload_n 1, 1) := dL_law_all81.2.2.2.2.2.2.2.2.2.1
theorem dL_law_1330 : decode cL_law 1330 = .ok (.aload_n 0, 1) := dL_law_all81.2.2.2.2.2.2.2.2.2.2.1
theorem dL_law_1331 : decode cL_law 1331 = .ok (.iload_n 3, 1) := dL_law_all81.2.2.2.2.2.2.2.2.2.2.2
theorem dL_law_all82 : decode cL_law 1332 = .ok (.iconst 1, 1) ∧ decode cL_law 1333 = .ok (.iadd, 1) ∧ decode cL_law 1334 = .ok (.iaload, 1) ∧ decode cL_law 1335 = .ok (.aload_n 0, 1) ∧ decode cL_law 1336 = .ok (.iload_n 3, 1) ∧ decode cL_law 1337 = .ok (.iconst 2, 1) ∧ decode cL_law 1338 = .ok (.iadd, 1) ∧ decode cL_law 1339 = .ok (.iaload, 1) ∧ decode cL_law 1340 = .ok (.aload_n 0, 1) ∧ decode cL_law 1341 = .ok (.iload_n 3, 1) ∧ decode cL_law 1342 = .ok (.iconst 3, 1) ∧ decode cL_law 1343 = .ok (.iadd, 1) := ⟨dq_4 sB_55 12 rfl, dq_96 sB_55 13 rfl, dq_46 sB_55 14 rfl, dq_42 sB_55 15 rfl, dq_29 sB_55 16 rfl, dq_5 sB_55 17 rfl, dq_96 sB_55 18 rfl, dq_46 sB_55 19 rfl, dq_42 sB_55 20 rfl, dq_29 sB_55 21 rfl, dq_6 sB_55 22 rfl, dq_96 sB_55 23 rfl⟩
theorem dL_law_1332 : decode cL_law 1332 = .ok (.iconst 1, 1) := dL_law_all82.1
theorem dL_law_1333 : decode cL_law 1333 = .ok (.iadd, 1) := dL_law_all82.2.1
theorem dL_law_1334 : decode cL_law 1334 = .ok (.iaload, 1) := dL_law_all82.2.2.1
theorem dL_law_1335 : decode cL_law 1335 = .ok (.aload_n 0, 1) := dL_law_all82.2.2.2.1
theorem dL_law_1336 : decode cL_law 1336 = .ok (.iload_n 3, 1) := dL_law_all82.2.2.2.2.1
theorem dL_law_1337 : decode cL_law 1337 = .ok (.iconst 2, 1) := dL_law_all82.2.2.2.2.2.1
theorem dL_law_1338 : decode cL_law 1338 = .ok (.iadd, 1) := dL_law_all82.2.2.2.2.2.2.1
theorem dL_law_1339 : decode cL_law 1339 = .ok (.iaload, 1) := dL_law_all82.2.2.2.2.2.2.2.1
theorem dL_law_1340 : decode cL_law 1340 = .ok (.aload_n 0, 1) := dL_law_all82.2.2.2.2.2.2.2.2.1
theorem dL_law_1341 : decode cL_law 1341 = .ok (.iload_n 3, 1) := dL_law_all82.2.2.2.2.2.2.2.2.2.1
theorem dL_law_1342 : decode cL_law 1342 = .ok (.iconst 3, 1) := dL_law_all82.2.2.2.2.2.2.2.2.2.2.1
theorem dL_law_1343 : decode cL_law 1343 = .ok (.iadd, 1) := dL_law_all82.2.2.2.2.2.2.2.2.2.2.2
theorem dL_law_all83 : decode cL_law 1344 = .ok (.iaload, 1) ∧ decode cL_law 1345 = .ok (.aload_n 0, 1) ∧ decode cL_law 1346 = .ok (.iload_n 3, 1) ∧ decode cL_law 1347 = .ok (.iconst 4, 1) ∧ decode cL_law 1348 = .ok (.iadd, 1) ∧ decode cL_law 1349 = .ok (.iaload, 1) ∧ decode cL_law 1350 = .ok (.invokevirtual 138, 3) ∧ decode cL_law 1353 = .ok (.pop, 1) ∧ decode cL_law 1354 = .ok (.aload_n 2, 1) ∧ decode cL_law 1355 = .ok (.aload_n 0, 1) ∧ decode cL_law 1356 = .ok (.iload_n 3, 1) ∧ decode cL_law 1357 = .ok (.iconst 1, 1) := ⟨dq_46 sB_56 0 rfl, dq_42 sB_56 1 rfl, dq_29 sB_56 2 rfl, dq_7 sB_56 3 rfl, dq_96 sB_56 4 rfl, dq_46 sB_56 5 rfl, dq_182 sB_56 6 rfl 138 (by decide), dq_87 sB_56 9 rfl, dq_44 sB_56 10 rfl, dq_42 sB_56 11 rfl, dq_29 sB_56 12 rfl, dq_4 sB_56 13 rfl⟩
theorem dL_law_1344 : decode cL_law 1344 = .ok (.iaload, 1) := dL_law_all83.1
theorem dL_law_1345 : decode cL_law 1345 = .ok (.aload_n 0, 1) := dL_law_all83.2.1
theorem dL_law_1346 : decode cL_law 1346 = .ok (.iload_n 3, 1) := dL_law_all83.2.2.1
theorem dL_law_1347 : decode cL_law 1347 = .ok (.iconst 4, 1) := dL_law_all83.2.2.2.1
theorem dL_law_1348 : decode cL_law 1348 = .ok (.iadd, 1) := dL_law_all83.2.2.2.2.1
theorem dL_law_1349 : decode cL_law 1349 = .ok (.iaload, 1) := dL_law_all83.2.2.2.2.2.1
theorem dL_law_1350 : decode cL_law 1350 = .ok (.invokevirtual 138, 3) := dL_law_all83.2.2.2.2.2.2.1
theorem dL_law_1353 : decode cL_law 1353 = .ok (.pop, 1) := dL_law_all83.2.2.2.2.2.2.2.1
theorem dL_law_1354 : decode cL_law 1354 = .ok (.aload_n 2, 1) := dL_law_all83.2.2.2.2.2.2.2.2.1
theorem dL_law_1355 : decode cL_law 1355 = .ok (.aload_n 0, 1) := dL_law_all83.2.2.2.2.2.2.2.2.2.1
theorem dL_law_1356 : decode cL_law 1356 = .ok (.iload_n 3, 1) := dL_law_all83.2.2.2.2.2.2.2.2.2.2.1
theorem dL_law_1357 : decode cL_law 1357 = .ok (.iconst 1, 1) := dL_law_all83.2.2.2.2.2.2.2.2.2.2.2
theorem dL_law_all84 : decode cL_law 1358 = .ok (.iadd, 1) ∧ decode cL_law 1359 = .ok (.iaload, 1) ∧ decode cL_law 1360 = .ok (.aload_n 0, 1) ∧ decode cL_law 1361 = .ok (.iload_n 3, 1) ∧ decode cL_law 1362 = .ok (.iconst 2, 1) ∧ decode cL_law 1363 = .ok (.iadd, 1) ∧ decode cL_law 1364 = .ok (.iaload, 1) ∧ decode cL_law 1365 = .ok (.aload_n 0, 1) ∧ decode cL_law 1366 = .ok (.iload_n 3, 1) ∧ decode cL_law 1367 = .ok (.iconst 3, 1) ∧ decode cL_law 1368 = .ok (.iadd, 1) ∧ decode cL_law 1369 = .ok (.iaload, 1) := ⟨dq_96 sB_56 14 rfl, dq_46 sB_56 15 rfl, dq_42 sB_56 16 rfl, dq_29 sB_56 17 rfl, dq_5 sB_56 18 rfl, dq_96 sB_56 19 rfl, dq_46 sB_56 20 rfl, dq_42 sB_56 21 rfl, dq_29 sB_56 22 rfl, dq_6 sB_56 23 rfl, dq_96 sB_57 0 rfl, dq_46 sB_57 1 rfl⟩
theorem dL_law_1358 : decode cL_law 1358 = .ok (.iadd, 1) := dL_law_all84.1
theorem dL_law_1359 : decode cL_law 1359 = .ok (.iaload, 1) := dL_law_all84.2.1
theorem dL_law_1360 : decode cL_law 1360 = .ok (.aload_n 0, 1) := dL_law_all84.2.2.1
theorem dL_law_1361 : decode cL_law 1361 = .ok (.iload_n 3, 1) := dL_law_all84.2.2.2.1
theorem dL_law_1362 : decode cL_law 1362 = .ok (.iconst 2, 1) := dL_law_all84.2.2.2.2.1
theorem dL_law_1363 : decode cL_law 1363 = .ok (.iadd, 1) := dL_law_all84.2.2.2.2.2.1
theorem dL_law_1364 : decode cL_law 1364 = .ok (.iaload, 1) := dL_law_all84.2.2.2.2.2.2.1
theorem dL_law_1365 : decode cL_law 1365 = .ok (.aload_n 0, 1) := dL_law_all84.2.2.2.2.2.2.2.1
theorem dL_law_1366 : decode cL_law 1366 = .ok (.iload_n 3, 1) := dL_law_all84.2.2.2.2.2.2.2.2.1
theorem dL_law_1367 : decode cL_law 1367 = .ok (.iconst 3, 1) := dL_law_all84.2.2.2.2.2.2.2.2.2.1
theorem dL_law_1368 : decode cL_law 1368 = .ok (.iadd, 1) := dL_law_all84.2.2.2.2.2.2.2.2.2.2.1
theorem dL_law_1369 : decode cL_law 1369 = .ok (.iaload, 1) := dL_law_all84.2.2.2.2.2.2.2.2.2.2.2
theorem dL_law_all85 : decode cL_law 1370 = .ok (.aload_n 0, 1) ∧ decode cL_law 1371 = .ok (.iload_n 3, 1) ∧ decode cL_law 1372 = .ok (.iconst 4, 1) ∧ decode cL_law 1373 = .ok (.iadd, 1) ∧ decode cL_law 1374 = .ok (.iaload, 1) ∧ decode cL_law 1375 = .ok (.invokevirtual 141, 3) ∧ decode cL_law 1378 = .ok (.pop, 1) ∧ decode cL_law 1379 = .ok (.goto 273, 3) ∧ decode cL_law 1382 = .ok (.aload_n 1, 1) ∧ decode cL_law 1383 = .ok (.aload_n 0, 1) ∧ decode cL_law 1384 = .ok (.iload_n 3, 1) ∧ decode cL_law 1385 = .ok (.iconst 1, 1) := ⟨dq_42 sB_57 2 rfl, dq_29 sB_57 3 rfl, dq_7 sB_57 4 rfl, dq_96 sB_57 5 rfl, dq_46 sB_57 6 rfl, dq_182 sB_57 7 rfl 141 (by decide), dq_87 sB_57 10 rfl, dq_167 sB_57 11 rfl 273 (by decide), dq_43 sB_57 14 rfl, dq_42 sB_57 15 rfl, dq_29 sB_57 16 rfl, dq_4 sB_57 17 rfl⟩
theorem dL_law_1370 : decode cL_law 1370 = .ok (.aload_n 0, 1) := dL_law_all85.1
theorem dL_law_1371 : decode cL_law 1371 = .ok (.iload_n 3, 1) := dL_law_all85.2.1
theorem dL_law_1372 : decode cL_law 1372 = .ok (.iconst 4, 1) := dL_law_all85.2.2.1
theorem dL_law_1373 : decode cL_law 1373 = .ok (.iadd, 1) := dL_law_all85.2.2.2.1
theorem dL_law_1374 : decode cL_law 1374 = .ok (.iaload, 1) := dL_law_all85.2.2.2.2.1
theorem dL_law_1375 : decode cL_law 1375 = .ok (.invokevirtual 141, 3) := dL_law_all85.2.2.2.2.2.1
theorem dL_law_1378 : decode cL_law 1378 = .ok (.pop, 1) := dL_law_all85.2.2.2.2.2.2.1
theorem dL_law_1379 : decode cL_law 1379 = .ok (.goto 273, 3) := dL_law_all85.2.2.2.2.2.2.2.1
set_option maxHeartbeats 4000000 in
set_option maxRecDepth 100000 in
theorem law_case_24 {p : Program} {l : Launch} {e : Env} {s : State} {m : MethodId} {below : List Frame} {meth : Method} {c : Code} {D : va_G} {cI cY cJ cQ : ClassId} {b L aK aV : Nat} {xs : Nat → Int32} {ad rw md : Nat → Nat} {sd i : Int32} {nx : Nat → Int32} {fx rs : Nat → Nat → Int32} {lo : Nat → Int64} {ny : Nat → Int32} {fy : Nat → Nat → Int32} {fl : Nat → Int64} {H : Heap} {locs : List Loc} {ls : Array Slot} (C0 : lawC p s m meth c b L xs D cI cY cJ cQ aK aV) (I : inv nx fx rs ny fy) (hP : va_P D vwCl (wX ad rw sd cI cY cJ cQ nx fx rs lo ++ wM md sd cI cY cJ cQ ny fy fl) H) (hD : va_D (fun q : Nat => s.heap.size ≤ q) (wX ad rw sd cI cY cJ cQ nx fx rs lo ++ wM md sd cI cY cJ cQ ny fy fl)) (hS : va_S (fun q : Nat => s.heap.size ≤ q) s.heap H locs) (hl : lv_has ls 4 [(0, .ref b), (1, .ref (ad 0)), (2, .ref (md 64)), (3, .int i)]) (hi1 : 1 ≤ i.toInt) (hi2 : i.toInt + 5 < L) (kk : ∀ (nx : Nat → Int32) (fx rs : Nat → Nat → Int32) (lo : Nat → Int64) (ny : Nat → Int32) (fy : Nat → Nat → Int32) (fl : Nat → Int64) (H : Heap) (locs : List Loc) (ls : Array Slot), inv nx fx rs ny fy → va_P D vwCl (wX ad rw sd cI cY cJ cQ nx fx rs lo ++ wM md sd cI cY cJ cQ ny fy fl) H → va_D (fun q : Nat => s.heap.size ≤ q) (wX ad rw sd cI cY cJ cQ nx fx rs lo ++ wM md sd cI cY cJ cQ ny fy fl) → va_S (fun q : Nat => s.heap.size ≤ q) s.heap H locs → lv_has ls 4 [(0, .ref b), (1, .ref (ad 0)), (2, .ref (md 64)), (3, .int i)] → W p l e room_1 s m #[Value.ref b] below meth c H locs 107 4890 (lw_Z below #[Value.ref b] s) (F0 m 1652 ls [])) : W p l e room_1 s m #[Value.ref b] below meth c H locs 107 4890 (lw_Z below #[Value.ref b] s) (F0 m 1200 ls []) := by
  obtain ⟨C1, hK, hN, hT, hL⟩ := C0
  obtain ⟨hx, hb, hr, hml, hown, hts0, hX, hbl, hlocks, hgv⟩ := C1
  have hA : ∀ q : Nat, s.heap.size ≤ q → (fun q : Nat => s.heap.size ≤ q) q := fun _ h => h
  have hbA : ¬ (fun q : Nat => s.heap.size ≤ q) b := Nat.not_le.mpr hbl
  have hts : ∀ w ∈ wsL_law, w.before #[Value.ref b] s = true := fun w h => hts0 w (wsL_law_in w h)
  replace hown : s.vm.findClass RL = some m.cls := hown
  replace hb : c.code = cL_law := hb
  have hak1 : vp_in (i + 1) L := law_in hi1 hi2 hL (by decide)
  obtain ⟨xk1, exk1⟩ : ∃ y : Int32, y = xs (i + 1).toNatClampNeg := ⟨_, rfl⟩
  have hak2 : vp_in (i + 2) L := law_in hi1 hi2 hL (by decide)
  obtain ⟨xk2, exk2⟩ : ∃ y : Int32, y = xs (i + 2).toNatClampNeg := ⟨_, rfl⟩
  have hak3 : vp_in (i + 3) L := law_in hi1 hi2 hL (by decide)
  obtain ⟨xk3, exk3⟩ : ∃ y : Int32, y = xs (i + 3).toNatClampNeg := ⟨_, rfl⟩
  refine inv_el I ?_
  intro Xhna Xhnb XH XD XV XN Xcna Xcnb XF Xpna Xpnb XG XO XW Xgna Xgnb XJ Xlna Xlnb Xdla Xdlb Xana Xanb Xuna Xunb XU Xlca Xlcb Xtna Xtnb XS Mhna Mhnb MH MS Mmlna Mmlnb Mmtna Mmtnb Chn Cho Chc Chp Chs Ccn Cfo Cwo Cpn Cpk Cpf Cpo Cpd Cpe Cgn Cgk Cgs Cgd Cge Can Cak Cah Cay Caz Cun Cuk Cuy Cuw Cum Clc Clp Cla Clb Caw Ciw Cln Ctd Cro Cmtn Cmtr Cmst Csh
  have Tcn := i_eq Ccn
  have Tpn := i_eq Cpn
  have Tgn := i_eq Cgn
  have Tan := i_eq Can
  have Tun := i_eq Cun
  have Tlc := i_eq Clc
  have Tln := i_eq Cln
  refine lv_aload_n hx hb dL_law_1200 rfl (lv_at hl 1 rfl) ?_
  refine law_arg (v := 1) hx hb hX hbl hbA hS (lv_at hl 0 rfl) (lv_at hl 3 rfl) (by decide) hak1 exk1 dL_law_1201 dL_law_1202 dL_law_1203 dL_law_1204 dL_law_1205 ?_
  refine law_arg (v := 2) hx hb hX hbl hbA hS (lv_at hl 0 rfl) (lv_at hl 3 rfl) (by decide) hak2 exk2 dL_law_1206 dL_law_1207 dL_law_1208 dL_law_1209 dL_law_1210 ?_
  refine law_arg (v := 3) hx hb hX hbl hbA hS (lv_at hl 0 rfl) (lv_at hl 3 rfl) (by decide) hak3 exk3 dL_law_1211 dL_law_1212 dL_law_1213 dL_law_1214 dL_law_1215 ?_
  refine st_iU (va_runV (C := RX10) (As := [.int xk1, .int xk2, .int xk3]) (rest := []) ⟨hx, hb, hml, hown, hts⟩ (ct_X10_lot l D cI cY cJ cQ _ ad sd (nx 0) (nx 1) (nx 2) xk1 xk2 xk3) (cwV 3 hts gL_law_X10_lot rfl rfl rfl ⟨rfl, cdX10_lot⟩ ⟨Nat.le_of_ble_eq_true rfl, Nat.le_of_ble_eq_true rfl⟩) (cPreV (hP.sub [0, 55] rfl) hK (hD.sub [0, 55] (by decide +kernel) rfl) hN (ci := 10) (q0 := 0) rfl rfl) rfl rfl hl.1 rfl (lv_room (Nat.le_of_ble_eq_true rfl)) dL_law_1216 ⟨Nat.le_of_ble_eq_true rfl, Nat.le_of_ble_eq_true rfl⟩) hP hD hS hA [0, 55] rfl (fun _ => rfl) (fun r3 u1 H locs hw2 => ?_)
  clear hP hS
  intro hP hS
  replace hw2 : r3 = an_lotn sd xk1 xk2 xk3 := hw2
  refine lv_pop hx hb dL_law_1219 rfl ?_
  have hPx : va_P D vwCl (wX ad rw sd cI cY cJ cQ nx fx rs lo ++ wM md sd cI cY cJ cQ ny fy fl) H := hP
  have hDx : va_D (fun q : Nat => s.heap.size ≤ q) (wX ad rw sd cI cY cJ cQ nx fx rs lo ++ wM md sd cI cY cJ cQ ny fy fl) := wXM_D hD
  have hP := hPx.comm
  have hD := hDx.comm
  refine lv_aload_n hx hb dL_law_1220 rfl (lv_at hl 2 rfl) ?_
  refine law_arg (v := 1) hx hb hX hbl hbA hS (lv_at hl 0 rfl) (lv_at hl 3 rfl) (by decide) hak1 exk1 dL_law_1221 dL_law_1222 dL_law_1223 dL_law_1224 dL_law_1225 ?_
  refine law_arg (v := 2) hx hb hX hbl hbA hS (lv_at hl 0 rfl) (lv_at hl 3 rfl) (by decide) hak2 exk2 dL_law_1226 dL_law_1227 dL_law_1228 dL_law_1229 dL_law_1230 ?_
  refine law_arg (v := 3) hx hb hX hbl hbA hS (lv_at hl 0 rfl) (lv_at hl 3 rfl) (by decide) hak3 exk3 dL_law_1231 dL_law_1232 dL_law_1233 dL_law_1234 dL_law_1235 ?_
  refine st_iU (va_runV (C := RX11) (As := [.int xk1, .int xk2, .int xk3]) (rest := []) ⟨hx, hb, hml, hown, hts⟩ (ct_X11_lot l D cI cY cJ cQ _ md sd (ny 0) (ny 1) (ny 2) (ny 3) (ny 4) (ny 5) (ny 6) (ny 7) (ny 8) (ny 9) (ny 10) (ny 11) (ny 12) (ny 13) (ny 14) (ny 15) (ny 16) (ny 17) (ny 18) (ny 19) (ny 20) (ny 21) (ny 22) xk1 xk2 xk3) (cwV 3 hts gL_law_X11_lot rfl rfl rfl ⟨rfl, cdX11_lot⟩ ⟨Nat.le_of_ble_eq_true rfl, Nat.le_of_ble_eq_true rfl⟩) (cPreV (hP.sub [0] rfl) hK (hD.sub [0] (by decide +kernel) rfl) hN (ci := 11) (q0 := 0) rfl rfl) rfl rfl hl.1 rfl (lv_room (Nat.le_of_ble_eq_true rfl)) dL_law_1236 ⟨Nat.le_of_ble_eq_true rfl, Nat.le_of_ble_eq_true rfl⟩) hP hD hS hA [0] rfl (fun _ => rfl) (fun r6 u4 H locs hw5 => ?_)
  clear hP hS
  intro hP hS
  replace hw5 : r6 = an_lotn sd xk1 xk2 xk3 := hw5
  have e90 := hw2.trans hw5.symm
  refine lv_pop hx hb dL_law_1239 rfl ?_
  refine lv_goto (tgt := 1652) hx hb dL_law_1240 (by decide) ?_
  have hPm : va_P D vwCl (wM md sd cI cY cJ cQ (upd ny 0 0) fy fl ++ wX ad rw sd cI cY cJ cQ nx fx rs lo) H := hP
  have hDm : va_D (fun q : Nat => s.heap.size ≤ q) (wM md sd cI cY cJ cQ (upd ny 0 0) fy fl ++ wX ad rw sd cI cY cJ cQ nx fx rs lo) := wMX_D hD
  exact kk nx fx rs lo (upd ny 0 0) fy fl H locs ls ⟨Xhna, Xhnb, XH, XD, XV, XN, Xcna, Xcnb, XF, Xpna, Xpnb, XG, XO, XW, Xgna, Xgnb, XJ, Xlna, Xlnb, Xdla, Xdlb, Xana, Xanb, Xuna, Xunb, XU, Xlca, Xlcb, Xtna, Xtnb, XS, Mhna, Mhnb, MH, MS, Mmlna, Mmlnb, Mmtna, Mmtnb, Chn, Cho, Chc, Chp, Chs, Ccn, Cfo, Cwo, Cpn, Cpk, Cpf, Cpo, Cpd, Cpe, Cgn, Cgk, Cgs, Cgd, Cge, Can, Cak, Cah, Cay, Caz, Cun, Cuk, Cuy, Cuw, Cum, Clc, Clp, Cla, Clb, Caw, Ciw, Cln, Ctd, Cro, Cmtn, Cmtr, Cmst, Csh⟩ hPm.comm hDm.comm hS hl

set_option maxHeartbeats 4000000 in
set_option maxRecDepth 100000 in
theorem law_case_25 {p : Program} {l : Launch} {e : Env} {s : State} {m : MethodId} {below : List Frame} {meth : Method} {c : Code} {D : va_G} {cI cY cJ cQ : ClassId} {b L aK aV : Nat} {xs : Nat → Int32} {ad rw md : Nat → Nat} {sd i : Int32} {nx : Nat → Int32} {fx rs : Nat → Nat → Int32} {lo : Nat → Int64} {ny : Nat → Int32} {fy : Nat → Nat → Int32} {fl : Nat → Int64} {H : Heap} {locs : List Loc} {ls : Array Slot} (C0 : lawC p s m meth c b L xs D cI cY cJ cQ aK aV) (I : inv nx fx rs ny fy) (hP : va_P D vwCl (wX ad rw sd cI cY cJ cQ nx fx rs lo ++ wM md sd cI cY cJ cQ ny fy fl) H) (hD : va_D (fun q : Nat => s.heap.size ≤ q) (wX ad rw sd cI cY cJ cQ nx fx rs lo ++ wM md sd cI cY cJ cQ ny fy fl)) (hS : va_S (fun q : Nat => s.heap.size ≤ q) s.heap H locs) (hl : lv_has ls 4 [(0, .ref b), (1, .ref (ad 0)), (2, .ref (md 64)), (3, .int i)]) (hi1 : 1 ≤ i.toInt) (hi2 : i.toInt + 5 < L) (kk : ∀ (nx : Nat → Int32) (fx rs : Nat → Nat → Int32) (lo : Nat → Int64) (ny : Nat → Int32) (fy : Nat → Nat → Int32) (fl : Nat → Int64) (H : Heap) (locs : List Loc) (ls : Array Slot), inv nx fx rs ny fy → va_P D vwCl (wX ad rw sd cI cY cJ cQ nx fx rs lo ++ wM md sd cI cY cJ cQ ny fy fl) H → va_D (fun q : Nat => s.heap.size ≤ q) (wX ad rw sd cI cY cJ cQ nx fx rs lo ++ wM md sd cI cY cJ cQ ny fy fl) → va_S (fun q : Nat => s.heap.size ≤ q) s.heap H locs → lv_has ls 4 [(0, .ref b), (1, .ref (ad 0)), (2, .ref (md 64)), (3, .int i)] → W p l e room_1 s m #[Value.ref b] below meth c H locs 107 4890 (lw_Z below #[Value.ref b] s) (F0 m 1652 ls [])) : W p l e room_1 s m #[Value.ref b] below meth c H locs 107 4890 (lw_Z below #[Value.ref b] s) (F0 m 1243 ls []) := by
  obtain ⟨C1, hK, hN, hT, hL⟩ := C0
  obtain ⟨hx, hb, hr, hml, hown, hts0, hX, hbl, hlocks, hgv⟩ := C1
  have hA : ∀ q : Nat, s.heap.size ≤ q → (fun q : Nat => s.heap.size ≤ q) q := fun _ h => h
  have hbA : ¬ (fun q : Nat => s.heap.size ≤ q) b := Nat.not_le.mpr hbl
  have hts : ∀ w ∈ wsL_law, w.before #[Value.ref b] s = true := fun w h => hts0 w (wsL_law_in w h)
  replace hown : s.vm.findClass RL = some m.cls := hown
  replace hb : c.code = cL_law := hb
  have hak1 : vp_in (i + 1) L := law_in hi1 hi2 hL (by decide)
  obtain ⟨xk1, exk1⟩ : ∃ y : Int32, y = xs (i + 1).toNatClampNeg := ⟨_, rfl⟩
  have hak2 : vp_in (i + 2) L := law_in hi1 hi2 hL (by decide)
  obtain ⟨xk2, exk2⟩ : ∃ y : Int32, y = xs (i + 2).toNatClampNeg := ⟨_, rfl⟩
  refine inv_el I ?_
  intro Xhna Xhnb XH XD XV XN Xcna Xcnb XF Xpna Xpnb XG XO XW Xgna Xgnb XJ Xlna Xlnb Xdla Xdlb Xana Xanb Xuna Xunb XU Xlca Xlcb Xtna Xtnb XS Mhna Mhnb MH MS Mmlna Mmlnb Mmtna Mmtnb Chn Cho Chc Chp Chs Ccn Cfo Cwo Cpn Cpk Cpf Cpo Cpd Cpe Cgn Cgk Cgs Cgd Cge Can Cak Cah Cay Caz Cun Cuk Cuy Cuw Cum Clc Clp Cla Clb Caw Ciw Cln Ctd Cro Cmtn Cmtr Cmst Csh
  have Tcn := i_eq Ccn
  have Tpn := i_eq Cpn
  have Tgn := i_eq Cgn
  have Tan := i_eq Can
  have Tun := i_eq Cun
  have Tlc := i_eq Clc
  have Tln := i_eq Cln
  refine lv_aload_n hx hb dL_law_1243 rfl (lv_at hl 1 rfl) ?_
  refine law_arg (v := 1) hx hb hX hbl hbA hS (lv_at hl 0 rfl) (lv_at hl 3 rfl) (by decide) hak1 exk1 dL_law_1244 dL_law_1245 dL_law_1246 dL_law_1247 dL_law_1248 ?_
  refine law_arg (v := 2) hx hb hX hbl hbA hS (lv_at hl 0 rfl) (lv_at hl 3 rfl) (by decide) hak2 exk2 dL_law_1249 dL_law_1250 dL_law_1251 dL_law_1252 dL_law_1253 ?_
  refine st_iU (va_runV (C := RX10) (As := [.int xk1, .int xk2]) (rest := []) ⟨hx, hb, hml, hown, hts⟩ (ct_X10_drawn l D cI cY cJ cQ _ ad sd (nx 0) (nx 1) (nx 2) (nx 4) (fx 13) lo xk1 xk2 Xcna Xcnb) (cwV 2 hts gL_law_X10_drawn rfl rfl rfl ⟨rfl, cdX10_drawn⟩ ⟨Nat.le_of_ble_eq_true rfl, Nat.le_of_ble_eq_true rfl⟩) (cPreV (hP.sub [0, 23, 26, 55, 56] rfl) hK (hD.sub [0, 23, 26, 55, 56] (by decide +kernel) rfl) hN (ci := 10) (q0 := 0) rfl rfl) rfl rfl hl.1 rfl (lv_room (Nat.le_of_ble_eq_true rfl)) dL_law_1254 ⟨Nat.le_of_ble_eq_true rfl, Nat.le_of_ble_eq_true rfl⟩) hP hD hS hA [0, 23, 26, 55, 56] rfl (fun _ => rfl) (fun r3 u1 H locs hw2 => ?_)
  clear hP hS
  intro hP hS
  replace hw2 : r3 = sp_drawn sd (nx 4) (fx 13) xk1 xk2 := hw2
  refine lv_pop hx hb dL_law_1257 rfl ?_
  have hPx : va_P D vwCl (wX ad rw sd cI cY cJ cQ nx fx rs u1 ++ wM md sd cI cY cJ cQ ny fy fl) H := hP
  have hDx : va_D (fun q : Nat => s.heap.size ≤ q) (wX ad rw sd cI cY cJ cQ nx fx rs u1 ++ wM md sd cI cY cJ cQ ny fy fl) := wXM_D hD
  have hP := hPx.comm
  have hD := hDx.comm
  refine lv_aload_n hx hb dL_law_1258 rfl (lv_at hl 2 rfl) ?_
  refine law_arg (v := 1) hx hb hX hbl hbA hS (lv_at hl 0 rfl) (lv_at hl 3 rfl) (by decide) hak1 exk1 dL_law_1259 dL_law_1260 dL_law_1261 dL_law_1262 dL_law_1263 ?_
  refine law_arg (v := 2) hx hb hX hbl hbA hS (lv_at hl 0 rfl) (lv_at hl 3 rfl) (by decide) hak2 exk2 dL_law_1264 dL_law_1265 dL_law_1266 dL_law_1267 dL_law_1268 ?_
  refine st_iU (va_runV (C := RX11) (As := [.int xk1, .int xk2]) (rest := []) ⟨hx, hb, hml, hown, hts⟩ (ct_X11_drawn l D cI cY cJ cQ _ md sd (ny 0) (ny 1) (ny 2) (ny 3) (ny 4) (ny 5) (ny 6) (ny 7) (ny 8) (ny 9) (ny 10) (ny 11) (ny 12) (ny 13) (ny 14) (ny 15) (ny 16) (ny 17) (ny 18) (ny 19) (ny 20) (ny 21) (ny 22) (fy 30) xk1 xk2 (by omega) (by omega)) (cwV 2 hts gL_law_X11_drawn rfl rfl rfl ⟨rfl, cdX11_drawn⟩ ⟨Nat.le_of_ble_eq_true rfl, Nat.le_of_ble_eq_true rfl⟩) (cPreV (hP.sub [0, 32] rfl) hK (hD.sub [0, 32] (by decide +kernel) rfl) hN (ci := 11) (q0 := 0) rfl rfl) rfl rfl hl.1 rfl (lv_room (Nat.le_of_ble_eq_true rfl)) dL_law_1269 ⟨Nat.le_of_ble_eq_true rfl, Nat.le_of_ble_eq_true rfl⟩) hP hD hS hA [0, 32] rfl (fun _ => rfl) (fun r6 u4 H locs hw5 => ?_)
  clear hP hS
  intro hP hS
  replace hw5 : r6 = sm_drawn sd (ny 3) (fy 30) xk1 xk2 := hw5
  rw [Ccn, Cro, ← drawn_eq (by omega) (by omega)] at hw5
  have e90 := hw2.trans hw5.symm
  refine lv_pop hx hb dL_law_1272 rfl ?_
  refine lv_goto (tgt := 1652) hx hb dL_law_1273 (by decide) ?_
  have hPm : va_P D vwCl (wM md sd cI cY cJ cQ (upd ny 0 0) fy fl ++ wX ad rw sd cI cY cJ cQ nx fx rs u1) H := hP
  have hDm : va_D (fun q : Nat => s.heap.size ≤ q) (wM md sd cI cY cJ cQ (upd ny 0 0) fy fl ++ wX ad rw sd cI cY cJ cQ nx fx rs u1) := wMX_D hD
  exact kk nx fx rs u1 (upd ny 0 0) fy fl H locs ls ⟨Xhna, Xhnb, XH, XD, XV, XN, Xcna, Xcnb, XF, Xpna, Xpnb, XG, XO, XW, Xgna, Xgnb, XJ, Xlna, Xlnb, Xdla, Xdlb, Xana, Xanb, Xuna, Xunb, XU, Xlca, Xlcb, Xtna, Xtnb, XS, Mhna, Mhnb, MH, MS, Mmlna, Mmlnb, Mmtna, Mmtnb, Chn, Cho, Chc, Chp, Chs, Ccn, Cfo, Cwo, Cpn, Cpk, Cpf, Cpo, Cpd, Cpe, Cgn, Cgk, Cgs, Cgd, Cge, Can, Cak, Cah, Cay, Caz, Cun, Cuk, Cuy, Cuw, Cum, Clc, Clp, Cla, Clb, Caw, Ciw, Cln, Ctd, Cro, Cmtn, Cmtr, Cmst, Csh⟩ hPm.comm hDm.comm hS hl

set_option maxHeartbeats 4000000 in
set_option maxRecDepth 100000 in
theorem law_case_26 {p : Program} {l : Launch} {e : Env} {s : State} {m : MethodId} {below : List Frame} {meth : Method} {c : Code} {D : va_G} {cI cY cJ cQ : ClassId} {b L aK aV : Nat} {xs : Nat → Int32} {ad rw md : Nat → Nat} {sd i : Int32} {nx : Nat → Int32} {fx rs : Nat → Nat → Int32} {lo : Nat → Int64} {ny : Nat → Int32} {fy : Nat → Nat → Int32} {fl : Nat → Int64} {H : Heap} {locs : List Loc} {ls : Array Slot} (C0 : lawC p s m meth c b L xs D cI cY cJ cQ aK aV) (I : inv nx fx rs ny fy) (hP : va_P D vwCl (wX ad rw sd cI cY cJ cQ nx fx rs lo ++ wM md sd cI cY cJ cQ ny fy fl) H) (hD : va_D (fun q : Nat => s.heap.size ≤ q) (wX ad rw sd cI cY cJ cQ nx fx rs lo ++ wM md sd cI cY cJ cQ ny fy fl)) (hS : va_S (fun q : Nat => s.heap.size ≤ q) s.heap H locs) (hl : lv_has ls 4 [(0, .ref b), (1, .ref (ad 0)), (2, .ref (md 64)), (3, .int i)]) (hi1 : 1 ≤ i.toInt) (hi2 : i.toInt + 5 < L) (kk : ∀ (nx : Nat → Int32) (fx rs : Nat → Nat → Int32) (lo : Nat → Int64) (ny : Nat → Int32) (fy : Nat → Nat → Int32) (fl : Nat → Int64) (H : Heap) (locs : List Loc) (ls : Array Slot), inv nx fx rs ny fy → va_P D vwCl (wX ad rw sd cI cY cJ cQ nx fx rs lo ++ wM md sd cI cY cJ cQ ny fy fl) H → va_D (fun q : Nat => s.heap.size ≤ q) (wX ad rw sd cI cY cJ cQ nx fx rs lo ++ wM md sd cI cY cJ cQ ny fy fl) → va_S (fun q : Nat => s.heap.size ≤ q) s.heap H locs → lv_has ls 4 [(0, .ref b), (1, .ref (ad 0)), (2, .ref (md 64)), (3, .int i)] → W p l e room_1 s m #[Value.ref b] below meth c H locs 107 4890 (lw_Z below #[Value.ref b] s) (F0 m 1652 ls [])) : W p l e room_1 s m #[Value.ref b] below meth c H locs 107 4890 (lw_Z below #[Value.ref b] s) (F0 m 1276 ls []) := by
  obtain ⟨C1, hK, hN, hT, hL⟩ := C0
  obtain ⟨hx, hb, hr, hml, hown, hts0, hX, hbl, hlocks, hgv⟩ := C1
  have hA : ∀ q : Nat, s.heap.size ≤ q → (fun q : Nat => s.heap.size ≤ q) q := fun _ h => h
  have hbA : ¬ (fun q : Nat => s.heap.size ≤ q) b := Nat.not_le.mpr hbl
  have hts : ∀ w ∈ wsL_law, w.before #[Value.ref b] s = true := fun w h => hts0 w (wsL_law_in w h)
  replace hown : s.vm.findClass RL = some m.cls := hown
  replace hb : c.code = cL_law := hb
  have hak1 : vp_in (i + 1) L := law_in hi1 hi2 hL (by decide)
  obtain ⟨xk1, exk1⟩ : ∃ y : Int32, y = xs (i + 1).toNatClampNeg := ⟨_, rfl⟩
  have hak2 : vp_in (i + 2) L := law_in hi1 hi2 hL (by decide)
  obtain ⟨xk2, exk2⟩ : ∃ y : Int32, y = xs (i + 2).toNatClampNeg := ⟨_, rfl⟩
  have hak3 : vp_in (i + 3) L := law_in hi1 hi2 hL (by decide)
  obtain ⟨xk3, exk3⟩ : ∃ y : Int32, y = xs (i + 3).toNatClampNeg := ⟨_, rfl⟩
  have hak4 : vp_in (i + 4) L := law_in hi1 hi2 hL (by decide)
  obtain ⟨xk4, exk4⟩ : ∃ y : Int32, y = xs (i + 4).toNatClampNeg := ⟨_, rfl⟩
  refine inv_el I ?_
  intro Xhna Xhnb XH XD XV XN Xcna Xcnb XF Xpna Xpnb XG XO XW Xgna Xgnb XJ Xlna Xlnb Xdla Xdlb Xana Xanb Xuna Xunb XU Xlca Xlcb Xtna Xtnb XS Mhna Mhnb MH MS Mmlna Mmlnb Mmtna Mmtnb Chn Cho Chc Chp Chs Ccn Cfo Cwo Cpn Cpk Cpf Cpo Cpd Cpe Cgn Cgk Cgs Cgd Cge Can Cak Cah Cay Caz Cun Cuk Cuy Cuw Cum Clc Clp Cla Clb Caw Ciw Cln Ctd Cro Cmtn Cmtr Cmst Csh
  have Tcn := i_eq Ccn
  have Tpn := i_eq Cpn
  have Tgn := i_eq Cgn
  have Tan := i_eq Can
  have Tun := i_eq Cun
  have Tlc := i_eq Clc
  have Tln := i_eq Cln
  refine lv_aload_n hx hb dL_law_1276 rfl (lv_at hl 1 rfl) ?_
  refine law_arg (v := 1) hx hb hX hbl hbA hS (lv_at hl 0 rfl) (lv_at hl 3 rfl) (by decide) hak1 exk1 dL_law_1277 dL_law_1278 dL_law_1279 dL_law_1280 dL_law_1281 ?_
  refine law_arg (v := 2) hx hb hX hbl hbA hS (lv_at hl 0 rfl) (lv_at hl 3 rfl) (by decide) hak2 exk2 dL_law_1282 dL_law_1283 dL_law_1284 dL_law_1285 dL_law_1286 ?_
  refine law_arg (v := 3) hx hb hX hbl hbA hS (lv_at hl 0 rfl) (lv_at hl 3 rfl) (by decide) hak3 exk3 dL_law_1287 dL_law_1288 dL_law_1289 dL_law_1290 dL_law_1291 ?_
  refine law_arg (v := 4) hx hb hX hbl hbA hS (lv_at hl 0 rfl) (lv_at hl 3 rfl) (by decide) hak4 exk4 dL_law_1292 dL_law_1293 dL_law_1294 dL_law_1295 dL_law_1296 ?_
  refine st_iU (va_runV (C := RX10) (As := [.int xk1, .int xk2, .int xk3, .int xk4]) (rest := []) ⟨hx, hb, hml, hown, hts⟩ (ct_X10_often l D cI cY cJ cQ _ ad sd (nx 0) (nx 1) (nx 2) (nx 4) (fx 13) lo xk1 xk2 xk3 xk4 Xcna Xcnb) (cwV 4 hts gL_law_X10_often rfl rfl rfl ⟨rfl, cdX10_often⟩ ⟨Nat.le_of_ble_eq_true rfl, Nat.le_of_ble_eq_true rfl⟩) (cPreV (hP.sub [0, 23, 26, 55, 56] rfl) hK (hD.sub [0, 23, 26, 55, 56] (by decide +kernel) rfl) hN (ci := 10) (q0 := 0) rfl rfl) rfl rfl hl.1 rfl (lv_room (Nat.le_of_ble_eq_true rfl)) dL_law_1297 ⟨Nat.le_of_ble_eq_true rfl, Nat.le_of_ble_eq_true rfl⟩) hP hD hS hA [0, 23, 26, 55, 56] rfl (fun _ => rfl) (fun r3 u1 H locs hw2 => ?_)
  clear hP hS
  intro hP hS
  replace hw2 : r3 = sp_often sd (nx 4) (fx 13) xk1 xk2 xk3 xk4 := hw2
  refine lv_pop hx hb dL_law_1300 rfl ?_
  have hPx : va_P D vwCl (wX ad rw sd cI cY cJ cQ nx fx rs u1 ++ wM md sd cI cY cJ cQ ny fy fl) H := hP
  have hDx : va_D (fun q : Nat => s.heap.size ≤ q) (wX ad rw sd cI cY cJ cQ nx fx rs u1 ++ wM md sd cI cY cJ cQ ny fy fl) := wXM_D hD
  have hP := hPx.comm
  have hD := hDx.comm
  refine lv_aload_n hx hb dL_law_1301 rfl (lv_at hl 2 rfl) ?_
  refine law_arg (v := 1) hx hb hX hbl hbA hS (lv_at hl 0 rfl) (lv_at hl 3 rfl) (by decide) hak1 exk1 dL_law_1302 dL_law_1303 dL_law_1304 dL_law_1305 dL_law_1306 ?_
  refine law_arg (v := 2) hx hb hX hbl hbA hS (lv_at hl 0 rfl) (lv_at hl 3 rfl) (by decide) hak2 exk2 dL_law_1307 dL_law_1308 dL_law_1309 dL_law_1310 dL_law_1311 ?_
  refine law_arg (v := 3) hx hb hX hbl hbA hS (lv_at hl 0 rfl) (lv_at hl 3 rfl) (by decide) hak3 exk3 dL_law_1312 dL_law_1313 dL_law_1314 dL_law_1315 dL_law_1316 ?_
  refine law_arg (v := 4) hx hb hX hbl hbA hS (lv_at hl 0 rfl) (lv_at hl 3 rfl) (by decide) hak4 exk4 dL_law_1317 dL_law_1318 dL_law_1319 dL_law_1320 dL_law_1321 ?_
  refine st_iU (va_runV (C := RX11) (As := [.int xk1, .int xk2, .int xk3, .int xk4]) (rest := []) ⟨hx, hb, hml, hown, hts⟩ (ct_X11_often l D cI cY cJ cQ _ md sd (ny 0) (ny 1) (ny 2) (ny 3) (ny 4) (ny 5) (ny 6) (ny 7) (ny 8) (ny 9) (ny 10) (ny 11) (ny 12) (ny 13) (ny 14) (ny 15) (ny 16) (ny 17) (ny 18) (ny 19) (ny 20) (ny 21) (ny 22) (fy 30) xk1 xk2 xk3 xk4 (by omega) (by omega)) (cwV 4 hts gL_law_X11_often rfl rfl rfl ⟨rfl, cdX11_often⟩ ⟨Nat.le_of_ble_eq_true rfl, Nat.le_of_ble_eq_true rfl⟩) (cPreV (hP.sub [0, 32] rfl) hK (hD.sub [0, 32] (by decide +kernel) rfl) hN (ci := 11) (q0 := 0) rfl rfl) rfl rfl hl.1 rfl (lv_room (Nat.le_of_ble_eq_true rfl)) dL_law_1322 ⟨Nat.le_of_ble_eq_true rfl, Nat.le_of_ble_eq_true rfl⟩) hP hD hS hA [0, 32] rfl (fun _ => rfl) (fun r6 u4 H locs hw5 => ?_)
  clear hP hS
  intro hP hS
  replace hw5 : r6 = sm_often sd (ny 3) (fy 30) xk1 xk2 xk3 xk4 := hw5
  rw [Ccn, Cro, ← often_eq (by omega) (by omega)] at hw5
  have e90 := hw2.trans hw5.symm
  refine lv_pop hx hb dL_law_1325 rfl ?_
  refine lv_goto (tgt := 1652) hx hb dL_law_1326 (by decide) ?_
  have hPm : va_P D vwCl (wM md sd cI cY cJ cQ (upd ny 0 0) fy fl ++ wX ad rw sd cI cY cJ cQ nx fx rs u1) H := hP
  have hDm : va_D (fun q : Nat => s.heap.size ≤ q) (wM md sd cI cY cJ cQ (upd ny 0 0) fy fl ++ wX ad rw sd cI cY cJ cQ nx fx rs u1) := wMX_D hD
  exact kk nx fx rs u1 (upd ny 0 0) fy fl H locs ls ⟨Xhna, Xhnb, XH, XD, XV, XN, Xcna, Xcnb, XF, Xpna, Xpnb, XG, XO, XW, Xgna, Xgnb, XJ, Xlna, Xlnb, Xdla, Xdlb, Xana, Xanb, Xuna, Xunb, XU, Xlca, Xlcb, Xtna, Xtnb, XS, Mhna, Mhnb, MH, MS, Mmlna, Mmlnb, Mmtna, Mmtnb, Chn, Cho, Chc, Chp, Chs, Ccn, Cfo, Cwo, Cpn, Cpk, Cpf, Cpo, Cpd, Cpe, Cgn, Cgk, Cgs, Cgd, Cge, Can, Cak, Cah, Cay, Caz, Cun, Cuk, Cuy, Cuw, Cum, Clc, Clp, Cla, Clb, Caw, Ciw, Cln, Ctd, Cro, Cmtn, Cmtr, Cmst, Csh⟩ hPm.comm hDm.comm hS hl

set_option maxHeartbeats 4000000 in
set_option maxRecDepth 100000 in
theorem law_case_27 {p : Program} {l : Launch} {e : Env} {s : State} {m : MethodId} {below : List Frame} {meth : Method} {c : Code} {D : va_G} {cI cY cJ cQ : ClassId} {b L aK aV : Nat} {xs : Nat → Int32} {ad rw md : Nat → Nat} {sd i : Int32} {nx : Nat → Int32} {fx rs : Nat → Nat → Int32} {lo : Nat → Int64} {ny : Nat → Int32} {fy : Nat → Nat → Int32} {fl : Nat → Int64} {H : Heap} {locs : List Loc} {ls : Array Slot} (C0 : lawC p s m meth c b L xs D cI cY cJ cQ aK aV) (I : inv nx fx rs ny fy) (hP : va_P D vwCl (wX ad rw sd cI cY cJ cQ nx fx rs lo ++ wM md sd cI cY cJ cQ ny fy fl) H) (hD : va_D (fun q : Nat => s.heap.size ≤ q) (wX ad rw sd cI cY cJ cQ nx fx rs lo ++ wM md sd cI cY cJ cQ ny fy fl)) (hS : va_S (fun q : Nat => s.heap.size ≤ q) s.heap H locs) (hl : lv_has ls 4 [(0, .ref b), (1, .ref (ad 0)), (2, .ref (md 64)), (3, .int i)]) (hi1 : 1 ≤ i.toInt) (hi2 : i.toInt + 5 < L) (kk : ∀ (nx : Nat → Int32) (fx rs : Nat → Nat → Int32) (lo : Nat → Int64) (ny : Nat → Int32) (fy : Nat → Nat → Int32) (fl : Nat → Int64) (H : Heap) (locs : List Loc) (ls : Array Slot), inv nx fx rs ny fy → va_P D vwCl (wX ad rw sd cI cY cJ cQ nx fx rs lo ++ wM md sd cI cY cJ cQ ny fy fl) H → va_D (fun q : Nat => s.heap.size ≤ q) (wX ad rw sd cI cY cJ cQ nx fx rs lo ++ wM md sd cI cY cJ cQ ny fy fl) → va_S (fun q : Nat => s.heap.size ≤ q) s.heap H locs → lv_has ls 4 [(0, .ref b), (1, .ref (ad 0)), (2, .ref (md 64)), (3, .int i)] → W p l e room_1 s m #[Value.ref b] below meth c H locs 107 4890 (lw_Z below #[Value.ref b] s) (F0 m 1652 ls [])) : W p l e room_1 s m #[Value.ref b] below meth c H locs 107 4890 (lw_Z below #[Value.ref b] s) (F0 m 1329 ls []) := by
  obtain ⟨C1, hK, hN, hT, hL⟩ := C0
  obtain ⟨hx, hb, hr, hml, hown, hts0, hX, hbl, hlocks, hgv⟩ := C1
  have hA : ∀ q : Nat, s.heap.size ≤ q → (fun q : Nat => s.heap.size ≤ q) q := fun _ h => h
  have hbA : ¬ (fun q : Nat => s.heap.size ≤ q) b := Nat.not_le.mpr hbl
  have hts : ∀ w ∈ wsL_law, w.before #[Value.ref b] s = true := fun w h => hts0 w (wsL_law_in w h)
  replace hown : s.vm.findClass RL = some m.cls := hown
  replace hb : c.code = cL_law := hb
  have hak1 : vp_in (i + 1) L := law_in hi1 hi2 hL (by decide)
  obtain ⟨xk1, exk1⟩ : ∃ y : Int32, y = xs (i + 1).toNatClampNeg := ⟨_, rfl⟩
  have hak2 : vp_in (i + 2) L := law_in hi1 hi2 hL (by decide)
  obtain ⟨xk2, exk2⟩ : ∃ y : Int32, y = xs (i + 2).toNatClampNeg := ⟨_, rfl⟩
  have hak3 : vp_in (i + 3) L := law_in hi1 hi2 hL (by decide)
  obtain ⟨xk3, exk3⟩ : ∃ y : Int32, y = xs (i + 3).toNatClampNeg := ⟨_, rfl⟩
  have hak4 : vp_in (i + 4) L := law_in hi1 hi2 hL (by decide)
  obtain ⟨xk4, exk4⟩ : ∃ y : Int32, y = xs (i + 4).toNatClampNeg := ⟨_, rfl⟩
  refine inv_el I ?_
  intro Xhna Xhnb XH XD XV XN Xcna Xcnb XF Xpna Xpnb XG XO XW Xgna Xgnb XJ Xlna Xlnb Xdla Xdlb Xana Xanb Xuna Xunb XU Xlca Xlcb Xtna Xtnb XS Mhna Mhnb MH MS Mmlna Mmlnb Mmtna Mmtnb Chn Cho Chc Chp Chs Ccn Cfo Cwo Cpn Cpk Cpf Cpo Cpd Cpe Cgn Cgk Cgs Cgd Cge Can Cak Cah Cay Caz Cun Cuk Cuy Cuw Cum Clc Clp Cla Clb Caw Ciw Cln Ctd Cro Cmtn Cmtr Cmst Csh
  have Tcn := i_eq Ccn
  have Tpn := i_eq Cpn
  have Tgn := i_eq Cgn
  have Tan := i_eq Can
  have Tun := i_eq Cun
  have Tlc := i_eq Clc
  have Tln := i_eq Cln
  refine lv_aload_n hx hb dL_law_1329 rfl (lv_at hl 1 rfl) ?_
  refine law_arg (v := 1) hx hb hX hbl hbA hS (lv_at hl 0 rfl) (lv_at hl 3 rfl) (by decide) hak1 exk1 dL_law_1330 dL_law_1331 dL_law_1332 dL_law_1333 dL_law_1334 ?_
  refine law_arg (v := 2) hx hb hX hbl hbA hS (lv_at hl 0 rfl) (lv_at hl 3 rfl) (by decide) hak2 exk2 dL_law_1335 dL_law_1336 dL_law_1337 dL_law_1338 dL_law_1339 ?_
  refine law_arg (v := 3) hx hb hX hbl hbA hS (lv_at hl 0 rfl) (lv_at hl 3 rfl) (by decide) hak3 exk3 dL_law_1340 dL_law_1341 dL_law_1342 dL_law_1343 dL_law_1344 ?_
  refine law_arg (v := 4) hx hb hX hbl hbA hS (lv_at hl 0 rfl) (lv_at hl 3 rfl) (by decide) hak4 exk4 dL_law_1345 dL_law_1346 dL_law_1347 dL_law_1348 dL_law_1349 ?_
  refine st_iU (va_runV (C := RX10) (As := [.int xk1, .int xk2, .int xk3, .int xk4]) (rest := []) ⟨hx, hb, hml, hown, hts⟩ (ct_X10_opened l D cI cY cJ cQ _ ad (nx 0) (nx 1) (nx 2) (nx 4) (nx 16) (fx 38) (fx 39) (fx 40) (fx 41) xk1 xk2 xk3 xk4 Xuna Xunb) (cwV 4 hts gL_law_X10_opened rfl rfl rfl ⟨rfl, cdX10_opened⟩ ⟨Nat.le_of_ble_eq_true rfl, Nat.le_of_ble_eq_true rfl⟩) (cPreV (hP.sub [0, 23, 57, 58, 59, 60, 61] rfl) hK (hD.sub [0, 23, 57, 58, 59, 60, 61] (by decide +kernel) rfl) hN (ci := 10) (q0 := 0) rfl rfl) rfl rfl hl.1 rfl (lv_room (Nat.le_of_ble_eq_true rfl)) dL_law_1350 ⟨Nat.le_of_ble_eq_true rfl, Nat.le_of_ble_eq_true rfl⟩) hP hD hS hA [0, 23, 57, 58, 59, 60, 61] rfl (fun _ => rfl) (fun r3 u1 H locs hw2 => ?_)
  clear hP hS
  intro hP hS
  obtain ⟨un_4, uk_5, uy_6, uw_7, um_8⟩ := u1
  replace hw2 : (r3, (un_4, uk_5, uy_6, uw_7, um_8)) = sp_opened (nx 16) (fx 38) (fx 39) (fx 40) (fx 41) (nx 4) xk1 xk2 xk3 xk4 := hw2
  obtain ⟨hw2a, hw2b⟩ := sp_opened_ok hw2 (by omega) (by omega)
  have hw2u := sp_opened_okU hw2 (by omega) (by omega) XU
  refine lv_pop hx hb dL_law_1353 rfl ?_
  have hPx : va_P D vwCl (wX ad rw sd cI cY cJ cQ (upd nx 16 un_4) (upR (upR (upR (upR fx 38 uk_5) 39 uy_6) 40 uw_7) 41 um_8) rs lo ++ wM md sd cI cY cJ cQ ny fy fl) H := hP
  have hDx : va_D (fun q : Nat => s.heap.size ≤ q) (wX ad rw sd cI cY cJ cQ (upd nx 16 un_4) (upR (upR (upR (upR fx 38 uk_5) 39 uy_6) 40 uw_7) 41 um_8) rs lo ++ wM md sd cI cY cJ cQ ny fy fl) := wXM_D hD
  have hP := hPx.comm
  have hD := hDx.comm
  refine lv_aload_n hx hb dL_law_1354 rfl (lv_at hl 2 rfl) ?_
  refine law_arg (v := 1) hx hb hX hbl hbA hS (lv_at hl 0 rfl) (lv_at hl 3 rfl) (by decide) hak1 exk1 dL_law_1355 dL_law_1356 dL_law_1357 dL_law_1358 dL_law_1359 ?_
  refine law_arg (v := 2) hx hb hX hbl hbA hS (lv_at hl 0 rfl) (lv_at hl 3 rfl) (by decide) hak2 exk2 dL_law_1360 dL_law_1361 dL_law_1362 dL_law_1363 dL_law_1364 ?_
  refine law_arg (v := 3) hx hb hX hbl hbA hS (lv_at hl 0 rfl) (lv_at hl 3 rfl) (by decide) hak3 exk3 dL_law_1365 dL_law_1366 dL_law_1367 dL_law_1368 dL_law_1369 ?_
  refine law_arg (v := 4) hx hb hX hbl hbA hS (lv_at hl 0 rfl) (lv_at hl 3 rfl) (by decide) hak4 exk4 dL_law_1370 dL_law_1371 dL_law_1372 dL_law_1373 dL_law_1374 ?_
  refine st_iU (va_runV (C := RX11) (As := [.int xk1, .int xk2, .int xk3, .int xk4]) (rest := []) ⟨hx, hb, hml, hown, hts⟩ (ct_X11_opened l D cI cY cJ cQ _ md sd (ny 0) (ny 1) (ny 2) (ny 3) (ny 4) (ny 5) (ny 6) (ny 7) (ny 8) (ny 9) (ny 10) (ny 11) (ny 12) (ny 13) (ny 14) (ny 15) (ny 16) (ny 17) (ny 18) (ny 19) (ny 20) (ny 21) (ny 22) (fy 31) (fy 32) (fy 33) (fy 34) xk1 xk2 xk3 xk4 (by omega) (by omega) (by omega) (by omega)) (cwV 4 hts gL_law_X11_opened rfl rfl rfl ⟨rfl, cdX11_opened⟩ ⟨Nat.le_of_ble_eq_true rfl, Nat.le_of_ble_eq_true rfl⟩) (cPreV (hP.sub [0, 33, 34, 35, 36] rfl) hK (hD.sub [0, 33, 34, 35, 36] (by decide +kernel) rfl) hN (ci := 11) (q0 := 0) rfl rfl) rfl rfl hl.1 rfl (lv_room (Nat.le_of_ble_eq_true rfl)) dL_law_1375 ⟨Nat.le_of_ble_eq_true rfl, Nat.le_of_ble_eq_true rfl⟩) hP hD hS hA [0, 33, 34, 35, 36] rfl (fun _ => rfl) (fun r11 u9 H locs hw10 => ?_)
  clear hP hS
  intro hP hS
  obtain ⟨un_12, uk_13, uy_14, uw_15, um_16⟩ := u9
  replace hw10 : (r11, (un_12, uk_13, uy_14, uw_15, um_16)) = sp_opened (ny 19) (fy 31) (fy 32) (fy 33) (fy 34) (ny 3) xk1 xk2 xk3 xk4 := hw10
  rw [Cun, Cuk, Cuy, Cuw, Cum, Ccn] at hw10
  have e9 := hw2.trans hw10.symm
  simp only [Prod.mk.injEq] at e9
  obtain ⟨e90, e9un, e9uk, e9uy, e9uw, e9um⟩ := e9
  refine lv_pop hx hb dL_law_1378 rfl ?_
  refine lv_goto (tgt := 1652) hx hb dL_law_1379 (by decide) ?_
  have hPm : va_P D vwCl (wM md sd cI cY cJ cQ (upd (upd ny 0 0) 19 un_12) (upR (upR (upR (upR fy 31 uk_13) 32 uy_14) 33 uw_15) 34 um_16) fl ++ wX ad rw sd cI cY cJ cQ (upd nx 16 un_4) (upR (upR (upR (upR fx 38 uk_5) 39 uy_6) 40 uw_7) 41 um_8) rs lo) H := hP
  have hDm : va_D (fun q : Nat => s.heap.size ≤ q) (wM md sd cI cY cJ cQ (upd (upd ny 0 0) 19 un_12) (upR (upR (upR (upR fy 31 uk_13) 32 uy_14) 33 uw_15) 34 um_16) fl ++ wX ad rw sd cI cY cJ cQ (upd nx 16 un_4) (upR (upR (upR (upR fx 38 uk_5) 39 uy_6) 40 uw_7) 41 um_8) rs lo) := wMX_D hD
  exact kk (upd nx 16 un_4) (upR (upR (upR (upR fx 38 uk_5) 39 uy_6) 40 uw_7) 41 um_8) rs lo (upd (upd ny 0 0) 19 un_12) (upR (upR (upR (upR fy 31 uk_13) 32 uy_14) 33 uw_15) 34 um_16) fl H locs ls ⟨Xhna, Xhnb, XH, XD, XV, XN, Xcna, Xcnb, XF, Xpna, Xpnb, XG, XO, XW, Xgna, Xgnb, XJ, Xlna, Xlnb, Xdla, Xdlb, Xana, Xanb, (by show 0 ≤ (un_4).toInt; omega), (by show (un_4).toInt ≤ 60; omega), (show okU (un_4) (um_8) by assumption), Xlca, Xlcb, Xtna, Xtnb, XS, Mhna, Mhnb, MH, MS, Mmlna, Mmlnb, Mmtna, Mmtnb, Chn, Cho, Chc, Chp, Chs, Ccn, Cfo, Cwo, Cpn, Cpk, Cpf, Cpo, Cpd, Cpe, Cgn, Cgk, Cgs, Cgd, Cge, Can, Cak, Cah, Cay, Caz, (show (un_12) = (un_4) from e9un.symm), (show (uk_13) = (uk_5) from e9uk.symm), (show (uy_14) = (uy_6) from e9uy.symm), (show (uw_15) = (uw_7) from e9uw.symm), (show (um_16) = (um_8) from e9um.symm), Clc, Clp, Cla, Clb, Caw, Ciw, Cln, Ctd, Cro, Cmtn, Cmtr, Cmst, Csh⟩ hPm.comm hDm.comm hS hl
