theorem cdX10_verdict : yX10_verdict.cls ≠ "java/lang/invoke/MethodHandle" ∧ yX10_verdict.cls ≠ "java/lang/invoke/VarHandle" ∧ (parseMethodDescriptor yX10_verdict.desc).map (fun d => d.parameters.length) = some 1 := by decide +kernel
theorem cdX10_list : yX10_list.cls ≠ "java/lang/invoke/MethodHandle" ∧ yX10_list.cls ≠ "java/lang/invoke/VarHandle" ∧ (parseMethodDescriptor yX10_list.desc).map (fun d => d.parameters.length) = some 3 := by decide +kernel
theorem cdX10_barred : yX10_barred.cls ≠ "java/lang/invoke/MethodHandle" ∧ yX10_barred.cls ≠ "java/lang/invoke/VarHandle" ∧ (parseMethodDescriptor yX10_barred.desc).map (fun d => d.parameters.length) = some 2 := by decide +kernel
theorem cdX10_day : yX10_day.cls ≠ "java/lang/invoke/MethodHandle" ∧ yX10_day.cls ≠ "java/lang/invoke/VarHandle" ∧ (parseMethodDescriptor yX10_day.desc).map (fun d => d.parameters.length) = some 1 := by decide +kernel
theorem cdX11_verdict : yX11_verdict.cls ≠ "java/lang/invoke/MethodHandle" ∧ yX11_verdict.cls ≠ "java/lang/invoke/VarHandle" ∧ (parseMethodDescriptor yX11_verdict.desc).map (fun d => d.parameters.length) = some 1 := by decide +kernel
theorem cdX11_list : yX11_list.cls ≠ "java/lang/invoke/MethodHandle" ∧ yX11_list.cls ≠ "java/lang/invoke/VarHandle" ∧ (parseMethodDescriptor yX11_list.desc).map (fun d => d.parameters.length) = some 3 := by decide +kernel
theorem cdX11_barred : yX11_barred.cls ≠ "java/lang/invoke/MethodHandle" ∧ yX11_barred.cls ≠ "java/lang/invoke/VarHandle" ∧ (parseMethodDescriptor yX11_barred.desc).map (fun d => d.parameters.length) = some 2 := by decide +kernel
theorem cdX11_day : yX11_day.cls ≠ "java/lang/invoke/MethodHandle" ∧ yX11_day.cls ≠ "java/lang/invoke/VarHandle" ∧ (parseMethodDescriptor yX11_day.desc).map (fun d => d.parameters.length) = some 1 := by decide +kernel
theorem Gd_X10_verdict : gdA wsX10_verdict := gd_cons (by decide +kernel) (gd_app (gd_all (ws := wsX10_verdict_o1) (by decide +kernel)) (gd_app (gd_app (gd_app Gd_X100 Gd_X10) Gd_X60) (gd_app Gd_X10_isCrate Gd_X6_worstOf)))
theorem Gd_X10_list : gdA wsX10_list := gd_cons (by decide +kernel) (gd_app (gd_all (ws := wsX10_list_o1) (by decide +kernel)) (gd_app (gd_app (gd_app Gd_X100 Gd_X40) Gd_X10_isPerson) (gd_app Gd_X10_areDays Gd_X4_tell)))
theorem Gd_X10_barred : gdA wsX10_barred := gd_cons (by decide +kernel) (gd_app (gd_all (ws := wsX10_barred_o1) (by decide +kernel)) (gd_app (gd_app (gd_app Gd_X100 Gd_X10) (gd_app Gd_X40 Gd_X70)) (gd_app (gd_app Gd_X30 Gd_X10_isCrate) (gd_app Gd_X10_isDay Gd_X10_isBarred))))
theorem Gd_X10_day : gdA wsX10_day := gd_cons (by decide +kernel) (gd_app (gd_all (ws := wsX10_day_o1) (by decide +kernel)) (gd_app Gd_X100 Gd_X10_isDay))
theorem Gd_X11_verdict : gdA wsX11_verdict := gd_cons (by decide +kernel) (gd_app (gd_all (ws := wsX11_verdict_o1) (by decide +kernel)) (gd_app (gd_app Gd_X110 Gd_X11_isCrate) Gd_X11_bits))
theorem Gd_X11_list : gdA wsX11_list := gd_cons (by decide +kernel) (gd_app (gd_all (ws := wsX11_list_o1) (by decide +kernel)) (gd_app (gd_app Gd_X110 Gd_X11_isPerson) (gd_app Gd_X11_isDay Gd_X11_in)))
theorem Gd_X11_barred : gdA wsX11_barred := gd_cons (by decide +kernel) (gd_app (gd_all (ws := wsX11_barred_o1) (by decide +kernel)) (gd_app (gd_app Gd_X110 Gd_X11_isCrate) (gd_app Gd_X11_isDay Gd_X11_isBarred)))
theorem Gd_X11_day : gdA wsX11_day := gd_cons (by decide +kernel) (gd_app (gd_all (ws := wsX11_day_o1) (by decide +kernel)) (gd_app Gd_X110 Gd_X11_isDay))
theorem ggL_law_X10_verdict : GoodIn wsL_law wsX10_verdict := goodIn_s (fun _ h => (wm_r (wm_r (wm_r (wm_l (wm_l (wm_l (wm_r h)))))))) Gd_X10_verdict
theorem gL_law_X10_verdict : GoodIn wsL_law (wsV RL 142 RX10 yX10_verdict wsX10_verdict) := goodIn_V (own := RL) (idx := 142) (C := RX10) (y := yX10_verdict) (wm_l (wm_r (wm_l (wm_l (wm_r (wm_i 13 rfl)))))) (wm_l (wm_r (wm_l (wm_l (wm_r (wm_i 14 rfl)))))) (wm_l (wm_r (wm_l (wm_l (wm_r (wm_i 15 rfl)))))) (wm_l (wm_l (wm_l (wm_l (wm_l (wm_i 2 rfl)))))) ggL_law_X10_verdict
theorem ggL_law_X11_verdict : GoodIn wsL_law wsX11_verdict := goodIn_s (fun _ h => (wm_r (wm_r (wm_r (wm_l (wm_l (wm_r (wm_l (wm_l h))))))))) Gd_X11_verdict
theorem gL_law_X11_verdict : GoodIn wsL_law (wsV RL 145 RX11 yX11_verdict wsX11_verdict) := goodIn_V (own := RL) (idx := 145) (C := RX11) (y := yX11_verdict) (wm_l (wm_r (wm_l (wm_l (wm_r (wm_i 16 rfl)))))) (wm_l (wm_r (wm_l (wm_l (wm_r (wm_i 17 rfl)))))) (wm_l (wm_r (wm_l (wm_l (wm_r (wm_i 18 rfl)))))) (wm_l (wm_l (wm_l (wm_l (wm_l (wm_i 5 rfl)))))) ggL_law_X11_verdict
theorem ggL_law_X10_list : GoodIn wsL_law wsX10_list := goodIn_s (fun _ h => (wm_r (wm_r (wm_r (wm_l (wm_l (wm_r (wm_l (wm_r h))))))))) Gd_X10_list
theorem gL_law_X10_list : GoodIn wsL_law (wsV RL 146 RX10 yX10_list wsX10_list) := goodIn_V (own := RL) (idx := 146) (C := RX10) (y := yX10_list) (wm_l (wm_r (wm_l (wm_l (wm_r (wm_i 19 rfl)))))) (wm_l (wm_r (wm_l (wm_l (wm_r (wm_i 20 rfl)))))) (wm_l (wm_r (wm_l (wm_l (wm_r (wm_i 21 rfl)))))) (wm_l (wm_l (wm_l (wm_l (wm_l (wm_i 2 rfl)))))) ggL_law_X10_list
theorem ggL_law_X11_list : GoodIn wsL_law wsX11_list := goodIn_s (fun _ h => (wm_r (wm_r (wm_r (wm_l (wm_l (wm_r (wm_r h)))))))) Gd_X11_list
theorem gL_law_X11_list : GoodIn wsL_law (wsV RL 149 RX11 yX11_list wsX11_list) := goodIn_V (own := RL) (idx := 149) (C := RX11) (y := yX11_list) (wm_l (wm_r (wm_l (wm_l (wm_r (wm_i 22 rfl)))))) (wm_l (wm_r (wm_l (wm_l (wm_r (wm_i 23 rfl)))))) (wm_l (wm_r (wm_l (wm_r (wm_i 0 rfl))))) (wm_l (wm_l (wm_l (wm_l (wm_l (wm_i 5 rfl)))))) ggL_law_X11_list
theorem ggL_law_X10_barred : GoodIn wsL_law wsX10_barred := goodIn_s (fun _ h => (wm_r (wm_r (wm_r (wm_l (wm_r (wm_l (wm_l (wm_l h))))))))) Gd_X10_barred
theorem gL_law_X10_barred : GoodIn wsL_law (wsV RL 150 RX10 yX10_barred wsX10_barred) := goodIn_V (own := RL) (idx := 150) (C := RX10) (y := yX10_barred) (wm_l (wm_r (wm_l (wm_r (wm_i 1 rfl))))) (wm_l (wm_r (wm_l (wm_r (wm_i 2 rfl))))) (wm_l (wm_r (wm_l (wm_r (wm_i 3 rfl))))) (wm_l (wm_l (wm_l (wm_l (wm_l (wm_i 2 rfl)))))) ggL_law_X10_barred
theorem ggL_law_X11_barred : GoodIn wsL_law wsX11_barred := goodIn_s (fun _ h => (wm_r (wm_r (wm_r (wm_l (wm_r (wm_l (wm_l (wm_r h))))))))) Gd_X11_barred
theorem gL_law_X11_barred : GoodIn wsL_law (wsV RL 153 RX11 yX11_barred wsX11_barred) := goodIn_V (own := RL) (idx := 153) (C := RX11) (y := yX11_barred) (wm_l (wm_r (wm_l (wm_r (wm_i 4 rfl))))) (wm_l (wm_r (wm_l (wm_r (wm_i 5 rfl))))) (wm_l (wm_r (wm_l (wm_r (wm_i 6 rfl))))) (wm_l (wm_l (wm_l (wm_l (wm_l (wm_i 5 rfl)))))) ggL_law_X11_barred
theorem ggL_law_X10_day : GoodIn wsL_law wsX10_day := goodIn_s (fun _ h => (wm_r (wm_r (wm_r (wm_l (wm_r (wm_l (wm_r h)))))))) Gd_X10_day
theorem gL_law_X10_day : GoodIn wsL_law (wsV RL 154 RX10 yX10_day wsX10_day) := goodIn_V (own := RL) (idx := 154) (C := RX10) (y := yX10_day) (wm_l (wm_r (wm_l (wm_r (wm_i 7 rfl))))) (wm_l (wm_r (wm_l (wm_r (wm_i 8 rfl))))) (wm_l (wm_r (wm_l (wm_r (wm_i 9 rfl))))) (wm_l (wm_l (wm_l (wm_l (wm_l (wm_i 2 rfl)))))) ggL_law_X10_day
theorem ggL_law_X11_day : GoodIn wsL_law wsX11_day := goodIn_s (fun _ h => (wm_r (wm_r (wm_r (wm_l (wm_r (wm_r (wm_l h)))))))) Gd_X11_day
theorem gL_law_X11_day : GoodIn wsL_law (wsV RL 157 RX11 yX11_day wsX11_day) := goodIn_V (own := RL) (idx := 157) (C := RX11) (y := yX11_day) (wm_l (wm_r (wm_l (wm_r (wm_i 10 rfl))))) (wm_l (wm_r (wm_l (wm_r (wm_i 11 rfl))))) (wm_l (wm_r (wm_l (wm_r (wm_i 12 rfl))))) (wm_l (wm_l (wm_l (wm_l (wm_l (wm_i 5 rfl)))))) ggL_law_X11_day
theorem sB_58 : dqA cL_law 1392 sL_58 := dq_next sB_57 24 rfl
theorem sB_59 : dqA cL_law 1416 sL_59 := dq_next sB_58 24 rfl
theorem sB_60 : dqA cL_law 1440 sL_60 := dq_next sB_59 24 rfl
theorem sB_61 : dqA cL_law 1464 sL_61 := dq_next sB_60 24 rfl
theorem sB_62 : dqA cL_law 1488 sL_62 := dq_next sB_61 24 rfl
theorem dL_law_1382 : decode cL_law 1382 = .ok (.aload_n 1, 1) := dL_law_all85.2.2.2.2.2.2.2.2.1
theorem dL_law_1383 : decode cL_law 1383 = .ok (.aload_n 0, 1) := dL_law_all85.2.2.2.2.2.2.2.2.2.1
theorem dL_law_1384 : decode cL_law 1384 = .ok (.iload_n 3, 1) := dL_law_all85.2.2.2.2.2.2.2.2.2.2.1
theorem dL_law_1385 : decode cL_law 1385 = .ok (.iconst 1, 1) := dL_law_all85.2.2.2.2.2.2.2.2.2.2.2
theorem dL_law_all86 : decode cL_law 1386 = .ok (.iadd, 1) ∧ decode cL_law 1387 = .ok (.iaload, 1) ∧ decode cL_law 1388 = .ok (.invokevirtual 142, 3) ∧ decode cL_law 1391 = .ok (.pop, 1) ∧ decode cL_law 1392 = .ok (.aload_n 2, 1) ∧ decode cL_law 1393 = .ok (.aload_n 0, 1) ∧ decode cL_law 1394 = .ok (.iload_n 3, 1) ∧ decode cL_law 1395 = .ok (.iconst 1, 1) ∧ decode cL_law 1396 = .ok (.iadd, 1) ∧ decode cL_law 1397 = .ok (.iaload, 1) ∧ decode cL_law 1398 = .ok (.invokevirtual 145, 3) ∧ decode cL_law 1401 = .ok (.pop, 1) := ⟨dq_96 sB_57 18 rfl, dq_46 sB_57 19 rfl, dq_182 sB_57 20 rfl 142 (by decide), dq_87 sB_57 23 rfl, dq_44 sB_58 0 rfl, dq_42 sB_58 1 rfl, dq_29 sB_58 2 rfl, dq_4 sB_58 3 rfl, dq_96 sB_58 4 rfl, dq_46 sB_58 5 rfl, dq_182 sB_58 6 rfl 145 (by decide), dq_87 sB_58 9 rfl⟩
theorem dL_law_1386 : decode cL_law 1386 = .ok (.iadd, 1) := dL_law_all86.1
theorem dL_law_1387 : decode cL_law 1387 = .ok (.iaload, 1) := dL_law_all86.2.1
theorem dL_law_1388 : decode cL_law 1388 = .ok (.invokevirtual 142, 3) := dL_law_all86.2.2.1
theorem dL_law_1391 : decode cL_law 1391 = .ok (.pop, 1) := dL_law_all86.2.2.2.1
theorem dL_law_1392 : decode cL_law 1392 = .ok (.aload_n 2, 1) := dL_law_all86.2.2.2.2.1
theorem dL_law_1393 : decode cL_law 1393 = .ok (.aload_n 0, 1) := dL_law_all86.2.2.2.2.2.1
theorem dL_law_1394 : decode cL_law 1394 = .ok (.iload_n 3, 1) := dL_law_all86.2.2.2.2.2.2.1
theorem dL_law_1395 : decode cL_law 1395 = .ok (.iconst 1, 1) := dL_law_all86.2.2.2.2.2.2.2.1
theorem dL_law_1396 : decode cL_law 1396 = .ok (.iadd, 1) := dL_law_all86.2.2.2.2.2.2.2.2.1
theorem dL_law_1397 : decode cL_law 1397 = .ok (.iaload, 1) := dL_law_all86.2.2.2.2.2.2.2.2.2.1
theorem dL_law_1398 : decode cL_law 1398 = .ok (.invokevirtual 145, 3) := dL_law_all86.2.2.2.2.2.2.2.2.2.2.1
theorem dL_law_1401 : decode cL_law 1401 = .ok (.pop, 1) := dL_law_all86.2.2.2.2.2.2.2.2.2.2.2
theorem dL_law_all87 : decode cL_law 1402 = .ok (.goto 250, 3) ∧ decode cL_law 1405 = .ok (.aload_n 1, 1) ∧ decode cL_law 1406 = .ok (.aload_n 0, 1) ∧ decode cL_law 1407 = .ok (.iload_n 3, 1) ∧ decode cL_law 1408 = .ok (.iconst 1, 1) ∧ decode cL_law 1409 = .ok (.iadd, 1) ∧ decode cL_law 1410 = .ok (.iaload, 1) ∧ decode cL_law 1411 = .ok (.aload_n 0, 1) ∧ decode cL_law 1412 = .ok (.iload_n 3, 1) ∧ decode cL_law 1413 = .ok (.iconst 2, 1) ∧ decode cL_law 1414 = .ok (.iadd, 1) ∧ decode cL_law 1415 = .ok (.iaload, 1) := ⟨dq_167 sB_58 10 rfl 250 (by decide), dq_43 sB_58 13 rfl, dq_42 sB_58 14 rfl, dq_29 sB_58 15 rfl, dq_4 sB_58 16 rfl, dq_96 sB_58 17 rfl, dq_46 sB_58 18 rfl, dq_42 sB_58 19 rfl, dq_29 sB_58 20 rfl, dq_5 sB_58 21 rfl, dq_96 sB_58 22 rfl, dq_46 sB_58 23 rfl⟩
theorem dL_law_1402 : decode cL_law 1402 = .ok (.goto 250, 3) := dL_law_all87.1
theorem dL_law_1405 : decode cL_law 1405 = .ok (.aload_n 1, 1) := dL_law_all87.2.1
theorem dL_law_1406 : decode cL_law 1406 = .ok (.aload_n 0, 1) := dL_law_all87.2.2.1
theorem dL_law_1407 : decode cL_law 1407 = .ok (.iload_n 3, 1) := dL_law_all87.2.2.2.1
theorem dL_law_1408 : decode cL_law 1408 = .ok (.iconst 1, 1) := dL_law_all87.2.2.2.2.1
theorem dL_law_1409 : decode cL_law 1409 = .ok (.iadd, 1) := dL_law_all87.2.2.2.2.2.1
theorem dL_law_1410 : decode cL_law 1410 = .ok (.iaload, 1) := dL_law_all87.2.2.2.2.2.2.1
theorem dL_law_1411 : decode cL_law 1411 = .ok (.aload_n 0, 1) := dL_law_all87.2.2.2.2.2.2.2.1
theorem dL_law_1412 : decode cL_law 1412 = .ok (.iload_n 3, 1) := dL_law_all87.2.2.2.2.2.2.2.2.1
theorem dL_law_1413 : decode cL_law 1413 = .ok (.iconst 2, 1) := dL_law_all87.2.2.2.2.2.2.2.2.2.1
theorem dL_law_1414 : decode cL_law 1414 = .ok (.iadd, 1) := dL_law_all87.2.2.2.2.2.2.2.2.2.2.1
theorem dL_law_1415 : decode cL_law 1415 = .ok (.iaload, 1) := dL_law_all87.2.2.2.2.2.2.2.2.2.2.2
theorem dL_law_all88 : decode cL_law 1416 = .ok (.aload_n 0, 1) ∧ decode cL_law 1417 = .ok (.iload_n 3, 1) ∧ decode cL_law 1418 = .ok (.iconst 3, 1) ∧ decode cL_law 1419 = .ok (.iadd, 1) ∧ decode cL_law 1420 = .ok (.iaload, 1) ∧ decode cL_law 1421 = .ok (.invokevirtual 146, 3) ∧ decode cL_law 1424 = .ok (.pop, 1) ∧ decode cL_law 1425 = .ok (.aload_n 2, 1) ∧ decode cL_law 1426 = .ok (.aload_n 0, 1) ∧ decode cL_law 1427 = .ok (.iload_n 3, 1) ∧ decode cL_law 1428 = .ok (.iconst 1, 1) ∧ decode cL_law 1429 = .ok (.iadd, 1) := ⟨dq_42 sB_59 0 rfl, dq_29 sB_59 1 rfl, dq_6 sB_59 2 rfl, dq_96 sB_59 3 rfl, dq_46 sB_59 4 rfl, dq_182 sB_59 5 rfl 146 (by decide), dq_87 sB_59 8 rfl, dq_44 sB_59 9 rfl, dq_42 sB_59 10 rfl, dq_29 sB_59 11 rfl, dq_4 sB_59 12 rfl, dq_96 sB_59 13 rfl⟩
theorem dL_law_1416 : decode cL_law 1416 = .ok (.aload_n 0, 1) := dL_law_all88.1
theorem dL_law_1417 : decode cL_law 1417 = .ok (.iload_n 3, 1) := dL_law_all88.2.1
theorem dL_law_1418 : decode cL_law 1418 = .ok (.iconst 3, 1) := dL_law_all88.2.2.1
theorem dL_law_1419 : decode cL_law 1419 = .ok (.iadd, 1) := dL_law_all88.2.2.2.1
theorem dL_law_1420 : decode cL_law 1420 = .ok (.iaload, 1) := dL_law_all88.2.2.2.2.1
theorem dL_law_1421 : decode cL_law 1421 = .ok (.invokevirtual 146, 3) := dL_law_all88.2.2.2.2.2.1
theorem dL_law_1424 : decode cL_law 1424 = .ok (.pop, 1) := dL_law_all88.2.2.2.2.2.2.1
theorem dL_law_1425 : decode cL_law 1425 = .ok (.aload_n 2, 1) := dL_law_all88.2.2.2.2.2.2.2.1
theorem dL_law_1426 : decode cL_law 1426 = .ok (.aload_n 0, 1) := dL_law_all88.2.2.2.2.2.2.2.2.1
theorem dL_law_1427 : decode cL_law 1427 = .ok (.iload_n 3, 1) := dL_law_all88.2.2.2.2.2.2.2.2.2.1
theorem dL_law_1428 : decode cL_law 1428 = .ok (.iconst 1, 1) := dL_law_all88.2.2.2.2.2.2.2.2.2.2.1
theorem dL_law_1429 : decode cL_law 1429 = .ok (.iadd, 1) := dL_law_all88.2.2.2.2.2.2.2.2.2.2.2
theorem dL_law_all89 : decode cL_law 1430 = .ok (.iaload, 1) ∧ decode cL_law 1431 = .ok (.aload_n 0, 1) ∧ decode cL_law 1432 = .ok (.iload_n 3, 1) ∧ decode cL_law 1433 = .ok (.iconst 2, 1) ∧ decode cL_law 1434 = .ok (.iadd, 1) ∧ decode cL_law 1435 = .ok (.iaload, 1) ∧ decode cL_law 1436 = .ok (.aload_n 0, 1) ∧ decode cL_law 1437 = .ok (.iload_n 3, 1) ∧ decode cL_law 1438 = .ok (.iconst 3, 1) ∧ decode cL_law 1439 = .ok (.iadd, 1) ∧ decode cL_law 1440 = .ok (.iaload, 1) ∧ decode cL_law 1441 = .ok (.invokevirtual 149, 3) := ⟨dq_46 sB_59 14 rfl, dq_42 sB_59 15 rfl, dq_29 sB_59 16 rfl, dq_5 sB_59 17 rfl, dq_96 sB_59 18 rfl, dq_46 sB_59 19 rfl, dq_42 sB_59 20 rfl, dq_29 sB_59 21 rfl, dq_6 sB_59 22 rfl, dq_96 sB_59 23 rfl, dq_46 sB_60 0 rfl, dq_182 sB_60 1 rfl 149 (by decide)⟩
theorem dL_law_1430 : decode cL_law 1430 = .ok (.iaload, 1) := dL_law_all89.1
theorem dL_law_1431 : decode cL_law 1431 = .ok (.aload_n 0, 1) := dL_law_all89.2.1
theorem dL_law_1432 : decode cL_law 1432 = .ok (.iload_n 3, 1) := dL_law_all89.2.2.1
theorem dL_law_1433 : decode cL_law 1433 = .ok (.iconst 2, 1) := dL_law_all89.2.2.2.1
theorem dL_law_1434 : decode cL_law 1434 = .ok (.iadd, 1) := dL_law_all89.2.2.2.2.1
theorem dL_law_1435 : decode cL_law 1435 = .ok (.iaload, 1) := dL_law_all89.2.2.2.2.2.1
theorem dL_law_1436 : decode cL_law 1436 = .ok (.aload_n 0, 1) := dL_law_all89.2.2.2.2.2.2.1
theorem dL_law_1437 : decode cL_law 1437 = .ok (.iload_n 3, 1) := dL_law_all89.2.2.2.2.2.2.2.1
theorem dL_law_1438 : decode cL_law 1438 = .ok (.iconst 3, 1) := dL_law_all89.2.2.2.2.2.2.2.2.1
theorem dL_law_1439 : decode cL_law 1439 = .ok (.iadd, 1) := dL_law_all89.2.2.2.2.2.2.2.2.2.1
theorem dL_law_1440 : decode cL_law 1440 = .ok (.iaload, 1) := dL_law_all89.2.2.2.2.2.2.2.2.2.2.1
theorem dL_law_1441 : decode cL_law 1441 = .ok (.invokevirtual 149, 3) := dL_law_all89.2.2.2.2.2.2.2.2.2.2.2
theorem dL_law_all90 : decode cL_law 1444 = .ok (.pop, 1) ∧ decode cL_law 1445 = .ok (.goto 207, 3) ∧ decode cL_law 1448 = .ok (.aload_n 1, 1) ∧ decode cL_law 1449 = .ok (.aload_n 0, 1) ∧ decode cL_law 1450 = .ok (.iload_n 3, 1) ∧ decode cL_law 1451 = .ok (.iconst 1, 1) ∧ decode cL_law 1452 = .ok (.iadd, 1) ∧ decode cL_law 1453 = .ok (.iaload, 1) ∧ decode cL_law 1454 = .ok (.aload_n 0, 1) ∧ decode cL_law 1455 = .ok (.iload_n 3, 1) ∧ decode cL_law 1456 = .ok (.iconst 2, 1) ∧ decode cL_law 1457 = .ok (.iadd, 1) := ⟨dq_87 sB_60 4 rfl, dq_167 sB_60 5 rfl 207 (by decide), dq_43 sB_60 8 rfl, dq_42 sB_60 9 rfl, dq_29 sB_60 10 rfl, dq_4 sB_60 11 rfl, dq_96 sB_60 12 rfl, dq_46 sB_60 13 rfl, dq_42 sB_60 14 rfl, dq_29 sB_60 15 rfl, dq_5 sB_60 16 rfl, dq_96 sB_60 17 rfl⟩
theorem dL_law_1444 : decode cL_law 1444 = .ok (.pop, 1) := dL_law_all90.1
theorem dL_law_1445 : decode cL_law 1445 = .ok (.goto 207, 3) := dL_law_all90.2.1
theorem dL_law_1448 : decode cL_law 1448 = .ok (.aload_n 1, 1) := dL_law_all90.2.2.1
theorem dL_law_1449 : decode cL_law 1449 = .ok (.aload_n 0, 1) := dL_law_all90.2.2.2.1
theorem dL_law_1450 : decode cL_law 1450 = .ok (.iload_n 3, 1) := dL_law_all90.2.2.2.2.1
theorem dL_law_1451 : decode cL_law 1451 = .ok (.iconst 1, 1) := dL_law_all90.2.2.2.2.2.1
theorem dL_law_1452 : decode cL_law 1452 = .ok (.iadd, 1) := dL_law_all90.2.2.2.2.2.2.1
theorem dL_law_1453 : decode cL_law 1453 = .ok (.iaload, 1) := dL_law_all90.2.2.2.2.2.2.2.1
theorem dL_law_1454 : decode cL_law 1454 = .ok (.aload_n 0, 1) := dL_law_all90.2.2.2.2.2.2.2.2.1
theorem dL_law_1455 : decode cL_law 1455 = .ok (.iload_n 3, 1) := dL_law_all90.2.2.2.2.2.2.2.2.2.1
theorem dL_law_1456 : decode cL_law 1456 = .ok (.iconst 2, 1) := dL_law_all90.2.2.2.2.2.2.2.2.2.2.1
theorem dL_law_1457 : decode cL_law 1457 = .ok (.iadd, 1) := dL_law_all90.2.2.2.2.2.2.2.2.2.2.2
theorem dL_law_all91 : decode cL_law 1458 = .ok (.iaload, 1) ∧ decode cL_law 1459 = .ok (.invokevirtual 150, 3) ∧ decode cL_law 1462 = .ok (.pop, 1) ∧ decode cL_law 1463 = .ok (.aload_n 2, 1) ∧ decode cL_law 1464 = .ok (.aload_n 0, 1) ∧ decode cL_law 1465 = .ok (.iload_n 3, 1) ∧ decode cL_law 1466 = .ok (.iconst 1, 1) ∧ decode cL_law 1467 = .ok (.iadd, 1) ∧ decode cL_law 1468 = .ok (.iaload, 1) ∧ decode cL_law 1469 = .ok (.aload_n 0, 1) ∧ decode cL_law 1470 = .ok (.iload_n 3, 1) ∧ decode cL_law 1471 = .ok (.iconst 2, 1) := ⟨dq_46 sB_60 18 rfl, dq_182 sB_60 19 rfl 150 (by decide), dq_87 sB_60 22 rfl, dq_44 sB_60 23 rfl, dq_42 sB_61 0 rfl, dq_29 sB_61 1 rfl, dq_4 sB_61 2 rfl, dq_96 sB_61 3 rfl, dq_46 sB_61 4 rfl, dq_42 sB_61 5 rfl, dq_29 sB_61 6 rfl, dq_5 sB_61 7 rfl⟩
theorem dL_law_1458 : decode cL_law 1458 = .ok (.iaload, 1) := dL_law_all91.1
theorem dL_law_1459 : decode cL_law 1459 = .ok (.invokevirtual 150, 3) := dL_law_all91.2.1
theorem dL_law_1462 : decode cL_law 1462 = .ok (.pop, 1) := dL_law_all91.2.2.1
theorem dL_law_1463 : decode cL_law 1463 = .ok (.aload_n 2, 1) := dL_law_all91.2.2.2.1
theorem dL_law_1464 : decode cL_law 1464 = .ok (.aload_n 0, 1) := dL_law_all91.2.2.2.2.1
theorem dL_law_1465 : decode cL_law 1465 = .ok (.iload_n 3, 1) := dL_law_all91.2.2.2.2.2.1
theorem dL_law_1466 : decode cL_law 1466 = .ok (.iconst 1, 1) := dL_law_all91.2.2.2.2.2.2.1
theorem dL_law_1467 : decode cL_law 1467 = .ok (.iadd, 1) := dL_law_all91.2.2.2.2.2.2.2.1
theorem dL_law_1468 : decode cL_law 1468 = .ok (.iaload, 1) := dL_law_all91.2.2.2.2.2.2.2.2.1
theorem dL_law_1469 : decode cL_law 1469 = .ok (.aload_n 0, 1) := dL_law_all91.2.2.2.2.2.2.2.2.2.1
theorem dL_law_1470 : decode cL_law 1470 = .ok (.iload_n 3, 1) := dL_law_all91.2.2.2.2.2.2.2.2.2.2.1
theorem dL_law_1471 : decode cL_law 1471 = .ok (.iconst 2, 1) := dL_law_all91.2.2.2.2.2.2.2.2.2.2.2
theorem dL_law_all92 : decode cL_law 1472 = .ok (.iadd, 1) ∧ decode cL_law 1473 = .ok (.iaload, 1) ∧ decode cL_law 1474 = .ok (.invokevirtual 153, 3) ∧ decode cL_law 1477 = .ok (.pop, 1) ∧ decode cL_law 1478 = .ok (.goto 174, 3) ∧ decode cL_law 1481 = .ok (.aload_n 1, 1) ∧ decode cL_law 1482 = .ok (.aload_n 0, 1) ∧ decode cL_law 1483 = .ok (.iload_n 3, 1) ∧ decode cL_law 1484 = .ok (.iconst 1, 1) ∧ decode cL_law 1485 = .ok (.iadd, 1) ∧ decode cL_law 1486 = .ok (.iaload, 1) ∧ decode cL_law 1487 = .ok (.invokevirtual 154, 3) := ⟨dq_96 sB_61 8 rfl, dq_46 sB_61 9 rfl, dq_182 sB_61 10 rfl 153 (by decide), dq_87 sB_61 13 rfl, dq_167 sB_61 14 rfl 174 (by decide), dq_43 sB_61 17 rfl, dq_42 sB_61 18 rfl, dq_29 sB_61 19 rfl, dq_4 sB_61 20 rfl, dq_96 sB_61 21 rfl, dq_46 sB_61 22 rfl, dq_182 sB_61 23 rfl 154 (by decide)⟩
theorem dL_law_1472 : decode cL_law 1472 = .ok (.iadd, 1) := dL_law_all92.1
theorem dL_law_1473 : decode cL_law 1473 = .ok (.iaload, 1) := dL_law_all92.2.1
theorem dL_law_1474 : decode cL_law 1474 = .ok (.invokevirtual 153, 3) := dL_law_all92.2.2.1
theorem dL_law_1477 : decode cL_law 1477 = .ok (.pop, 1) := dL_law_all92.2.2.2.1
theorem dL_law_1478 : decode cL_law 1478 = .ok (.goto 174, 3) := dL_law_all92.2.2.2.2.1
theorem dL_law_1481 : decode cL_law 1481 = .ok (.aload_n 1, 1) := dL_law_all92.2.2.2.2.2.1
theorem dL_law_1482 : decode cL_law 1482 = .ok (.aload_n 0, 1) := dL_law_all92.2.2.2.2.2.2.1
theorem dL_law_1483 : decode cL_law 1483 = .ok (.iload_n 3, 1) := dL_law_all92.2.2.2.2.2.2.2.1
theorem dL_law_1484 : decode cL_law 1484 = .ok (.iconst 1, 1) := dL_law_all92.2.2.2.2.2.2.2.2.1
theorem dL_law_1485 : decode cL_law 1485 = .ok (.iadd, 1) := dL_law_all92.2.2.2.2.2.2.2.2.2.1
theorem dL_law_1486 : decode cL_law 1486 = .ok (.iaload, 1) := dL_law_all92.2.2.2.2.2.2.2.2.2.2.1
theorem dL_law_1487 : decode cL_law 1487 = .ok (.invokevirtual 154, 3) := dL_law_all92.2.2.2.2.2.2.2.2.2.2.2
theorem dL_law_all93 : decode cL_law 1490 = .ok (.pop, 1) ∧ decode cL_law 1491 = .ok (.aload_n 2, 1) ∧ decode cL_law 1492 = .ok (.aload_n 0, 1) ∧ decode cL_law 1493 = .ok (.iload_n 3, 1) ∧ decode cL_law 1494 = .ok (.iconst 1, 1) ∧ decode cL_law 1495 = .ok (.iadd, 1) ∧ decode cL_law 1496 = .ok (.iaload, 1) ∧ decode cL_law 1497 = .ok (.invokevirtual 157, 3) ∧ decode cL_law 1500 = .ok (.pop, 1) ∧ decode cL_law 1501 = .ok (.goto 151, 3) ∧ decode cL_law 1504 = .ok (.aload_n 1, 1) ∧ decode cL_law 1505 = .ok (.aload_n 0, 1) := ⟨dq_87 sB_62 2 rfl, dq_44 sB_62 3 rfl, dq_42 sB_62 4 rfl, dq_29 sB_62 5 rfl, dq_4 sB_62 6 rfl, dq_96 sB_62 7 rfl, dq_46 sB_62 8 rfl, dq_182 sB_62 9 rfl 157 (by decide), dq_87 sB_62 12 rfl, dq_167 sB_62 13 rfl 151 (by decide), dq_43 sB_62 16 rfl, dq_42 sB_62 17 rfl⟩
theorem dL_law_1490 : decode cL_law 1490 = .ok (.pop, 1) := dL_law_all93.1
theorem dL_law_1491 : decode cL_law 1491 = .ok (.aload_n 2, 1) := dL_law_all93.2.1
theorem dL_law_1492 : decode cL_law 1492 = .ok (.aload_n 0, 1) := dL_law_all93.2.2.1
theorem dL_law_1493 : decode cL_law 1493 = .ok (.iload_n 3, 1) := dL_law_all93.2.2.2.1
theorem dL_law_1494 : decode cL_law 1494 = .ok (.iconst 1, 1) := dL_law_all93.2.2.2.2.1
theorem dL_law_1495 : decode cL_law 1495 = .ok (.iadd, 1) := dL_law_all93.2.2.2.2.2.1
theorem dL_law_1496 : decode cL_law 1496 = .ok (.iaload, 1) := dL_law_all93.2.2.2.2.2.2.1
theorem dL_law_1497 : decode cL_law 1497 = .ok (.invokevirtual 157, 3) := dL_law_all93.2.2.2.2.2.2.2.1
theorem dL_law_1500 : decode cL_law 1500 = .ok (.pop, 1) := dL_law_all93.2.2.2.2.2.2.2.2.1
theorem dL_law_1501 : decode cL_law 1501 = .ok (.goto 151, 3) := dL_law_all93.2.2.2.2.2.2.2.2.2.1
set_option maxHeartbeats 4000000 in
set_option maxRecDepth 100000 in
theorem law_case_28 {p : Program} {l : Launch} {e : Env} {s : State} {m : MethodId} {below : List Frame} {meth : Method} {c : Code} {D : va_G} {cI cY cJ cQ : ClassId} {b L aK aV : Nat} {xs : Nat → Int32} {ad rw md : Nat → Nat} {sd i : Int32} {nx : Nat → Int32} {fx rs : Nat → Nat → Int32} {lo : Nat → Int64} {ny : Nat → Int32} {fy : Nat → Nat → Int32} {fl : Nat → Int64} {H : Heap} {locs : List Loc} {ls : Array Slot} (C0 : lawC p s m meth c b L xs D cI cY cJ cQ aK aV) (I : inv nx fx rs ny fy) (hP : va_P D vwCl (wX ad rw sd cI cY cJ cQ nx fx rs lo ++ wM md sd cI cY cJ cQ ny fy fl) H) (hD : va_D (fun q : Nat => s.heap.size ≤ q) (wX ad rw sd cI cY cJ cQ nx fx rs lo ++ wM md sd cI cY cJ cQ ny fy fl)) (hS : va_S (fun q : Nat => s.heap.size ≤ q) s.heap H locs) (hl : lv_has ls 4 [(0, .ref b), (1, .ref (ad 0)), (2, .ref (md 64)), (3, .int i)]) (hi1 : 1 ≤ i.toInt) (hi2 : i.toInt + 5 < L) (kk : ∀ (nx : Nat → Int32) (fx rs : Nat → Nat → Int32) (lo : Nat → Int64) (ny : Nat → Int32) (fy : Nat → Nat → Int32) (fl : Nat → Int64) (H : Heap) (locs : List Loc) (ls : Array Slot), inv nx fx rs ny fy → va_P D vwCl (wX ad rw sd cI cY cJ cQ nx fx rs lo ++ wM md sd cI cY cJ cQ ny fy fl) H → va_D (fun q : Nat => s.heap.size ≤ q) (wX ad rw sd cI cY cJ cQ nx fx rs lo ++ wM md sd cI cY cJ cQ ny fy fl) → va_S (fun q : Nat => s.heap.size ≤ q) s.heap H locs → lv_has ls 4 [(0, .ref b), (1, .ref (ad 0)), (2, .ref (md 64)), (3, .int i)] → W p l e room_1 s m #[Value.ref b] below meth c H locs 107 4890 (lw_Z below #[Value.ref b] s) (F0 m 1652 ls [])) : W p l e room_1 s m #[Value.ref b] below meth c H locs 107 4890 (lw_Z below #[Value.ref b] s) (F0 m 1382 ls []) := by
  obtain ⟨C1, hK, hN, hT, hL⟩ := C0
  obtain ⟨hx, hb, hr, hml, hown, hts0, hX, hbl, hlocks, hgv⟩ := C1
  have hA : ∀ q : Nat, s.heap.size ≤ q → (fun q : Nat => s.heap.size ≤ q) q := fun _ h => h
  have hbA : ¬ (fun q : Nat => s.heap.size ≤ q) b := Nat.not_le.mpr hbl
  have hts : ∀ w ∈ wsL_law, w.before #[Value.ref b] s = true := fun w h => hts0 w (wsL_law_in w h)
  replace hown : s.vm.findClass RL = some m.cls := hown
  replace hb : c.code = cL_law := hb
  have hak1 : vp_in (i + 1) L := law_in hi1 hi2 hL (by decide)
  obtain ⟨xk1, exk1⟩ : ∃ y : Int32, y = xs (i + 1).toNatClampNeg := ⟨_, rfl⟩
  refine inv_el I ?_
  intro Xhna Xhnb XH XD XV XN Xcna Xcnb XF Xpna Xpnb XG XO XW Xgna Xgnb XJ Xlna Xlnb Xdla Xdlb Xana Xanb Xuna Xunb XU Xlca Xlcb Xtna Xtnb XS Mhna Mhnb MH MS Mmlna Mmlnb Mmtna Mmtnb Chn Cho Chc Chp Chs Ccn Cfo Cwo Cpn Cpk Cpf Cpo Cpd Cpe Cgn Cgk Cgs Cgd Cge Can Cak Cah Cay Caz Cun Cuk Cuy Cuw Cum Clc Clp Cla Clb Caw Ciw Cln Ctd Cro Cmtn Cmtr Cmst Csh
  have Tcn := i_eq Ccn
  have Tpn := i_eq Cpn
  have Tgn := i_eq Cgn
  have Tan := i_eq Can
  have Tun := i_eq Cun
  have Tlc := i_eq Clc
  have Tln := i_eq Cln
  refine lv_aload_n hx hb dL_law_1382 rfl (lv_at hl 1 rfl) ?_
  refine law_arg (v := 1) hx hb hX hbl hbA hS (lv_at hl 0 rfl) (lv_at hl 3 rfl) (by decide) hak1 exk1 dL_law_1383 dL_law_1384 dL_law_1385 dL_law_1386 dL_law_1387 ?_
  refine st_iU (va_runV (C := RX10) (As := [.int xk1]) (rest := []) ⟨hx, hb, hml, hown, hts⟩ (ct_X10_verdict l D cI cY cJ cQ _ ad (nx 0) (nx 1) (nx 2) (nx 4) (nx 16) (fx 38) (fx 39) (fx 40) (fx 41) xk1 Xuna Xunb) (cwV 1 hts gL_law_X10_verdict rfl rfl rfl ⟨rfl, cdX10_verdict⟩ ⟨Nat.le_of_ble_eq_true rfl, Nat.le_of_ble_eq_true rfl⟩) (cPreV (hP.sub [0, 23, 57, 58, 59, 60, 61] rfl) hK (hD.sub [0, 23, 57, 58, 59, 60, 61] (by decide +kernel) rfl) hN (ci := 10) (q0 := 0) rfl rfl) rfl rfl hl.1 rfl (lv_room (Nat.le_of_ble_eq_true rfl)) dL_law_1388 ⟨Nat.le_of_ble_eq_true rfl, Nat.le_of_ble_eq_true rfl⟩) hP hD hS hA [0, 23, 57, 58, 59, 60, 61] rfl (fun _ => rfl) (fun r3 u1 H locs hw2 => ?_)
  clear hP hS
  intro hP hS
  replace hw2 : r3 = sp_verdict (nx 4) (nx 16) (fx 38) (fx 39) (fx 40) (fx 41) xk1 := hw2
  refine lv_pop hx hb dL_law_1391 rfl ?_
  have hPx : va_P D vwCl (wX ad rw sd cI cY cJ cQ nx fx rs lo ++ wM md sd cI cY cJ cQ ny fy fl) H := hP
  have hDx : va_D (fun q : Nat => s.heap.size ≤ q) (wX ad rw sd cI cY cJ cQ nx fx rs lo ++ wM md sd cI cY cJ cQ ny fy fl) := wXM_D hD
  have hP := hPx.comm
  have hD := hDx.comm
  refine lv_aload_n hx hb dL_law_1392 rfl (lv_at hl 2 rfl) ?_
  refine law_arg (v := 1) hx hb hX hbl hbA hS (lv_at hl 0 rfl) (lv_at hl 3 rfl) (by decide) hak1 exk1 dL_law_1393 dL_law_1394 dL_law_1395 dL_law_1396 dL_law_1397 ?_
  refine st_iU (va_runV (C := RX11) (As := [.int xk1]) (rest := []) ⟨hx, hb, hml, hown, hts⟩ (ct_X11_verdict l D cI cY cJ cQ _ md sd (ny 0) (ny 1) (ny 2) (ny 3) (ny 4) (ny 5) (ny 6) (ny 7) (ny 8) (ny 9) (ny 10) (ny 11) (ny 12) (ny 13) (ny 14) (ny 15) (ny 16) (ny 17) (ny 18) (ny 19) (ny 20) (ny 21) (ny 22) (fy 31) (fy 32) (fy 33) (fy 34) xk1 (by omega) (by omega) (by omega) (by omega)) (cwV 1 hts gL_law_X11_verdict rfl rfl rfl ⟨rfl, cdX11_verdict⟩ ⟨Nat.le_of_ble_eq_true rfl, Nat.le_of_ble_eq_true rfl⟩) (cPreV (hP.sub [0, 33, 34, 35, 36] rfl) hK (hD.sub [0, 33, 34, 35, 36] (by decide +kernel) rfl) hN (ci := 11) (q0 := 0) rfl rfl) rfl rfl hl.1 rfl (lv_room (Nat.le_of_ble_eq_true rfl)) dL_law_1398 ⟨Nat.le_of_ble_eq_true rfl, Nat.le_of_ble_eq_true rfl⟩) hP hD hS hA [0, 33, 34, 35, 36] rfl (fun _ => rfl) (fun r6 u4 H locs hw5 => ?_)
  clear hP hS
  intro hP hS
  replace hw5 : r6 = sm_verdict (ny 3) (ny 19) (fy 31) (fy 32) (fy 33) (fy 34) xk1 := hw5
  rw [Ccn, Cun, Cuk, Cuy, Cuw, Cum, ← verdict_eq (by omega) (by omega) XU] at hw5
  have e90 := hw2.trans hw5.symm
  refine lv_pop hx hb dL_law_1401 rfl ?_
  refine lv_goto (tgt := 1652) hx hb dL_law_1402 (by decide) ?_
  have hPm : va_P D vwCl (wM md sd cI cY cJ cQ (upd ny 0 0) fy fl ++ wX ad rw sd cI cY cJ cQ nx fx rs lo) H := hP
  have hDm : va_D (fun q : Nat => s.heap.size ≤ q) (wM md sd cI cY cJ cQ (upd ny 0 0) fy fl ++ wX ad rw sd cI cY cJ cQ nx fx rs lo) := wMX_D hD
  exact kk nx fx rs lo (upd ny 0 0) fy fl H locs ls ⟨Xhna, Xhnb, XH, XD, XV, XN, Xcna, Xcnb, XF, Xpna, Xpnb, XG, XO, XW, Xgna, Xgnb, XJ, Xlna, Xlnb, Xdla, Xdlb, Xana, Xanb, Xuna, Xunb, XU, Xlca, Xlcb, Xtna, Xtnb, XS, Mhna, Mhnb, MH, MS, Mmlna, Mmlnb, Mmtna, Mmtnb, Chn, Cho, Chc, Chp, Chs, Ccn, Cfo, Cwo, Cpn, Cpk, Cpf, Cpo, Cpd, Cpe, Cgn, Cgk, Cgs, Cgd, Cge, Can, Cak, Cah, Cay, Caz, Cun, Cuk, Cuy, Cuw, Cum, Clc, Clp, Cla, Clb, Caw, Ciw, Cln, Ctd, Cro, Cmtn, Cmtr, Cmst, Csh⟩ hPm.comm hDm.comm hS hl

set_option maxHeartbeats 4000000 in
set_option maxRecDepth 100000 in
theorem law_case_29 {p : Program} {l : Launch} {e : Env} {s : State} {m : MethodId} {below : List Frame} {meth : Method} {c : Code} {D : va_G} {cI cY cJ cQ : ClassId} {b L aK aV : Nat} {xs : Nat → Int32} {ad rw md : Nat → Nat} {sd i : Int32} {nx : Nat → Int32} {fx rs : Nat → Nat → Int32} {lo : Nat → Int64} {ny : Nat → Int32} {fy : Nat → Nat → Int32} {fl : Nat → Int64} {H : Heap} {locs : List Loc} {ls : Array Slot} (C0 : lawC p s m meth c b L xs D cI cY cJ cQ aK aV) (I : inv nx fx rs ny fy) (hP : va_P D vwCl (wX ad rw sd cI cY cJ cQ nx fx rs lo ++ wM md sd cI cY cJ cQ ny fy fl) H) (hD : va_D (fun q : Nat => s.heap.size ≤ q) (wX ad rw sd cI cY cJ cQ nx fx rs lo ++ wM md sd cI cY cJ cQ ny fy fl)) (hS : va_S (fun q : Nat => s.heap.size ≤ q) s.heap H locs) (hl : lv_has ls 4 [(0, .ref b), (1, .ref (ad 0)), (2, .ref (md 64)), (3, .int i)]) (hi1 : 1 ≤ i.toInt) (hi2 : i.toInt + 5 < L) (kk : ∀ (nx : Nat → Int32) (fx rs : Nat → Nat → Int32) (lo : Nat → Int64) (ny : Nat → Int32) (fy : Nat → Nat → Int32) (fl : Nat → Int64) (H : Heap) (locs : List Loc) (ls : Array Slot), inv nx fx rs ny fy → va_P D vwCl (wX ad rw sd cI cY cJ cQ nx fx rs lo ++ wM md sd cI cY cJ cQ ny fy fl) H → va_D (fun q : Nat => s.heap.size ≤ q) (wX ad rw sd cI cY cJ cQ nx fx rs lo ++ wM md sd cI cY cJ cQ ny fy fl) → va_S (fun q : Nat => s.heap.size ≤ q) s.heap H locs → lv_has ls 4 [(0, .ref b), (1, .ref (ad 0)), (2, .ref (md 64)), (3, .int i)] → W p l e room_1 s m #[Value.ref b] below meth c H locs 107 4890 (lw_Z below #[Value.ref b] s) (F0 m 1652 ls [])) : W p l e room_1 s m #[Value.ref b] below meth c H locs 107 4890 (lw_Z below #[Value.ref b] s) (F0 m 1405 ls []) := by
  obtain ⟨C1, hK, hN, hT, hL⟩ := C0
  obtain ⟨hx, hb, hr, hml, hown, hts0, hX, hbl, hlocks, hgv⟩ := C1
  have hA : ∀ q : Nat, s.heap.size ≤ q → (fun q : Nat => s.heap.size ≤ q) q := fun _ h => h
  have hbA : ¬ (fun q : Nat => s.heap.size ≤ q) b := Nat.not_le.mpr hbl
  have hts : ∀ w ∈ wsL_law, w.before #[Value.ref b] s = true := fun w h => hts0 w (wsL_law_in w h)
  replace hown : s.vm.findClass RL = some m.cls := hown
  replace hb : c.code = cL_law := hb
  have hak1 : vp_in (i + 1) L := law_in hi1 hi2 hL (by decide)
  obtain ⟨xk1, exk1⟩ : ∃ y : Int32, y = xs (i + 1).toNatClampNeg := ⟨_, rfl⟩
  have hak2 : vp_in (i + 2) L := law_in hi1 hi2 hL (by decide)
  obtain ⟨xk2, exk2⟩ : ∃ y : Int32, y = xs (i + 2).toNatClampNeg := ⟨_, rfl⟩
  have hak3 : vp_in (i + 3) L := law_in hi1 hi2 hL (by decide)
  obtain ⟨xk3, exk3⟩ : ∃ y : Int32, y = xs (i + 3).toNatClampNeg := ⟨_, rfl⟩
  refine inv_el I ?_
  intro Xhna Xhnb XH XD XV XN Xcna Xcnb XF Xpna Xpnb XG XO XW Xgna Xgnb XJ Xlna Xlnb Xdla Xdlb Xana Xanb Xuna Xunb XU Xlca Xlcb Xtna Xtnb XS Mhna Mhnb MH MS Mmlna Mmlnb Mmtna Mmtnb Chn Cho Chc Chp Chs Ccn Cfo Cwo Cpn Cpk Cpf Cpo Cpd Cpe Cgn Cgk Cgs Cgd Cge Can Cak Cah Cay Caz Cun Cuk Cuy Cuw Cum Clc Clp Cla Clb Caw Ciw Cln Ctd Cro Cmtn Cmtr Cmst Csh
  have Tcn := i_eq Ccn
  have Tpn := i_eq Cpn
  have Tgn := i_eq Cgn
  have Tan := i_eq Can
  have Tun := i_eq Cun
  have Tlc := i_eq Clc
  have Tln := i_eq Cln
  refine lv_aload_n hx hb dL_law_1405 rfl (lv_at hl 1 rfl) ?_
  refine law_arg (v := 1) hx hb hX hbl hbA hS (lv_at hl 0 rfl) (lv_at hl 3 rfl) (by decide) hak1 exk1 dL_law_1406 dL_law_1407 dL_law_1408 dL_law_1409 dL_law_1410 ?_
  refine law_arg (v := 2) hx hb hX hbl hbA hS (lv_at hl 0 rfl) (lv_at hl 3 rfl) (by decide) hak2 exk2 dL_law_1411 dL_law_1412 dL_law_1413 dL_law_1414 dL_law_1415 ?_
  refine law_arg (v := 3) hx hb hX hbl hbA hS (lv_at hl 0 rfl) (lv_at hl 3 rfl) (by decide) hak3 exk3 dL_law_1416 dL_law_1417 dL_law_1418 dL_law_1419 dL_law_1420 ?_
  refine st_iU (va_runV (C := RX10) (As := [.int xk1, .int xk2, .int xk3]) (rest := []) ⟨hx, hb, hml, hown, hts⟩ (ct_X10_list l D cI cY cJ cQ _ ad (nx 0) (nx 1) (nx 2) (nx 17) (fx 42) (fx 43) (fx 44) xk1 xk2 xk3 Xlca Xlcb) (cwV 3 hts gL_law_X10_list rfl rfl rfl ⟨rfl, cdX10_list⟩ ⟨Nat.le_of_ble_eq_true rfl, Nat.le_of_ble_eq_true rfl⟩) (cPreV (hP.sub [0, 62, 63, 64, 65] rfl) hK (hD.sub [0, 62, 63, 64, 65] (by decide +kernel) rfl) hN (ci := 10) (q0 := 0) rfl rfl) rfl rfl hl.1 rfl (lv_room (Nat.le_of_ble_eq_true rfl)) dL_law_1421 ⟨Nat.le_of_ble_eq_true rfl, Nat.le_of_ble_eq_true rfl⟩) hP hD hS hA [0, 62, 63, 64, 65] rfl (fun _ => rfl) (fun r3 u1 H locs hw2 => ?_)
  clear hP hS
  intro hP hS
  obtain ⟨lc_4, lp_5, la_6, lb_7⟩ := u1
  replace hw2 : (r3, (lc_4, lp_5, la_6, lb_7)) = sp_list (nx 17) (fx 42) (fx 43) (fx 44) xk1 xk2 xk3 := hw2
  obtain ⟨hw2a, hw2b⟩ := sp_list_ok hw2 (by omega) (by omega)
  refine lv_pop hx hb dL_law_1424 rfl ?_
  have hPx : va_P D vwCl (wX ad rw sd cI cY cJ cQ (upd nx 17 lc_4) (upR (upR (upR fx 42 lp_5) 43 la_6) 44 lb_7) rs lo ++ wM md sd cI cY cJ cQ ny fy fl) H := hP
  have hDx : va_D (fun q : Nat => s.heap.size ≤ q) (wX ad rw sd cI cY cJ cQ (upd nx 17 lc_4) (upR (upR (upR fx 42 lp_5) 43 la_6) 44 lb_7) rs lo ++ wM md sd cI cY cJ cQ ny fy fl) := wXM_D hD
  have hP := hPx.comm
  have hD := hDx.comm
  refine lv_aload_n hx hb dL_law_1425 rfl (lv_at hl 2 rfl) ?_
  refine law_arg (v := 1) hx hb hX hbl hbA hS (lv_at hl 0 rfl) (lv_at hl 3 rfl) (by decide) hak1 exk1 dL_law_1426 dL_law_1427 dL_law_1428 dL_law_1429 dL_law_1430 ?_
  refine law_arg (v := 2) hx hb hX hbl hbA hS (lv_at hl 0 rfl) (lv_at hl 3 rfl) (by decide) hak2 exk2 dL_law_1431 dL_law_1432 dL_law_1433 dL_law_1434 dL_law_1435 ?_
  refine law_arg (v := 3) hx hb hX hbl hbA hS (lv_at hl 0 rfl) (lv_at hl 3 rfl) (by decide) hak3 exk3 dL_law_1436 dL_law_1437 dL_law_1438 dL_law_1439 dL_law_1440 ?_
  refine st_iU (va_runV (C := RX11) (As := [.int xk1, .int xk2, .int xk3]) (rest := []) ⟨hx, hb, hml, hown, hts⟩ (ct_X11_list l D cI cY cJ cQ _ md sd (ny 0) (ny 1) (ny 2) (ny 3) (ny 4) (ny 5) (ny 6) (ny 7) (ny 8) (ny 9) (ny 10) (ny 11) (ny 12) (ny 13) (ny 14) (ny 15) (ny 16) (ny 17) (ny 18) (ny 19) (ny 20) (ny 21) (ny 22) (fy 35) (fy 36) (fy 37) xk1 xk2 xk3 (by omega) (by omega)) (cwV 3 hts gL_law_X11_list rfl rfl rfl ⟨rfl, cdX11_list⟩ ⟨Nat.le_of_ble_eq_true rfl, Nat.le_of_ble_eq_true rfl⟩) (cPreV (hP.sub [0, 37, 38, 39] rfl) hK (hD.sub [0, 37, 38, 39] (by decide +kernel) rfl) hN (ci := 11) (q0 := 0) rfl rfl) rfl rfl hl.1 rfl (lv_room (Nat.le_of_ble_eq_true rfl)) dL_law_1441 ⟨Nat.le_of_ble_eq_true rfl, Nat.le_of_ble_eq_true rfl⟩) hP hD hS hA [0, 37, 38, 39] rfl (fun _ => rfl) (fun r10 u8 H locs hw9 => ?_)
  clear hP hS
  intro hP hS
  obtain ⟨lc_11, lp_12, la_13, lb_14⟩ := u8
  replace hw9 : (r10, (lc_11, lp_12, la_13, lb_14)) = sp_list (ny 20) (fy 35) (fy 36) (fy 37) xk1 xk2 xk3 := hw9
  rw [Clc, Clp, Cla, Clb] at hw9
  have e9 := hw2.trans hw9.symm
  simp only [Prod.mk.injEq] at e9
  obtain ⟨e90, e9lc, e9lp, e9la, e9lb⟩ := e9
  refine lv_pop hx hb dL_law_1444 rfl ?_
  refine lv_goto (tgt := 1652) hx hb dL_law_1445 (by decide) ?_
  have hPm : va_P D vwCl (wM md sd cI cY cJ cQ (upd (upd ny 0 0) 20 lc_11) (upR (upR (upR fy 35 lp_12) 36 la_13) 37 lb_14) fl ++ wX ad rw sd cI cY cJ cQ (upd nx 17 lc_4) (upR (upR (upR fx 42 lp_5) 43 la_6) 44 lb_7) rs lo) H := hP
  have hDm : va_D (fun q : Nat => s.heap.size ≤ q) (wM md sd cI cY cJ cQ (upd (upd ny 0 0) 20 lc_11) (upR (upR (upR fy 35 lp_12) 36 la_13) 37 lb_14) fl ++ wX ad rw sd cI cY cJ cQ (upd nx 17 lc_4) (upR (upR (upR fx 42 lp_5) 43 la_6) 44 lb_7) rs lo) := wMX_D hD
  exact kk (upd nx 17 lc_4) (upR (upR (upR fx 42 lp_5) 43 la_6) 44 lb_7) rs lo (upd (upd ny 0 0) 20 lc_11) (upR (upR (upR fy 35 lp_12) 36 la_13) 37 lb_14) fl H locs ls ⟨Xhna, Xhnb, XH, XD, XV, XN, Xcna, Xcnb, XF, Xpna, Xpnb, XG, XO, XW, Xgna, Xgnb, XJ, Xlna, Xlnb, Xdla, Xdlb, Xana, Xanb, Xuna, Xunb, XU, (by show 0 ≤ (lc_4).toInt; omega), (by show (lc_4).toInt ≤ 20; omega), Xtna, Xtnb, XS, Mhna, Mhnb, MH, MS, Mmlna, Mmlnb, Mmtna, Mmtnb, Chn, Cho, Chc, Chp, Chs, Ccn, Cfo, Cwo, Cpn, Cpk, Cpf, Cpo, Cpd, Cpe, Cgn, Cgk, Cgs, Cgd, Cge, Can, Cak, Cah, Cay, Caz, Cun, Cuk, Cuy, Cuw, Cum, (show (lc_11) = (lc_4) from e9lc.symm), (show (lp_12) = (lp_5) from e9lp.symm), (show (la_13) = (la_6) from e9la.symm), (show (lb_14) = (lb_7) from e9lb.symm), Caw, Ciw, Cln, Ctd, Cro, Cmtn, Cmtr, Cmst, Csh⟩ hPm.comm hDm.comm hS hl

set_option maxHeartbeats 4000000 in
set_option maxRecDepth 100000 in
theorem law_case_30 {p : Program} {l : Launch} {e : Env} {s : State} {m : MethodId} {below : List Frame} {meth : Method} {c : Code} {D : va_G} {cI cY cJ cQ : ClassId} {b L aK aV : Nat} {xs : Nat → Int32} {ad rw md : Nat → Nat} {sd i : Int32} {nx : Nat → Int32} {fx rs : Nat → Nat → Int32} {lo : Nat → Int64} {ny : Nat → Int32} {fy : Nat → Nat → Int32} {fl : Nat → Int64} {H : Heap} {locs : List Loc} {ls : Array Slot} (C0 : lawC p s m meth c b L xs D cI cY cJ cQ aK aV) (I : inv nx fx rs ny fy) (hP : va_P D vwCl (wX ad rw sd cI cY cJ cQ nx fx rs lo ++ wM md sd cI cY cJ cQ ny fy fl) H) (hD : va_D (fun q : Nat => s.heap.size ≤ q) (wX ad rw sd cI cY cJ cQ nx fx rs lo ++ wM md sd cI cY cJ cQ ny fy fl)) (hS : va_S (fun q : Nat => s.heap.size ≤ q) s.heap H locs) (hl : lv_has ls 4 [(0, .ref b), (1, .ref (ad 0)), (2, .ref (md 64)), (3, .int i)]) (hi1 : 1 ≤ i.toInt) (hi2 : i.toInt + 5 < L) (kk : ∀ (nx : Nat → Int32) (fx rs : Nat → Nat → Int32) (lo : Nat → Int64) (ny : Nat → Int32) (fy : Nat → Nat → Int32) (fl : Nat → Int64) (H : Heap) (locs : List Loc) (ls : Array Slot), inv nx fx rs ny fy → va_P D vwCl (wX ad rw sd cI cY cJ cQ nx fx rs lo ++ wM md sd cI cY cJ cQ ny fy fl) H → va_D (fun q : Nat => s.heap.size ≤ q) (wX ad rw sd cI cY cJ cQ nx fx rs lo ++ wM md sd cI cY cJ cQ ny fy fl) → va_S (fun q : Nat => s.heap.size ≤ q) s.heap H locs → lv_has ls 4 [(0, .ref b), (1, .ref (ad 0)), (2, .ref (md 64)), (3, .int i)] → W p l e room_1 s m #[Value.ref b] below meth c H locs 107 4890 (lw_Z below #[Value.ref b] s) (F0 m 1652 ls [])) : W p l e room_1 s m #[Value.ref b] below meth c H locs 107 4890 (lw_Z below #[Value.ref b] s) (F0 m 1448 ls []) := by
  obtain ⟨C1, hK, hN, hT, hL⟩ := C0
  obtain ⟨hx, hb, hr, hml, hown, hts0, hX, hbl, hlocks, hgv⟩ := C1
  have hA : ∀ q : Nat, s.heap.size ≤ q → (fun q : Nat => s.heap.size ≤ q) q := fun _ h => h
  have hbA : ¬ (fun q : Nat => s.heap.size ≤ q) b := Nat.not_le.mpr hbl
  have hts : ∀ w ∈ wsL_law, w.before #[Value.ref b] s = true := fun w h => hts0 w (wsL_law_in w h)
  replace hown : s.vm.findClass RL = some m.cls := hown
  replace hb : c.code = cL_law := hb
  have hak1 : vp_in (i + 1) L := law_in hi1 hi2 hL (by decide)
  obtain ⟨xk1, exk1⟩ : ∃ y : Int32, y = xs (i + 1).toNatClampNeg := ⟨_, rfl⟩
  have hak2 : vp_in (i + 2) L := law_in hi1 hi2 hL (by decide)
  obtain ⟨xk2, exk2⟩ : ∃ y : Int32, y = xs (i + 2).toNatClampNeg := ⟨_, rfl⟩
  refine inv_el I ?_
  intro Xhna Xhnb XH XD XV XN Xcna Xcnb XF Xpna Xpnb XG XO XW Xgna Xgnb XJ Xlna Xlnb Xdla Xdlb Xana Xanb Xuna Xunb XU Xlca Xlcb Xtna Xtnb XS Mhna Mhnb MH MS Mmlna Mmlnb Mmtna Mmtnb Chn Cho Chc Chp Chs Ccn Cfo Cwo Cpn Cpk Cpf Cpo Cpd Cpe Cgn Cgk Cgs Cgd Cge Can Cak Cah Cay Caz Cun Cuk Cuy Cuw Cum Clc Clp Cla Clb Caw Ciw Cln Ctd Cro Cmtn Cmtr Cmst Csh
  have Tcn := i_eq Ccn
  have Tpn := i_eq Cpn
  have Tgn := i_eq Cgn
  have Tan := i_eq Can
  have Tun := i_eq Cun
  have Tlc := i_eq Clc
  have Tln := i_eq Cln
  have Thn := i_eq Chn
  have MXV : okV (ny 2) (fy 5) := by rw [Chn, Chp]; exact XV
  have MXF : okF (ny 3) (fy 10) := by rw [Ccn, Cfo]; exact XF
  have MXG : okG (ny 4) (fy 14) := by rw [Cpn, Cpo]; exact XG
  refine lv_aload_n hx hb dL_law_1448 rfl (lv_at hl 1 rfl) ?_
  refine law_arg (v := 1) hx hb hX hbl hbA hS (lv_at hl 0 rfl) (lv_at hl 3 rfl) (by decide) hak1 exk1 dL_law_1449 dL_law_1450 dL_law_1451 dL_law_1452 dL_law_1453 ?_
  refine law_arg (v := 2) hx hb hX hbl hbA hS (lv_at hl 0 rfl) (lv_at hl 3 rfl) (by decide) hak2 exk2 dL_law_1454 dL_law_1455 dL_law_1456 dL_law_1457 dL_law_1458 ?_
  refine st_iQ (wr := [(aI cI (ad 11) 16 (fx 0)), (aI cI (rw 0) 60 (rs 0)), (aI cI (rw 1) 60 (rs 1)), (aI cI (rw 2) 60 (rs 2)), (aI cI (rw 3) 60 (rs 3)), (aI cI (rw 4) 60 (rs 4)), (aI cI (rw 5) 60 (rs 5)), (aI cI (rw 6) 60 (rs 6)), (aI cI (rw 7) 60 (rs 7)), (oC9 ad ), ((ad 12), .inl (cQ, 8, .inr (.inr (.inr (.inr (fun i => if i < 8 then some (rw i) else none)))))), (aI cI (ad 13) 8 (fx 1)), (aI cI (ad 14) 8 (fx 2)), (aI cI (ad 32) 12 (fx 12)), (aI cI (ad 33) 12 (fx 13)), (aI cI (ad 34) 6 (fx 14)), (aI cI (ad 35) 6 (fx 15)), (oC8 ad (nx 6)), (aI cI (ad 42) 40 (fx 22)), (aI cI (ad 43) 40 (fx 23)), (aI cI (ad 44) 40 (fx 24)), (aI cI (ad 45) 40 (fx 25)), (aI cI (ad 46) 40 (fx 26)), (oC2 ad (nx 7) (nx 8) (nx 9) (nx 10) (nx 11) (nx 12) (nx 13) (nx 14)), (aI cY (ad 47) 300 (fx 27)), (aI cI (ad 48) 12 (fx 28)), (aI cI (ad 49) 12 (fx 29)), (aI cI (ad 50) 12 (fx 30)), (aI cI (ad 51) 12 (fx 31)), (aI cI (ad 52) 12 (fx 32)), (aI cI (ad 53) 12 (fx 33)), (oC0 ad (nx 15)), (aI cI (ad 54) 60 (fx 34)), (aI cI (ad 55) 60 (fx 35)), (aI cI (ad 56) 60 (fx 36)), (aI cI (ad 57) 60 (fx 37)), (oC5 ad sd), (aJ cJ (ad 58) 12 lo), (oC6 ad (nx 16)), (aI cI (ad 59) 60 (fx 38)), (aI cI (ad 60) 60 (fx 39)), (aI cI (ad 61) 60 (fx 40)), (aI cI (ad 62) 60 (fx 41))]) (va_runV (C := RX10) (As := [.int xk1, .int xk2]) (rest := []) ⟨hx, hb, hml, hown, hts⟩ (ct_X10_barred l D cI cY cJ cQ _ ad (nx 0) (nx 1) (nx 2) (nx 4) (nx 5) (nx 3) (nx 17) (fx 11) (fx 16) (fx 17) (fx 18) (fx 19) (fx 20) (fx 21) (fx 3) (fx 4) (fx 5) (fx 6) (fx 7) (fx 8) (fx 9) (fx 10) (fx 42) (fx 43) (fx 44) xk1 xk2 Xcna Xcnb Xpna Xpnb XO Xhna Xhnb XH XV Xlca Xlcb XF XG) (cwV 2 hts gL_law_X10_barred rfl rfl rfl ⟨rfl, cdX10_barred⟩ ⟨Nat.le_of_ble_eq_true rfl, Nat.le_of_ble_eq_true rfl⟩) (cPreV (hP.sub [0, 23, 24, 29, 30, 31, 32, 33, 34, 35, 14, 15, 16, 17, 18, 19, 20, 21, 22, 62, 63, 64, 65] rfl) hK (hD.sub [0, 23, 24, 29, 30, 31, 32, 33, 34, 35, 14, 15, 16, 17, 18, 19, 20, 21, 22, 62, 63, 64, 65] (by decide +kernel) rfl) hN (ci := 10) (q0 := 0) rfl rfl) rfl rfl hl.1 rfl (lv_room (Nat.le_of_ble_eq_true rfl)) dL_law_1459 ⟨Nat.le_of_ble_eq_true rfl, Nat.le_of_ble_eq_true rfl⟩) hP hD hS hA [0, 23, 24, 29, 30, 31, 32, 33, 34, 35, 14, 15, 16, 17, 18, 19, 20, 21, 22, 62, 63, 64, 65] [1, 2, 3, 4, 5, 6, 7, 8, 9, 10, 11, 12, 13, 25, 26, 27, 28, 36, 37, 38, 39, 40, 41, 42, 43, 44, 45, 46, 47, 48, 49, 50, 51, 52, 53, 54, 55, 56, 57, 58, 59, 60, 61] rfl rfl (by decide +kernel) (by decide +kernel) (fun r3 u1 H locs hw2 => ?_)
  clear hP hS
  intro hP _ hS
  obtain ⟨pt_4, ps_5, ha_6, re_7⟩ := u1
  replace hw2 : r3 = sp_barred (nx 4) (nx 5) (nx 3) (nx 17) (fx 11) (fx 16) (fx 17) (fx 18) (fx 19) (fx 20) (fx 21) (fx 3) (fx 4) (fx 5) (fx 6) (fx 42) (fx 43) (fx 44) xk1 xk2 := hw2
  refine lv_pop hx hb dL_law_1462 rfl ?_
  have hPx : va_P D vwCl (wX ad rw sd cI cY cJ cQ nx (upR (upR (upR (upR fx 7 pt_4) 8 ps_5) 9 ha_6) 10 re_7) rs lo ++ wM md sd cI cY cJ cQ ny fy fl) H := hP.part [43, 0, 1, 2, 3, 4, 5, 6, 7, 8, 9, 10, 11, 12, 53, 54, 55, 56, 57, 58, 59, 60, 61, 44, 45, 13, 14, 15, 16, 46, 47, 48, 49, 50, 51, 52, 17, 18, 19, 20, 21, 22, 23, 24, 25, 26, 27, 28, 29, 30, 31, 32, 33, 34, 35, 36, 37, 38, 39, 40, 41, 42, 62, 63, 64, 65] rfl
  have hDx : va_D (fun q : Nat => s.heap.size ≤ q) (wX ad rw sd cI cY cJ cQ nx (upR (upR (upR (upR fx 7 pt_4) 8 ps_5) 9 ha_6) 10 re_7) rs lo ++ wM md sd cI cY cJ cQ ny fy fl) := wXM_D hD
  have hP := hPx.comm
  have hD := hDx.comm
  refine lv_aload_n hx hb dL_law_1463 rfl (lv_at hl 2 rfl) ?_
  refine law_arg (v := 1) hx hb hX hbl hbA hS (lv_at hl 0 rfl) (lv_at hl 3 rfl) (by decide) hak1 exk1 dL_law_1464 dL_law_1465 dL_law_1466 dL_law_1467 dL_law_1468 ?_
  refine law_arg (v := 2) hx hb hX hbl hbA hS (lv_at hl 0 rfl) (lv_at hl 3 rfl) (by decide) hak2 exk2 dL_law_1469 dL_law_1470 dL_law_1471 dL_law_1472 dL_law_1473 ?_
  refine st_iQ (wr := [(aI cI (md 3) 8 (fy 0)), (aI cI (md 4) 8 (fy 1)), (aI cI (md 5) 480 (fy 2)), (aI cI (md 17) 12 (fy 11)), (aI cI (md 26) 40 (fy 17)), (aI cI (md 27) 40 (fy 18)), (aI cI (md 28) 40 (fy 19)), (aI cI (md 29) 40 (fy 20)), (aI cI (md 31) 36 (fy 21)), (aI cI (md 33) 36 (fy 22)), (aI cI (md 34) 300 (fy 23)), (aI cI (md 45) 60 (fy 24)), (aI cI (md 46) 60 (fy 25)), (aI cI (md 47) 60 (fy 26)), (aI cI (md 48) 60 (fy 27)), (aI cI (md 49) 6 (fy 28)), (aI cI (md 50) 6 (fy 29)), (aI cI (md 51) 12 (fy 30)), (aI cI (md 53) 60 (fy 31)), (aI cI (md 54) 60 (fy 32)), (aI cI (md 55) 60 (fy 33)), (aI cI (md 56) 60 (fy 34)), (aI cI (md 62) 16 (fy 38))]) (va_runV (C := RX11) (As := [.int xk1, .int xk2]) (rest := []) ⟨hx, hb, hml, hown, hts⟩ (ct_X11_barred l D cI cY cJ cQ _ md sd (ny 0) (ny 1) (ny 2) (ny 3) (ny 4) (ny 5) (ny 6) (ny 7) (ny 8) (ny 9) (ny 10) (ny 11) (ny 12) (ny 13) (ny 14) (ny 15) (ny 16) (ny 17) (ny 18) (ny 19) (ny 20) (ny 21) (ny 22) (fy 10) (fy 12) (fy 13) (fy 14) (fy 15) (fy 16) (fy 35) (fy 36) (fy 37) (fy 3) (fy 4) (fy 5) (fy 6) (fy 7) (fy 8) (fy 9) fl xk1 xk2 (by omega) (by omega) (by omega) (by omega) (by omega) (by omega) Mhna Mhnb (by assumption) (by assumption) (by assumption)) (cwV 2 hts gL_law_X11_barred rfl rfl rfl ⟨rfl, cdX11_barred⟩ ⟨Nat.le_of_ble_eq_true rfl, Nat.le_of_ble_eq_true rfl⟩) (cPreV (hP.sub [0, 12, 14, 15, 16, 17, 18, 37, 38, 39, 4, 5, 6, 7, 8, 9, 10, 11] rfl) hK (hD.sub [0, 12, 14, 15, 16, 17, 18, 37, 38, 39, 4, 5, 6, 7, 8, 9, 10, 11] (by decide +kernel) rfl) hN (ci := 11) (q0 := 0) rfl rfl) rfl rfl hl.1 rfl (lv_room (Nat.le_of_ble_eq_true rfl)) dL_law_1474 ⟨Nat.le_of_ble_eq_true rfl, Nat.le_of_ble_eq_true rfl⟩) hP hD hS hA [0, 12, 14, 15, 16, 17, 18, 37, 38, 39, 4, 5, 6, 7, 8, 9, 10, 11] [1, 2, 3, 13, 19, 20, 21, 22, 23, 24, 25, 26, 27, 28, 29, 30, 31, 32, 33, 34, 35, 36, 40] rfl rfl (by decide +kernel) (by decide +kernel) (fun r10 u8 H locs hw9 => ?_)
  clear hP hS
  intro hP _ hS
  obtain ⟨mq_11, mh_12, mp_13, mt_14, mf_15⟩ := u8
  replace hw9 : r10 = sm_barred (ny 3) (ny 4) (ny 2) (ny 20) (fy 10) (fy 12) (fy 13) (fy 14) (fy 15) (fy 16) (fy 3) (fy 4) (fy 5) (fy 6) (fy 35) (fy 36) (fy 37) xk1 xk2 := hw9
  rw [Ccn, Cpn, Chn, Clc, Cfo, Cpk, Cpf, Cpo, Cpd, Cpe, Cho, Chc, Chp, Chs, Clp, Cla, Clb, ← barred_eq (by omega) (by omega) XD XN XV (by omega) (by omega) XO XW] at hw9
  have e90 := hw2.trans hw9.symm
  refine lv_pop hx hb dL_law_1477 rfl ?_
  refine lv_goto (tgt := 1652) hx hb dL_law_1478 (by decide) ?_
  have hPm : va_P D vwCl (wM md sd cI cY cJ cQ (upd (upd ny 0 0) 5 mq_11) (upR (upR (upR fy 7 mh_12) 8 mp_13) 9 mt_14) mf_15 ++ wX ad rw sd cI cY cJ cQ nx (upR (upR (upR (upR fx 7 pt_4) 8 ps_5) 9 ha_6) 10 re_7) rs lo) H := hP.part [23, 0, 1, 2, 33, 34, 35, 36, 37, 38, 39, 40, 24, 3, 25, 26, 27, 28, 29, 4, 5, 6, 7, 8, 9, 10, 11, 12, 13, 14, 15, 16, 17, 18, 19, 20, 21, 30, 31, 32, 22] rfl
  have hDm : va_D (fun q : Nat => s.heap.size ≤ q) (wM md sd cI cY cJ cQ (upd (upd ny 0 0) 5 mq_11) (upR (upR (upR fy 7 mh_12) 8 mp_13) 9 mt_14) mf_15 ++ wX ad rw sd cI cY cJ cQ nx (upR (upR (upR (upR fx 7 pt_4) 8 ps_5) 9 ha_6) 10 re_7) rs lo) := wMX_D hD
  exact kk nx (upR (upR (upR (upR fx 7 pt_4) 8 ps_5) 9 ha_6) 10 re_7) rs lo (upd (upd ny 0 0) 5 mq_11) (upR (upR (upR fy 7 mh_12) 8 mp_13) 9 mt_14) mf_15 H locs ls ⟨Xhna, Xhnb, XH, XD, XV, XN, Xcna, Xcnb, XF, Xpna, Xpnb, XG, XO, XW, Xgna, Xgnb, XJ, Xlna, Xlnb, Xdla, Xdlb, Xana, Xanb, Xuna, Xunb, XU, Xlca, Xlcb, Xtna, Xtnb, XS, Mhna, Mhnb, MH, MS, Mmlna, Mmlnb, Mmtna, Mmtnb, Chn, Cho, Chc, Chp, Chs, Ccn, Cfo, Cwo, Cpn, Cpk, Cpf, Cpo, Cpd, Cpe, Cgn, Cgk, Cgs, Cgd, Cge, Can, Cak, Cah, Cay, Caz, Cun, Cuk, Cuy, Cuw, Cum, Clc, Clp, Cla, Clb, Caw, Ciw, Cln, Ctd, Cro, Cmtn, Cmtr, Cmst, Csh⟩ hPm.comm hDm.comm hS hl

set_option maxHeartbeats 4000000 in
set_option maxRecDepth 100000 in
theorem law_case_31 {p : Program} {l : Launch} {e : Env} {s : State} {m : MethodId} {below : List Frame} {meth : Method} {c : Code} {D : va_G} {cI cY cJ cQ : ClassId} {b L aK aV : Nat} {xs : Nat → Int32} {ad rw md : Nat → Nat} {sd i : Int32} {nx : Nat → Int32} {fx rs : Nat → Nat → Int32} {lo : Nat → Int64} {ny : Nat → Int32} {fy : Nat → Nat → Int32} {fl : Nat → Int64} {H : Heap} {locs : List Loc} {ls : Array Slot} (C0 : lawC p s m meth c b L xs D cI cY cJ cQ aK aV) (I : inv nx fx rs ny fy) (hP : va_P D vwCl (wX ad rw sd cI cY cJ cQ nx fx rs lo ++ wM md sd cI cY cJ cQ ny fy fl) H) (hD : va_D (fun q : Nat => s.heap.size ≤ q) (wX ad rw sd cI cY cJ cQ nx fx rs lo ++ wM md sd cI cY cJ cQ ny fy fl)) (hS : va_S (fun q : Nat => s.heap.size ≤ q) s.heap H locs) (hl : lv_has ls 4 [(0, .ref b), (1, .ref (ad 0)), (2, .ref (md 64)), (3, .int i)]) (hi1 : 1 ≤ i.toInt) (hi2 : i.toInt + 5 < L) (kk : ∀ (nx : Nat → Int32) (fx rs : Nat → Nat → Int32) (lo : Nat → Int64) (ny : Nat → Int32) (fy : Nat → Nat → Int32) (fl : Nat → Int64) (H : Heap) (locs : List Loc) (ls : Array Slot), inv nx fx rs ny fy → va_P D vwCl (wX ad rw sd cI cY cJ cQ nx fx rs lo ++ wM md sd cI cY cJ cQ ny fy fl) H → va_D (fun q : Nat => s.heap.size ≤ q) (wX ad rw sd cI cY cJ cQ nx fx rs lo ++ wM md sd cI cY cJ cQ ny fy fl) → va_S (fun q : Nat => s.heap.size ≤ q) s.heap H locs → lv_has ls 4 [(0, .ref b), (1, .ref (ad 0)), (2, .ref (md 64)), (3, .int i)] → W p l e room_1 s m #[Value.ref b] below meth c H locs 107 4890 (lw_Z below #[Value.ref b] s) (F0 m 1652 ls [])) : W p l e room_1 s m #[Value.ref b] below meth c H locs 107 4890 (lw_Z below #[Value.ref b] s) (F0 m 1481 ls []) := by
  obtain ⟨C1, hK, hN, hT, hL⟩ := C0
  obtain ⟨hx, hb, hr, hml, hown, hts0, hX, hbl, hlocks, hgv⟩ := C1
  have hA : ∀ q : Nat, s.heap.size ≤ q → (fun q : Nat => s.heap.size ≤ q) q := fun _ h => h
  have hbA : ¬ (fun q : Nat => s.heap.size ≤ q) b := Nat.not_le.mpr hbl
  have hts : ∀ w ∈ wsL_law, w.before #[Value.ref b] s = true := fun w h => hts0 w (wsL_law_in w h)
  replace hown : s.vm.findClass RL = some m.cls := hown
  replace hb : c.code = cL_law := hb
  have hak1 : vp_in (i + 1) L := law_in hi1 hi2 hL (by decide)
  obtain ⟨xk1, exk1⟩ : ∃ y : Int32, y = xs (i + 1).toNatClampNeg := ⟨_, rfl⟩
  refine inv_el I ?_
  intro Xhna Xhnb XH XD XV XN Xcna Xcnb XF Xpna Xpnb XG XO XW Xgna Xgnb XJ Xlna Xlnb Xdla Xdlb Xana Xanb Xuna Xunb XU Xlca Xlcb Xtna Xtnb XS Mhna Mhnb MH MS Mmlna Mmlnb Mmtna Mmtnb Chn Cho Chc Chp Chs Ccn Cfo Cwo Cpn Cpk Cpf Cpo Cpd Cpe Cgn Cgk Cgs Cgd Cge Can Cak Cah Cay Caz Cun Cuk Cuy Cuw Cum Clc Clp Cla Clb Caw Ciw Cln Ctd Cro Cmtn Cmtr Cmst Csh
  have Tcn := i_eq Ccn
  have Tpn := i_eq Cpn
  have Tgn := i_eq Cgn
  have Tan := i_eq Can
  have Tun := i_eq Cun
  have Tlc := i_eq Clc
  have Tln := i_eq Cln
  refine lv_aload_n hx hb dL_law_1481 rfl (lv_at hl 1 rfl) ?_
  refine law_arg (v := 1) hx hb hX hbl hbA hS (lv_at hl 0 rfl) (lv_at hl 3 rfl) (by decide) hak1 exk1 dL_law_1482 dL_law_1483 dL_law_1484 dL_law_1485 dL_law_1486 ?_
  refine st_iU (va_runV (C := RX10) (As := [.int xk1]) (rest := []) ⟨hx, hb, hml, hown, hts⟩ (ct_X10_day l D cI cY cJ cQ _ ad (nx 0) (nx 1) (nx 2) xk1) (cwV 1 hts gL_law_X10_day rfl rfl rfl ⟨rfl, cdX10_day⟩ ⟨Nat.le_of_ble_eq_true rfl, Nat.le_of_ble_eq_true rfl⟩) (cPreV (hP.sub [0] rfl) hK (hD.sub [0] (by decide +kernel) rfl) hN (ci := 10) (q0 := 0) rfl rfl) rfl rfl hl.1 rfl (lv_room (Nat.le_of_ble_eq_true rfl)) dL_law_1487 ⟨Nat.le_of_ble_eq_true rfl, Nat.le_of_ble_eq_true rfl⟩) hP hD hS hA [0] rfl (fun _ => rfl) (fun r3 u1 H locs hw2 => ?_)
  clear hP hS
  intro hP hS
  replace hw2 : (r3, u1) = sp_day (nx 1) xk1 := hw2
  refine lv_pop hx hb dL_law_1490 rfl ?_
  have hPx : va_P D vwCl (wX ad rw sd cI cY cJ cQ (upd nx 1 u1) fx rs lo ++ wM md sd cI cY cJ cQ ny fy fl) H := hP
  have hDx : va_D (fun q : Nat => s.heap.size ≤ q) (wX ad rw sd cI cY cJ cQ (upd nx 1 u1) fx rs lo ++ wM md sd cI cY cJ cQ ny fy fl) := wXM_D hD
  have hP := hPx.comm
  have hD := hDx.comm
  refine lv_aload_n hx hb dL_law_1491 rfl (lv_at hl 2 rfl) ?_
  refine law_arg (v := 1) hx hb hX hbl hbA hS (lv_at hl 0 rfl) (lv_at hl 3 rfl) (by decide) hak1 exk1 dL_law_1492 dL_law_1493 dL_law_1494 dL_law_1495 dL_law_1496 ?_
  refine st_iU (va_runV (C := RX11) (As := [.int xk1]) (rest := []) ⟨hx, hb, hml, hown, hts⟩ (ct_X11_day l D cI cY cJ cQ _ md sd (ny 0) (ny 1) (ny 2) (ny 3) (ny 4) (ny 5) (ny 6) (ny 7) (ny 8) (ny 9) (ny 10) (ny 11) (ny 12) (ny 13) (ny 14) (ny 15) (ny 16) (ny 17) (ny 18) (ny 19) (ny 20) (ny 21) (ny 22) xk1) (cwV 1 hts gL_law_X11_day rfl rfl rfl ⟨rfl, cdX11_day⟩ ⟨Nat.le_of_ble_eq_true rfl, Nat.le_of_ble_eq_true rfl⟩) (cPreV (hP.sub [0] rfl) hK (hD.sub [0] (by decide +kernel) rfl) hN (ci := 11) (q0 := 0) rfl rfl) rfl rfl hl.1 rfl (lv_room (Nat.le_of_ble_eq_true rfl)) dL_law_1497 ⟨Nat.le_of_ble_eq_true rfl, Nat.le_of_ble_eq_true rfl⟩) hP hD hS hA [0] rfl (fun _ => rfl) (fun r6 u4 H locs hw5 => ?_)
  clear hP hS
  intro hP hS
  replace hw5 : (r6, u4) = sp_day (ny 21) xk1 := hw5
  rw [Ctd] at hw5
  have e9 := hw2.trans hw5.symm
  simp only [Prod.mk.injEq] at e9
  obtain ⟨e90, e9td⟩ := e9
  refine lv_pop hx hb dL_law_1500 rfl ?_
  refine lv_goto (tgt := 1652) hx hb dL_law_1501 (by decide) ?_
  have hPm : va_P D vwCl (wM md sd cI cY cJ cQ (upd (upd ny 0 0) 21 u4) fy fl ++ wX ad rw sd cI cY cJ cQ (upd nx 1 u1) fx rs lo) H := hP
  have hDm : va_D (fun q : Nat => s.heap.size ≤ q) (wM md sd cI cY cJ cQ (upd (upd ny 0 0) 21 u4) fy fl ++ wX ad rw sd cI cY cJ cQ (upd nx 1 u1) fx rs lo) := wMX_D hD
  exact kk (upd nx 1 u1) fx rs lo (upd (upd ny 0 0) 21 u4) fy fl H locs ls ⟨Xhna, Xhnb, XH, XD, XV, XN, Xcna, Xcnb, XF, Xpna, Xpnb, XG, XO, XW, Xgna, Xgnb, XJ, Xlna, Xlnb, Xdla, Xdlb, Xana, Xanb, Xuna, Xunb, XU, Xlca, Xlcb, Xtna, Xtnb, XS, Mhna, Mhnb, MH, MS, Mmlna, Mmlnb, Mmtna, Mmtnb, Chn, Cho, Chc, Chp, Chs, Ccn, Cfo, Cwo, Cpn, Cpk, Cpf, Cpo, Cpd, Cpe, Cgn, Cgk, Cgs, Cgd, Cge, Can, Cak, Cah, Cay, Caz, Cun, Cuk, Cuy, Cuw, Cum, Clc, Clp, Cla, Clb, Caw, Ciw, Cln, (show (u4) = (u1) from e9td.symm), Cro, Cmtn, Cmtr, Cmst, Csh⟩ hPm.comm hDm.comm hS hl
