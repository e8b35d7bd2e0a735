theorem cdX10_kind : yX10_kind.cls ≠ "java/lang/invoke/MethodHandle" ∧ yX10_kind.cls ≠ "java/lang/invoke/VarHandle" ∧ (parseMethodDescriptor yX10_kind.desc).map (fun d => d.parameters.length) = some 1 := by decide +kernel
theorem cdX10_as : yX10_as.cls ≠ "java/lang/invoke/MethodHandle" ∧ yX10_as.cls ≠ "java/lang/invoke/VarHandle" ∧ (parseMethodDescriptor yX10_as.desc).map (fun d => d.parameters.length) = some 2 := by decide +kernel
theorem cdX10_ask : yX10_ask.cls ≠ "java/lang/invoke/MethodHandle" ∧ yX10_ask.cls ≠ "java/lang/invoke/VarHandle" ∧ (parseMethodDescriptor yX10_ask.desc).map (fun d => d.parameters.length) = some 2 := by decide +kernel
theorem cdX10_trace : yX10_trace.cls ≠ "java/lang/invoke/MethodHandle" ∧ yX10_trace.cls ≠ "java/lang/invoke/VarHandle" ∧ (parseMethodDescriptor yX10_trace.desc).map (fun d => d.parameters.length) = some 1 := by decide +kernel
theorem cdX11_kind : yX11_kind.cls ≠ "java/lang/invoke/MethodHandle" ∧ yX11_kind.cls ≠ "java/lang/invoke/VarHandle" ∧ (parseMethodDescriptor yX11_kind.desc).map (fun d => d.parameters.length) = some 1 := by decide +kernel
theorem cdX11_as : yX11_as.cls ≠ "java/lang/invoke/MethodHandle" ∧ yX11_as.cls ≠ "java/lang/invoke/VarHandle" ∧ (parseMethodDescriptor yX11_as.desc).map (fun d => d.parameters.length) = some 2 := by decide +kernel
theorem cdX11_ask : yX11_ask.cls ≠ "java/lang/invoke/MethodHandle" ∧ yX11_ask.cls ≠ "java/lang/invoke/VarHandle" ∧ (parseMethodDescriptor yX11_ask.desc).map (fun d => d.parameters.length) = some 2 := by decide +kernel
theorem cdX11_trace : yX11_trace.cls ≠ "java/lang/invoke/MethodHandle" ∧ yX11_trace.cls ≠ "java/lang/invoke/VarHandle" ∧ (parseMethodDescriptor yX11_trace.desc).map (fun d => d.parameters.length) = some 1 := by decide +kernel
theorem Gd_X10_kind : gdA wsX10_kind := gd_cons (by decide +kernel) (gd_app (gd_all (ws := wsX10_kind_o1) (by decide +kernel)) (gd_app (gd_app (gd_app Gd_X100 Gd_X10) (gd_app Gd_X40 Gd_X70)) (gd_app (gd_app Gd_X30 Gd_X80) (gd_app Gd_X10_isCrate Gd_X10_kindToday))))
theorem Gd_X10_as : gdA wsX10_as := gd_cons (by decide +kernel) (gd_app (gd_all (ws := wsX10_as_o1) (by decide +kernel)) (gd_app (gd_app (gd_app (gd_app Gd_X100 Gd_X10) Gd_X40) (gd_app (gd_app Gd_X70 Gd_X30) Gd_X80)) (gd_app (gd_app (gd_app Gd_X10_isCrate Gd_X10_isBelow) Gd_X10_kindToday) (gd_app (gd_app Gd_X10_isOfKind Gd_X10_finding) Gd_X10_passed))))
theorem Gd_X10_ask : gdA wsX10_ask := gd_cons (by decide +kernel) (gd_app (gd_all (ws := wsX10_ask_o1) (by decide +kernel)) (gd_app (gd_app (gd_app (gd_app Gd_X100 Gd_X10) Gd_X40) (gd_app (gd_app Gd_X70 Gd_X30) Gd_X80)) (gd_app (gd_app (gd_app Gd_X10_isCrate Gd_X10_isBelow) Gd_X10_kindToday) (gd_app Gd_X10_askSize Gd_X10_askMark))))
theorem Gd_X10_trace : gdA wsX10_trace := gd_cons (by decide +kernel) (gd_app (gd_all (ws := wsX10_trace_o1) (by decide +kernel)) (gd_app Gd_X100 Gd_X10_isBelow))
theorem Gd_X11_kind : gdA wsX11_kind := gd_cons (by decide +kernel) (gd_app (gd_all (ws := wsX11_kind_o1) (by decide +kernel)) (gd_app (gd_app Gd_X110 Gd_X11_isCrate) Gd_X11_kindOf))
theorem Gd_X11_as : gdA wsX11_as := gd_cons (by decide +kernel) (gd_app (gd_all (ws := wsX11_as_o1) (by decide +kernel)) (gd_app (gd_app (gd_app Gd_X110 Gd_X11_isCrate) Gd_X11_in) (gd_app (gd_app Gd_X11_kindOf Gd_X11_isOf) Gd_X11_found)))
theorem Gd_X11_ask : gdA wsX11_ask := gd_cons (by decide +kernel) (gd_app (gd_all (ws := wsX11_ask_o1) (by decide +kernel)) (gd_app (gd_app (gd_app Gd_X110 Gd_X11_isCrate) Gd_X11_in) (gd_app (gd_app Gd_X11_kindOf Gd_X11_sizeOf) Gd_X11_markOf)))
theorem Gd_X11_trace : gdA wsX11_trace := gd_cons (by decide +kernel) (gd_app (gd_all (ws := wsX11_trace_o1) (by decide +kernel)) (gd_app Gd_X110 Gd_X11_in))
theorem ggL_law_X10_kind : GoodIn wsL_law wsX10_kind := goodIn_s (fun _ h => (wm_r (wm_r (wm_r (wm_l (wm_r (wm_r (wm_r h)))))))) Gd_X10_kind
theorem gL_law_X10_kind : GoodIn wsL_law (wsV RL 158 RX10 yX10_kind wsX10_kind) := goodIn_V (own := RL) (idx := 158) (C := RX10) (y := yX10_kind) (wm_l (wm_r (wm_l (wm_r (wm_i 13 rfl))))) (wm_l (wm_r (wm_l (wm_r (wm_i 14 rfl))))) (wm_l (wm_r (wm_l (wm_r (wm_i 15 rfl))))) (wm_l (wm_l (wm_l (wm_l (wm_l (wm_i 2 rfl)))))) ggL_law_X10_kind
theorem ggL_law_X11_kind : GoodIn wsL_law wsX11_kind := goodIn_s (fun _ h => (wm_r (wm_r (wm_r (wm_r (wm_l (wm_l (wm_l (wm_l h))))))))) Gd_X11_kind
theorem gL_law_X11_kind : GoodIn wsL_law (wsV RL 161 RX11 yX11_kind wsX11_kind) := goodIn_V (own := RL) (idx := 161) (C := RX11) (y := yX11_kind) (wm_l (wm_r (wm_l (wm_r (wm_i 16 rfl))))) (wm_l (wm_r (wm_l (wm_r (wm_i 17 rfl))))) (wm_l (wm_r (wm_l (wm_r (wm_i 18 rfl))))) (wm_l (wm_l (wm_l (wm_l (wm_l (wm_i 5 rfl)))))) ggL_law_X11_kind
theorem ggL_law_X10_as : GoodIn wsL_law wsX10_as := goodIn_s (fun _ h => (wm_r (wm_r (wm_r (wm_r (wm_l (wm_l (wm_l (wm_r h))))))))) Gd_X10_as
theorem gL_law_X10_as : GoodIn wsL_law (wsV RL 162 RX10 yX10_as wsX10_as) := goodIn_V (own := RL) (idx := 162) (C := RX10) (y := yX10_as) (wm_l (wm_r (wm_l (wm_r (wm_i 19 rfl))))) (wm_l (wm_r (wm_l (wm_r (wm_i 20 rfl))))) (wm_l (wm_r (wm_l (wm_r (wm_i 21 rfl))))) (wm_l (wm_l (wm_l (wm_l (wm_l (wm_i 2 rfl)))))) ggL_law_X10_as
theorem ggL_law_X11_as : GoodIn wsL_law wsX11_as := goodIn_s (fun _ h => (wm_r (wm_r (wm_r (wm_r (wm_l (wm_l (wm_r h)))))))) Gd_X11_as
theorem gL_law_X11_as : GoodIn wsL_law (wsV RL 165 RX11 yX11_as wsX11_as) := goodIn_V (own := RL) (idx := 165) (C := RX11) (y := yX11_as) (wm_l (wm_r (wm_l (wm_r (wm_i 22 rfl))))) (wm_l (wm_r (wm_l (wm_r (wm_i 23 rfl))))) (wm_l (wm_r (wm_r (wm_l (wm_i 0 rfl))))) (wm_l (wm_l (wm_l (wm_l (wm_l (wm_i 5 rfl)))))) ggL_law_X11_as
theorem ggL_law_X10_ask : GoodIn wsL_law wsX10_ask := goodIn_s (fun _ h => (wm_r (wm_r (wm_r (wm_r (wm_l (wm_r (wm_l (wm_l h))))))))) Gd_X10_ask
theorem gL_law_X10_ask : GoodIn wsL_law (wsV RL 166 RX10 yX10_ask wsX10_ask) := goodIn_V (own := RL) (idx := 166) (C := RX10) (y := yX10_ask) (wm_l (wm_r (wm_r (wm_l (wm_i 1 rfl))))) (wm_l (wm_r (wm_r (wm_l (wm_i 2 rfl))))) (wm_l (wm_r (wm_r (wm_l (wm_i 3 rfl))))) (wm_l (wm_l (wm_l (wm_l (wm_l (wm_i 2 rfl)))))) ggL_law_X10_ask
theorem ggL_law_X11_ask : GoodIn wsL_law wsX11_ask := goodIn_s (fun _ h => (wm_r (wm_r (wm_r (wm_r (wm_l (wm_r (wm_l (wm_r h))))))))) Gd_X11_ask
theorem gL_law_X11_ask : GoodIn wsL_law (wsV RL 169 RX11 yX11_ask wsX11_ask) := goodIn_V (own := RL) (idx := 169) (C := RX11) (y := yX11_ask) (wm_l (wm_r (wm_r (wm_l (wm_i 4 rfl))))) (wm_l (wm_r (wm_r (wm_l (wm_i 5 rfl))))) (wm_l (wm_r (wm_r (wm_l (wm_i 6 rfl))))) (wm_l (wm_l (wm_l (wm_l (wm_l (wm_i 5 rfl)))))) ggL_law_X11_ask
theorem ggL_law_X10_trace : GoodIn wsL_law wsX10_trace := goodIn_s (fun _ h => (wm_r (wm_r (wm_r (wm_r (wm_l (wm_r (wm_r h)))))))) Gd_X10_trace
theorem gL_law_X10_trace : GoodIn wsL_law (wsV RL 170 RX10 yX10_trace wsX10_trace) := goodIn_V (own := RL) (idx := 170) (C := RX10) (y := yX10_trace) (wm_l (wm_r (wm_r (wm_l (wm_i 7 rfl))))) (wm_l (wm_r (wm_r (wm_l (wm_i 8 rfl))))) (wm_l (wm_r (wm_r (wm_l (wm_i 9 rfl))))) (wm_l (wm_l (wm_l (wm_l (wm_l (wm_i 2 rfl)))))) ggL_law_X10_trace
theorem ggL_law_X11_trace : GoodIn wsL_law wsX11_trace := goodIn_s (fun _ h => (wm_r (wm_r (wm_r (wm_r (wm_r (wm_l (wm_l (wm_l h))))))))) Gd_X11_trace
theorem gL_law_X11_trace : GoodIn wsL_law (wsV RL 173 RX11 yX11_trace wsX11_trace) := goodIn_V (own := RL) (idx := 173) (C := RX11) (y := yX11_trace) (wm_l (wm_r (wm_r (wm_l (wm_i 10 rfl))))) (wm_l (wm_r (wm_r (wm_l (wm_i 11 rfl))))) (wm_l (wm_r (wm_r (wm_l (wm_i 12 rfl))))) (wm_l (wm_l (wm_l (wm_l (wm_l (wm_i 5 rfl)))))) ggL_law_X11_trace
theorem sB_63 : dqA cL_law 1512 sL_63 := dq_next sB_62 24 rfl
theorem sB_64 : dqA cL_law 1536 sL_64 := dq_next sB_63 24 rfl
theorem sB_65 : dqA cL_law 1560 sL_65 := dq_next sB_64 24 rfl
theorem sB_66 : dqA cL_law 1584 sL_66 := dq_next sB_65 24 rfl
theorem sB_67 : dqA cL_law 1608 sL_67 := dq_next sB_66 24 rfl
theorem dL_law_1504 : decode cL_law 1504 = .ok (.aload_n 1, 1) := dL_law_all93.2.2.2.2.2.2.2.2.2.2.1
theorem dL_law_1505 : decode cL_law 1505 = .ok (.aload_n 0, 1) := dL_law_all93.2.2.2.2.2.2.2.2.2.2.2
theorem dL_law_all94 : decode cL_law 1506 = .ok (.iload_n 3, 1) ∧ decode cL_law 1507 = .ok (.iconst 1, 1) ∧ decode cL_law 1508 = .ok (.iadd, 1) ∧ decode cL_law 1509 = .ok (.iaload, 1) ∧ decode cL_law 1510 = .ok (.invokevirtual 158, 3) ∧ decode cL_law 1513 = .ok (.pop, 1) ∧ decode cL_law 1514 = .ok (.aload_n 2, 1) ∧ decode cL_law 1515 = .ok (.aload_n 0, 1) ∧ decode cL_law 1516 = .ok (.iload_n 3, 1) ∧ decode cL_law 1517 = .ok (.iconst 1, 1) ∧ decode cL_law 1518 = .ok (.iadd, 1) ∧ decode cL_law 1519 = .ok (.iaload, 1) := ⟨dq_29 sB_62 18 rfl, dq_4 sB_62 19 rfl, dq_96 sB_62 20 rfl, dq_46 sB_62 21 rfl, dq_182 sB_62 22 rfl 158 (by decide), dq_87 sB_63 1 rfl, dq_44 sB_63 2 rfl, dq_42 sB_63 3 rfl, dq_29 sB_63 4 rfl, dq_4 sB_63 5 rfl, dq_96 sB_63 6 rfl, dq_46 sB_63 7 rfl⟩
theorem dL_law_1506 : decode cL_law 1506 = .ok (.iload_n 3, 1) := dL_law_all94.1
theorem dL_law_1507 : decode cL_law 1507 = .ok (.iconst 1, 1) := dL_law_all94.2.1
theorem dL_law_1508 : decode cL_law 1508 = .ok (.iadd, 1) := dL_law_all94.2.2.1
theorem dL_law_1509 : decode cL_law 1509 = .ok (.iaload, 1) := dL_law_all94.2.2.2.1
theorem dL_law_1510 : decode cL_law 1510 = .ok (.invokevirtual 158, 3) := dL_law_all94.2.2.2.2.1
theorem dL_law_1513 : decode cL_law 1513 = .ok (.pop, 1) := dL_law_all94.2.2.2.2.2.1
theorem dL_law_1514 : decode cL_law 1514 = .ok (.aload_n 2, 1) := dL_law_all94.2.2.2.2.2.2.1
theorem dL_law_1515 : decode cL_law 1515 = .ok (.aload_n 0, 1) := dL_law_all94.2.2.2.2.2.2.2.1
theorem dL_law_1516 : decode cL_law 1516 = .ok (.iload_n 3, 1) := dL_law_all94.2.2.2.2.2.2.2.2.1
theorem dL_law_1517 : decode cL_law 1517 = .ok (.iconst 1, 1) := dL_law_all94.2.2.2.2.2.2.2.2.2.1
theorem dL_law_1518 : decode cL_law 1518 = .ok (.iadd, 1) := dL_law_all94.2.2.2.2.2.2.2.2.2.2.1
theorem dL_law_1519 : decode cL_law 1519 = .ok (.iaload, 1) := dL_law_all94.2.2.2.2.2.2.2.2.2.2.2
theorem dL_law_all95 : decode cL_law 1520 = .ok (.invokevirtual 161, 3) ∧ decode cL_law 1523 = .ok (.pop, 1) ∧ decode cL_law 1524 = .ok (.goto 128, 3) ∧ decode cL_law 1527 = .ok (.aload_n 1, 1) ∧ decode cL_law 1528 = .ok (.aload_n 0, 1) ∧ decode cL_law 1529 = .ok (.iload_n 3, 1) ∧ decode cL_law 1530 = .ok (.iconst 1, 1) ∧ decode cL_law 1531 = .ok (.iadd, 1) ∧ decode cL_law 1532 = .ok (.iaload, 1) ∧ decode cL_law 1533 = .ok (.aload_n 0, 1) ∧ decode cL_law 1534 = .ok (.iload_n 3, 1) ∧ decode cL_law 1535 = .ok (.iconst 2, 1) := ⟨dq_182 sB_63 8 rfl 161 (by decide), dq_87 sB_63 11 rfl, dq_167 sB_63 12 rfl 128 (by decide), dq_43 sB_63 15 rfl, dq_42 sB_63 16 rfl, dq_29 sB_63 17 rfl, dq_4 sB_63 18 rfl, dq_96 sB_63 19 rfl, dq_46 sB_63 20 rfl, dq_42 sB_63 21 rfl, dq_29 sB_63 22 rfl, dq_5 sB_63 23 rfl⟩
theorem dL_law_1520 : decode cL_law 1520 = .ok (.invokevirtual 161, 3) := dL_law_all95.1
theorem dL_law_1523 : decode cL_law 1523 = .ok (.pop, 1) := dL_law_all95.2.1
theorem dL_law_1524 : decode cL_law 1524 = .ok (.goto 128, 3) := dL_law_all95.2.2.1
theorem dL_law_1527 : decode cL_law 1527 = .ok (.aload_n 1, 1) := dL_law_all95.2.2.2.1
theorem dL_law_1528 : decode cL_law 1528 = .ok (.aload_n 0, 1) := dL_law_all95.2.2.2.2.1
theorem dL_law_1529 : decode cL_law 1529 = .ok (.iload_n 3, 1) := dL_law_all95.2.2.2.2.2.1
theorem dL_law_1530 : decode cL_law 1530 = .ok (.iconst 1, 1) := dL_law_all95.2.2.2.2.2.2.1
theorem dL_law_1531 : decode cL_law 1531 = .ok (.iadd, 1) := dL_law_all95.2.2.2.2.2.2.2.1
theorem dL_law_1532 : decode cL_law 1532 = .ok (.iaload, 1) := dL_law_all95.2.2.2.2.2.2.2.2.1
theorem dL_law_1533 : decode cL_law 1533 = .ok (.aload_n 0, 1) := dL_law_all95.2.2.2.2.2.2.2.2.2.1
theorem dL_law_1534 : decode cL_law 1534 = .ok (.iload_n 3, 1) := dL_law_all95.2.2.2.2.2.2.2.2.2.2.1
theorem dL_law_1535 : decode cL_law 1535 = .ok (.iconst 2, 1) := dL_law_all95.2.2.2.2.2.2.2.2.2.2.2
theorem dL_law_all96 : decode cL_law 1536 = .ok (.iadd, 1) ∧ decode cL_law 1537 = .ok (.iaload, 1) ∧ decode cL_law 1538 = .ok (.invokevirtual 162, 3) ∧ decode cL_law 1541 = .ok (.pop, 1) ∧ decode cL_law 1542 = .ok (.aload_n 2, 1) ∧ decode cL_law 1543 = .ok (.aload_n 0, 1) ∧ decode cL_law 1544 = .ok (.iload_n 3, 1) ∧ decode cL_law 1545 = .ok (.iconst 1, 1) ∧ decode cL_law 1546 = .ok (.iadd, 1) ∧ decode cL_law 1547 = .ok (.iaload, 1) ∧ decode cL_law 1548 = .ok (.aload_n 0, 1) ∧ decode cL_law 1549 = .ok (.iload_n 3, 1) := ⟨dq_96 sB_64 0 rfl, dq_46 sB_64 1 rfl, dq_182 sB_64 2 rfl 162 (by decide), dq_87 sB_64 5 rfl, dq_44 sB_64 6 rfl, dq_42 sB_64 7 rfl, dq_29 sB_64 8 rfl, dq_4 sB_64 9 rfl, dq_96 sB_64 10 rfl, dq_46 sB_64 11 rfl, dq_42 sB_64 12 rfl, dq_29 sB_64 13 rfl⟩
theorem dL_law_1536 : decode cL_law 1536 = .ok (.iadd, 1) := dL_law_all96.1
theorem dL_law_1537 : decode cL_law 1537 = .ok (.iaload, 1) := dL_law_all96.2.1
theorem dL_law_1538 : decode cL_law 1538 = .ok (.invokevirtual 162, 3) := dL_law_all96.2.2.1
theorem dL_law_1541 : decode cL_law 1541 = .ok (.pop, 1) := dL_law_all96.2.2.2.1
theorem dL_law_1542 : decode cL_law 1542 = .ok (.aload_n 2, 1) := dL_law_all96.2.2.2.2.1
theorem dL_law_1543 : decode cL_law 1543 = .ok (.aload_n 0, 1) := dL_law_all96.2.2.2.2.2.1
theorem dL_law_1544 : decode cL_law 1544 = .ok (.iload_n 3, 1) := dL_law_all96.2.2.2.2.2.2.1
theorem dL_law_1545 : decode cL_law 1545 = .ok (.iconst 1, 1) := dL_law_all96.2.2.2.2.2.2.2.1
theorem dL_law_1546 : decode cL_law 1546 = .ok (.iadd, 1) := dL_law_all96.2.2.2.2.2.2.2.2.1
theorem dL_law_1547 : decode cL_law 1547 = .ok (.iaload, 1) := dL_law_all96.2.2.2.2.2.2.2.2.2.1
theorem dL_law_1548 : decode cL_law 1548 = .ok (.aload_n 0, 1) := dL_law_all96.2.2.2.2.2.2.2.2.2.2.1
theorem dL_law_1549 : decode cL_law 1549 = .ok (.iload_n 3, 1) := dL_law_all96.2.2.2.2.2.2.2.2.2.2.2
theorem dL_law_all97 : decode cL_law 1550 = .ok (.iconst 2, 1) ∧ decode cL_law 1551 = .ok (.iadd, 1) ∧ decode cL_law 1552 = .ok (.iaload, 1) ∧ decode cL_law 1553 = .ok (.invokevirtual 165, 3) ∧ decode cL_law 1556 = .ok (.pop, 1) ∧ decode cL_law 1557 = .ok (.goto 95, 3) ∧ decode cL_law 1560 = .ok (.aload_n 1, 1) ∧ decode cL_law 1561 = .ok (.aload_n 0, 1) ∧ decode cL_law 1562 = .ok (.iload_n 3, 1) ∧ decode cL_law 1563 = .ok (.iconst 1, 1) ∧ decode cL_law 1564 = .ok (.iadd, 1) ∧ decode cL_law 1565 = .ok (.iaload, 1) := ⟨dq_5 sB_64 14 rfl, dq_96 sB_64 15 rfl, dq_46 sB_64 16 rfl, dq_182 sB_64 17 rfl 165 (by decide), dq_87 sB_64 20 rfl, dq_167 sB_64 21 rfl 95 (by decide), dq_43 sB_65 0 rfl, dq_42 sB_65 1 rfl, dq_29 sB_65 2 rfl, dq_4 sB_65 3 rfl, dq_96 sB_65 4 rfl, dq_46 sB_65 5 rfl⟩
theorem dL_law_1550 : decode cL_law 1550 = .ok (.iconst 2, 1) := dL_law_all97.1
theorem dL_law_1551 : decode cL_law 1551 = .ok (.iadd, 1) := dL_law_all97.2.1
theorem dL_law_1552 : decode cL_law 1552 = .ok (.iaload, 1) := dL_law_all97.2.2.1
theorem dL_law_1553 : decode cL_law 1553 = .ok (.invokevirtual 165, 3) := dL_law_all97.2.2.2.1
theorem dL_law_1556 : decode cL_law 1556 = .ok (.pop, 1) := dL_law_all97.2.2.2.2.1
theorem dL_law_1557 : decode cL_law 1557 = .ok (.goto 95, 3) := dL_law_all97.2.2.2.2.2.1
theorem dL_law_1560 : decode cL_law 1560 = .ok (.aload_n 1, 1) := dL_law_all97.2.2.2.2.2.2.1
theorem dL_law_1561 : decode cL_law 1561 = .ok (.aload_n 0, 1) := dL_law_all97.2.2.2.2.2.2.2.1
theorem dL_law_1562 : decode cL_law 1562 = .ok (.iload_n 3, 1) := dL_law_all97.2.2.2.2.2.2.2.2.1
theorem dL_law_1563 : decode cL_law 1563 = .ok (.iconst 1, 1) := dL_law_all97.2.2.2.2.2.2.2.2.2.1
theorem dL_law_1564 : decode cL_law 1564 = .ok (.iadd, 1) := dL_law_all97.2.2.2.2.2.2.2.2.2.2.1
theorem dL_law_1565 : decode cL_law 1565 = .ok (.iaload, 1) := dL_law_all97.2.2.2.2.2.2.2.2.2.2.2
theorem dL_law_all98 : decode cL_law 1566 = .ok (.aload_n 0, 1) ∧ decode cL_law 1567 = .ok (.iload_n 3, 1) ∧ decode cL_law 1568 = .ok (.iconst 2, 1) ∧ decode cL_law 1569 = .ok (.iadd, 1) ∧ decode cL_law 1570 = .ok (.iaload, 1) ∧ decode cL_law 1571 = .ok (.invokevirtual 166, 3) ∧ decode cL_law 1574 = .ok (.pop, 1) ∧ decode cL_law 1575 = .ok (.aload_n 2, 1) ∧ decode cL_law 1576 = .ok (.aload_n 0, 1) ∧ decode cL_law 1577 = .ok (.iload_n 3, 1) ∧ decode cL_law 1578 = .ok (.iconst 1, 1) ∧ decode cL_law 1579 = .ok (.iadd, 1) := ⟨dq_42 sB_65 6 rfl, dq_29 sB_65 7 rfl, dq_5 sB_65 8 rfl, dq_96 sB_65 9 rfl, dq_46 sB_65 10 rfl, dq_182 sB_65 11 rfl 166 (by decide), dq_87 sB_65 14 rfl, dq_44 sB_65 15 rfl, dq_42 sB_65 16 rfl, dq_29 sB_65 17 rfl, dq_4 sB_65 18 rfl, dq_96 sB_65 19 rfl⟩
theorem dL_law_1566 : decode cL_law 1566 = .ok (.aload_n 0, 1) := dL_law_all98.1
theorem dL_law_1567 : decode cL_law 1567 = .ok (.iload_n 3, 1) := dL_law_all98.2.1
theorem dL_law_1568 : decode cL_law 1568 = .ok (.iconst 2, 1) := dL_law_all98.2.2.1
theorem dL_law_1569 : decode cL_law 1569 = .ok (.iadd, 1) := dL_law_all98.2.2.2.1
theorem dL_law_1570 : decode cL_law 1570 = .ok (.iaload, 1) := dL_law_all98.2.2.2.2.1
theorem dL_law_1571 : decode cL_law 1571 = .ok (.invokevirtual 166, 3) := dL_law_all98.2.2.2.2.2.1
theorem dL_law_1574 : decode cL_law 1574 = .ok (.pop, 1) := dL_law_all98.2.2.2.2.2.2.1
theorem dL_law_1575 : decode cL_law 1575 = .ok (.aload_n 2, 1) := dL_law_all98.2.2.2.2.2.2.2.1
theorem dL_law_1576 : decode cL_law 1576 = .ok (.aload_n 0, 1) := dL_law_all98.2.2.2.2.2.2.2.2.1
theorem dL_law_1577 : decode cL_law 1577 = .ok (.iload_n 3, 1) := dL_law_all98.2.2.2.2.2.2.2.2.2.1
theorem dL_law_1578 : decode cL_law 1578 = .ok (.iconst 1, 1) := dL_law_all98.2.2.2.2.2.2.2.2.2.2.1
theorem dL_law_1579 : decode cL_law 1579 = .ok (.iadd, 1) := dL_law_all98.2.2.2.2.2.2.2.2.2.2.2
theorem dL_law_all99 : decode cL_law 1580 = .ok (.iaload, 1) ∧ decode cL_law 1581 = .ok (.aload_n 0, 1) ∧ decode cL_law 1582 = .ok (.iload_n 3, 1) ∧ decode cL_law 1583 = .ok (.iconst 2, 1) ∧ decode cL_law 1584 = .ok (.iadd, 1) ∧ decode cL_law 1585 = .ok (.iaload, 1) ∧ decode cL_law 1586 = .ok (.invokevirtual 169, 3) ∧ decode cL_law 1589 = .ok (.pop, 1) ∧ decode cL_law 1590 = .ok (.goto 62, 3) ∧ decode cL_law 1593 = .ok (.aload_n 1, 1) ∧ decode cL_law 1594 = .ok (.aload_n 0, 1) ∧ decode cL_law 1595 = .ok (.iload_n 3, 1) := ⟨dq_46 sB_65 20 rfl, dq_42 sB_65 21 rfl, dq_29 sB_65 22 rfl, dq_5 sB_65 23 rfl, dq_96 sB_66 0 rfl, dq_46 sB_66 1 rfl, dq_182 sB_66 2 rfl 169 (by decide), dq_87 sB_66 5 rfl, dq_167 sB_66 6 rfl 62 (by decide), dq_43 sB_66 9 rfl, dq_42 sB_66 10 rfl, dq_29 sB_66 11 rfl⟩
theorem dL_law_1580 : decode cL_law 1580 = .ok (.iaload, 1) := dL_law_all99.1
theorem dL_law_1581 : decode cL_law 1581 = .ok (.aload_n 0, 1) := dL_law_all99.2.1
theorem dL_law_1582 : decode cL_law 1582 = .ok (.iload_n 3, 1) := dL_law_all99.2.2.1
theorem dL_law_1583 : decode cL_law 1583 = .ok (.iconst 2, 1) := dL_law_all99.2.2.2.1
theorem dL_law_1584 : decode cL_law 1584 = .ok (.iadd, 1) := dL_law_all99.2.2.2.2.1
theorem dL_law_1585 : decode cL_law 1585 = .ok (.iaload, 1) := dL_law_all99.2.2.2.2.2.1
theorem dL_law_1586 : decode cL_law 1586 = .ok (.invokevirtual 169, 3) := dL_law_all99.2.2.2.2.2.2.1
theorem dL_law_1589 : decode cL_law 1589 = .ok (.pop, 1) := dL_law_all99.2.2.2.2.2.2.2.1
theorem dL_law_1590 : decode cL_law 1590 = .ok (.goto 62, 3) := dL_law_all99.2.2.2.2.2.2.2.2.1
theorem dL_law_1593 : decode cL_law 1593 = .ok (.aload_n 1, 1) := dL_law_all99.2.2.2.2.2.2.2.2.2.1
theorem dL_law_1594 : decode cL_law 1594 = .ok (.aload_n 0, 1) := dL_law_all99.2.2.2.2.2.2.2.2.2.2.1
theorem dL_law_1595 : decode cL_law 1595 = .ok (.iload_n 3, 1) := dL_law_all99.2.2.2.2.2.2.2.2.2.2.2
theorem dL_law_all100 : decode cL_law 1596 = .ok (.iconst 1, 1) ∧ decode cL_law 1597 = .ok (.iadd, 1) ∧ decode cL_law 1598 = .ok (.iaload, 1) ∧ decode cL_law 1599 = .ok (.invokevirtual 170, 3) ∧ decode cL_law 1602 = .ok (.pop, 1) ∧ decode cL_law 1603 = .ok (.aload_n 2, 1) ∧ decode cL_law 1604 = .ok (.aload_n 0, 1) ∧ decode cL_law 1605 = .ok (.iload_n 3, 1) ∧ decode cL_law 1606 = .ok (.iconst 1, 1) ∧ decode cL_law 1607 = .ok (.iadd, 1) ∧ decode cL_law 1608 = .ok (.iaload, 1) ∧ decode cL_law 1609 = .ok (.invokevirtual 173, 3) := ⟨dq_4 sB_66 12 rfl, dq_96 sB_66 13 rfl, dq_46 sB_66 14 rfl, dq_182 sB_66 15 rfl 170 (by decide), dq_87 sB_66 18 rfl, dq_44 sB_66 19 rfl, dq_42 sB_66 20 rfl, dq_29 sB_66 21 rfl, dq_4 sB_66 22 rfl, dq_96 sB_66 23 rfl, dq_46 sB_67 0 rfl, dq_182 sB_67 1 rfl 173 (by decide)⟩
theorem dL_law_1596 : decode cL_law 1596 = .ok (.iconst 1, 1) := dL_law_all100.1
theorem dL_law_1597 : decode cL_law 1597 = .ok (.iadd, 1) := dL_law_all100.2.1
theorem dL_law_1598 : decode cL_law 1598 = .ok (.iaload, 1) := dL_law_all100.2.2.1
theorem dL_law_1599 : decode cL_law 1599 = .ok (.invokevirtual 170, 3) := dL_law_all100.2.2.2.1
theorem dL_law_1602 : decode cL_law 1602 = .ok (.pop, 1) := dL_law_all100.2.2.2.2.1
theorem dL_law_1603 : decode cL_law 1603 = .ok (.aload_n 2, 1) := dL_law_all100.2.2.2.2.2.1
theorem dL_law_1604 : decode cL_law 1604 = .ok (.aload_n 0, 1) := dL_law_all100.2.2.2.2.2.2.1
theorem dL_law_1605 : decode cL_law 1605 = .ok (.iload_n 3, 1) := dL_law_all100.2.2.2.2.2.2.2.1
theorem dL_law_1606 : decode cL_law 1606 = .ok (.iconst 1, 1) := dL_law_all100.2.2.2.2.2.2.2.2.1
theorem dL_law_1607 : decode cL_law 1607 = .ok (.iadd, 1) := dL_law_all100.2.2.2.2.2.2.2.2.2.1
theorem dL_law_1608 : decode cL_law 1608 = .ok (.iaload, 1) := dL_law_all100.2.2.2.2.2.2.2.2.2.2.1
theorem dL_law_1609 : decode cL_law 1609 = .ok (.invokevirtual 173, 3) := dL_law_all100.2.2.2.2.2.2.2.2.2.2.2
theorem dL_law_all101 : decode cL_law 1612 = .ok (.pop, 1) ∧ decode cL_law 1613 = .ok (.goto 39, 3) ∧ decode cL_law 1616 = .ok (.aload_n 1, 1) ∧ decode cL_law 1617 = .ok (.aload_n 0, 1) ∧ decode cL_law 1618 = .ok (.iload_n 3, 1) ∧ decode cL_law 1619 = .ok (.iconst 1, 1) ∧ decode cL_law 1620 = .ok (.iadd, 1) ∧ decode cL_law 1621 = .ok (.iaload, 1) ∧ decode cL_law 1622 = .ok (.invokevirtual 174, 3) ∧ decode cL_law 1625 = .ok (.pop, 1) ∧ decode cL_law 1626 = .ok (.aload_n 2, 1) ∧ decode cL_law 1627 = .ok (.aload_n 0, 1) := ⟨dq_87 sB_67 4 rfl, dq_167 sB_67 5 rfl 39 (by decide), dq_43 sB_67 8 rfl, dq_42 sB_67 9 rfl, dq_29 sB_67 10 rfl, dq_4 sB_67 11 rfl, dq_96 sB_67 12 rfl, dq_46 sB_67 13 rfl, dq_182 sB_67 14 rfl 174 (by decide), dq_87 sB_67 17 rfl, dq_44 sB_67 18 rfl, dq_42 sB_67 19 rfl⟩
theorem dL_law_1612 : decode cL_law 1612 = .ok (.pop, 1) := dL_law_all101.1
theorem dL_law_1613 : decode cL_law 1613 = .ok (.goto 39, 3) := dL_law_all101.2.1
set_option maxHeartbeats 4000000 in
set_option maxRecDepth 100000 in
theorem law_case_32 {p : Program} {l : Launch} {e : Env} {s : State} {m : MethodId} {below : List Frame} {meth : Method} {c : Code} {D : va_G} {cI cY cJ cQ : ClassId} {b L aK aV : Nat} {xs : Nat → Int32} {ad rw md : Nat → Nat} {sd i : Int32} {nx : Nat → Int32} {fx rs : Nat → Nat → Int32} {lo : Nat → Int64} {ny : Nat → Int32} {fy : Nat → Nat → Int32} {fl : Nat → Int64} {H : Heap} {locs : List Loc} {ls : Array Slot} (C0 : lawC p s m meth c b L xs D cI cY cJ cQ aK aV) (I : inv nx fx rs ny fy) (hP : va_P D vwCl (wX ad rw sd cI cY cJ cQ nx fx rs lo ++ wM md sd cI cY cJ cQ ny fy fl) H) (hD : va_D (fun q : Nat => s.heap.size ≤ q) (wX ad rw sd cI cY cJ cQ nx fx rs lo ++ wM md sd cI cY cJ cQ ny fy fl)) (hS : va_S (fun q : Nat => s.heap.size ≤ q) s.heap H locs) (hl : lv_has ls 4 [(0, .ref b), (1, .ref (ad 0)), (2, .ref (md 64)), (3, .int i)]) (hi1 : 1 ≤ i.toInt) (hi2 : i.toInt + 5 < L) (kk : ∀ (nx : Nat → Int32) (fx rs : Nat → Nat → Int32) (lo : Nat → Int64) (ny : Nat → Int32) (fy : Nat → Nat → Int32) (fl : Nat → Int64) (H : Heap) (locs : List Loc) (ls : Array Slot), inv nx fx rs ny fy → va_P D vwCl (wX ad rw sd cI cY cJ cQ nx fx rs lo ++ wM md sd cI cY cJ cQ ny fy fl) H → va_D (fun q : Nat => s.heap.size ≤ q) (wX ad rw sd cI cY cJ cQ nx fx rs lo ++ wM md sd cI cY cJ cQ ny fy fl) → va_S (fun q : Nat => s.heap.size ≤ q) s.heap H locs → lv_has ls 4 [(0, .ref b), (1, .ref (ad 0)), (2, .ref (md 64)), (3, .int i)] → W p l e room_1 s m #[Value.ref b] below meth c H locs 107 4890 (lw_Z below #[Value.ref b] s) (F0 m 1652 ls [])) : W p l e room_1 s m #[Value.ref b] below meth c H locs 107 4890 (lw_Z below #[Value.ref b] s) (F0 m 1504 ls []) := by
  obtain ⟨C1, hK, hN, hT, hL⟩ := C0
  obtain ⟨hx, hb, hr, hml, hown, hts0, hX, hbl, hlocks, hgv⟩ := C1
  have hA : ∀ q : Nat, s.heap.size ≤ q → (fun q : Nat => s.heap.size ≤ q) q := fun _ h => h
  have hbA : ¬ (fun q : Nat => s.heap.size ≤ q) b := Nat.not_le.mpr hbl
  have hts : ∀ w ∈ wsL_law, w.before #[Value.ref b] s = true := fun w h => hts0 w (wsL_law_in w h)
  replace hown : s.vm.findClass RL = some m.cls := hown
  replace hb : c.code = cL_law := hb
  have hak1 : vp_in (i + 1) L := law_in hi1 hi2 hL (by decide)
  obtain ⟨xk1, exk1⟩ : ∃ y : Int32, y = xs (i + 1).toNatClampNeg := ⟨_, rfl⟩
  refine inv_el I ?_
  intro Xhna Xhnb XH XD XV XN Xcna Xcnb XF Xpna Xpnb XG XO XW Xgna Xgnb XJ Xlna Xlnb Xdla Xdlb Xana Xanb Xuna Xunb XU Xlca Xlcb Xtna Xtnb XS Mhna Mhnb MH MS Mmlna Mmlnb Mmtna Mmtnb Chn Cho Chc Chp Chs Ccn Cfo Cwo Cpn Cpk Cpf Cpo Cpd Cpe Cgn Cgk Cgs Cgd Cge Can Cak Cah Cay Caz Cun Cuk Cuy Cuw Cum Clc Clp Cla Clb Caw Ciw Cln Ctd Cro Cmtn Cmtr Cmst Csh
  have Tcn := i_eq Ccn
  have Tpn := i_eq Cpn
  have Tgn := i_eq Cgn
  have Tan := i_eq Can
  have Tun := i_eq Cun
  have Tlc := i_eq Clc
  have Tln := i_eq Cln
  have Thn := i_eq Chn
  have MXV : okV (ny 2) (fy 5) := by rw [Chn, Chp]; exact XV
  have MXF : okF (ny 3) (fy 10) := by rw [Ccn, Cfo]; exact XF
  have MXG : okG (ny 4) (fy 14) := by rw [Cpn, Cpo]; exact XG
  refine lv_aload_n hx hb dL_law_1504 rfl (lv_at hl 1 rfl) ?_
  refine law_arg (v := 1) hx hb hX hbl hbA hS (lv_at hl 0 rfl) (lv_at hl 3 rfl) (by decide) hak1 exk1 dL_law_1505 dL_law_1506 dL_law_1507 dL_law_1508 dL_law_1509 ?_
  refine st_iQ (wr := [(aI cI (ad 11) 16 (fx 0)), (aI cI (rw 0) 60 (rs 0)), (aI cI (rw 1) 60 (rs 1)), (aI cI (rw 2) 60 (rs 2)), (aI cI (rw 3) 60 (rs 3)), (aI cI (rw 4) 60 (rs 4)), (aI cI (rw 5) 60 (rs 5)), (aI cI (rw 6) 60 (rs 6)), (aI cI (rw 7) 60 (rs 7)), (oC9 ad ), ((ad 12), .inl (cQ, 8, .inr (.inr (.inr (.inr (fun i => if i < 8 then some (rw i) else none)))))), (aI cI (ad 13) 8 (fx 1)), (aI cI (ad 14) 8 (fx 2)), (aI cI (ad 33) 12 (fx 13)), (aI cI (ad 34) 6 (fx 14)), (aI cI (ad 35) 6 (fx 15)), (aI cI (ad 46) 40 (fx 26)), (oC2 ad (nx 7) (nx 8) (nx 9) (nx 10) (nx 11) (nx 12) (nx 13) (nx 14)), (aI cY (ad 47) 300 (fx 27)), (aI cI (ad 48) 12 (fx 28)), (aI cI (ad 49) 12 (fx 29)), (aI cI (ad 50) 12 (fx 30)), (aI cI (ad 51) 12 (fx 31)), (aI cI (ad 52) 12 (fx 32)), (aI cI (ad 53) 12 (fx 33)), (oC0 ad (nx 15)), (aI cI (ad 54) 60 (fx 34)), (aI cI (ad 55) 60 (fx 35)), (aI cI (ad 56) 60 (fx 36)), (aI cI (ad 57) 60 (fx 37)), (oC5 ad sd), (aJ cJ (ad 58) 12 lo), (oC6 ad (nx 16)), (aI cI (ad 59) 60 (fx 38)), (aI cI (ad 60) 60 (fx 39)), (aI cI (ad 61) 60 (fx 40)), (aI cI (ad 62) 60 (fx 41))]) (va_runV (C := RX10) (As := [.int xk1]) (rest := []) ⟨hx, hb, hml, hown, hts⟩ (ct_X10_kind l D cI cY cJ cQ _ ad (nx 0) (nx 1) (nx 2) (nx 4) (nx 5) (nx 3) (nx 17) (nx 6) (fx 11) (fx 16) (fx 17) (fx 18) (fx 19) (fx 20) (fx 21) (fx 3) (fx 4) (fx 5) (fx 6) (fx 7) (fx 8) (fx 9) (fx 10) (fx 42) (fx 43) (fx 44) (fx 12) (fx 22) (fx 23) (fx 24) (fx 25) xk1 Xcna Xcnb Xpna Xpnb XO Xhna Xhnb XH XV Xlca Xlcb Xgna Xgnb XF XG) (cwV 1 hts gL_law_X10_kind rfl rfl rfl ⟨rfl, cdX10_kind⟩ ⟨Nat.le_of_ble_eq_true rfl, Nat.le_of_ble_eq_true rfl⟩) (cPreV (hP.sub [0, 23, 24, 29, 30, 31, 32, 33, 34, 35, 14, 15, 16, 17, 18, 19, 20, 21, 22, 62, 63, 64, 65, 25, 36, 37, 38, 39, 40] rfl) hK (hD.sub [0, 23, 24, 29, 30, 31, 32, 33, 34, 35, 14, 15, 16, 17, 18, 19, 20, 21, 22, 62, 63, 64, 65, 25, 36, 37, 38, 39, 40] (by decide +kernel) rfl) hN (ci := 10) (q0 := 0) rfl rfl) rfl rfl hl.1 rfl (lv_room (Nat.le_of_ble_eq_true rfl)) dL_law_1510 ⟨Nat.le_of_ble_eq_true rfl, Nat.le_of_ble_eq_true rfl⟩) hP hD hS hA [0, 23, 24, 29, 30, 31, 32, 33, 34, 35, 14, 15, 16, 17, 18, 19, 20, 21, 22, 62, 63, 64, 65, 25, 36, 37, 38, 39, 40] [1, 2, 3, 4, 5, 6, 7, 8, 9, 10, 11, 12, 13, 26, 27, 28, 41, 42, 43, 44, 45, 46, 47, 48, 49, 50, 51, 52, 53, 54, 55, 56, 57, 58, 59, 60, 61] rfl rfl (by decide +kernel) (by decide +kernel) (fun r3 u1 H locs hw2 => ?_)
  clear hP hS
  intro hP _ hS
  obtain ⟨pt_4, ps_5, ha_6, re_7⟩ := u1
  replace hw2 : r3 = sp_kind (nx 4) (nx 5) (nx 3) (nx 17) (nx 6) (nx 1) (fx 11) (fx 12) (fx 16) (fx 17) (fx 18) (fx 19) (fx 20) (fx 21) (fx 3) (fx 4) (fx 5) (fx 6) (fx 42) (fx 43) (fx 44) (fx 22) (fx 23) (fx 25) xk1 := hw2
  refine lv_pop hx hb dL_law_1513 rfl ?_
  have hPx : va_P D vwCl (wX ad rw sd cI cY cJ cQ nx (upR (upR (upR (upR fx 7 pt_4) 8 ps_5) 9 ha_6) 10 re_7) rs lo ++ wM md sd cI cY cJ cQ ny fy fl) H := hP.part [37, 0, 1, 2, 3, 4, 5, 6, 7, 8, 9, 10, 11, 12, 47, 48, 49, 50, 51, 52, 53, 54, 55, 38, 39, 60, 13, 14, 15, 40, 41, 42, 43, 44, 45, 46, 61, 62, 63, 64, 65, 16, 17, 18, 19, 20, 21, 22, 23, 24, 25, 26, 27, 28, 29, 30, 31, 32, 33, 34, 35, 36, 56, 57, 58, 59] rfl
  have hDx : va_D (fun q : Nat => s.heap.size ≤ q) (wX ad rw sd cI cY cJ cQ nx (upR (upR (upR (upR fx 7 pt_4) 8 ps_5) 9 ha_6) 10 re_7) rs lo ++ wM md sd cI cY cJ cQ ny fy fl) := wXM_D hD
  have hP := hPx.comm
  have hD := hDx.comm
  refine lv_aload_n hx hb dL_law_1514 rfl (lv_at hl 2 rfl) ?_
  refine law_arg (v := 1) hx hb hX hbl hbA hS (lv_at hl 0 rfl) (lv_at hl 3 rfl) (by decide) hak1 exk1 dL_law_1515 dL_law_1516 dL_law_1517 dL_law_1518 dL_law_1519 ?_
  refine st_iQ (wr := [(aI cI (md 3) 8 (fy 0)), (aI cI (md 4) 8 (fy 1)), (aI cI (md 5) 480 (fy 2)), (aI cI (md 31) 36 (fy 21)), (aI cI (md 33) 36 (fy 22)), (aI cI (md 34) 300 (fy 23)), (aI cI (md 45) 60 (fy 24)), (aI cI (md 46) 60 (fy 25)), (aI cI (md 47) 60 (fy 26)), (aI cI (md 48) 60 (fy 27)), (aI cI (md 49) 6 (fy 28)), (aI cI (md 50) 6 (fy 29)), (aI cI (md 51) 12 (fy 30)), (aI cI (md 53) 60 (fy 31)), (aI cI (md 54) 60 (fy 32)), (aI cI (md 55) 60 (fy 33)), (aI cI (md 56) 60 (fy 34)), (aI cI (md 62) 16 (fy 38))]) (va_runV (C := RX11) (As := [.int xk1]) (rest := []) ⟨hx, hb, hml, hown, hts⟩ (ct_X11_kind l D cI cY cJ cQ _ md sd (ny 0) (ny 1) (ny 2) (ny 3) (ny 4) (ny 5) (ny 6) (ny 7) (ny 8) (ny 9) (ny 10) (ny 11) (ny 12) (ny 13) (ny 14) (ny 15) (ny 16) (ny 17) (ny 18) (ny 19) (ny 20) (ny 21) (ny 22) (fy 10) (fy 12) (fy 13) (fy 14) (fy 15) (fy 16) (fy 35) (fy 36) (fy 37) (fy 3) (fy 4) (fy 5) (fy 6) (fy 7) (fy 8) (fy 9) (fy 11) (fy 17) (fy 18) (fy 19) (fy 20) fl xk1 (by omega) (by omega) (by omega) (by omega) (by omega) (by omega) Mhna Mhnb (by assumption) (by assumption) (by assumption) (by omega) (by omega)) (cwV 1 hts gL_law_X11_kind rfl rfl rfl ⟨rfl, cdX11_kind⟩ ⟨Nat.le_of_ble_eq_true rfl, Nat.le_of_ble_eq_true rfl⟩) (cPreV (hP.sub [0, 12, 14, 15, 16, 17, 18, 37, 38, 39, 4, 5, 6, 7, 8, 9, 10, 11, 13, 19, 20, 21, 22] rfl) hK (hD.sub [0, 12, 14, 15, 16, 17, 18, 37, 38, 39, 4, 5, 6, 7, 8, 9, 10, 11, 13, 19, 20, 21, 22] (by decide +kernel) rfl) hN (ci := 11) (q0 := 0) rfl rfl) rfl rfl hl.1 rfl (lv_room (Nat.le_of_ble_eq_true rfl)) dL_law_1520 ⟨Nat.le_of_ble_eq_true rfl, Nat.le_of_ble_eq_true rfl⟩) hP hD hS hA [0, 12, 14, 15, 16, 17, 18, 37, 38, 39, 4, 5, 6, 7, 8, 9, 10, 11, 13, 19, 20, 21, 22] [1, 2, 3, 23, 24, 25, 26, 27, 28, 29, 30, 31, 32, 33, 34, 35, 36, 40] rfl rfl (by decide +kernel) (by decide +kernel) (fun r10 u8 H locs hw9 => ?_)
  clear hP hS
  intro hP _ hS
  obtain ⟨mq_11, mh_12, mp_13, mt_14, mf_15⟩ := u8
  replace hw9 : r10 = sm_kind (ny 3) (ny 4) (ny 2) (ny 20) (ny 6) (ny 21) (fy 10) (fy 11) (fy 12) (fy 13) (fy 14) (fy 15) (fy 16) (fy 3) (fy 4) (fy 5) (fy 6) (fy 35) (fy 36) (fy 37) (fy 17) (fy 18) (fy 20) xk1 := hw9
  rw [Ccn, Cpn, Chn, Clc, Cgn, Ctd, Cfo, Cwo, Cpk, Cpf, Cpo, Cpd, Cpe, Cho, Chc, Chp, Chs, Clp, Cla, Clb, Cgk, Cgs, Cge, ← kind_eq (by omega) (by omega) XD XN XV (by omega) (by omega) XO XW] at hw9
  have e90 := hw2.trans hw9.symm
  refine lv_pop hx hb dL_law_1523 rfl ?_
  refine lv_goto (tgt := 1652) hx hb dL_law_1524 (by decide) ?_
  have hPm : va_P D vwCl (wM md sd cI cY cJ cQ (upd (upd ny 0 0) 5 mq_11) (upR (upR (upR fy 7 mh_12) 8 mp_13) 9 mt_14) mf_15 ++ wX ad rw sd cI cY cJ cQ nx (upR (upR (upR (upR fx 7 pt_4) 8 ps_5) 9 ha_6) 10 re_7) rs lo) H := hP.part [18, 0, 1, 2, 28, 29, 30, 31, 32, 33, 34, 35, 19, 36, 20, 21, 22, 23, 24, 37, 38, 39, 40, 3, 4, 5, 6, 7, 8, 9, 10, 11, 12, 13, 14, 15, 16, 25, 26, 27, 17] rfl
  have hDm : va_D (fun q : Nat => s.heap.size ≤ q) (wM md sd cI cY cJ cQ (upd (upd ny 0 0) 5 mq_11) (upR (upR (upR fy 7 mh_12) 8 mp_13) 9 mt_14) mf_15 ++ wX ad rw sd cI cY cJ cQ nx (upR (upR (upR (upR fx 7 pt_4) 8 ps_5) 9 ha_6) 10 re_7) rs lo) := wMX_D hD
  exact kk nx (upR (upR (upR (upR fx 7 pt_4) 8 ps_5) 9 ha_6) 10 re_7) rs lo (upd (upd ny 0 0) 5 mq_11) (upR (upR (upR fy 7 mh_12) 8 mp_13) 9 mt_14) mf_15 H locs ls ⟨Xhna, Xhnb, XH, XD, XV, XN, Xcna, Xcnb, XF, Xpna, Xpnb, XG, XO, XW, Xgna, Xgnb, XJ, Xlna, Xlnb, Xdla, Xdlb, Xana, Xanb, Xuna, Xunb, XU, Xlca, Xlcb, Xtna, Xtnb, XS, Mhna, Mhnb, MH, MS, Mmlna, Mmlnb, Mmtna, Mmtnb, Chn, Cho, Chc, Chp, Chs, Ccn, Cfo, Cwo, Cpn, Cpk, Cpf, Cpo, Cpd, Cpe, Cgn, Cgk, Cgs, Cgd, Cge, Can, Cak, Cah, Cay, Caz, Cun, Cuk, Cuy, Cuw, Cum, Clc, Clp, Cla, Clb, Caw, Ciw, Cln, Ctd, Cro, Cmtn, Cmtr, Cmst, Csh⟩ hPm.comm hDm.comm hS hl

set_option maxHeartbeats 4000000 in
set_option maxRecDepth 100000 in
theorem law_case_33 {p : Program} {l : Launch} {e : Env} {s : State} {m : MethodId} {below : List Frame} {meth : Method} {c : Code} {D : va_G} {cI cY cJ cQ : ClassId} {b L aK aV : Nat} {xs : Nat → Int32} {ad rw md : Nat → Nat} {sd i : Int32} {nx : Nat → Int32} {fx rs : Nat → Nat → Int32} {lo : Nat → Int64} {ny : Nat → Int32} {fy : Nat → Nat → Int32} {fl : Nat → Int64} {H : Heap} {locs : List Loc} {ls : Array Slot} (C0 : lawC p s m meth c b L xs D cI cY cJ cQ aK aV) (I : inv nx fx rs ny fy) (hP : va_P D vwCl (wX ad rw sd cI cY cJ cQ nx fx rs lo ++ wM md sd cI cY cJ cQ ny fy fl) H) (hD : va_D (fun q : Nat => s.heap.size ≤ q) (wX ad rw sd cI cY cJ cQ nx fx rs lo ++ wM md sd cI cY cJ cQ ny fy fl)) (hS : va_S (fun q : Nat => s.heap.size ≤ q) s.heap H locs) (hl : lv_has ls 4 [(0, .ref b), (1, .ref (ad 0)), (2, .ref (md 64)), (3, .int i)]) (hi1 : 1 ≤ i.toInt) (hi2 : i.toInt + 5 < L) (kk : ∀ (nx : Nat → Int32) (fx rs : Nat → Nat → Int32) (lo : Nat → Int64) (ny : Nat → Int32) (fy : Nat → Nat → Int32) (fl : Nat → Int64) (H : Heap) (locs : List Loc) (ls : Array Slot), inv nx fx rs ny fy → va_P D vwCl (wX ad rw sd cI cY cJ cQ nx fx rs lo ++ wM md sd cI cY cJ cQ ny fy fl) H → va_D (fun q : Nat => s.heap.size ≤ q) (wX ad rw sd cI cY cJ cQ nx fx rs lo ++ wM md sd cI cY cJ cQ ny fy fl) → va_S (fun q : Nat => s.heap.size ≤ q) s.heap H locs → lv_has ls 4 [(0, .ref b), (1, .ref (ad 0)), (2, .ref (md 64)), (3, .int i)] → W p l e room_1 s m #[Value.ref b] below meth c H locs 107 4890 (lw_Z below #[Value.ref b] s) (F0 m 1652 ls [])) : W p l e room_1 s m #[Value.ref b] below meth c H locs 107 4890 (lw_Z below #[Value.ref b] s) (F0 m 1527 ls []) := by
  obtain ⟨C1, hK, hN, hT, hL⟩ := C0
  obtain ⟨hx, hb, hr, hml, hown, hts0, hX, hbl, hlocks, hgv⟩ := C1
  have hA : ∀ q : Nat, s.heap.size ≤ q → (fun q : Nat => s.heap.size ≤ q) q := fun _ h => h
  have hbA : ¬ (fun q : Nat => s.heap.size ≤ q) b := Nat.not_le.mpr hbl
  have hts : ∀ w ∈ wsL_law, w.before #[Value.ref b] s = true := fun w h => hts0 w (wsL_law_in w h)
  replace hown : s.vm.findClass RL = some m.cls := hown
  replace hb : c.code = cL_law := hb
  have hak1 : vp_in (i + 1) L := law_in hi1 hi2 hL (by decide)
  obtain ⟨xk1, exk1⟩ : ∃ y : Int32, y = xs (i + 1).toNatClampNeg := ⟨_, rfl⟩
  have hak2 : vp_in (i + 2) L := law_in hi1 hi2 hL (by decide)
  obtain ⟨xk2, exk2⟩ : ∃ y : Int32, y = xs (i + 2).toNatClampNeg := ⟨_, rfl⟩
  refine inv_el I ?_
  intro Xhna Xhnb XH XD XV XN Xcna Xcnb XF Xpna Xpnb XG XO XW Xgna Xgnb XJ Xlna Xlnb Xdla Xdlb Xana Xanb Xuna Xunb XU Xlca Xlcb Xtna Xtnb XS Mhna Mhnb MH MS Mmlna Mmlnb Mmtna Mmtnb Chn Cho Chc Chp Chs Ccn Cfo Cwo Cpn Cpk Cpf Cpo Cpd Cpe Cgn Cgk Cgs Cgd Cge Can Cak Cah Cay Caz Cun Cuk Cuy Cuw Cum Clc Clp Cla Clb Caw Ciw Cln Ctd Cro Cmtn Cmtr Cmst Csh
  have Tcn := i_eq Ccn
  have Tpn := i_eq Cpn
  have Tgn := i_eq Cgn
  have Tan := i_eq Can
  have Tun := i_eq Cun
  have Tlc := i_eq Clc
  have Tln := i_eq Cln
  have Thn := i_eq Chn
  have MXV : okV (ny 2) (fy 5) := by rw [Chn, Chp]; exact XV
  have MXF : okF (ny 3) (fy 10) := by rw [Ccn, Cfo]; exact XF
  have MXG : okG (ny 4) (fy 14) := by rw [Cpn, Cpo]; exact XG
  refine lv_aload_n hx hb dL_law_1527 rfl (lv_at hl 1 rfl) ?_
  refine law_arg (v := 1) hx hb hX hbl hbA hS (lv_at hl 0 rfl) (lv_at hl 3 rfl) (by decide) hak1 exk1 dL_law_1528 dL_law_1529 dL_law_1530 dL_law_1531 dL_law_1532 ?_
  refine law_arg (v := 2) hx hb hX hbl hbA hS (lv_at hl 0 rfl) (lv_at hl 3 rfl) (by decide) hak2 exk2 dL_law_1533 dL_law_1534 dL_law_1535 dL_law_1536 dL_law_1537 ?_
  refine st_iQ (wr := [(aI cI (ad 11) 16 (fx 0)), (aI cI (rw 0) 60 (rs 0)), (aI cI (rw 1) 60 (rs 1)), (aI cI (rw 2) 60 (rs 2)), (aI cI (rw 3) 60 (rs 3)), (aI cI (rw 4) 60 (rs 4)), (aI cI (rw 5) 60 (rs 5)), (aI cI (rw 6) 60 (rs 6)), (aI cI (rw 7) 60 (rs 7)), (oC9 ad ), ((ad 12), .inl (cQ, 8, .inr (.inr (.inr (.inr (fun i => if i < 8 then some (rw i) else none)))))), (aI cI (ad 13) 8 (fx 1)), (aI cI (ad 14) 8 (fx 2)), (aI cI (ad 33) 12 (fx 13)), (aI cI (ad 34) 6 (fx 14)), (aI cI (ad 35) 6 (fx 15)), (aI cI (ad 46) 40 (fx 26)), (oC2 ad (nx 7) (nx 8) (nx 9) (nx 10) (nx 11) (nx 12) (nx 13) (nx 14)), (aI cY (ad 47) 300 (fx 27)), (aI cI (ad 48) 12 (fx 28)), (aI cI (ad 49) 12 (fx 29)), (aI cI (ad 50) 12 (fx 30)), (aI cI (ad 51) 12 (fx 31)), (aI cI (ad 52) 12 (fx 32)), (aI cI (ad 53) 12 (fx 33)), (oC0 ad (nx 15)), (aI cI (ad 54) 60 (fx 34)), (aI cI (ad 55) 60 (fx 35)), (aI cI (ad 56) 60 (fx 36)), (aI cI (ad 57) 60 (fx 37)), (oC5 ad sd), (aJ cJ (ad 58) 12 lo), (oC6 ad (nx 16)), (aI cI (ad 59) 60 (fx 38)), (aI cI (ad 60) 60 (fx 39)), (aI cI (ad 61) 60 (fx 40)), (aI cI (ad 62) 60 (fx 41))]) (va_runV (C := RX10) (As := [.int xk1, .int xk2]) (rest := []) ⟨hx, hb, hml, hown, hts⟩ (ct_X10_as l D cI cY cJ cQ _ ad (nx 0) (nx 1) (nx 2) (nx 4) (nx 5) (nx 3) (nx 17) (nx 6) (fx 11) (fx 16) (fx 17) (fx 18) (fx 19) (fx 20) (fx 21) (fx 3) (fx 4) (fx 5) (fx 6) (fx 7) (fx 8) (fx 9) (fx 10) (fx 42) (fx 43) (fx 44) (fx 12) (fx 22) (fx 23) (fx 24) (fx 25) xk1 xk2 Xcna Xcnb Xpna Xpnb XO Xhna Xhnb XH XV Xlca Xlcb Xgna Xgnb XF XG) (cwV 2 hts gL_law_X10_as rfl rfl rfl ⟨rfl, cdX10_as⟩ ⟨Nat.le_of_ble_eq_true rfl, Nat.le_of_ble_eq_true rfl⟩) (cPreV (hP.sub [0, 23, 24, 29, 30, 31, 32, 33, 34, 35, 14, 15, 16, 17, 18, 19, 20, 21, 22, 62, 63, 64, 65, 25, 36, 37, 38, 39, 40] rfl) hK (hD.sub [0, 23, 24, 29, 30, 31, 32, 33, 34, 35, 14, 15, 16, 17, 18, 19, 20, 21, 22, 62, 63, 64, 65, 25, 36, 37, 38, 39, 40] (by decide +kernel) rfl) hN (ci := 10) (q0 := 0) rfl rfl) rfl rfl hl.1 rfl (lv_room (Nat.le_of_ble_eq_true rfl)) dL_law_1538 ⟨Nat.le_of_ble_eq_true rfl, Nat.le_of_ble_eq_true rfl⟩) hP hD hS hA [0, 23, 24, 29, 30, 31, 32, 33, 34, 35, 14, 15, 16, 17, 18, 19, 20, 21, 22, 62, 63, 64, 65, 25, 36, 37, 38, 39, 40] [1, 2, 3, 4, 5, 6, 7, 8, 9, 10, 11, 12, 13, 26, 27, 28, 41, 42, 43, 44, 45, 46, 47, 48, 49, 50, 51, 52, 53, 54, 55, 56, 57, 58, 59, 60, 61] rfl rfl (by decide +kernel) (by decide +kernel) (fun r3 u1 H locs hw2 => ?_)
  clear hP hS
  intro hP _ hS
  obtain ⟨lf_4, pt_5, ps_6, ha_7, re_8⟩ := u1
  replace hw2 : sp_as (nx 2) (nx 4) (nx 5) (nx 3) (nx 17) (nx 6) (nx 1) (fx 11) (fx 12) (fx 16) (fx 17) (fx 18) (fx 19) (fx 20) (fx 21) (fx 3) (fx 4) (fx 5) (fx 6) (fx 42) (fx 43) (fx 44) (fx 22) (fx 23) (fx 25) xk1 xk2 r3 lf_4 := hw2
  refine lv_pop hx hb dL_law_1541 rfl ?_
  have hPx : va_P D vwCl (wX ad rw sd cI cY cJ cQ (upd nx 2 lf_4) (upR (upR (upR (upR fx 7 pt_5) 8 ps_6) 9 ha_7) 10 re_8) rs lo ++ wM md sd cI cY cJ cQ ny fy fl) H := hP.part [37, 0, 1, 2, 3, 4, 5, 6, 7, 8, 9, 10, 11, 12, 47, 48, 49, 50, 51, 52, 53, 54, 55, 38, 39, 60, 13, 14, 15, 40, 41, 42, 43, 44, 45, 46, 61, 62, 63, 64, 65, 16, 17, 18, 19, 20, 21, 22, 23, 24, 25, 26, 27, 28, 29, 30, 31, 32, 33, 34, 35, 36, 56, 57, 58, 59] rfl
  have hDx : va_D (fun q : Nat => s.heap.size ≤ q) (wX ad rw sd cI cY cJ cQ (upd nx 2 lf_4) (upR (upR (upR (upR fx 7 pt_5) 8 ps_6) 9 ha_7) 10 re_8) rs lo ++ wM md sd cI cY cJ cQ ny fy fl) := wXM_D hD
  have hP := hPx.comm
  have hD := hDx.comm
  refine lv_aload_n hx hb dL_law_1542 rfl (lv_at hl 2 rfl) ?_
  refine law_arg (v := 1) hx hb hX hbl hbA hS (lv_at hl 0 rfl) (lv_at hl 3 rfl) (by decide) hak1 exk1 dL_law_1543 dL_law_1544 dL_law_1545 dL_law_1546 dL_law_1547 ?_
  refine law_arg (v := 2) hx hb hX hbl hbA hS (lv_at hl 0 rfl) (lv_at hl 3 rfl) (by decide) hak2 exk2 dL_law_1548 dL_law_1549 dL_law_1550 dL_law_1551 dL_law_1552 ?_
  refine st_iQ (wr := [(aI cI (md 3) 8 (fy 0)), (aI cI (md 4) 8 (fy 1)), (aI cI (md 5) 480 (fy 2)), (aI cI (md 31) 36 (fy 21)), (aI cI (md 33) 36 (fy 22)), (aI cI (md 34) 300 (fy 23)), (aI cI (md 45) 60 (fy 24)), (aI cI (md 46) 60 (fy 25)), (aI cI (md 47) 60 (fy 26)), (aI cI (md 48) 60 (fy 27)), (aI cI (md 49) 6 (fy 28)), (aI cI (md 50) 6 (fy 29)), (aI cI (md 51) 12 (fy 30)), (aI cI (md 53) 60 (fy 31)), (aI cI (md 54) 60 (fy 32)), (aI cI (md 55) 60 (fy 33)), (aI cI (md 56) 60 (fy 34)), (aI cI (md 62) 16 (fy 38))]) (va_runV (C := RX11) (As := [.int xk1, .int xk2]) (rest := []) ⟨hx, hb, hml, hown, hts⟩ (ct_X11_as l D cI cY cJ cQ _ md sd (ny 0) (ny 1) (ny 2) (ny 3) (ny 4) (ny 5) (ny 6) (ny 7) (ny 8) (ny 9) (ny 10) (ny 11) (ny 12) (ny 13) (ny 14) (ny 15) (ny 16) (ny 17) (ny 18) (ny 19) (ny 20) (ny 21) (ny 22) (fy 10) (fy 12) (fy 13) (fy 14) (fy 15) (fy 16) (fy 35) (fy 36) (fy 37) (fy 3) (fy 4) (fy 5) (fy 6) (fy 7) (fy 8) (fy 9) (fy 11) (fy 17) (fy 18) (fy 19) (fy 20) fl xk1 xk2 (by omega) (by omega) (by omega) (by omega) (by omega) (by omega) Mhna Mhnb (by assumption) (by assumption) (by assumption) (by omega) (by omega)) (cwV 2 hts gL_law_X11_as rfl rfl rfl ⟨rfl, cdX11_as⟩ ⟨Nat.le_of_ble_eq_true rfl, Nat.le_of_ble_eq_true rfl⟩) (cPreV (hP.sub [0, 12, 14, 15, 16, 17, 18, 37, 38, 39, 4, 5, 6, 7, 8, 9, 10, 11, 13, 19, 20, 21, 22] rfl) hK (hD.sub [0, 12, 14, 15, 16, 17, 18, 37, 38, 39, 4, 5, 6, 7, 8, 9, 10, 11, 13, 19, 20, 21, 22] (by decide +kernel) rfl) hN (ci := 11) (q0 := 0) rfl rfl) rfl rfl hl.1 rfl (lv_room (Nat.le_of_ble_eq_true rfl)) dL_law_1553 ⟨Nat.le_of_ble_eq_true rfl, Nat.le_of_ble_eq_true rfl⟩) hP hD hS hA [0, 12, 14, 15, 16, 17, 18, 37, 38, 39, 4, 5, 6, 7, 8, 9, 10, 11, 13, 19, 20, 21, 22] [1, 2, 3, 23, 24, 25, 26, 27, 28, 29, 30, 31, 32, 33, 34, 35, 36, 40] rfl rfl (by decide +kernel) (by decide +kernel) (fun r11 u9 H locs hw10 => ?_)
  clear hP hS
  intro hP _ hS
  obtain ⟨mst_12, mq_13, mh_14, mp_15, mt_16, mf_17⟩ := u9
  replace hw10 : sm_as (ny 1) (ny 3) (ny 4) (ny 2) (ny 20) (ny 6) (ny 21) (fy 10) (fy 11) (fy 12) (fy 13) (fy 14) (fy 15) (fy 16) (fy 3) (fy 4) (fy 5) (fy 6) (fy 35) (fy 36) (fy 37) (fy 17) (fy 18) (fy 20) xk1 xk2 r11 mst_12 := hw10
  rw [Cmst, Ccn, Cpn, Chn, Clc, Cgn, Ctd, Cfo, Cwo, Cpk, Cpf, Cpo, Cpd, Cpe, Cho, Chc, Chp, Chs, Clp, Cla, Clb, Cgk, Cgs, Cge] at hw10
  obtain ⟨e90, e9st⟩ := as_eq (by omega) (by omega) XD XN XV (by omega) (by omega) XO XW hw2 hw10
  refine lv_pop hx hb dL_law_1556 rfl ?_
  refine lv_goto (tgt := 1652) hx hb dL_law_1557 (by decide) ?_
  have hPm : va_P D vwCl (wM md sd cI cY cJ cQ (upd (upd (upd ny 0 0) 1 mst_12) 5 mq_13) (upR (upR (upR fy 7 mh_14) 8 mp_15) 9 mt_16) mf_17 ++ wX ad rw sd cI cY cJ cQ (upd nx 2 lf_4) (upR (upR (upR (upR fx 7 pt_5) 8 ps_6) 9 ha_7) 10 re_8) rs lo) H := hP.part [18, 0, 1, 2, 28, 29, 30, 31, 32, 33, 34, 35, 19, 36, 20, 21, 22, 23, 24, 37, 38, 39, 40, 3, 4, 5, 6, 7, 8, 9, 10, 11, 12, 13, 14, 15, 16, 25, 26, 27, 17] rfl
  have hDm : va_D (fun q : Nat => s.heap.size ≤ q) (wM md sd cI cY cJ cQ (upd (upd (upd ny 0 0) 1 mst_12) 5 mq_13) (upR (upR (upR fy 7 mh_14) 8 mp_15) 9 mt_16) mf_17 ++ wX ad rw sd cI cY cJ cQ (upd nx 2 lf_4) (upR (upR (upR (upR fx 7 pt_5) 8 ps_6) 9 ha_7) 10 re_8) rs lo) := wMX_D hD
  exact kk (upd nx 2 lf_4) (upR (upR (upR (upR fx 7 pt_5) 8 ps_6) 9 ha_7) 10 re_8) rs lo (upd (upd (upd ny 0 0) 1 mst_12) 5 mq_13) (upR (upR (upR fy 7 mh_14) 8 mp_15) 9 mt_16) mf_17 H locs ls ⟨Xhna, Xhnb, XH, XD, XV, XN, Xcna, Xcnb, XF, Xpna, Xpnb, XG, XO, XW, Xgna, Xgnb, XJ, Xlna, Xlnb, Xdla, Xdlb, Xana, Xanb, Xuna, Xunb, XU, Xlca, Xlcb, Xtna, Xtnb, XS, Mhna, Mhnb, MH, MS, Mmlna, Mmlnb, Mmtna, Mmtnb, Chn, Cho, Chc, Chp, Chs, Ccn, Cfo, Cwo, Cpn, Cpk, Cpf, Cpo, Cpd, Cpe, Cgn, Cgk, Cgs, Cgd, Cge, Can, Cak, Cah, Cay, Caz, Cun, Cuk, Cuy, Cuw, Cum, Clc, Clp, Cla, Clb, Caw, Ciw, Cln, Ctd, Cro, Cmtn, Cmtr, (show (mst_12) = (lf_4) from e9st), Csh⟩ hPm.comm hDm.comm hS hl

set_option maxHeartbeats 4000000 in
set_option maxRecDepth 100000 in
theorem law_case_34 {p : Program} {l : Launch} {e : Env} {s : State} {m : MethodId} {below : List Frame} {meth : Method} {c : Code} {D : va_G} {cI cY cJ cQ : ClassId} {b L aK aV : Nat} {xs : Nat → Int32} {ad rw md : Nat → Nat} {sd i : Int32} {nx : Nat → Int32} {fx rs : Nat → Nat → Int32} {lo : Nat → Int64} {ny : Nat → Int32} {fy : Nat → Nat → Int32} {fl : Nat → Int64} {H : Heap} {locs : List Loc} {ls : Array Slot} (C0 : lawC p s m meth c b L xs D cI cY cJ cQ aK aV) (I : inv nx fx rs ny fy) (hP : va_P D vwCl (wX ad rw sd cI cY cJ cQ nx fx rs lo ++ wM md sd cI cY cJ cQ ny fy fl) H) (hD : va_D (fun q : Nat => s.heap.size ≤ q) (wX ad rw sd cI cY cJ cQ nx fx rs lo ++ wM md sd cI cY cJ cQ ny fy fl)) (hS : va_S (fun q : Nat => s.heap.size ≤ q) s.heap H locs) (hl : lv_has ls 4 [(0, .ref b), (1, .ref (ad 0)), (2, .ref (md 64)), (3, .int i)]) (hi1 : 1 ≤ i.toInt) (hi2 : i.toInt + 5 < L) (kk : ∀ (nx : Nat → Int32) (fx rs : Nat → Nat → Int32) (lo : Nat → Int64) (ny : Nat → Int32) (fy : Nat → Nat → Int32) (fl : Nat → Int64) (H : Heap) (locs : List Loc) (ls : Array Slot), inv nx fx rs ny fy → va_P D vwCl (wX ad rw sd cI cY cJ cQ nx fx rs lo ++ wM md sd cI cY cJ cQ ny fy fl) H → va_D (fun q : Nat => s.heap.size ≤ q) (wX ad rw sd cI cY cJ cQ nx fx rs lo ++ wM md sd cI cY cJ cQ ny fy fl) → va_S (fun q : Nat => s.heap.size ≤ q) s.heap H locs → lv_has ls 4 [(0, .ref b), (1, .ref (ad 0)), (2, .ref (md 64)), (3, .int i)] → W p l e room_1 s m #[Value.ref b] below meth c H locs 107 4890 (lw_Z below #[Value.ref b] s) (F0 m 1652 ls [])) : W p l e room_1 s m #[Value.ref b] below meth c H locs 107 4890 (lw_Z below #[Value.ref b] s) (F0 m 1560 ls []) := by
  obtain ⟨C1, hK, hN, hT, hL⟩ := C0
  obtain ⟨hx, hb, hr, hml, hown, hts0, hX, hbl, hlocks, hgv⟩ := C1
  have hA : ∀ q : Nat, s.heap.size ≤ q → (fun q : Nat => s.heap.size ≤ q) q := fun _ h => h
  have hbA : ¬ (fun q : Nat => s.heap.size ≤ q) b := Nat.not_le.mpr hbl
  have hts : ∀ w ∈ wsL_law, w.before #[Value.ref b] s = true := fun w h => hts0 w (wsL_law_in w h)
  replace hown : s.vm.findClass RL = some m.cls := hown
  replace hb : c.code = cL_law := hb
  have hak1 : vp_in (i + 1) L := law_in hi1 hi2 hL (by decide)
  obtain ⟨xk1, exk1⟩ : ∃ y : Int32, y = xs (i + 1).toNatClampNeg := ⟨_, rfl⟩
  have hak2 : vp_in (i + 2) L := law_in hi1 hi2 hL (by decide)
  obtain ⟨xk2, exk2⟩ : ∃ y : Int32, y = xs (i + 2).toNatClampNeg := ⟨_, rfl⟩
  refine inv_el I ?_
  intro Xhna Xhnb XH XD XV XN Xcna Xcnb XF Xpna Xpnb XG XO XW Xgna Xgnb XJ Xlna Xlnb Xdla Xdlb Xana Xanb Xuna Xunb XU Xlca Xlcb Xtna Xtnb XS Mhna Mhnb MH MS Mmlna Mmlnb Mmtna Mmtnb Chn Cho Chc Chp Chs Ccn Cfo Cwo Cpn Cpk Cpf Cpo Cpd Cpe Cgn Cgk Cgs Cgd Cge Can Cak Cah Cay Caz Cun Cuk Cuy Cuw Cum Clc Clp Cla Clb Caw Ciw Cln Ctd Cro Cmtn Cmtr Cmst Csh
  have Tcn := i_eq Ccn
  have Tpn := i_eq Cpn
  have Tgn := i_eq Cgn
  have Tan := i_eq Can
  have Tun := i_eq Cun
  have Tlc := i_eq Clc
  have Tln := i_eq Cln
  have Thn := i_eq Chn
  have MXV : okV (ny 2) (fy 5) := by rw [Chn, Chp]; exact XV
  have MXF : okF (ny 3) (fy 10) := by rw [Ccn, Cfo]; exact XF
  have MXG : okG (ny 4) (fy 14) := by rw [Cpn, Cpo]; exact XG
  refine lv_aload_n hx hb dL_law_1560 rfl (lv_at hl 1 rfl) ?_
  refine law_arg (v := 1) hx hb hX hbl hbA hS (lv_at hl 0 rfl) (lv_at hl 3 rfl) (by decide) hak1 exk1 dL_law_1561 dL_law_1562 dL_law_1563 dL_law_1564 dL_law_1565 ?_
  refine law_arg (v := 2) hx hb hX hbl hbA hS (lv_at hl 0 rfl) (lv_at hl 3 rfl) (by decide) hak2 exk2 dL_law_1566 dL_law_1567 dL_law_1568 dL_law_1569 dL_law_1570 ?_
  refine st_iQ (wr := [(aI cI (rw 0) 60 (rs 0)), (aI cI (rw 1) 60 (rs 1)), (aI cI (rw 2) 60 (rs 2)), (aI cI (rw 3) 60 (rs 3)), (aI cI (rw 4) 60 (rs 4)), (aI cI (rw 5) 60 (rs 5)), (aI cI (rw 6) 60 (rs 6)), (aI cI (rw 7) 60 (rs 7)), (oC9 ad ), ((ad 12), .inl (cQ, 8, .inr (.inr (.inr (.inr (fun i => if i < 8 then some (rw i) else none)))))), (aI cI (ad 13) 8 (fx 1)), (aI cI (ad 14) 8 (fx 2)), (aI cI (ad 33) 12 (fx 13)), (aI cI (ad 34) 6 (fx 14)), (aI cI (ad 35) 6 (fx 15)), (aI cI (ad 46) 40 (fx 26)), (oC2 ad (nx 7) (nx 8) (nx 9) (nx 10) (nx 11) (nx 12) (nx 13) (nx 14)), (aI cY (ad 47) 300 (fx 27)), (aI cI (ad 48) 12 (fx 28)), (aI cI (ad 49) 12 (fx 29)), (aI cI (ad 50) 12 (fx 30)), (aI cI (ad 51) 12 (fx 31)), (aI cI (ad 52) 12 (fx 32)), (aI cI (ad 53) 12 (fx 33)), (oC0 ad (nx 15)), (aI cI (ad 54) 60 (fx 34)), (aI cI (ad 55) 60 (fx 35)), (aI cI (ad 56) 60 (fx 36)), (aI cI (ad 57) 60 (fx 37)), (oC5 ad sd), (aJ cJ (ad 58) 12 lo), (oC6 ad (nx 16)), (aI cI (ad 59) 60 (fx 38)), (aI cI (ad 60) 60 (fx 39)), (aI cI (ad 61) 60 (fx 40)), (aI cI (ad 62) 60 (fx 41))]) (va_runV (C := RX10) (As := [.int xk1, .int xk2]) (rest := []) ⟨hx, hb, hml, hown, hts⟩ (ct_X10_ask l D cI cY cJ cQ _ ad (nx 0) (nx 1) (nx 2) (nx 4) (nx 5) (nx 3) (nx 17) (nx 6) (fx 11) (fx 16) (fx 17) (fx 18) (fx 19) (fx 20) (fx 21) (fx 3) (fx 4) (fx 5) (fx 6) (fx 7) (fx 8) (fx 9) (fx 10) (fx 42) (fx 43) (fx 44) (fx 12) (fx 22) (fx 23) (fx 24) (fx 25) (fx 0) xk1 xk2 Xcna Xcnb Xpna Xpnb XO Xhna Xhnb XH XV Xlca Xlcb Xgna Xgnb XF XG Xtna Xtnb) (cwV 2 hts gL_law_X10_ask rfl rfl rfl ⟨rfl, cdX10_ask⟩ ⟨Nat.le_of_ble_eq_true rfl, Nat.le_of_ble_eq_true rfl⟩) (cPreV (hP.sub [0, 23, 24, 29, 30, 31, 32, 33, 34, 35, 14, 15, 16, 17, 18, 19, 20, 21, 22, 62, 63, 64, 65, 25, 36, 37, 38, 39, 40, 1] rfl) hK (hD.sub [0, 23, 24, 29, 30, 31, 32, 33, 34, 35, 14, 15, 16, 17, 18, 19, 20, 21, 22, 62, 63, 64, 65, 25, 36, 37, 38, 39, 40, 1] (by decide +kernel) rfl) hN (ci := 10) (q0 := 0) rfl rfl) rfl rfl hl.1 rfl (lv_room (Nat.le_of_ble_eq_true rfl)) dL_law_1571 ⟨Nat.le_of_ble_eq_true rfl, Nat.le_of_ble_eq_true rfl⟩) hP hD hS hA [0, 23, 24, 29, 30, 31, 32, 33, 34, 35, 14, 15, 16, 17, 18, 19, 20, 21, 22, 62, 63, 64, 65, 25, 36, 37, 38, 39, 40, 1] [2, 3, 4, 5, 6, 7, 8, 9, 10, 11, 12, 13, 26, 27, 28, 41, 42, 43, 44, 45, 46, 47, 48, 49, 50, 51, 52, 53, 54, 55, 56, 57, 58, 59, 60, 61] rfl rfl (by decide +kernel) (by decide +kernel) (fun r3 u1 H locs hw2 => ?_)
  clear hP hS
  intro hP _ hS
  obtain ⟨tn_4, tr_5, pt_6, ps_7, ha_8, re_9⟩ := u1
  replace hw2 : (r3, tn_4, tr_5) = sp_ask (nx 0) (fx 0) (nx 4) (nx 5) (nx 3) (nx 17) (nx 6) (nx 1) (fx 11) (fx 12) (fx 16) (fx 17) (fx 18) (fx 19) (fx 20) (fx 21) (fx 3) (fx 4) (fx 5) (fx 6) (fx 42) (fx 43) (fx 44) (fx 22) (fx 23) (fx 25) xk1 xk2 ∧ 0 ≤ tn_4.toInt ∧ tn_4.toInt ≤ 16 := hw2
  obtain ⟨hw2, hw2a, hw2b⟩ := hw2
  refine lv_pop hx hb dL_law_1574 rfl ?_
  have hPx : va_P D vwCl (wX ad rw sd cI cY cJ cQ (upd nx 0 tn_4) (upR (upR (upR (upR (upR fx 0 tr_5) 7 pt_6) 8 ps_7) 9 ha_8) 10 re_9) rs lo ++ wM md sd cI cY cJ cQ ny fy fl) H := hP.part [36, 65, 0, 1, 2, 3, 4, 5, 6, 7, 8, 9, 10, 11, 46, 47, 48, 49, 50, 51, 52, 53, 54, 37, 38, 59, 12, 13, 14, 39, 40, 41, 42, 43, 44, 45, 60, 61, 62, 63, 64, 15, 16, 17, 18, 19, 20, 21, 22, 23, 24, 25, 26, 27, 28, 29, 30, 31, 32, 33, 34, 35, 55, 56, 57, 58] rfl
  have hDx : va_D (fun q : Nat => s.heap.size ≤ q) (wX ad rw sd cI cY cJ cQ (upd nx 0 tn_4) (upR (upR (upR (upR (upR fx 0 tr_5) 7 pt_6) 8 ps_7) 9 ha_8) 10 re_9) rs lo ++ wM md sd cI cY cJ cQ ny fy fl) := wXM_D hD
  have hP := hPx.comm
  have hD := hDx.comm
  refine lv_aload_n hx hb dL_law_1575 rfl (lv_at hl 2 rfl) ?_
  refine law_arg (v := 1) hx hb hX hbl hbA hS (lv_at hl 0 rfl) (lv_at hl 3 rfl) (by decide) hak1 exk1 dL_law_1576 dL_law_1577 dL_law_1578 dL_law_1579 dL_law_1580 ?_
  refine law_arg (v := 2) hx hb hX hbl hbA hS (lv_at hl 0 rfl) (lv_at hl 3 rfl) (by decide) hak2 exk2 dL_law_1581 dL_law_1582 dL_law_1583 dL_law_1584 dL_law_1585 ?_
  refine st_iQ (wr := [(aI cI (md 3) 8 (fy 0)), (aI cI (md 4) 8 (fy 1)), (aI cI (md 5) 480 (fy 2)), (aI cI (md 31) 36 (fy 21)), (aI cI (md 33) 36 (fy 22)), (aI cI (md 34) 300 (fy 23)), (aI cI (md 45) 60 (fy 24)), (aI cI (md 46) 60 (fy 25)), (aI cI (md 47) 60 (fy 26)), (aI cI (md 48) 60 (fy 27)), (aI cI (md 49) 6 (fy 28)), (aI cI (md 50) 6 (fy 29)), (aI cI (md 51) 12 (fy 30)), (aI cI (md 53) 60 (fy 31)), (aI cI (md 54) 60 (fy 32)), (aI cI (md 55) 60 (fy 33)), (aI cI (md 56) 60 (fy 34))]) (va_runV (C := RX11) (As := [.int xk1, .int xk2]) (rest := []) ⟨hx, hb, hml, hown, hts⟩ (ct_X11_ask l D cI cY cJ cQ _ md sd (ny 0) (ny 1) (ny 2) (ny 3) (ny 4) (ny 5) (ny 6) (ny 7) (ny 8) (ny 9) (ny 10) (ny 11) (ny 12) (ny 13) (ny 14) (ny 15) (ny 16) (ny 17) (ny 18) (ny 19) (ny 20) (ny 21) (ny 22) (fy 10) (fy 12) (fy 13) (fy 14) (fy 15) (fy 16) (fy 35) (fy 36) (fy 37) (fy 3) (fy 4) (fy 5) (fy 6) (fy 7) (fy 8) (fy 9) (fy 11) (fy 17) (fy 18) (fy 19) (fy 20) (fy 38) fl xk1 xk2 (by omega) (by omega) (by omega) (by omega) (by omega) (by omega) Mhna Mhnb (by assumption) (by assumption) (by assumption) (by omega) (by omega) Mmtna Mmtnb) (cwV 2 hts gL_law_X11_ask rfl rfl rfl ⟨rfl, cdX11_ask⟩ ⟨Nat.le_of_ble_eq_true rfl, Nat.le_of_ble_eq_true rfl⟩) (cPreV (hP.sub [0, 12, 14, 15, 16, 17, 18, 37, 38, 39, 4, 5, 6, 7, 8, 9, 10, 11, 13, 19, 20, 21, 22, 40] rfl) hK (hD.sub [0, 12, 14, 15, 16, 17, 18, 37, 38, 39, 4, 5, 6, 7, 8, 9, 10, 11, 13, 19, 20, 21, 22, 40] (by decide +kernel) rfl) hN (ci := 11) (q0 := 0) rfl rfl) rfl rfl hl.1 rfl (lv_room (Nat.le_of_ble_eq_true rfl)) dL_law_1586 ⟨Nat.le_of_ble_eq_true rfl, Nat.le_of_ble_eq_true rfl⟩) hP hD hS hA [0, 12, 14, 15, 16, 17, 18, 37, 38, 39, 4, 5, 6, 7, 8, 9, 10, 11, 13, 19, 20, 21, 22, 40] [1, 2, 3, 23, 24, 25, 26, 27, 28, 29, 30, 31, 32, 33, 34, 35, 36] rfl rfl (by decide +kernel) (by decide +kernel) (fun r12 u10 H locs hw11 => ?_)
  clear hP hS
  intro hP _ hS
  obtain ⟨mtn_13, mtr_14, mq_15, mh_16, mp_17, mt_18, mf_19⟩ := u10
  replace hw11 : (r12, mtn_13, mtr_14) = sm_ask (ny 22) (fy 38) (ny 3) (ny 4) (ny 2) (ny 20) (ny 6) (ny 21) (fy 10) (fy 11) (fy 12) (fy 13) (fy 14) (fy 15) (fy 16) (fy 3) (fy 4) (fy 5) (fy 6) (fy 35) (fy 36) (fy 37) (fy 17) (fy 18) (fy 20) xk1 xk2 ∧ 0 ≤ mtn_13.toInt ∧ mtn_13.toInt ≤ 16 := hw11
  obtain ⟨hw11, hw11a, hw11b⟩ := hw11
  rw [Cmtn, Cmtr, Ccn, Cpn, Chn, Clc, Cgn, Ctd, Cfo, Cwo, Cpk, Cpf, Cpo, Cpd, Cpe, Cho, Chc, Chp, Chs, Clp, Cla, Clb, Cgk, Cgs, Cge, ← ask_eq (by omega) (by omega) XD XN XV (by omega) (by omega) XO XW (by omega) (by omega) XJ] at hw11
  have e9 := hw2.trans hw11.symm
  simp only [Prod.mk.injEq] at e9
  obtain ⟨e90, e9tn, e9tr⟩ := e9
  refine lv_pop hx hb dL_law_1589 rfl ?_
  refine lv_goto (tgt := 1652) hx hb dL_law_1590 (by decide) ?_
  have hPm : va_P D vwCl (wM md sd cI cY cJ cQ (upd (upd (upd ny 0 0) 5 mq_15) 22 mtn_13) (upR (upR (upR (upR fy 7 mh_16) 8 mp_17) 9 mt_18) 38 mtr_14) mf_19 ++ wX ad rw sd cI cY cJ cQ (upd nx 0 tn_4) (upR (upR (upR (upR (upR fx 0 tr_5) 7 pt_6) 8 ps_7) 9 ha_8) 10 re_9) rs lo) H := hP.part [17, 0, 1, 2, 27, 28, 29, 30, 31, 32, 33, 34, 18, 35, 19, 20, 21, 22, 23, 36, 37, 38, 39, 3, 4, 5, 6, 7, 8, 9, 10, 11, 12, 13, 14, 15, 16, 24, 25, 26, 40] rfl
  have hDm : va_D (fun q : Nat => s.heap.size ≤ q) (wM md sd cI cY cJ cQ (upd (upd (upd ny 0 0) 5 mq_15) 22 mtn_13) (upR (upR (upR (upR fy 7 mh_16) 8 mp_17) 9 mt_18) 38 mtr_14) mf_19 ++ wX ad rw sd cI cY cJ cQ (upd nx 0 tn_4) (upR (upR (upR (upR (upR fx 0 tr_5) 7 pt_6) 8 ps_7) 9 ha_8) 10 re_9) rs lo) := wMX_D hD
  exact kk (upd nx 0 tn_4) (upR (upR (upR (upR (upR fx 0 tr_5) 7 pt_6) 8 ps_7) 9 ha_8) 10 re_9) rs lo (upd (upd (upd ny 0 0) 5 mq_15) 22 mtn_13) (upR (upR (upR (upR fy 7 mh_16) 8 mp_17) 9 mt_18) 38 mtr_14) mf_19 H locs ls ⟨Xhna, Xhnb, XH, XD, XV, XN, Xcna, Xcnb, XF, Xpna, Xpnb, XG, XO, XW, Xgna, Xgnb, XJ, Xlna, Xlnb, Xdla, Xdlb, Xana, Xanb, Xuna, Xunb, XU, Xlca, Xlcb, (by show 0 ≤ (tn_4).toInt; omega), (by show (tn_4).toInt ≤ 16; omega), XS, Mhna, Mhnb, MH, MS, Mmlna, Mmlnb, (by show 0 ≤ (mtn_13).toInt; omega), (by show (mtn_13).toInt ≤ 16; omega), Chn, Cho, Chc, Chp, Chs, Ccn, Cfo, Cwo, Cpn, Cpk, Cpf, Cpo, Cpd, Cpe, Cgn, Cgk, Cgs, Cgd, Cge, Can, Cak, Cah, Cay, Caz, Cun, Cuk, Cuy, Cuw, Cum, Clc, Clp, Cla, Clb, Caw, Ciw, Cln, Ctd, Cro, (show (mtn_13) = (tn_4) from e9tn.symm), (show (mtr_14) = (tr_5) from e9tr.symm), Cmst, Csh⟩ hPm.comm hDm.comm hS hl

set_option maxHeartbeats 4000000 in
set_option maxRecDepth 100000 in
theorem law_case_35 {p : Program} {l : Launch} {e : Env} {s : State} {m : MethodId} {below : List Frame} {meth : Method} {c : Code} {D : va_G} {cI cY cJ cQ : ClassId} {b L aK aV : Nat} {xs : Nat → Int32} {ad rw md : Nat → Nat} {sd i : Int32} {nx : Nat → Int32} {fx rs : Nat → Nat → Int32} {lo : Nat → Int64} {ny : Nat → Int32} {fy : Nat → Nat → Int32} {fl : Nat → Int64} {H : Heap} {locs : List Loc} {ls : Array Slot} (C0 : lawC p s m meth c b L xs D cI cY cJ cQ aK aV) (I : inv nx fx rs ny fy) (hP : va_P D vwCl (wX ad rw sd cI cY cJ cQ nx fx rs lo ++ wM md sd cI cY cJ cQ ny fy fl) H) (hD : va_D (fun q : Nat => s.heap.size ≤ q) (wX ad rw sd cI cY cJ cQ nx fx rs lo ++ wM md sd cI cY cJ cQ ny fy fl)) (hS : va_S (fun q : Nat => s.heap.size ≤ q) s.heap H locs) (hl : lv_has ls 4 [(0, .ref b), (1, .ref (ad 0)), (2, .ref (md 64)), (3, .int i)]) (hi1 : 1 ≤ i.toInt) (hi2 : i.toInt + 5 < L) (kk : ∀ (nx : Nat → Int32) (fx rs : Nat → Nat → Int32) (lo : Nat → Int64) (ny : Nat → Int32) (fy : Nat → Nat → Int32) (fl : Nat → Int64) (H : Heap) (locs : List Loc) (ls : Array Slot), inv nx fx rs ny fy → va_P D vwCl (wX ad rw sd cI cY cJ cQ nx fx rs lo ++ wM md sd cI cY cJ cQ ny fy fl) H → va_D (fun q : Nat => s.heap.size ≤ q) (wX ad rw sd cI cY cJ cQ nx fx rs lo ++ wM md sd cI cY cJ cQ ny fy fl) → va_S (fun q : Nat => s.heap.size ≤ q) s.heap H locs → lv_has ls 4 [(0, .ref b), (1, .ref (ad 0)), (2, .ref (md 64)), (3, .int i)] → W p l e room_1 s m #[Value.ref b] below meth c H locs 107 4890 (lw_Z below #[Value.ref b] s) (F0 m 1652 ls [])) : W p l e room_1 s m #[Value.ref b] below meth c H locs 107 4890 (lw_Z below #[Value.ref b] s) (F0 m 1593 ls []) := by
  obtain ⟨C1, hK, hN, hT, hL⟩ := C0
  obtain ⟨hx, hb, hr, hml, hown, hts0, hX, hbl, hlocks, hgv⟩ := C1
  have hA : ∀ q : Nat, s.heap.size ≤ q → (fun q : Nat => s.heap.size ≤ q) q := fun _ h => h
  have hbA : ¬ (fun q : Nat => s.heap.size ≤ q) b := Nat.not_le.mpr hbl
  have hts : ∀ w ∈ wsL_law, w.before #[Value.ref b] s = true := fun w h => hts0 w (wsL_law_in w h)
  replace hown : s.vm.findClass RL = some m.cls := hown
  replace hb : c.code = cL_law := hb
  have hak1 : vp_in (i + 1) L := law_in hi1 hi2 hL (by decide)
  obtain ⟨xk1, exk1⟩ : ∃ y : Int32, y = xs (i + 1).toNatClampNeg := ⟨_, rfl⟩
  refine inv_el I ?_
  intro Xhna Xhnb XH XD XV XN Xcna Xcnb XF Xpna Xpnb XG XO XW Xgna Xgnb XJ Xlna Xlnb Xdla Xdlb Xana Xanb Xuna Xunb XU Xlca Xlcb Xtna Xtnb XS Mhna Mhnb MH MS Mmlna Mmlnb Mmtna Mmtnb Chn Cho Chc Chp Chs Ccn Cfo Cwo Cpn Cpk Cpf Cpo Cpd Cpe Cgn Cgk Cgs Cgd Cge Can Cak Cah Cay Caz Cun Cuk Cuy Cuw Cum Clc Clp Cla Clb Caw Ciw Cln Ctd Cro Cmtn Cmtr Cmst Csh
  have Tcn := i_eq Ccn
  have Tpn := i_eq Cpn
  have Tgn := i_eq Cgn
  have Tan := i_eq Can
  have Tun := i_eq Cun
  have Tlc := i_eq Clc
  have Tln := i_eq Cln
  refine lv_aload_n hx hb dL_law_1593 rfl (lv_at hl 1 rfl) ?_
  refine law_arg (v := 1) hx hb hX hbl hbA hS (lv_at hl 0 rfl) (lv_at hl 3 rfl) (by decide) hak1 exk1 dL_law_1594 dL_law_1595 dL_law_1596 dL_law_1597 dL_law_1598 ?_
  refine st_iU (va_runV (C := RX10) (As := [.int xk1]) (rest := []) ⟨hx, hb, hml, hown, hts⟩ (ct_X10_trace l D cI cY cJ cQ _ ad (nx 0) (nx 1) (nx 2) (fx 0) xk1 Xtna Xtnb) (cwV 1 hts gL_law_X10_trace rfl rfl rfl ⟨rfl, cdX10_trace⟩ ⟨Nat.le_of_ble_eq_true rfl, Nat.le_of_ble_eq_true rfl⟩) (cPreV (hP.sub [0, 1] rfl) hK (hD.sub [0, 1] (by decide +kernel) rfl) hN (ci := 10) (q0 := 0) rfl rfl) rfl rfl hl.1 rfl (lv_room (Nat.le_of_ble_eq_true rfl)) dL_law_1599 ⟨Nat.le_of_ble_eq_true rfl, Nat.le_of_ble_eq_true rfl⟩) hP hD hS hA [0, 1] rfl (fun _ => rfl) (fun r3 u1 H locs hw2 => ?_)
  clear hP hS
  intro hP hS
  replace hw2 : r3 = sp_trace (nx 0) (fx 0) xk1 := hw2
  refine lv_pop hx hb dL_law_1602 rfl ?_
  have hPx : va_P D vwCl (wX ad rw sd cI cY cJ cQ nx fx rs lo ++ wM md sd cI cY cJ cQ ny fy fl) H := hP
  have hDx : va_D (fun q : Nat => s.heap.size ≤ q) (wX ad rw sd cI cY cJ cQ nx fx rs lo ++ wM md sd cI cY cJ cQ ny fy fl) := wXM_D hD
  have hP := hPx.comm
  have hD := hDx.comm
  refine lv_aload_n hx hb dL_law_1603 rfl (lv_at hl 2 rfl) ?_
  refine law_arg (v := 1) hx hb hX hbl hbA hS (lv_at hl 0 rfl) (lv_at hl 3 rfl) (by decide) hak1 exk1 dL_law_1604 dL_law_1605 dL_law_1606 dL_law_1607 dL_law_1608 ?_
  refine st_iU (va_runV (C := RX11) (As := [.int xk1]) (rest := []) ⟨hx, hb, hml, hown, hts⟩ (ct_X11_trace l D cI cY cJ cQ _ md sd (ny 0) (ny 1) (ny 2) (ny 3) (ny 4) (ny 5) (ny 6) (ny 7) (ny 8) (ny 9) (ny 10) (ny 11) (ny 12) (ny 13) (ny 14) (ny 15) (ny 16) (ny 17) (ny 18) (ny 19) (ny 20) (ny 21) (ny 22) (fy 38) xk1 Mmtna Mmtnb) (cwV 1 hts gL_law_X11_trace rfl rfl rfl ⟨rfl, cdX11_trace⟩ ⟨Nat.le_of_ble_eq_true rfl, Nat.le_of_ble_eq_true rfl⟩) (cPreV (hP.sub [0, 40] rfl) hK (hD.sub [0, 40] (by decide +kernel) rfl) hN (ci := 11) (q0 := 0) rfl rfl) rfl rfl hl.1 rfl (lv_room (Nat.le_of_ble_eq_true rfl)) dL_law_1609 ⟨Nat.le_of_ble_eq_true rfl, Nat.le_of_ble_eq_true rfl⟩) hP hD hS hA [0, 40] rfl (fun _ => rfl) (fun r6 u4 H locs hw5 => ?_)
  clear hP hS
  intro hP hS
  replace hw5 : r6 = sp_trace (ny 22) (fy 38) xk1 := hw5
  rw [Cmtn, Cmtr] at hw5
  have e90 := hw2.trans hw5.symm
  refine lv_pop hx hb dL_law_1612 rfl ?_
  refine lv_goto (tgt := 1652) hx hb dL_law_1613 (by decide) ?_
  have hPm : va_P D vwCl (wM md sd cI cY cJ cQ (upd ny 0 0) fy fl ++ wX ad rw sd cI cY cJ cQ nx fx rs lo) H := hP
  have hDm : va_D (fun q : Nat => s.heap.size ≤ q) (wM md sd cI cY cJ cQ (upd ny 0 0) fy fl ++ wX ad rw sd cI cY cJ cQ nx fx rs lo) := wMX_D hD
  exact kk nx fx rs lo (upd ny 0 0) fy fl H locs ls ⟨Xhna, Xhnb, XH, XD, XV, XN, Xcna, Xcnb, XF, Xpna, Xpnb, XG, XO, XW, Xgna, Xgnb, XJ, Xlna, Xlnb, Xdla, Xdlb, Xana, Xanb, Xuna, Xunb, XU, Xlca, Xlcb, Xtna, Xtnb, XS, Mhna, Mhnb, MH, MS, Mmlna, Mmlnb, Mmtna, Mmtnb, Chn, Cho, Chc, Chp, Chs, Ccn, Cfo, Cwo, Cpn, Cpk, Cpf, Cpo, Cpd, Cpe, Cgn, Cgk, Cgs, Cgd, Cge, Can, Cak, Cah, Cay, Caz, Cun, Cuk, Cuy, Cuw, Cum, Clc, Clp, Cla, Clb, Caw, Ciw, Cln, Ctd, Cro, Cmtn, Cmtr, Cmst, Csh⟩ hPm.comm hDm.comm hS hl
