section
theorem cdX10_kind : yX10_kind.cls ≠ "java/lang/invoke/MethodHandle" ∧ yX10_kind.cls ≠ "java/lang/invoke/VarHandle" ∧ (parseMethodDescriptor yX10_kind.desc).map (fun d => d.parameters.length) = some 1 := by decide +kernel
theorem cdX10_as : yX10_as.cls ≠ "java/lang/invoke/MethodHandle" ∧ yX10_as.cls ≠ "java/lang/invoke/VarHandle" ∧ (parseMethodDescriptor yX10_as.desc).map (fun d => d.parameters.length) = some 2 := by decide +kernel
theorem cdX10_ask : yX10_ask.cls ≠ "java/lang/invoke/MethodHandle" ∧ yX10_ask.cls ≠ "java/lang/invoke/VarHandle" ∧ (parseMethodDescriptor yX10_ask.desc).map (fun d => d.parameters.length) = some 2 := by decide +kernel
theorem cdX10_trace : yX10_trace.cls ≠ "java/lang/invoke/MethodHandle" ∧ yX10_trace.cls ≠ "java/lang/invoke/VarHandle" ∧ (parseMethodDescriptor yX10_trace.desc).map (fun d => d.parameters.length) = some 1 := by decide +kernel
theorem cdX11_kind : yX11_kind.cls ≠ "java/lang/invoke/MethodHandle" ∧ yX11_kind.cls ≠ "java/lang/invoke/VarHandle" ∧ (parseMethodDescriptor yX11_kind.desc).map (fun d => d.parameters.length) = some 1 := by decide +kernel
theorem cdX11_as : yX11_as.cls ≠ "java/lang/invoke/MethodHandle" ∧ yX11_as.cls ≠ "java/lang/invoke/VarHandle" ∧ (parseMethodDescriptor yX11_as.desc).map (fun d => d.parameters.length) = some 2 := by decide +kernel
theorem cdX11_ask : yX11_ask.cls ≠ "java/lang/invoke/MethodHandle" ∧ yX11_ask.cls ≠ "java/lang/invoke/VarHandle" ∧ (parseMethodDescriptor yX11_ask.desc).map (fun d => d.parameters.length) = some 2 := by decide +kernel
theorem cdX11_trace : yX11_trace.cls ≠ "java/lang/invoke/MethodHandle" ∧ yX11_trace.cls ≠ "java/lang/invoke/VarHandle" ∧ (parseMethodDescriptor yX11_trace.desc).map (fun d => d.parameters.length) = some 1 := by decide +kernel
theorem Gd_X10_kind : gdA wsX10_kind := gd_cons (by decide +kernel) (gd_app (gd_all (ws := wsX10_kind_o1) (by decide +kernel)) (gd_app (gd_app (gd_app Gd_X100 Gd_X10) (gd_app Gd_X40 Gd_X70)) (gd_app (gd_app Gd_X30 Gd_X80) (gd_app Gd_X10_isCrate Gd_X10_kindToday))))
theorem Gd_X10_as : gdA wsX10_as := gd_cons (by decide +kernel) (gd_app (gd_all (ws := wsX10_as_o1) (by decide +kernel)) (gd_app (gd_app (gd_app (gd_app Gd_X100 Gd_X10) Gd_X40) (gd_app (gd_app Gd_X70 Gd_X30) Gd_X80)) (gd_app (gd_app (gd_app Gd_X10_isCrate Gd_X10_isBelow) Gd_X10_kindToday) (gd_app (gd_app Gd_X10_isOfKind Gd_X10_finding) Gd_X10_passed))))
theorem Gd_X10_ask : gdA wsX10_ask := gd_cons (by decide +kernel) (gd_app (gd_all (ws := wsX10_ask_o1) (by decide +kernel)) (gd_app (gd_app (gd_app (gd_app Gd_X100 Gd_X10) Gd_X40) (gd_app (gd_app Gd_X70 Gd_X30) Gd_X80)) (gd_app (gd_app (gd_app Gd_X10_isCrate Gd_X10_isBelow) Gd_X10_kindToday) (gd_app Gd_X10_askSize Gd_X10_askMark))))
theorem Gd_X10_trace : gdA wsX10_trace := gd_cons (by decide +kernel) (gd_app (gd_all (ws := wsX10_trace_o1) (by decide +kernel)) (gd_app Gd_X100 Gd_X10_isBelow))
theorem Gd_X11_kind : gdA wsX11_kind := gd_cons (by decide +kernel) (gd_app (gd_all (ws := wsX11_kind_o1) (by decide +kernel)) (gd_app (gd_app Gd_X110 Gd_X11_isCrate) Gd_X11_kindOf))
theorem Gd_X11_as : gdA wsX11_as := gd_cons (by decide +kernel) (gd_app (gd_all (ws := wsX11_as_o1) (by decide +kernel)) (gd_app (gd_app (gd_app Gd_X110 Gd_X11_isCrate) Gd_X11_in) (gd_app (gd_app Gd_X11_kindOf Gd_X11_isOf) Gd_X11_found)))
theorem Gd_X11_ask : gdA wsX11_ask := gd_cons (by decide +kernel) (gd_app (gd_all (ws := wsX11_ask_o1) (by decide +kernel)) (gd_app (gd_app (gd_app Gd_X110 Gd_X11_isCrate) Gd_X11_in) (gd_app (gd_app Gd_X11_kindOf Gd_X11_sizeOf) Gd_X11_markOf)))
theorem Gd_X11_trace : gdA wsX11_trace := gd_cons (by decide +kernel) (gd_app (gd_all (ws := wsX11_trace_o1) (by decide +kernel)) (gd_app Gd_X110 Gd_X11_in))
theorem ggL_law_X10_kind : GoodIn wsL_law wsX10_kind := goodIn_s (fun _ h => (wm_r (wm_r (wm_r (wm_l (wm_r (wm_r (wm_r h)))))))) Gd_X10_kind
theorem gL_law_X10_kind : GoodIn wsL_law (wsV RL 158 RX10 yX10_kind wsX10_kind) := goodIn_V (own := RL) (idx := 158) (C := RX10) (y := yX10_kind) (wm_l (wm_r (wm_l (wm_r (wm_i 13 rfl))))) (wm_l (wm_r (wm_l (wm_r (wm_i 14 rfl))))) (wm_l (wm_r (wm_l (wm_r (wm_i 15 rfl))))) (wm_l (wm_l (wm_l (wm_l (wm_l (wm_i 2 rfl)))))) ggL_law_X10_kind
theorem ggL_law_X11_kind : GoodIn wsL_law wsX11_kind := goodIn_s (fun _ h => (wm_r (wm_r (wm_r (wm_r (wm_l (wm_l (wm_l (wm_l h))))))))) Gd_X11_kind
theorem gL_law_X11_kind : GoodIn wsL_law (wsV RL 161 RX11 yX11_kind wsX11_kind) := goodIn_V (own := RL) (idx := 161) (C := RX11) (y := yX11_kind) (wm_l (wm_r (wm_l (wm_r (wm_i 16 rfl))))) (wm_l (wm_r (wm_l (wm_r (wm_i 17 rfl))))) (wm_l (wm_r (wm_l (wm_r (wm_i 18 rfl))))) (wm_l (wm_l (wm_l (wm_l (wm_l (wm_i 5 rfl)))))) ggL_law_X11_kind
theorem ggL_law_X10_as : GoodIn wsL_law wsX10_as := goodIn_s (fun _ h => (wm_r (wm_r (wm_r (wm_r (wm_l (wm_l (wm_l (wm_r h))))))))) Gd_X10_as
theorem gL_law_X10_as : GoodIn wsL_law (wsV RL 162 RX10 yX10_as wsX10_as) := goodIn_V (own := RL) (idx := 162) (C := RX10) (y := yX10_as) (wm_l (wm_r (wm_l (wm_r (wm_i 19 rfl))))) (wm_l (wm_r (wm_l (wm_r (wm_i 20 rfl))))) (wm_l (wm_r (wm_l (wm_r (wm_i 21 rfl))))) (wm_l (wm_l (wm_l (wm_l (wm_l (wm_i 2 rfl)))))) ggL_law_X10_as
theorem ggL_law_X11_as : GoodIn wsL_law wsX11_as := goodIn_s (fun _ h => (wm_r (wm_r (wm_r (wm_r (wm_l (wm_l (wm_r h)))))))) Gd_X11_as
theorem gL_law_X11_as : GoodIn wsL_law (wsV RL 165 RX11 yX11_as wsX11_as) := goodIn_V (own := RL) (idx := 165) (C := RX11) (y := yX11_as) (wm_l (wm_r (wm_l (wm_r (wm_i 22 rfl))))) (wm_l (wm_r (wm_l (wm_r (wm_i 23 rfl))))) (wm_l (wm_r (wm_r (wm_l (wm_i 0 rfl))))) (wm_l (wm_l (wm_l (wm_l (wm_l (wm_i 5 rfl)))))) ggL_law_X11_as
theorem ggL_law_X10_ask : GoodIn wsL_law wsX10_ask := goodIn_s (fun _ h => (wm_r (wm_r (wm_r (wm_r (wm_l (wm_r (wm_l (wm_l h))))))))) Gd_X10_ask
theorem gL_law_X10_ask : GoodIn wsL_law (wsV RL 166 RX10 yX10_ask wsX10_ask) := goodIn_V (own := RL) (idx := 166) (C := RX10) (y := yX10_ask) (wm_l (wm_r (wm_r (wm_l (wm_i 1 rfl))))) (wm_l (wm_r (wm_r (wm_l (wm_i 2 rfl))))) (wm_l (wm_r (wm_r (wm_l (wm_i 3 rfl))))) (wm_l (wm_l (wm_l (wm_l (wm_l (wm_i 2 rfl)))))) ggL_law_X10_ask
theorem ggL_law_X11_ask : GoodIn wsL_law wsX11_ask := goodIn_s (fun _ h => (wm_r (wm_r (wm_r (wm_r (wm_l (wm_r (wm_l (wm_r h))))))))) Gd_X11_ask
theorem gL_law_X11_ask : GoodIn wsL_law (wsV RL 169 RX11 yX11_ask wsX11_ask) := goodIn_V (own := RL) (idx := 169) (C := RX11) (y := yX11_ask) (wm_l (wm_r (wm_r (wm_l (wm_i 4 rfl))))) (wm_l (wm_r (wm_r (wm_l (wm_i 5 rfl))))) (wm_l (wm_r (wm_r (wm_l (wm_i 6 rfl))))) (wm_l (wm_l (wm_l (wm_l (wm_l (wm_i 5 rfl)))))) ggL_law_X11_ask
theorem ggL_law_X10_trace : GoodIn wsL_law wsX10_trace := goodIn_s (fun _ h => (wm_r (wm_r (wm_r (wm_r (wm_l (wm_r (wm_r h)))))))) Gd_X10_trace
theorem gL_law_X10_trace : GoodIn wsL_law (wsV RL 170 RX10 yX10_trace wsX10_trace) := goodIn_V (own := RL) (idx := 170) (C := RX10) (y := yX10_trace) (wm_l (wm_r (wm_r (wm_l (wm_i 7 rfl))))) (wm_l (wm_r (wm_r (wm_l (wm_i 8 rfl))))) (wm_l (wm_r (wm_r (wm_l (wm_i 9 rfl))))) (wm_l (wm_l (wm_l (wm_l (wm_l (wm_i 2 rfl)))))) ggL_law_X10_trace
theorem ggL_law_X11_trace : GoodIn wsL_law wsX11_trace := goodIn_s (fun _ h => (wm_r (wm_r (wm_r (wm_r (wm_r (wm_l (wm_l (wm_l h))))))))) Gd_X11_trace
theorem gL_law_X11_trace : GoodIn wsL_law (wsV RL 173 RX11 yX11_trace wsX11_trace) := goodIn_V (own := RL) (idx := 173) (C := RX11) (y := yX11_trace) (wm_l (wm_r (wm_r (wm_l (wm_i 10 rfl))))) (wm_l (wm_r (wm_r (wm_l (wm_i 11 rfl))))) (wm_l (wm_r (wm_r (wm_l (wm_i 12 rfl))))) (wm_l (wm_l (wm_l (wm_l (wm_l (wm_i 5 rfl)))))) ggL_law_X11_trace
theorem sB_63 : dqA cL_law 1512 sL_63 := dq_next sB_62 24 rfl
theorem sB_64 : dqA cL_law 1536 sL_64 := dq_next sB_63 24 rfl
theorem sB_65 : dqA cL_law 1560 sL_65 := dq_next sB_64 24 rfl
theorem sB_66 : dqA cL_law 1584 sL_66 := dq_next sB_65 24 rfl
theorem sB_67 : dqA cL_law 1608 sL_67 := dq_next sB_66 24 rfl
theorem dL_law_1504 : decode cL_law 1504 = .ok (.aload_n 1, 1) := dL_law_all93.2.2.2.2.2.2.2.2.2.2.1
theorem dL_law_1505 : decode cL_law 1505 = .ok (.aload_n 0, 1) := dL_law_all93.2.2.2.2.2.2.2.2.2.2.2
theorem dL_law_all94 : decode cL_law 1506 = .ok (.iload_n 3, 1) ∧ decode cL_law 1507 = .ok (.iconst 1, 1) ∧ decode cL_law 1508 = .ok (.iadd, 1) ∧ decode cL_law 1509 = .ok (.iaload, 1) ∧ decode cL_law 1510 = .ok (.invokevirtual 158, 3) ∧ decode cL_law 1513 = .ok (.pop, 1) ∧ decode cL_law 1514 = .ok (.aload_n 2, 1) ∧ decode cL_law 1515 = .ok (.aload_n 0, 1) ∧ decode cL_law 1516 = .ok (.iload_n 3, 1) ∧ decode cL_law 1517 = .ok (.iconst 1, 1) ∧ decode cL_law 1518 = .ok (.iadd, 1) ∧ decode cL_law 1519 = .ok (.iaload, 1) := ⟨dq_29 sB_62 18 rfl, dq_4 sB_62 19 rfl, dq_96 sB_62 20 rfl, dq_46 sB_62 21 rfl, dq_182 sB_62 22 rfl 158 (by decide), dq_87 sB_63 1 rfl, dq_44 sB_63 2 rfl, dq_42 sB_63 3 rfl, dq_29 sB_63 4 rfl, dq_4 sB_63 5 rfl, dq_96 sB_63 6 rfl, dq_46 sB_63 7 rfl⟩
theorem dL_law_1506 : decode cL_law 1506 = .ok (.iload_n 3, 1) := dL_law_all94.1
theorem dL_law_1507 : decode cL_law 1507 = .ok (.iconst 1, 1) := dL_law_all94.2.1
theorem dL_law_1508 : decode cL_law 1508 = .ok (.iadd, 1) := dL_law_all94.2.2.1
theorem dL_law_1509 : decode cL_law 1509 = .ok (.iaload, 1) := dL_law_all94.2.2.2.1
theorem dL_law_1510 : decode cL_law 1510 = .ok (.invokevirtual 158, 3) := dL_law_all94.2.2.2.2.1
theorem dL_law_1513 : decode cL_law 1513 = .ok (.pop, 1) := dL_law_all94.2.2.2.2.2.1
theorem dL_law_1514 : decode cL_law 1514 = .ok (.aload_n 2, 1) := dL_law_all94.2.2.2.2.2.2.1
theorem dL_law_1515 : decode cL_law 1515 = .ok (.aload_n 0, 1) := dL_law_all94.2.2.2.2.2.2.2.1
theorem dL_law_1516 : decode cL_law 1516 = .ok (.iload_n 3, 1) := dL_law_all94.2.2.2.2.2.2.2.2.1
theorem dL_law_1517 : decode cL_law 1517 = .ok (.iconst 1, 1) := dL_law_all94.2.2.2.2.2.2.2.2.2.1
theorem dL_law_1518 : decode cL_law 1518 = .ok (.iadd, 1) := dL_law_all94.2.2.2.2.2.2.2.2.2.2.1
theorem dL_law_1519 : decode cL_law 1519 = .ok (.iaload, 1) := dL_law_all94.2.2.2.2.2.2.2.2.2.2.2
theorem dL_law_all95 : decode cL_law 1520 = .ok (.invokevirtual 161, 3) ∧ decode cL_law 1523 = .ok (.pop, 1) ∧ decode cL_law 1524 = .ok (.goto 128, 3) ∧ decode cL_law 1527 = .ok (.aload_n 1, 1) ∧ decode cL_law 1528 = .ok (.aload_n 0, 1) ∧ decode cL_law 1529 = .ok (.iload_n 3, 1) ∧ decode cL_law 1530 = .ok (.iconst 1, 1) ∧ decode cL_law 1531 = .ok (.iadd, 1) ∧ decode cL_law 1532 = .ok (.iaload, 1) ∧ decode cL_law 1533 = .ok (.aload_n 0, 1) ∧ decode cL_law 1534 = .ok (.iload_n 3, 1) ∧ decode cL_law 1535 = .ok (.iconst 2, 1) := ⟨dq_182 sB_63 8 rfl 161 (by decide), dq_87 sB_63 11 rfl, dq_167 sB_63 12 rfl 128 (by decide), dq_43 sB_63 15 rfl, dq_42 sB_63 16 rfl, dq_29 sB_63 17 rfl, dq_4 sB_63 18 rfl, dq_96 sB_63 19 rfl, dq_46 sB_63 20 rfl, dq_42 sB_63 21 rfl, dq_29 sB_63 22 rfl, dq_5 sB_63 23 rfl⟩
theorem dL_law_1520 : decode cL_law 1520 = .ok (.invokevirtual 161, 3) := dL_law_all95.1
theorem dL_law_1523 : decode cL_law 1523 = .ok (.pop, 1) := dL_law_all95.2.1
theorem dL_law_1524 : decode cL_law 1524 = .ok (.goto 128, 3) := dL_law_all95.2.2.1
theorem dL_law_1527 : decode cL_law 1527 = .ok (.aload_n 1, 1) := dL_law_all95.2.2.2.1
theorem dL_law_1528 : decode cL_law 1528 = .ok (.aload_n 0, 1) := dL_law_all95.2.2.2.2.1
theorem dL_law_1529 : decode cL_law 1529 = .ok (.iload_n 3, 1) := dL_law_all95.2.2.2.2.2.1
theorem dL_law_1530 : decode cL_law 1530 = .ok (.iconst 1, 1) := dL_law_all95.2.2.2.2.2.2.1
theorem dL_law_1531 : decode cL_law 1531 = .ok (.iadd, 1) := dL_law_all95.2.2.2.2.2.2.2.1
theorem dL_law_1532 : decode cL_law 1532 = .ok (.iaload, 1) := dL_law_all95.2.2.2.2.2.2.2.2.1
theorem dL_law_1533 : decode cL_law 1533 = .ok (.aload_n 0, 1) := dL_law_all95.2.2.2.2.2.2.2.2.2.1
theorem dL_law_1534 : decode cL_law 1534 = .ok (.iload_n 3, 1) := dL_law_all95.2.2.2.2.2.2.2.2.2.2.1
theorem dL_law_1535 : decode cL_law 1535 = .ok (.iconst 2, 1) := dL_law_all95.2.2.2.2.2.2.2.2.2.2.2
theorem dL_law_all96 : decode cL_law 1536 = .ok (.iadd, 1) ∧ decode cL_law 1537 = .ok (.iaload, 1) ∧ decode cL_law 1538 = .ok (.invokevirtual 162, 3) ∧ decode cL_law 1541 = .ok (.pop, 1) ∧ decode cL_law 1542 = .ok (.aload_n 2, 1) ∧ decode cL_law 1543 = .ok (.aload_n 0, 1) ∧ decode cL_law 1544 = .ok (.iload_n 3, 1) ∧ decode cL_law 1545 = .ok (.iconst 1, 1) ∧ decode cL_law 1546 = .ok (.iadd, 1) ∧ decode cL_law 1547 = .ok (.iaload, 1) ∧ decode cL_law 1548 = .ok (.aload_n 0, 1) ∧ decode cL_law 1549 = .ok (.iload_n 3, 1) := ⟨dq_96 sB_64 0 rfl, dq_46 sB_64 1 rfl, dq_182 sB_64 2 rfl 162 (by decide), dq_87 sB_64 5 rfl, dq_44 sB_64 6 rfl, dq_42 sB_64 7 rfl, dq_29 sB_64 8 rfl, dq_4 sB_64 9 rfl, dq_96 sB_64 10 rfl, dq_46 sB_64 11 rfl, dq_42 sB_64 12 rfl, dq_29 sB_64 13 rfl⟩
theorem dL_law_1536 : decode cL_law 1536 = .ok (.iadd, 1) := dL_law_all96.1
theorem dL_law_1537 : decode cL_law 1537 = .ok (.iaload, 1) := dL_law_all96.2.1
theorem dL_law_1538 : decode cL_law 1538 = .ok (.invokevirtual 162, 3) := dL_law_all96.2.2.1
theorem dL_law_1541 : decode cL_law 1541 = .ok (.pop, 1) := dL_law_all96.2.2.2.1
theorem dL_law_1542 : decode cL_law 1542 = .ok (.aload_n 2, 1) := dL_law_all96.2.2.2.2.1
theorem dL_law_1543 : decode cL_law 1543 = .ok (.aload_n 0, 1) := dL_law_all96.2.2.2.2.2.1
theorem dL_law_1544 : decode cL_law 1544 = .ok (.iload_n 3, 1) := dL_law_all96.2.2.2.2.2.2.1
theorem dL_law_1545 : decode cL_law 1545 = .ok (.iconst 1, 1) := dL_law_all96.2.2.2.2.2.2.2.1
theorem dL_law_1546 : decode cL_law 1546 = .ok (.iadd, 1) := dL_law_all96.2.2.2.2.2.2.2.2.1
theorem dL_law_1547 : decode cL_law 1547 = .ok (.iaload, 1) := dL_law_all96.2.2.2.2.2.2.2.2.2.1
theorem dL_law_1548 : decode cL_law 1548 = .ok (.aload_n 0, 1) := dL_law_all96.2.2.2.2.2.2.2.2.2.2.1
theorem dL_law_1549 : decode cL_law 1549 = .ok (.iload_n 3, 1) := dL_law_all96.2.2.2.2.2.2.2.2.2.2.2
theorem dL_law_all97 : decode cL_law 1550 = .ok (.iconst 2, 1) ∧ decode cL_law 1551 = .ok (.iadd, 1) ∧ decode cL_law 1552 = .ok (.iaload, 1) ∧ decode cL_law 1553 = .ok (.invokevirtual 165, 3) ∧ decode cL_law 1556 = .ok (.pop, 1) ∧ decode cL_law 1557 = .ok (.goto 95, 3) ∧ decode cL_law 1560 = .ok (.aload_n 1, 1) ∧ decode cL_law 1561 = .ok (.aload_n 0, 1) ∧ decode cL_law 1562 = .ok (.iload_n 3, 1) ∧ decode cL_law 1563 = .ok (.iconst 1, 1) ∧ decode cL_law 1564 = .ok (.iadd, 1) ∧ decode cL_law 1565 = .ok (.iaload, 1) := ⟨dq_5 sB_64 14 rfl, dq_96 sB_64 15 rfl, dq_46 sB_64 16 rfl, dq_182 sB_64 17 rfl 165 (by decide), dq_87 sB_64 20 rfl, dq_167 sB_64 21 rfl 95 (by decide), dq_43 sB_65 0 rfl, dq_42 sB_65 1 rfl, dq_29 sB_65 2 rfl, dq_4 sB_65 3 rfl, dq_96 sB_65 4 rfl, dq_46 sB_65 5 rfl⟩
theorem dL_law_1550 : decode cL_law 1550 = .ok (.iconst 2, 1) := dL_law_all97.1
theorem dL_law_1551 : decode cL_law 1551 = .ok (.iadd, 1) := dL_law_all97.2.1
theorem dL_law_1552 : decode cL_law 1552 = .ok (.iaload, 1) := dL_law_all97.2.2.1
theorem dL_law_1553 : decode cL_law 1553 = .ok (.invokevirtual 165, 3) := dL_law_all97.2.2.2.1
theorem dL_law_1556 : decode cL_law 1556 = .ok (.pop, 1) := dL_law_all97.2.2.2.2.1
theorem dL_law_1557 : decode cL_law 1557 = .ok (.goto 95, 3) := dL_law_all97.2.2.2.2.2.1
theorem dL_law_1560 : decode cL_law 1560 = .ok (.aload_n 1, 1) := dL_law_all97.2.2.2.2.2.2.1
theorem dL_law_1561 : decode cL_law 1561 = .ok (.aload_n 0, 1) := dL_law_all97.2.2.2.2.2.2.2.1
theorem dL_law_1562 : decode cL_law 1562 = .ok (.iload_n 3, 1) := dL_law_all97.2.2.2.2.2.2.2.2.1
theorem dL_law_1563 : decode cL_law 1563 = .ok (.iconst 1, 1) := dL_law_all97.2.2.2.2.2.2.2.2.2.1
theorem dL_law_1564 : decode cL_law 1564 = .ok (.iadd, 1) := dL_law_all97.2.2.2.2.2.2.2.2.2.2.1
theorem dL_law_1565 : decode cL_law 1565 = .ok (.iaload, 1) := dL_law_all97.2.2.2.2.2.2.2.2.2.2.2
theorem dL_law_all98 : decode cL_law 1566 = .ok (.aload_n 0, 1) ∧ decode cL_law 1567 = .ok (.iload_n 3, 1) ∧ decode cL_law 1568 = .ok (.iconst 2, 1) ∧ decode cL_law 1569 = .ok (.iadd, 1) ∧ decode cL_law 1570 = .ok (.iaload, 1) ∧ decode cL_law 1571 = .ok (.invokevirtual 166, 3) ∧ decode cL_law 1574 = .ok (.pop, 1) ∧ decode cL_law 1575 = .ok (.aload_n 2, 1) ∧ decode cL_law 1576 = .ok (.aload_n 0, 1) ∧ decode cL_law 1577 = .ok (.iload_n 3, 1) ∧ decode cL_law 1578 = .ok (.iconst 1, 1) ∧ decode cL_law 1579 = .ok (.iadd, 1) := ⟨dq_42 sB_65 6 rfl, dq_29 sB_65 7 rfl, dq_5 sB_65 8 rfl, dq_96 sB_65 9 rfl, dq_46 sB_65 10 rfl, dq_182 sB_65 11 rfl 166 (by decide), dq_87 sB_65 14 rfl, dq_44 sB_65 15 rfl, dq_42 sB_65 16 rfl, dq_29 sB_65 17 rfl, dq_4 sB_65 18 rfl, dq_96 sB_65 19 rfl⟩
theorem dL_law_1566 : decode cL_law 1566 = .ok (.aload_n 0, 1) := dL_law_all98.1
theorem dL_law_1567 : decode cL_law 1567 = .ok (.iload_n 3, 1) := dL_law_all98.2.1
theorem dL_law_1568 : decode cL_law 1568 = .ok (.iconst 2, 1) := dL_law_all98.2.2.1
theorem dL_law_1569 : decode cL_law 1569 = .ok (.iadd, 1) := dL_law_all98.2.2.2.1
theorem dL_law_1570 : decode cL_law 1570 = .ok (.iaload, 1) := dL_law_all98.2.2.2.2.1
theorem dL_law_1571 : decode cL_law 1571 = .ok (.invokevirtual 166, 3) := dL_law_all98.2.2.2.2.2.1
theorem dL_law_1574 : decode cL_law 1574 = .ok (.pop, 1) := dL_law_all98.2.2.2.2.2.2.1
theorem dL_law_1575 : decode cL_law 1575 = .ok (.aload_n 2, 1) := dL_law_all98.2.2.2.2.2.2.2.1
theorem dL_law_1576 : decode cL_law 1576 = .ok (.aload_n 0, 1) := dL_law_all98.2.2.2.2.2.2.2.2.1
theorem dL_law_1577 : decode cL_law 1577 = .ok (.iload_n 3, 1) := dL_law_all98.2.2.2.2.2.2.2.2.2.1
theorem dL_law_1578 : decode cL_law 1578 = .ok (.iconst 1, 1) := dL_law_all98.2.2.2.2.2.2.2.2.2.2.1
theorem dL_law_1579 : decode cL_law 1579 = .ok (.iadd, 1) := dL_law_all98.2.2.2.2.2.2.2.2.2.2.2
theorem dL_law_all99 : decode cL_law 1580 = .ok (.iaload, 1) ∧ decode cL_law 1581 = .ok (.aload_n 0, 1) ∧ decode cL_law 1582 = .ok (.iload_n 3, 1) ∧ decode cL_law 1583 = .ok (.iconst 2, 1) ∧ decode cL_law 1584 = .ok (.iadd, 1) ∧ decode cL_law 1585 = .ok (.iaload, 1) ∧ decode cL_law 1586 = .ok (.invokevirtual 169, 3) ∧ decode cL_law 1589 = .ok (.pop, 1) ∧ decode cL_law 1590 = .ok (.goto 62, 3) ∧ decode cL_law 1593 = .ok (.aload_n 1, 1) ∧ decode cL_law 1594 = .ok (.aload_n 0, 1) ∧ decode cL_law 1595 = .ok (.iload_n 3, 1) := ⟨dq_46 sB_65 20 rfl, dq_42 sB_65 21 rfl, dq_29 sB_65 22 rfl, dq_5 sB_65 23 rfl, dq_96 sB_66 0 rfl, dq_46 sB_66 1 rfl, dq_182 sB_66 2 rfl 169 (by decide), dq_87 sB_66 5 rfl, dq_167 sB_66 6 rfl 62 (by decide), dq_43 sB_66 9 rfl, dq_42 sB_66 10 rfl, dq_29 sB_66 11 rfl⟩
theorem dL_law_1580 : decode cL_law 1580 = .ok (.iaload, 1) := dL_law_all99.1
theorem dL_law_1581 : decode cL_law 1581 = .ok (.aload_n 0, 1) := dL_law_all99.2.1
theorem dL_law_1582 : decode cL_law 1582 = .ok (.iload_n 3, 1) := dL_law_all99.2.2.1
theorem dL_law_1583 : decode cL_law 1583 = .ok (.iconst 2, 1) := dL_law_all99.2.2.2.1
theorem dL_law_1584 : decode cL_law 1584 = .ok (.iadd, 1) := dL_law_all99.2.2.2.2.1
theorem dL_law_1585 : decode cL_law 1585 = .ok (.iaload, 1) := dL_law_all99.2.2.2.2.2.1
theorem dL_law_1586 : decode cL_law 1586 = .ok (.invokevirtual 169, 3) := dL_law_all99.2.2.2.2.2.2.1
theorem dL_law_1589 : decode cL_law 1589 = .ok (.pop, 1) := dL_law_all99.2.2.2.2.2.2.2.1
theorem dL_law_1590 : decode cL_law 1590 = .ok (.goto 62, 3) := dL_law_all99.2.2.2.2.2.2.2.2.1
theorem dL_law_1593 : decode cL_law 1593 = .ok (.aload_n 1, 1) := dL_law_all99.2.2.2.2.2.2.2.2.2.1
theorem dL_law_1594 : decode cL_law 1594 = .ok (.aload_n 0, 1) := dL_law_all99.2.2.2.2.2.2.2.2.2.2.1
theorem dL_law_1595 : decode cL_law 1595 = .ok (.iload_n 3, 1) := dL_law_all99.2.2.2.2.2.2.2.2.2.2.2
theorem dL_law_all100 : decode cL_law 1596 = .ok (.iconst 1, 1) ∧ decode cL_law 1597 = .ok (.iadd, 1) ∧ decode cL_law 1598 = .ok (.iaload, 1) ∧ decode cL_law 1599 = .ok (.invokevirtual 170, 3) ∧ decode cL_law 1602 = .ok (.pop, 1) ∧ decode cL_law 1603 = .ok (.aload_n 2, 1) ∧ decode cL_law 1604 = .ok (.aload_n 0, 1) ∧ decode cL_law 1605 = .ok (.iload_n 3, 1) ∧ decode cL_law 1606 = .ok (.iconst 1, 1) ∧ decode cL_law 1607 = .ok (.iadd, 1) ∧ decode cL_law 1608 = .ok (.iaload, 1) ∧ decode cL_law 1609 = .ok (.invokevirtual 173, 3) := ⟨dq_4 sB_66 12 rfl, dq_96 sB_66 13 rfl, dq_46 sB_66 14 rfl, dq_182 sB_66 15 rfl 170 (by decide), dq_87 sB_66 18 rfl, dq_44 sB_66 19 rfl, dq_42 sB_66 20 rfl, dq_29 sB_66 21 rfl, dq_4 sB_66 22 rfl, dq_96 sB_66 23 rfl, dq_46 sB_67 0 rfl, dq_182 sB_67 1 rfl 173 (by decide)⟩
theorem dL_law_1596 : decode cL_law 1596 = .ok (.iconst 1, 1) := dL_law_all100.1
theorem dL_law_1597 : decode cL_law 1597 = .ok (.iadd, 1) := dL_law_all100.2.1
theorem dL_law_1598 : decode cL_law 1598 = .ok (.iaload, 1) := dL_law_all100.2.2.1
theorem dL_law_1599 : decode cL_law 1599 = .ok (.invokevirtual 170, 3) := dL_law_all100.2.2.2.1
theorem dL_law_1602 : decode cL_law 1602 = .ok (.pop, 1) := dL_law_all100.2.2.2.2.1
theorem dL_law_1603 : decode cL_law 1603 = .ok (.aload_n 2, 1) := dL_law_all100.2.2.2.2.2.1
theorem dL_law_1604 : decode cL_law 1604 = .ok (.aload_n 0, 1) := dL_law_all100.2.2.2.2.2.2.1
theorem dL_law_1605 : decode cL_law 1605 = .ok (.iload_n 3, 1) := dL_law_all100.2.2.2.2.2.2.2.1
theorem dL_law_1606 : decode cL_law 1606 = .ok (.iconst 1, 1) := dL_law_all100.2.2.2.2.2.2.2.2.1
theorem dL_law_1607 : decode cL_law 1607 = .ok (.iadd, 1) := dL_law_all100.2.2.2.2.2.2.2.2.2.1
theorem dL_law_1608 : decode cL_law 1608 = .ok (.iaload, 1) := dL_law_all100.2.2.2.2.2.2.2.2.2.2.1
theorem dL_law_1609 : decode cL_law 1609 = .ok (.invokevirtual 173, 3) := dL_law_all100.2.2.2.2.2.2.2.2.2.2.2
theorem dL_law_all101 : decode cL_law 1612 = .ok (.pop, 1) ∧ decode cL_law 1613 = .ok (.goto 39, 3) ∧ decode cL_law 1616 = .ok (.aload_n 1, 1) ∧ decode cL_law 1617 = .ok (.aload_n 0, 1) ∧ decode cL_law 1618 = .ok (.iload_n 3, 1) ∧ decode cL_law 1619 = .ok (.iconst 1, 1) ∧ decode cL_law 1620 = .ok (.iadd, 1) ∧ decode cL_law 1621 = .ok (.iaload, 1) ∧ decode cL_law 1622 = .ok (.invokevirtual 174, 3) ∧ decode cL_law 1625 = .ok (.pop, 1) ∧ decode cL_law 1626 = .ok (.aload_n 2, 1) ∧ decode cL_law 1627 = .ok (.aload_n 0, 1) := ⟨dq_87 sB_67 4 rfl, dq_167 sB_67 5 rfl 39 (by decide), dq_43 sB_67 8 rfl, dq_42 sB_67 9 rfl, dq_29 sB_67 10 rfl, dq_4 sB_67 11 rfl, dq_96 sB_67 12 rfl, dq_46 sB_67 13 rfl, dq_182 sB_67 14 rfl 174 (by decide), dq_87 sB_67 17 rfl, dq_44 sB_67 18 rfl, dq_42 sB_67 19 rfl⟩
theorem dL_law_1612 : decode cL_law 1612 = .ok (.pop, 1) := dL_law_all101.1
theorem dL_law_1613 : decode cL_law 1613 = .ok (.goto 39, 3) := dL_law_all101.2.1
set_option maxHeartbeats 4000000 in
set_option maxRecDepth 100000 in
theorem law_case_32 {p : Program} {l : Launch} {e : Env} {s : State} {m : MethodId} {below : List Frame} {meth : Method} {c : Code} {D : va_G} {cI cY cJ cQ : ClassId} {b L aK aV : Nat} {xs : Nat → Int32} {ad rw md : Nat → Nat} {sd i : Int32} {nx : Nat → Int32} {fx rs : Nat → Nat → Int32} {lo : Nat → Int64} {ny : Nat → Int32} {fy : Nat → Nat → Int32} {fl : Nat → Int64} {H : Heap} {locs : List Loc} {ls : Array Slot} (C0 : lawC p s m meth c b L xs D cI cY cJ cQ aK aV) (I : inv nx fx rs ny fy) (hP : va_P D vwCl (wX ad rw sd cI cY cJ cQ nx fx rs lo ++ wM md sd cI cY cJ cQ ny fy fl) H) (hD : va_D (fun q : Nat => s.heap.size ≤ q) (wX ad rw sd cI cY cJ cQ nx fx rs lo ++ wM md sd cI cY cJ cQ ny fy fl)) (hS : va_S (fun q : Nat => s.heap.size ≤ q) s.heap H locs) (hl : lv_has ls 4 [(0, .ref b), (1, .ref (ad 0)), (2, .ref (md 64)), (3, .int i)]) (hi1 : 1 ≤ i.toInt) (hi2 : i.toInt + 5 < L) (kk : ∀ (nx : Nat → Int32) (fx rs : Nat → Nat → Int32) (lo : Nat → Int64) (ny : Nat → Int32) (fy : Nat → Nat → Int32) (fl : Nat → Int64) (H : Heap) (locs : List Loc) (ls : Array Slot), inv nx fx rs ny fy → va_P D vwCl (wX ad rw sd cI cY cJ cQ nx fx rs lo ++ wM md sd cI cY cJ cQ ny fy fl) H → va_D (fun q : Nat => s.heap.size ≤ q) (wX ad rw sd cI cY cJ cQ nx fx rs lo ++ wM md sd cI cY cJ cQ ny fy fl) → va_S (fun q : Nat => s.heap.size ≤ q) s.heap H locs → lv_has ls 4 [(0, .ref b), (1, .ref (ad 0)), (2, .ref (md 64)), (3, .int i)] → W p l e room_1 s m #[Value.ref b] below meth c H locs 107 4890 (lw_Z below #[Value.ref b] s) (F0 m 1652 ls [])) : W p l e room_1 s m #[Value.ref b] below meth c H locs 107 4890 (lw_Z below #[Value.ref b] s) (F0 m 1504 ls []) := by
  obtain ⟨C1, hK, hN, hT, hL⟩ := C0
  obtain ⟨hx, hb, hr, hml, hown, hts0, hX, hbl, hlocks, hgv⟩ := C1
  have hA : ∀ q : Nat, s.heap.size ≤ q → (fun q : Nat => s.heap.size ≤ q) q := fun _ h => h
  have hbA : ¬ (fun q : Nat => s.heap.size ≤ q) b := Nat.not_le.mpr hbl
  have hts : ∀ w ∈ wsL_law, w.before #[Value.ref b] s = true := fun w h => hts0 w (wsL_law_in w h)
  replace hown : s.vm.findClass RL = some m.cls := hown
  replace hb : c.code = cL_law := hb
  have hak1 : vp_in (i + 1) L := law_in hi1 hi2 hL (by decide)
  obtain ⟨xk1, exk1⟩ : ∃ y : Int32, y = xs (i + 1).toNatClampNeg := ⟨_, rfl⟩
  refine inv_el I ?_
  intro Xhna Xhnb XH XD XV XN Xcna Xcnb XF Xpna Xpnb XG XO XW Xgna Xgnb XJ Xlna Xlnb Xdla Xdlb Xana Xanb Xuna Xunb XU Xlca Xlcb Xtna Xtnb XS Mhna Mhnb MH MS Mmlna Mmlnb Mmtna Mmtnb Chn Cho Chc Chp Chs Ccn Cfo Cwo Cpn Cpk Cpf Cpo Cpd Cpe Cgn Cgk Cgs Cgd Cge Can Cak Cah Cay Caz Cun Cuk Cuy Cuw Cum Clc Clp Cla Clb Caw Ciw Cln Ctd Cro Cmtn Cmtr Cmst Csh
  have Tcn := i_eq Ccn
  have Tpn := i_eq Cpn
  have Tgn := i_eq Cgn
  have Tan := i_eq Can
  have Tun := i_eq Cun
  have Tlc := i_eq Clc
  have Tln := i_eq Cln
  have Thn := i_eq Chn
  have MXV : okV (ny 2) (fy 5) := by rw [Chn, Chp]; exact XV
  have MXF : okF (ny 3) (fy 10) := by rw [Ccn, Cfo]; exact XF
  have MXG : okG (ny 4) (fy 14) := by rw [Cpn, Cpo]; exact XG
  refine lv_aload_n hx hb dL_law_1504 rfl (lv_at hl 1 rfl) ?_
  refine law_arg (v := 1) hx hb hX hbl hbA hS (lv_at hl 0 rfl) (lv_at hl 3 rfl) (by decide) hak1 exk1 dL_law_1505 dL_law_1506 dL_law_1507 dL_law_1508 dL_law_1509 ?_
  refine st_iQ (wr := [(aI cI (ad 11) 16 (fx 0)), (aI cI (rw 0) 60 (rs 0)), (aI cI (rw 1) 60 (rs 1)), (aI cI (rw 2) 60 (rs 2)), (aI cI (rw 3) 60 (rs 3)), (aI cI (rw 4) 60 (rs 4)), (aI cI (rw 5) 60 (rs 5)), (aI cI (rw 6) 60 (rs 6)), (aI cI (rw 7) 60 (rs 7)), (oC9 ad ), ((ad 12), .inl (cQ, 8, .inr (.inr (.inr (.inr (fun i => if i < 8 then some (rw i) else none)))))), (aI cI (ad 13) 8 (fx 1)), (aI cI (ad 14) 8 (fx 2)), (aI cI (ad 33) 12 (fx 13)), (aI cI (ad 34) 6 (fx 14)), (aI cI (ad 35) 6 (fx 15)), (aI cI (ad 46) 40 (fx 26)), (oC2 ad (nx 7) (nx 8) (nx 9) (nx 10) (nx 11) (nx 12) (nx 13) (nx 14)), (aI cY (ad 47) 300 (fx 27)), (aI cI (ad 48) 12 (fx 28)), (aI cI (ad 49) 12 (fx 29)), (aI cI (ad 50) 12 (fx 30)), (aI cI (ad 51) 12 (fx 31)), (aI cI (ad 52) 12 (fx 32)), (aI cI (ad 53) 12 (fx 33)), (oC0 ad (nx 15)), (aI cI (ad 54) 60 (fx 34)), (aI cI (ad 55) 60 (fx 35)), (aI cI (ad 56) 60 (fx 36)), (aI cI (ad 57) 60 (fx 37)), (oC5 ad sd), (aJ cJ (ad 58) 12 lo), (oC6 ad (nx 16)), (aI cI (ad 59) 60 (fx 38)), (aI cI (ad 60) 60 (fx 39)), (aI cI (ad 61) 60 (fx 40)), (aI cI (ad 62) 60 (fx 41))]) (va_runV (C := RX10) (As := [.int xk1]) (rest := []) ⟨hx, hb, hml, hown, hts⟩ (ct_X10_kind l D cI cY cJ cQ _ ad (nx 0) (nx 1) (nx 2) (nx 4) (nx 5) (nx 3) (nx 17) (nx 6) (fx 11) (fx 16) (fx 17) (fx 18) (fx 19) (fx 20) (fx 21) (fx 3) (fx 4) (fx 5) (fx 6) (fx 7) (fx 8) (fx 9) (fx 10) (fx 42) (fx 43) (fx 44) (fx 12) (fx 22) (fx 23) (fx 24) (fx 25) xk1 Xcna Xcnb Xpna Xpnb XO Xhna Xhnb XH XV Xlca Xlcb Xgna Xgnb XF XG) (cwV 1 hts gL_law_X10_kind rfl rfl rfl ⟨rfl, cdX10_kind⟩ ⟨Nat.le_of_ble_eq_true rfl, Nat.le_of_ble_eq_true rfl⟩) (cPreV (hP.sub [0, 23, 24, 29, 30, 31, 32, 33, 34, 35, 14, 15, 16, 17, 18, 19, 20, 21, 22, 62, 63, 64, 65, 25, 36, 37, 38, 39, 40] rfl) hK (hD.sub [0, 23, 24, 29, 30, 31, 32, 33, 34, 35, 14, 15, 16, 17, 18, 19, 20, 21, 22, 62, 63, 64, 65, 25, 36, 37, 38, 39, 40] (by decide +kernel) rfl) hN (ci := 10) (q0 := 0) rfl rfl) rfl rfl hl.1 rfl (lv_room (Nat.le_of_ble_eq_true rfl)) dL_law_1510 ⟨Nat.le_of_ble_eq_true rfl, Nat.le_of_ble_eq_true rfl⟩) hP hD hS hA [0, 23, 24, 29, 30, 31, 32, 33, 34, 35, 14, 15, 16, 17, 18, 19, 20, 21, 22, 62, 63, 64, 65, 25, 36, 37, 38, 39, 40] [1, 2, 3, 4, 5, 6, 7, 8, 9, 10, 11, 12, 13, 26, 27, 28, 41, 42, 43, 44, 45, 46, 47, 48, 49, 50, 51, 52, 53, 54, 55, 56, 57, 58, 59, 60, 61] rfl rfl (by decide +kernel) (by decide +kernel) (fun r3 u1 H locs hw2 => ?_)
  clear hP hS
  intro hP _ hS
  obtain ⟨pt_4, ps_5, ha_6, re_7⟩ := u1
  replace hw2 : r3 = sp_kind (nx 4) (nx 5) (nx 3) (nx 17) (nx 6) (nx 1) (fx 11) (fx 12) (fx 16) (fx 17) (fx 18) (fx 19) (fx 20) (fx 21) (fx 3) (fx 4) (fx 5) (fx 6) (fx 42) (fx 43) (fx 44) (fx 22) (fx 23) (fx 25) xk1 := hw2
  refine lv_pop hx hb dL_law_1513 rfl ?_
  have hPx : va_P D vwCl (wX ad rw sd cI cY cJ cQ nx (upR (upR (upR (upR fx 7 pt_4) 8 ps_5) 9 ha_6) 10 re_7) rs lo ++ wM md sd cI cY cJ cQ ny fy fl) H := hP.part [37, 0, 1, 2, 3, 4, 5, 6, 7, 8, 9, 10, 11, 12, 47, 48, 49, 50, 51, 52, 53, 54, 55, 38, 39, 60, 13, 14, 15, 40, 41, 42, 43, 44, 45, 46, 61, 62, 63, 64, 65, 16, 17, 18, 19, 20, 21, 22, 23, 24, 25, 26, 27, 28, 29, 30, 31, 32, 33, 34, 35, 36, 56, 57, 58, 59] rfl
  have hDx : va_D (fun q : Nat => s.heap.size ≤ q) (wX ad rw sd cI cY cJ cQ nx (upR (upR (upR (upR fx 7 pt_4) 8 ps_5) 9 ha_6) 10 re_7) rs lo ++ wM md sd cI cY cJ cQ ny fy fl) := wXM_D hD
  have hP := hPx.comm
  have hD := hDx.comm
  refine lv_aload_n hx hb dL_law_1514 rfl (lv_at hl 2 rfl) ?_
  refine law_arg (v := 1) hx hb hX hbl hbA hS (lv_at hl 0 rfl) (lv_at hl 3 rfl) (by decide) hak1 exk1 dL_law_1515 dL_law_1516 dL_law_1517 dL_law_1518 dL_law_1519 ?_
  refine st_iQ (wr := [(aI cI (md 3) 8 (fy 0)), (aI cI (md 4) 8 (fy 1)), (aI cI (md 5) 480 (fy 2)), (aI cI (md 31) 36 (fy 21)), (aI cI (md 33) 36 (fy 22)), (aI cI (md 34) 300 (fy 23)), (aI cI (md 45) 60 (fy 24)), (aI cI (md 46) 60 (fy 25)), (aI cI (md 47) 60 (fy 26)), (aI cI (md 48) 60 (fy 27)), (aI cI (md 49) 6 (fy 28)), (aI cI (md 50) 6 (fy 29)), (aI cI (md 51) 12 (fy 30)), (aI cI (md 53) 60 (fy 31)), (aI cI (md 54) 60 (fy 32)), (aI cI (md 55) 60 (fy 33)), (aI cI (md 56) 60 (fy 34)), (aI cI (md 62) 16 (fy 38))]) (va_runV (C := RX11) (As := [.int xk1]) (rest := []) ⟨hx, hb, hml, hown, hts⟩ (ct_X11_kind l D cI cY cJ cQ _ md sd (ny 0) (ny 1) (ny 2) (ny 3) (ny 4) (ny 5) (ny 6) (ny 7) (ny 8) (ny 9) (ny 10) (ny 11) (ny 12) (ny 13) (ny 14) (ny 15) (ny 16) (ny 17) (ny 18) (ny 19) (ny 20) (ny 21) (ny 22) (fy 10) (fy 12) (fy 13) (fy 14) (fy 15) (fy 16) (fy 35) (fy 36) (fy 37) (fy 3) (fy 4) (fy 5) (fy 6) (fy 7) (fy 8) (fy 9) (fy 11) (fy 17) (fy 18) (fy 19) (fy 20) fl xk1 (by omega) (by omega) (by omega) (by omega) (by omega) (by omega) Mhna Mhnb (by assumption) (by assumption) (by assumption) (by omega) (by omega)) (cwV 1 hts gL_law_X11_kind rfl rfl rfl ⟨rfl, cdX11_kind⟩ ⟨Nat.le_of_ble_eq_true rfl, Nat.le_of_ble_eq_true rfl⟩) (cPreV (hP.sub [0, 12, 14, 15, 16, 17, 18, 37, 38, 39, 4, 5, 6, 7, 8, 9, 10, 11, 13, 19, 20, 21, 22] rfl) hK (hD.sub [0, 12, 14, 15, 16, 17, 18, 37, 38, 39, 4, 5, 6, 7, 8, 9, 10, 11, 13, 19, 20, 21, 22] (by decide +kernel) rfl) hN (ci := 11) (q0 := 0) rfl rfl) rfl rfl hl.1 rfl (lv_room (Nat.le_of_ble_eq_true rfl)) dL_law_1520 ⟨Nat.le_of_ble_eq_true rfl, Nat.le_of_ble_eq_true rfl⟩) hP hD hS hA [0, 12, 14, 15, 16, 17, 18, 37, 38, 39, 4, 5, 6, 7, 8, 9, 10, 11, 13, 19, 20, 21, 22] [1, 2, 3, 23, 24, 25, 26, 27, 28, 29, 30, 31, 32, 33, 34, 35, 36, 40] rfl rfl (by decide +kernel) (by decide +kernel) (fun r10 u8 H locs hw9 => ?_)
  clear hP hS
  intro hP _ hS
  obtain ⟨mq_11, mh_12, mp_13, mt_14, mf_15⟩ := u8
  replace hw9 : r10 = sm_kind (ny 3) (ny 4) (ny 2) (ny 20) (ny 6) (ny 21) (fy 10) (fy 11) (fy 12) (fy 13) (fy 14) (fy 15) (fy 16) (fy 3) (fy 4) (fy 5) (fy 6) (fy 35) (fy 36) (fy 37) (fy 17) (fy 18) (fy 20) xk1 := hw9
  rw [Ccn, Cpn, Chn, Clc, Cgn, Ctd, Cfo, Cwo, Cpk, Cpf, Cpo, Cpd, Cpe, Cho, Chc, Chp, Chs, Clp, Cla, Clb, Cgk, Cgs, Cge, ← kind_eq (by omega) (by omega) XD XN XV (by omega) (by omega) XO XW] at hw9
  have e90 := hw2.trans hw9.symm
  refine lv_pop hx hb dL_law_1523 rfl ?_
  refine lv_goto (tgt := 1652) hx hb dL_law_1524 (by decide) ?_
  have hPm : va_P D vwCl (wM md sd cI cY cJ cQ (upd (upd ny 0 0) 5 mq_11) (upR (upR (upR fy 7 mh_12) 8 mp_13) 9 mt_14) mf_15 ++ wX ad rw sd cI cY cJ cQ nx (upR (upR (upR (upR fx 7 pt_4) 8 ps_5) 9 ha_6) 10 re_7) rs lo) H := hP.part [18, 0, 1, 2, 28, 29, 30, 31, 32, 33, 34, 35, 19, 36, 20, 21, 22, 23, 24, 37, 38, 39, 40, 3, 4, 5, 6, 7, 8, 9, 10, 11, 12, 13, 14, 15, 16, 25, 26, 27, 17] rfl
  have hDm : va_D (fun q : Nat => s.heap.size ≤ q) (wM md sd cI cY cJ cQ (upd (upd ny 0 0) 5 mq_11) (upR (upR (upR fy 7 mh_12) 8 mp_13) 9 mt_14) mf_15 ++ wX ad rw sd cI cY cJ cQ nx (upR (upR (upR (upR fx 7 pt_4) 8 ps_5) 9 ha_6) 10 re_7) rs lo) := wMX_D hD
  exact kk nx (upR (upR (upR (upR fx 7 pt_4) 8 ps_5) 9 ha_6) 10 re_7) rs lo (upd (upd ny 0 0) 5 mq_11) (upR (upR (upR fy 7 mh_12) 8 mp_13) 9 mt_14) mf_15 H locs ls ⟨Xhna, Xhnb, XH, XD, XV, XN, Xcna, Xcnb, XF, Xpna, Xpnb, XG, XO, XW, Xgna, Xgnb, XJ, Xlna, Xlnb, Xdla, Xdlb, Xana, Xanb, Xuna, Xunb, XU, Xlca, Xlcb, Xtna, Xtnb, XS, Mhna, Mhnb, MH, MS, Mmlna, Mmlnb, Mmtna, Mmtnb, Chn, Cho, Chc, Chp, Chs, Ccn, Cfo, Cwo, Cpn, Cpk, Cpf, Cpo, Cpd, Cpe, Cgn, Cgk, Cgs, Cgd, Cge, Can, Cak, Cah, Cay, Caz, Cun, Cuk, Cuy, Cuw, Cum, Clc, Clp, Cla, Clb, Caw, Ciw, Cln, Ctd, Cro, Cmtn, Cmtr, Cmst, Csh⟩ hPm.comm hDm.comm hS hl

set_option maxHeartbeats 4000000 in
set_option maxRecDepth 100000 in
theorem law_case_33 {p : Program} {l : Launch} {e : Env} {s : State} {m : MethodId} {below : List Frame} {meth : Method} {c : Code} {D : va_G} {cI cY cJ cQ : ClassId} {b L aK aV : Nat} {xs : Nat → Int32} {ad rw md : Nat → Nat} {sd i : Int32} {nx : Nat → Int32} {fx rs : Nat → Nat → Int32} {lo : Nat → Int64} {ny : Nat → Int32} {fy : Nat → Nat → Int32} {fl : Nat → Int64} {H : Heap} {locs : List Loc} {ls : Array Slot} (C0 : lawC p s m meth c b L xs D cI cY cJ cQ aK aV) (I : inv nx fx rs ny fy) (hP : va_P D vwCl (wX ad rw sd cI cY cJ cQ nx fx rs lo ++ wM md sd cI cY cJ cQ ny fy fl) H) (hD : va_D (fun q : Nat => s.heap.size ≤ q) (wX ad rw sd cI cY cJ cQ nx fx rs lo ++ wM md sd cI cY cJ cQ ny fy fl)) (hS : va_S (fun q : Nat => s.heap.size ≤ q) s.heap H locs) (hl : lv_has ls 4 [(0, .ref b), (1, .ref (ad 0)), (2, .ref (md 64)), (3, .int i)]) (hi1 : 1 ≤ i.toInt) (hi2 : i.toInt + 5 < L) (kk : ∀ (nx : Nat → Int32) (fx rs : Nat → Nat → Int32) (lo : Nat → Int64) (ny : Nat → Int32) (fy : Nat → Nat → Int32) (fl : Nat → Int64) (H : Heap) (locs : List Loc) (ls : Array Slot), inv nx fx rs ny fy → va_P D vwCl (wX ad rw sd cI cY cJ cQ nx fx rs lo ++ wM md sd cI cY cJ cQ ny fy fl) H → va_D (fun q : Nat => s.heap.size ≤ q) (wX ad rw sd cI cY cJ cQ nx fx rs lo ++ wM md sd cI cY cJ cQ ny fy fl) → va_S (fun q : Nat => s.heap.size ≤ q) s.heap H locs → lv_has ls 4 [(0, .ref b), (1, .ref (ad 0)), (2, .ref (md 64)), (3, .int i)] → W p l e room_1 s m #[Value.ref b] below meth c H locs 107 4890 (lw_Z below #[Value.ref b] s) (F0 m 1652 ls [])) : W p l e room_1 s m #[Value.ref b] below meth c H locs 107 4890 (lw_Z below #[Value.ref b] s) (F0 m 1527 ls []) := by
  obtain ⟨C1, hK, hN, hT, hL⟩ := C0
  obtain ⟨hx, hb, hr, hml, hown, hts0, hX, hbl, hlocks, hgv⟩ := C1
  have hA : ∀ q : Nat, s.heap.size ≤ q → (fun q : Nat => s.heap.size ≤ q) q := fun _ h => h
  have hbA : ¬ (fun q : Nat => s.heap.size ≤ q) b := Nat.not_le.mpr hbl
  have hts : ∀ w ∈ wsL_law, w.before #[Value.ref b] s = true := fun w h => hts0 w (wsL_law_in w h)
  replace hown : s.vm.findClass RL = some m.cls := hown
  replace hb : c.code = cL_law := hb
  have hak1 : vp_in (i + 1) L := law_in hi1 hi2 hL (by decide)
  obtain ⟨xk1, exk1⟩ : ∃ y : Int32, y = xs (i + 1).toNatClampNeg := ⟨_, rfl⟩
  have hak2 : vp_in (i + 2) L := law_in hi1 hi2 hL (by decide)
  obtain ⟨xk2, exk2⟩ : ∃ y : Int32, y = xs (i + 2).toNatClampNeg := ⟨_, rfl⟩
  refine inv_el I ?_
  intro Xhna Xhnb XH XD XV XN Xcna Xcnb XF Xpna Xpnb XG XO XW Xgna Xgnb XJ Xlna Xlnb Xdla Xdlb Xana Xanb Xuna Xunb XU Xlca Xlcb Xtna Xtnb XS Mhna Mhnb MH MS Mmlna Mmlnb Mmtna Mmtnb Chn Cho Chc Chp Chs Ccn Cfo Cwo Cpn Cpk Cpf Cpo Cpd Cpe Cgn Cgk Cgs Cgd Cge Can Cak Cah Cay Caz Cun Cuk Cuy Cuw Cum Clc Clp Cla Clb Caw Ciw Cln Ctd Cro Cmtn Cmtr Cmst Csh
  have Tcn := i_eq Ccn
  have Tpn := i_eq Cpn
  have Tgn := i_eq Cgn
  have Tan := i_eq Can
  have Tun := i_eq Cun
  have Tlc := i_eq Clc
  have Tln := i_eq Cln
  have Thn := i_eq Chn
  have MXV : okV (ny 2) (fy 5) := by rw [Chn, Chp]; exact XV
  have MXF : okF (ny 3) (fy 10) := by rw [Ccn, Cfo]; exact XF
  have MXG : okG (ny 4) (fy 14) := by rw [Cpn, Cpo]; exact XG
  refine lv_aload_n hx hb dL_law_1527 rfl (lv_at hl 1 rfl) ?_
  refine law_arg (v := 1) hx hb hX hbl hbA hS (lv_at hl 0 rfl) (lv_at hl 3 rfl) (by decide) hak1 exk1 dL_law_1528 dL_law_1529 dL_law_1530 dL_law_1531 dL_law_1532 ?_
  refine law_arg (v := 2) hx hb hX hbl hbA hS (lv_at hl 0 rfl) (lv_at hl 3 rfl) (by decide) hak2 exk2 dL_law_1533 dL_law_1534 dL_law_1535 dL_law_1536 dL_law_1537 ?_
  refine st_iQ (wr := [(aI cI (ad 11) 16 (fx 0)), (aI cI (rw 0) 60 (rs 0)), (aI cI (rw 1) 60 (rs 1)), (aI cI (rw 2) 60 (rs 2)), (aI cI (rw 3) 60 (rs 3)), (aI cI (rw 4) 60 (rs 4)), (aI cI (rw 5) 60 (rs 5)), (aI cI (rw 6) 60 (rs 6)), (aI cI (rw 7) 60 (rs 7)), (oC9 ad ), ((ad 12), .inl (cQ, 8, .inr (.inr (.inr (.inr (fun i => if i < 8 then some (rw i) else none)))))), (aI cI (ad 13) 8 (fx 1)), (aI cI (ad 14) 8 (fx 2)), (aI cI (ad 33) 12 (fx 13)), (aI cI (ad 34) 6 (fx 14)), (aI cI (ad 35) 6 (fx 15)), (aI cI (ad 46) 40 (fx 26)), (oC2 ad (nx 7) (nx 8) (nx 9) (nx 10) (nx 11) (nx 12) (nx 13) (nx 14)), (aI cY (ad 47) 300 (fx 27)), (aI cI (ad 48) 12 (fx 28)), (aI cI (ad 49) 12 (fx 29)), (aI cI (ad 50) 12 (fx 30)), (aI cI (ad 51) 12 (fx 31)), (aI cI (ad 52) 12 (fx 32)), (aI cI (ad 53) 12 (fx 33)), (oC0 ad (nx 15)), (aI cI (ad 54) 60 (fx 34)), (aI cI (ad 55) 60 (fx 35)), (aI cI (ad 56) 60 (fx 36)), (aI cI (ad 57) 60 (fx 37)), (oC5 ad sd), (aJ cJ (ad 58) 12 lo), (oC6 ad (nx 16)), (aI cI (ad 59) 60 (fx 38)), (aI cI (ad 60) 60 (fx 39)), (aI cI (ad 61) 60 (fx 40)), (aI cI (ad 62) 60 (fx 41))]) (va_runV (C := RX10) (As := [.int xk1, .int xk2]) (rest := []) ⟨hx, hb, hml, hown, hts⟩ (ct_X10_as l D cI cY cJ cQ _ ad (nx 0) (nx 1) (nx 2) (nx 4) (nx 5) (nx 3) (nx 17) (nx 6) (fx 11) (fx 16) (fx 17) (fx 18) (fx 19) (fx 20) (fx 21) (fx 3) (fx 4) (fx 5) (fx 6) (fx 7) (fx 8) (fx 9) (fx 10) (fx 42) (fx 43) (fx 44) (fx 12) (fx 22) (fx 23) (fx 24) (fx 25) xk1 xk2 Xcna Xcnb Xpna Xpnb XO Xhna Xhnb XH XV Xlca Xlcb Xgna Xgnb XF XG) (cwV 2 hts gL_law_X10_as rfl rfl rfl ⟨rfl, cdX10_as⟩ ⟨Nat.le_of_ble_eq_true rfl, Nat.le_of_ble_eq_true rfl⟩) (cPreV (hP.sub [0, 23, 24, 29, 30, 31, 32, 33, 34, 35, 14, 15, 16, 17, 18, 19, 20, 21, 22, 62, 63, 64, 65, 25, 36, 37, 38, 39, 40] rfl) hK (hD.sub [0, 23, 24, 29, 30, 31, 32, 33, 34, 35, 14, 15, 16, 17, 18, 19, 20, 21, 22, 62, 63, 64, 65, 25, 36, 37, 38, 39, 40] (by decide +kernel) rfl) hN (ci := 10) (q0 := 0) rfl rfl) rfl rfl hl.1 rfl (lv_room (Nat.le_of_ble_eq_true rfl)) dL_law_1538 ⟨Nat.le_of_ble_eq_true rfl, Nat.le_of_ble_eq_true rfl⟩) hP hD hS hA [0, 23, 24, 29, 30, 31, 32, 33, 34, 35, 14, 15, 16, 17, 18, 19, 20, 21, 22, 62, 63, 64, 65, 25, 36, 37, 38, 39, 40] [1, 2, 3, 4, 5, 6, 7, 8, 9, 10, 11, 12, 13, 26, 27, 28, 41, 42, 43, 44, 45, 46, 47, 48, 49, 50, 51, 52, 53, 54, 55, 56, 57, 58, 59, 60, 61] rfl rfl (by decide +kernel) (by decide +kernel) (fun r3 u1 H locs hw2 => ?_)
  clear hP hS
  intro hP _ hS
  obtain ⟨lf_4, pt_5, ps_6, ha_7, re_8⟩ := u1
  replace hw2 : sp_as (nx 2) (nx 4) (nx 5) (nx 3) (nx 17) (nx 6) (nx 1) (fx 11) (fx 12) (fx 16) (fx 17) (fx 18) (fx 19) (fx 20) (fx 21) (fx 3) (fx 4) (fx 5) (fx 6) (fx 42) (fx 43) (fx 44) (fx 22) (fx 23) (fx 25) xk1 xk2 r3 lf_4 := hw2
  refine lv_pop hx hb dL_law_1541 rfl ?_
  have hPx : va_P D vwCl (wX ad rw sd cI cY cJ cQ (upd nx 2 lf_4) (upR (upR (upR (upR fx 7 pt_5) 8 ps_6) 9 ha_7) 10 re_8) rs lo ++ wM md sd cI cY cJ cQ ny fy fl) H := hP.part [37, 0, 1, 2, 3, 4, 5, 6, 7, 8, 9, 10, 11, 12, 47, 48, 49, 50, 51, 52, 53, 54, 55, 38, 39, 60, 13, 14, 15, 40, 41, 42, 43, 44, 45, 46, 61, 62, 63, 64, 65, 16, 17, 18, 19, 20, 21, 22, 23, 24, 25, 26, 27, 28, 29, 30, 31, 32, 33, 34, 35, 36, 56, 57, 58, 59] rfl
  have hDx : va_D (fun q : Nat => s.heap.size ≤ q) (wX ad rw sd cI cY cJ cQ (upd nx 2 lf_4) (upR (upR (upR (upR fx 7 pt_5) 8 ps_6) 9 ha_7) 10 re_8) rs lo ++ wM md sd cI cY cJ cQ ny fy fl) := wXM_D hD
  have hP := hPx.comm
  have hD := hDx.comm
  refine lv_aload_n hx hb dL_law_1542 rfl (lv_at hl 2 rfl) ?_
  refine law_arg (v := 1) hx hb hX hbl hbA hS (lv_at hl 0 rfl) (lv_at hl 3 rfl) (by decide) hak1 exk1 dL_law_1543 dL_law_1544 dL_law_1545 dL_law_1546 dL_law_1547 ?_
  refine law_arg (v := 2) hx hb hX hbl hbA hS (lv_at hl 0 rfl) (lv_at hl 3 rfl) (by decide) hak2 exk2 dL_law_1548 dL_law_1549 dL_law_1550 dL_law_1551 dL_law_1552 ?_
  refine st_iQ (wr := [(aI cI (md 3) 8 (fy 0)), (aI cI (md 4) 8 (fy 1)), (aI cI (md 5) 480 (fy 2)), (aI cI (md 31) 36 (fy 21)), (aI cI (md 33) 36 (fy 22)), (aI cI (md 34) 300 (fy 23)), (aI cI (md 45) 60 (fy 24)), (aI cI (md 46) 60 (fy 25)), (aI cI (md 47) 60 (fy 26)), (aI cI (md 48) 60 (fy 27)), (aI cI (md 49) 6 (fy 28)), (aI cI (md 50) 6 (fy 29)), (aI cI (md 51) 12 (fy 30)), (aI cI (md 53) 60 (fy 31)), (aI cI (md 54) 60 (fy 32)), (aI cI (md 55) 60 (fy 33)), (aI cI (md 56) 60 (fy 34)), (aI cI (md 62) 16 (fy 38))]) (va_runV (C := RX11) (As := [.int xk1, .int xk2]) (rest := []) ⟨hx, hb, hml, hown, hts⟩ (ct_X11_as l D cI cY cJ cQ _ md sd (ny 0) (ny 1) (ny 2) (ny 3) (ny 4) (ny 5) (ny 6) (ny 7) (ny 8) (ny 9) (ny 10) (ny 11) (ny 12) (ny 13) (ny 14) (ny 15) (ny 16) (ny 17) (ny 18) (ny 19) (ny 20) (ny 21) (ny 22) (fy 10) (fy 12) (fy 13) (fy 14) (fy 15) (fy 16) (fy 35) (fy 36) (fy 37) (fy 3) (fy 4) (fy 5) (fy 6) (fy 7) (fy 8) (fy 9) (fy 11) (fy 17) (fy 18) (fy 19) (fy 20) fl xk1 xk2 (by omega) (by omega) (by omega) (by omega) (by omega) (by omega) Mhna Mhnb (by assumption) (by assumption) (by assumption) (by omega) (by omega)) (cwV 2 hts gL_law_X11_as rfl rfl rfl ⟨rfl, cdX11_as⟩ ⟨Nat.le_of_ble_eq_true rfl, Nat.le_of_ble_eq_true rfl⟩) (cPreV (hP.sub [0, 12, 14, 15, 16, 17, 18, 37, 38, 39, 4, 5, 6, 7, 8, 9, 10, 11, 13, 19, 20, 21, 22] rfl) hK (hD.sub [0, 12, 14, 15, 16, 17, 18, 37, 38, 39, 4, 5, 6, 7, 8, 9, 10, 11, 13, 19, 20, 21, 22] (by decide +kernel) rfl) hN (ci := 11) (q0 := 0) rfl rfl) rfl rfl hl.1 rfl (lv_room (Nat.le_of_ble_eq_true rfl)) dL_law_1553 ⟨Nat.le_of_ble_eq_true rfl, Nat.le_of_ble_eq_true rfl⟩) hP hD hS hA [0, 12, 14, 15, 16, 17, 18, 37, 38, 39, 4, 5, 6, 7, 8, 9, 10, 11, 13, 19, 20, 21, 22] [1, 2, 3, 23, 24, 25, 26, 27, 28, 29, 30, 31, 32, 33, 34, 35, 36, 40] rfl rfl (by decide +kernel) (by decide +kernel) (fun r11 u9 H locs hw10 => ?_)
  clear hP hS
  intro hP _ hS
  obtain ⟨mst_12, mq_13, mh_14, mp_15, mt_16, mf_17⟩ := u9
  replace hw10 : sm_as (ny 1) (ny 3) (ny 4) (ny 2) (ny 20) (ny 6) (ny 21) (fy 10) (fy 11) (fy 12) (fy 13) (fy 14) (fy 15) (fy 16) (fy 3) (fy 4) (fy 5) (fy 6) (fy 35) (fy 36) (fy 37) (fy 17) (fy 18) (fy 20) xk1 xk2 r11 mst_12 := hw10
  rw [Cmst, Ccn, Cpn, Chn, Clc, Cgn, Ctd, Cfo, Cwo, Cpk, Cpf, Cpo, Cpd, Cpe, Cho, Chc, Chp, Chs, Clp, Cla, Clb, Cgk, Cgs, Cge] at hw10
  obtain ⟨e90, e9st⟩ := as_eq (by omega) (by omega) XD XN XV (by omega) (by omega) XO XW hw2 hw10
  refine lv_pop hx hb dL_law_1556 rfl ?_
  refine lv_goto (tgt := 1652) hx hb dL_law_1557 (by decide) ?_
  have hPm : va_P D vwCl (wM md sd cI cY cJ cQ (upd (upd (upd ny 0 0) 1 mst_12) 5 mq_13) (upR (upR (upR fy 7 mh_14) 8 mp_15) 9 mt_16) mf_17 ++ wX ad rw sd cI cY cJ cQ (upd nx 2 lf_4) (upR (upR (upR (upR fx 7 pt_5) 8 ps_6) 9 ha_7) 10 re_8) rs lo) H := hP.part [18, 0, 1, 2, 28, 29, 30, 31, 32, 33, 34, 35, 19, 36, 20, 21, 22, 23, 24, 37, 38, 39, 40, 3, 4, 5, 6, 7, 8, 9, 10, 11, 12, 13, 14, 15, 16, 25, 26, 27, 17] rfl
  have hDm : va_D (fun q : Nat => s.heap.size ≤ q) (wM md sd cI cY cJ cQ (upd (upd (upd ny 0 0) 1 mst_12) 5 mq_13) (upR (upR (upR fy 7 mh_14) 8 mp_15) 9 mt_16) mf_17 ++ wX ad rw sd cI cY cJ cQ (upd nx 2 lf_4) (upR (upR (upR (upR fx 7 pt_5) 8 ps_6) 9 ha_7) 10 re_8) rs lo) := wMX_D hD
  exact kk (upd nx 2 lf_4) (upR (upR (upR (upR fx 7 pt_5) 8 ps_6) 9 ha_7) 10 re_8) rs lo (upd (upd (upd ny 0 0) 1 mst_12) 5 mq_13) (upR (upR (upR fy 7 mh_14) 8 mp_15) 9 mt_16) mf_17 H locs ls ⟨Xhna, Xhnb, XH, XD, XV, XN, Xcna, Xcnb, XF, Xpna, Xpnb, XG, XO, XW, Xgna, Xgnb, XJ, Xlna, Xlnb, Xdla, Xdlb, Xana, Xanb, Xuna, Xunb, XU, Xlca, Xlcb, Xtna, Xtnb, XS, Mhna, Mhnb, MH, MS, Mmlna, Mmlnb, Mmtna, Mmtnb, Chn, Cho, Chc, Chp, Chs, Ccn, Cfo, Cwo, Cpn, Cpk, Cpf, Cpo, Cpd, Cpe, Cgn, Cgk, Cgs, Cgd, Cge, Can, Cak, Cah, Cay, Caz, Cun, Cuk, Cuy, Cuw, Cum, Clc, Clp, Cla, Clb, Caw, Ciw, Cln, Ctd, Cro, Cmtn, Cmtr, (show (mst_12) = (lf_4) from e9st), Csh⟩ hPm.comm hDm.comm hS hl

set_option maxHeartbeats 4000000 in
set_option maxRecDepth 100000 in
theorem law_case_34 {p : Program} {l : Launch} {e : Env} {s : State} {m : MethodId} {below : List Frame} {meth : Method} {c : Code} {D : va_G} {cI cY cJ cQ : ClassId} {b L aK aV : Nat} {xs : Nat → Int32} {ad rw md : Nat → Nat} {sd i : Int32} {nx : Nat → Int32} {fx rs : Nat → Nat → Int32} {lo : Nat → Int64} {ny : Nat → Int32} {fy : Nat → Nat → Int32} {fl : Nat → Int64} {H : Heap} {locs : List Loc} {ls : Array Slot} (C0 : lawC p s m meth c b L xs D cI cY cJ cQ aK aV) (I : inv nx fx rs ny fy) (hP : va_P D vwCl (wX ad rw sd cI cY cJ cQ nx fx rs lo ++ wM md sd cI cY cJ cQ ny fy fl) H) (hD : va_D (fun q : Nat => s.heap.size ≤ q) (wX ad rw sd cI cY cJ cQ nx fx rs lo ++ wM md sd cI cY cJ cQ ny fy fl)) (hS : va_S (fun q : Nat => s.heap.size ≤ q) s.heap H locs) (hl : lv_has ls 4 [(0, .ref b), (1, .ref (ad 0)), (2, .ref (md 64)), (3, .int i)]) (hi1 : 1 ≤ i.toInt) (hi2 : i.toInt + 5 < L) (kk : ∀ (nx : Nat → Int32) (fx rs : Nat → Nat → Int32) (lo : Nat → Int64) (ny : Nat → Int32) (fy : Nat → Nat → Int32) (fl : Nat → Int64) (H : Heap) (locs : List Loc) (ls : Array Slot), inv nx fx rs ny fy → va_P D vwCl (wX ad rw sd cI cY cJ cQ nx fx rs lo ++ wM md sd cI cY cJ cQ ny fy fl) H → va_D (fun q : Nat => s.heap.size ≤ q) (wX ad rw sd cI cY cJ cQ nx fx rs lo ++ wM md sd cI cY cJ cQ ny fy fl) → va_S (fun q : Nat => s.heap.size ≤ q) s.heap H locs → lv_has ls 4 [(0, .ref b), (1, .ref (ad 0)), (2, .ref (md 64)), (3, .int i)] → W p l e room_1 s m #[Value.ref b] below meth c H locs 107 4890 (lw_Z below #[Value.ref b] s) (F0 m 1652 ls [])) : W p l e room_1 s m #[Value.ref b] below meth c H locs 107 4890 (lw_Z below #[Value.ref b] s) (F0 m 1560 ls []) := by
  obtain ⟨C1, hK, hN, hT, hL⟩ := C0
  obtain ⟨hx, hb, hr, hml, hown, hts0, hX, hbl, hlocks, hgv⟩ := C1
  have hA : ∀ q : Nat, s.heap.size ≤ q → (fun q : Nat => s.heap.size ≤ q) q := fun _ h => h
  have hbA : ¬ (fun q : Nat => s.heap.size ≤ q) b := Nat.not_le.mpr hbl
  have hts : ∀ w ∈ wsL_law, w.before #[Value.ref b] s = true := fun w h => hts0 w (wsL_law_in w h)
  replace hown : s.vm.findClass RL = some m.cls := hown
  replace hb : c.code = cL_law := hb
  have hak1 : vp_in (i + 1) L := law_in hi1 hi2 hL (by decide)
  obtain ⟨xk1, exk1⟩ : ∃ y : Int32, y = xs (i + 1).toNatClampNeg := ⟨_, rfl⟩
  have hak2 : vp_in (i + 2) L := law_in hi1 hi2 hL (by decide)
  obtain ⟨xk2, exk2⟩ : ∃ y : Int32, y = xs (i + 2).toNatClampNeg := ⟨_, rfl⟩
  refine inv_el I ?_
  intro Xhna Xhnb XH XD XV XN Xcna Xcnb XF Xpna Xpnb XG XO XW Xgna Xgnb XJ Xlna Xlnb Xdla Xdlb Xana Xanb Xuna Xunb XU Xlca Xlcb Xtna Xtnb XS Mhna Mhnb MH MS Mmlna Mmlnb Mmtna Mmtnb Chn Cho Chc Chp Chs Ccn Cfo Cwo Cpn Cpk Cpf Cpo Cpd Cpe Cgn Cgk Cgs Cgd Cge Can Cak Cah Cay Caz Cun Cuk Cuy Cuw Cum Clc Clp Cla Clb Caw Ciw Cln Ctd Cro Cmtn Cmtr Cmst Csh
  have Tcn := i_eq Ccn
  have Tpn := i_eq Cpn
  have Tgn := i_eq Cgn
  have Tan := i_eq Can
  have Tun := i_eq Cun
  have Tlc := i_eq Clc
  have Tln := i_eq Cln
  have Thn := i_eq Chn
  have MXV : okV (ny 2) (fy 5) := by rw [Chn, Chp]; exact XV
  have MXF : okF (ny 3) (fy 10) := by rw [Ccn, Cfo]; exact XF
  have MXG : okG (ny 4) (fy 14) := by rw [Cpn, Cpo]; exact XG
  refine lv_aload_n hx hb dL_law_1560 rfl (lv_at hl 1 rfl) ?_
  refine law_arg (v := 1) hx hb hX hbl hbA hS (lv_at hl 0 rfl) (lv_at hl 3 rfl) (by decide) hak1 exk1 dL_law_1561 dL_law_1562 dL_law_1563 dL_law_1564 dL_law_1565 ?_
  refine law_arg (v := 2) hx hb hX hbl hbA hS (lv_at hl 0 rfl) (lv_at hl 3 rfl) (by decide) hak2 exk2 dL_law_1566 dL_law_1567 dL_law_1568 dL_law_1569 dL_law_1570 ?_
  refine st_iQ (wr := [(aI cI (rw 0) 60 (rs 0)), (aI cI (rw 1) 60 (rs 1)), (aI cI (rw 2) 60 (rs 2)), (aI cI (rw 3) 60 (rs 3)), (aI cI (rw 4) 60 (rs 4)), (aI cI (rw 5) 60 (rs 5)), (aI cI (rw 6) 60 (rs 6)), (aI cI (rw 7) 60 (rs 7)), (oC9 ad ), ((ad 12), .inl (cQ, 8, .inr (.inr (.inr (.inr (fun i => if i < 8 then some (rw i) else none)))))), (aI cI (ad 13) 8 (fx 1)), (aI cI (ad 14) 8 (fx 2)), (aI cI (ad 33) 12 (fx 13)), (aI cI (ad 34) 6 (fx 14)), (aI cI (ad 35) 6 (fx 15)), (aI cI (ad 46) 40 (fx 26)), (oC2 ad (nx 7) (nx 8) (nx 9) (nx 10) (nx 11) (nx 12) (nx 13) (nx 14)), (aI cY (ad 47) 300 (fx 27)), (aI cI (ad 48) 12 (fx 28)), (aI cI (ad 49) 12 (fx 29)), (aI cI (ad 50) 12 (fx 30)), (aI cI (ad 51) 12 (fx 31)), (aI cI (ad 52) 12 (fx 32)), (aI cI (ad 53) 12 (fx 33)), (oC0 ad (nx 15)), (aI cI (ad 54) 60 (fx 34)), (aI cI (ad 55) 60 (fx 35)), (aI cI (ad 56) 60 (fx 36)), (aI cI (ad 57) 60 (fx 37)), (oC5 ad sd), (aJ cJ (ad 58) 12 lo), (oC6 ad (nx 16)), (aI cI (ad 59) 60 (fx 38)), (aI cI (ad 60) 60 (fx 39)), (aI cI (ad 61) 60 (fx 40)), (aI cI (ad 62) 60 (fx 41))]) (va_runV (C := RX10) (As := [.int xk1, .int xk2]) (rest := []) ⟨hx, hb, hml, hown, hts⟩ (ct_X10_ask l D cI cY cJ cQ _ ad (nx 0) (nx 1) (nx 2) (nx 4) (nx 5) (nx 3) (nx 17) (nx 6) (fx 11) (fx 16) (fx 17) (fx 18) (fx 19) (fx 20) (fx 21) (fx 3) (fx 4) (fx 5) (fx 6) (fx 7) (fx 8) (fx 9) (fx 10) (fx 42) (fx 43) (fx 44) (fx 12) (fx 22) (fx 23) (fx 24) (fx 25) (fx 0) xk1 xk2 Xcna Xcnb Xpna Xpnb XO Xhna Xhnb XH XV Xlca Xlcb Xgna Xgnb XF XG Xtna Xtnb) (cwV 2 hts gL_law_X10_ask rfl rfl rfl ⟨rfl, cdX10_ask⟩ ⟨Nat.le_of_ble_eq_true rfl, Nat.le_of_ble_eq_true rfl⟩) (cPreV (hP.sub [0, 23, 24, 29, 30, 31, 32, 33, 34, 35, 14, 15, 16, 17, 18, 19, 20, 21, 22, 62, 63, 64, 65, 25, 36, 37, 38, 39, 40, 1] rfl) hK (hD.sub [0, 23, 24, 29, 30, 31, 32, 33, 34, 35, 14, 15, 16, 17, 18, 19, 20, 21, 22, 62, 63, 64, 65, 25, 36, 37, 38, 39, 40, 1] (by decide +kernel) rfl) hN (ci := 10) (q0 := 0) rfl rfl) rfl rfl hl.1 rfl (lv_room (Nat.le_of_ble_eq_true rfl)) dL_law_1571 ⟨Nat.le_of_ble_eq_true rfl, Nat.le_of_ble_eq_true rfl⟩) hP hD hS hA [0, 23, 24, 29, 30, 31, 32, 33, 34, 35, 14, 15, 16, 17, 18, 19, 20, 21, 22, 62, 63, 64, 65, 25, 36, 37, 38, 39, 40, 1] [2, 3, 4, 5, 6, 7, 8, 9, 10, 11, 12, 13, 26, 27, 28, 41, 42, 43, 44, 45, 46, 47, 48, 49, 50, 51, 52, 53, 54, 55, 56, 57, 58, 59, 60, 61] rfl rfl (by decide +kernel) (by decide +kernel) (fun r3 u1 H locs hw2 => ?_)
  clear hP hS
  intro hP _ hS
  obtain ⟨tn_4, tr_5, pt_6, ps_7, ha_8, re_9⟩ := u1
  replace hw2 : (r3, tn_4, tr_5) = sp_ask (nx 0) (fx 0) (nx 4) (nx 5) (nx 3) (nx 17) (nx 6) (nx 1) (fx 11) (fx 12) (fx 16) (fx 17) (fx 18) (fx 19) (fx 20) (fx 21) (fx 3) (fx 4) (fx 5) (fx 6) (fx 42) (fx 43) (fx 44) (fx 22) (fx 23) (fx 25) xk1 xk2 ∧ 0 ≤ tn_4.toInt ∧ tn_4.toInt ≤ 16 := hw2
  obtain ⟨hw2, hw2a, hw2b⟩ := hw2
  refine lv_pop hx hb dL_law_1574 rfl ?_
  have hPx : va_P D vwCl (wX ad rw sd cI cY cJ cQ (upd nx 0 tn_4) (upR (upR (upR (upR (upR fx 0 tr_5) 7 pt_6) 8 ps_7) 9 ha_8) 10 re_9) rs lo ++ wM md sd cI cY cJ cQ ny fy fl) H := hP.part [36, 65, 0, 1, 2, 3, 4, 5, 6, 7, 8, 9, 10, 11, 46, 47, 48, 49, 50, 51, 52, 53, 54, 37, 38, 59, 12, 13, 14, 39, 40, 41, 42, 43, 44, 45, 60, 61, 62, 63, 64, 15, 16, 17, 18, 19, 20, 21, 22, 23, 24, 25, 26, 27, 28, 29, 30, 31, 32, 33, 34, 35, 55, 56, 57, 58] rfl
  have hDx : va_D (fun q : Nat => s.heap.size ≤ q) (wX ad rw sd cI cY cJ cQ (upd nx 0 tn_4) (upR (upR (upR (upR (upR fx 0 tr_5) 7 pt_6) 8 ps_7) 9 ha_8) 10 re_9) rs lo ++ wM md sd cI cY cJ cQ ny fy fl) := wXM_D hD
  have hP := hPx.comm
  have hD := hDx.comm
  refine lv_aload_n hx hb dL_law_1575 rfl (lv_at hl 2 rfl) ?_
  refine law_arg (v := 1) hx hb hX hbl hbA hS (lv_at hl 0 rfl) (lv_at hl 3 rfl) (by decide) hak1 exk1 dL_law_1576 dL_law_1577 dL_law_1578 dL_law_1579 dL_law_1580 ?_
  refine law_arg (v := 2) hx hb hX hbl hbA hS (lv_at hl 0 rfl) (lv_at hl 3 rfl) (by decide) hak2 exk2 dL_law_1581 dL_law_1582 dL_law_1583 dL_law_1584 dL_law_1585 ?_
  refine st_iQ (wr := [(aI cI (md 3) 8 (fy 0)), (aI cI (md 4) 8 (fy 1)), (aI cI (md 5) 480 (fy 2)), (aI cI (md 31) 36 (fy 21)), (aI cI (md 33) 36 (fy 22)), (aI cI (md 34) 300 (fy 23)), (aI cI (md 45) 60 (fy 24)), (aI cI (md 46) 60 (fy 25)), (aI cI (md 47) 60 (fy 26)), (aI cI (md 48) 60 (fy 27)), (aI cI (md 49) 6 (fy 28)), (aI cI (md 50) 6 (fy 29)), (aI cI (md 51) 12 (fy 30)), (aI cI (md 53) 60 (fy 31)), (aI cI (md 54) 60 (fy 32)), (aI cI (md 55) 60 (fy 33)), (aI cI (md 56) 60 (fy 34))]) (va_runV (C := RX11) (As := [.int xk1, .int xk2]) (rest := []) ⟨hx, hb, hml, hown, hts⟩ (ct_X11_ask l D cI cY cJ cQ _ md sd (ny 0) (ny 1) (ny 2) (ny 3) (ny 4) (ny 5) (ny 6) (ny 7) (ny 8) (ny 9) (ny 10) (ny 11) (ny 12) (ny 13) (ny 14) (ny 15) (ny 16) (ny 17) (ny 18) (ny 19) (ny 20) (ny 21) (ny 22) (fy 10) (fy 12) (fy 13) (fy 14) (fy 15) (fy 16) (fy 35) (fy 36) (fy 37) (fy 3) (fy 4) (fy 5) (fy 6) (fy 7) (fy 8) (fy 9) (fy 11) (fy 17) (fy 18) (fy 19) (fy 20) (fy 38) fl xk1 xk2 (by omega) (by omega) (by omega) (by omega) (by omega) (by omega) Mhna Mhnb (by assumption) (by assumption) (by assumption) (by omega) (by omega) Mmtna Mmtnb) (cwV 2 hts gL_law_X11_ask rfl rfl rfl ⟨rfl, cdX11_ask⟩ ⟨Nat.le_of_ble_eq_true rfl, Nat.le_of_ble_eq_true rfl⟩) (cPreV (hP.sub [0, 12, 14, 15, 16, 17, 18, 37, 38, 39, 4, 5, 6, 7, 8, 9, 10, 11, 13, 19, 20, 21, 22, 40] rfl) hK (hD.sub [0, 12, 14, 15, 16, 17, 18, 37, 38, 39, 4, 5, 6, 7, 8, 9, 10, 11, 13, 19, 20, 21, 22, 40] (by decide +kernel) rfl) hN (ci := 11) (q0 := 0) rfl rfl) rfl rfl hl.1 rfl (lv_room (Nat.le_of_ble_eq_true rfl)) dL_law_1586 ⟨Nat.le_of_ble_eq_true rfl, Nat.le_of_ble_eq_true rfl⟩) hP hD hS hA [0, 12, 14, 15, 16, 17, 18, 37, 38, 39, 4, 5, 6, 7, 8, 9, 10, 11, 13, 19, 20, 21, 22, 40] [1, 2, 3, 23, 24, 25, 26, 27, 28, 29, 30, 31, 32, 33, 34, 35, 36] rfl rfl (by decide +kernel) (by decide +kernel) (fun r12 u10 H locs hw11 => ?_)
  clear hP hS
  intro hP _ hS
  obtain ⟨mtn_13, mtr_14, mq_15, mh_16, mp_17, mt_18, mf_19⟩ := u10
  replace hw11 : (r12, mtn_13, mtr_14) = sm_ask (ny 22) (fy 38) (ny 3) (ny 4) (ny 2) (ny 20) (ny 6) (ny 21) (fy 10) (fy 11) (fy 12) (fy 13) (fy 14) (fy 15) (fy 16) (fy 3) (fy 4) (fy 5) (fy 6) (fy 35) (fy 36) (fy 37) (fy 17) (fy 18) (fy 20) xk1 xk2 ∧ 0 ≤ mtn_13.toInt ∧ mtn_13.toInt ≤ 16 := hw11
  obtain ⟨hw11, hw11a, hw11b⟩ := hw11
  rw [Cmtn, Cmtr, Ccn, Cpn, Chn, Clc, Cgn, Ctd, Cfo, Cwo, Cpk, Cpf, Cpo, Cpd, Cpe, Cho, Chc, Chp, Chs, Clp, Cla, Clb, Cgk, Cgs, Cge, ← ask_eq (by omega) (by omega) XD XN XV (by omega) (by omega) XO XW (by omega) (by omega) XJ] at hw11
  have e9 := hw2.trans hw11.symm
  simp only [Prod.mk.injEq] at e9
  obtain ⟨e90, e9tn, e9tr⟩ := e9
  refine lv_pop hx hb dL_law_1589 rfl ?_
  refine lv_goto (tgt := 1652) hx hb dL_law_1590 (by decide) ?_
  have hPm : va_P D vwCl (wM md sd cI cY cJ cQ (upd (upd (upd ny 0 0) 5 mq_15) 22 mtn_13) (upR (upR (upR (upR fy 7 mh_16) 8 mp_17) 9 mt_18) 38 mtr_14) mf_19 ++ wX ad rw sd cI cY cJ cQ (upd nx 0 tn_4) (upR (upR (upR (upR (upR fx 0 tr_5) 7 pt_6) 8 ps_7) 9 ha_8) 10 re_9) rs lo) H := hP.part [17, 0, 1, 2, 27, 28, 29, 30, 31, 32, 33, 34, 18, 35, 19, 20, 21, 22, 23, 36, 37, 38, 39, 3, 4, 5, 6, 7, 8, 9, 10, 11, 12, 13, 14, 15, 16, 24, 25, 26, 40] rfl
  have hDm : va_D (fun q : Nat => s.heap.size ≤ q) (wM md sd cI cY cJ cQ (upd (upd (upd ny 0 0) 5 mq_15) 22 mtn_13) (upR (upR (upR (upR fy 7 mh_16) 8 mp_17) 9 mt_18) 38 mtr_14) mf_19 ++ wX ad rw sd cI cY cJ cQ (upd nx 0 tn_4) (upR (upR (upR (upR (upR fx 0 tr_5) 7 pt_6) 8 ps_7) 9 ha_8) 10 re_9) rs lo) := wMX_D hD
  exact kk (upd nx 0 tn_4) (upR (upR (upR (upR (upR fx 0 tr_5) 7 pt_6) 8 ps_7) 9 ha_8) 10 re_9) rs lo (upd (upd (upd ny 0 0) 5 mq_15) 22 mtn_13) (upR (upR (upR (upR fy 7 mh_16) 8 mp_17) 9 mt_18) 38 mtr_14) mf_19 H locs ls ⟨Xhna, Xhnb, XH, XD, XV, XN, Xcna, Xcnb, XF, Xpna, Xpnb, XG, XO, XW, Xgna, Xgnb, XJ, Xlna, Xlnb, Xdla, Xdlb, Xana, Xanb, Xuna, Xunb, XU, Xlca, Xlcb, (by show 0 ≤ (tn_4).toInt; omega), (by show (tn_4).toInt ≤ 16; omega), XS, Mhna, Mhnb, MH, MS, Mmlna, Mmlnb, (by show 0 ≤ (mtn_13).toInt; omega), (by show (mtn_13).toInt ≤ 16; omega), Chn, Cho, Chc, Chp, Chs, Ccn, Cfo, Cwo, Cpn, Cpk, Cpf, Cpo, Cpd, Cpe, Cgn, Cgk, Cgs, Cgd, Cge, Can, Cak, Cah, Cay, Caz, Cun, Cuk, Cuy, Cuw, Cum, Clc, Clp, Cla, Clb, Caw, Ciw, Cln, Ctd, Cro, (show (mtn_13) = (tn_4) from e9tn.symm), (show (mtr_14) = (tr_5) from e9tr.symm), Cmst, Csh⟩ hPm.comm hDm.comm hS hl

set_option maxHeartbeats 4000000 in
set_option maxRecDepth 100000 in
theorem law_case_35 {p : Program} {l : Launch} {e : Env} {s : State} {m : MethodId} {below : List Frame} {meth : Method} {c : Code} {D : va_G} {cI cY cJ cQ : ClassId} {b L aK aV : Nat} {xs : Nat → Int32} {ad rw md : Nat → Nat} {sd i : Int32} {nx : Nat → Int32} {fx rs : Nat → Nat → Int32} {lo : Nat → Int64} {ny : Nat → Int32} {fy : Nat → Nat → Int32} {fl : Nat → Int64} {H : Heap} {locs : List Loc} {ls : Array Slot} (C0 : lawC p s m meth c b L xs D cI cY cJ cQ aK aV) (I : inv nx fx rs ny fy) (hP : va_P D vwCl (wX ad rw sd cI cY cJ cQ nx fx rs lo ++ wM md sd cI cY cJ cQ ny fy fl) H) (hD : va_D (fun q : Nat => s.heap.size ≤ q) (wX ad rw sd cI cY cJ cQ nx fx rs lo ++ wM md sd cI cY cJ cQ ny fy fl)) (hS : va_S (fun q : Nat => s.heap.size ≤ q) s.heap H locs) (hl : lv_has ls 4 [(0, .ref b), (1, .ref (ad 0)), (2, .ref (md 64)), (3, .int i)]) (hi1 : 1 ≤ i.toInt) (hi2 : i.toInt + 5 < L) (kk : ∀ (nx : Nat → Int32) (fx rs : Nat → Nat → Int32) (lo : Nat → Int64) (ny : Nat → Int32) (fy : Nat → Nat → Int32) (fl : Nat → Int64) (H : Heap) (locs : List Loc) (ls : Array Slot), inv nx fx rs ny fy → va_P D vwCl (wX ad rw sd cI cY cJ cQ nx fx rs lo ++ wM md sd cI cY cJ cQ ny fy fl) H → va_D (fun q : Nat => s.heap.size ≤ q) (wX ad rw sd cI cY cJ cQ nx fx rs lo ++ wM md sd cI cY cJ cQ ny fy fl) → va_S (fun q : Nat => s.heap.size ≤ q) s.heap H locs → lv_has ls 4 [(0, .ref b), (1, .ref (ad 0)), (2, .ref (md 64)), (3, .int i)] → W p l e room_1 s m #[Value.ref b] below meth c H locs 107 4890 (lw_Z below #[Value.ref b] s) (F0 m 1652 ls [])) : W p l e room_1 s m #[Value.ref b] below meth c H locs 107 4890 (lw_Z below #[Value.ref b] s) (F0 m 1593 ls []) := by
  obtain ⟨C1, hK, hN, hT, hL⟩ := C0
  obtain ⟨hx, hb, hr, hml, hown, hts0, hX, hbl, hlocks, hgv⟩ := C1
  have hA : ∀ q : Nat, s.heap.size ≤ q → (fun q : Nat => s.heap.size ≤ q) q := fun _ h => h
  have hbA : ¬ (fun q : Nat => s.heap.size ≤ q) b := Nat.not_le.mpr hbl
  have hts : ∀ w ∈ wsL_law, w.before #[Value.ref b] s = true := fun w h => hts0 w (wsL_law_in w h)
  replace hown : s.vm.findClass RL = some m.cls := hown
  replace hb : c.code = cL_law := hb
  have hak1 : vp_in (i + 1) L := law_in hi1 hi2 hL (by decide)
  obtain ⟨xk1, exk1⟩ : ∃ y : Int32, y = xs (i + 1).toNatClampNeg := ⟨_, rfl⟩
  refine inv_el I ?_
  intro Xhna Xhnb XH XD XV XN Xcna Xcnb XF Xpna Xpnb XG XO XW Xgna Xgnb XJ Xlna Xlnb Xdla Xdlb Xana Xanb Xuna Xunb XU Xlca Xlcb Xtna Xtnb XS Mhna Mhnb MH MS Mmlna Mmlnb Mmtna Mmtnb Chn Cho Chc Chp Chs Ccn Cfo Cwo Cpn Cpk Cpf Cpo Cpd Cpe Cgn Cgk Cgs Cgd Cge Can Cak Cah Cay Caz Cun Cuk Cuy Cuw Cum Clc Clp Cla Clb Caw Ciw Cln Ctd Cro Cmtn Cmtr Cmst Csh
  have Tcn := i_eq Ccn
  have Tpn := i_eq Cpn
  have Tgn := i_eq Cgn
  have Tan := i_eq Can
  have Tun := i_eq Cun
  have Tlc := i_eq Clc
  have Tln := i_eq Cln
  refine lv_aload_n hx hb dL_law_1593 rfl (lv_at hl 1 rfl) ?_
  refine law_arg (v := 1) hx hb hX hbl hbA hS (lv_at hl 0 rfl) (lv_at hl 3 rfl) (by decide) hak1 exk1 dL_law_1594 dL_law_1595 dL_law_1596 dL_law_1597 dL_law_1598 ?_
  refine st_iU (va_runV (C := RX10) (As := [.int xk1]) (rest := []) ⟨hx, hb, hml, hown, hts⟩ (ct_X10_trace l D cI cY cJ cQ _ ad (nx 0) (nx 1) (nx 2) (fx 0) xk1 Xtna Xtnb) (cwV 1 hts gL_law_X10_trace rfl rfl rfl ⟨rfl, cdX10_trace⟩ ⟨Nat.le_of_ble_eq_true rfl, Nat.le_of_ble_eq_true rfl⟩) (cPreV (hP.sub [0, 1] rfl) hK (hD.sub [0, 1] (by decide +kernel) rfl) hN (ci := 10) (q0 := 0) rfl rfl) rfl rfl hl.1 rfl (lv_room (Nat.le_of_ble_eq_true rfl)) dL_law_1599 ⟨Nat.le_of_ble_eq_true rfl, Nat.le_of_ble_eq_true rfl⟩) hP hD hS hA [0, 1] rfl (fun _ => rfl) (fun r3 u1 H locs hw2 => ?_)
  clear hP hS
  intro hP hS
  replace hw2 : r3 = sp_trace (nx 0) (fx 0) xk1 := hw2
  refine lv_pop hx hb dL_law_1602 rfl ?_
  have hPx : va_P D vwCl (wX ad rw sd cI cY cJ cQ nx fx rs lo ++ wM md sd cI cY cJ cQ ny fy fl) H := hP
  have hDx : va_D (fun q : Nat => s.heap.size ≤ q) (wX ad rw sd cI cY cJ cQ nx fx rs lo ++ wM md sd cI cY cJ cQ ny fy fl) := wXM_D hD
  have hP := hPx.comm
  have hD := hDx.comm
  refine lv_aload_n hx hb dL_law_1603 rfl (lv_at hl 2 rfl) ?_
  refine law_arg (v := 1) hx hb hX hbl hbA hS (lv_at hl 0 rfl) (lv_at hl 3 rfl) (by decide) hak1 exk1 dL_law_1604 dL_law_1605 dL_law_1606 dL_law_1607 dL_law_1608 ?_
  refine st_iU (va_runV (C := RX11) (As := [.int xk1]) (rest := []) ⟨hx, hb, hml, hown, hts⟩ (ct_X11_trace l D cI cY cJ cQ _ md sd (ny 0) (ny 1) (ny 2) (ny 3) (ny 4) (ny 5) (ny 6) (ny 7) (ny 8) (ny 9) (ny 10) (ny 11) (ny 12) (ny 13) (ny 14) (ny 15) (ny 16) (ny 17) (ny 18) (ny 19) (ny 20) (ny 21) (ny 22) (fy 38) xk1 Mmtna Mmtnb) (cwV 1 hts gL_law_X11_trace rfl rfl rfl ⟨rfl, cdX11_trace⟩ ⟨Nat.le_of_ble_eq_true rfl, Nat.le_of_ble_eq_true rfl⟩) (cPreV (hP.sub [0, 40] rfl) hK (hD.sub [0, 40] (by decide +kernel) rfl) hN (ci := 11) (q0 := 0) rfl rfl) rfl rfl hl.1 rfl (lv_room (Nat.le_of_ble_eq_true rfl)) dL_law_1609 ⟨Nat.le_of_ble_eq_true rfl, Nat.le_of_ble_eq_true rfl⟩) hP hD hS hA [0, 40] rfl (fun _ => rfl) (fun r6 u4 H locs hw5 => ?_)
  clear hP hS
  intro hP hS
  replace hw5 : r6 = sp_trace (ny 22) (fy 38) xk1 := hw5
  rw [Cmtn, Cmtr] at hw5
  have e90 := hw2.trans hw5.symm
  refine lv_pop hx hb dL_law_1612 rfl ?_
  refine lv_goto (tgt := 1652) hx hb dL_law_1613 (by decide) ?_
  have hPm : va_P D vwCl (wM md sd cI cY cJ cQ (upd ny 0 0) fy fl ++ wX ad rw sd cI cY cJ cQ nx fx rs lo) H := hP
  have hDm : va_D (fun q : Nat => s.heap.size ≤ q) (wM md sd cI cY cJ cQ (upd ny 0 0) fy fl ++ wX ad rw sd cI cY cJ cQ nx fx rs lo) := wMX_D hD
  exact kk nx fx rs lo (upd ny 0 0) fy fl H locs ls ⟨Xhna, Xhnb, XH, XD, XV, XN, Xcna, Xcnb, XF, Xpna, Xpnb, XG, XO, XW, Xgna, Xgnb, XJ, Xlna, Xlnb, Xdla, Xdlb, Xana, Xanb, Xuna, Xunb, XU, Xlca, Xlcb, Xtna, Xtnb, XS, Mhna, Mhnb, MH, MS, Mmlna, Mmlnb, Mmtna, Mmtnb, Chn, Cho, Chc, Chp, Chs, Ccn, Cfo, Cwo, Cpn, Cpk, Cpf, Cpo, Cpd, Cpe, Cgn, Cgk, Cgs, Cgd, Cge, Can, Cak, Cah, Cay, Caz, Cun, Cuk, Cuy, Cuw, Cum, Clc, Clp, Cla, Clb, Caw, Ciw, Cln, Ctd, Cro, Cmtn, Cmtr, Cmst, Csh⟩ hPm.comm hDm.comm hS hl
end

section
theorem cdX10_count : yX10_count.cls ≠ "java/lang/invoke/MethodHandle" ∧ yX10_count.cls ≠ "java/lang/invoke/VarHandle" ∧ (parseMethodDescriptor yX10_count.desc).map (fun d => d.parameters.length) = some 1 := by decide +kernel
theorem cdX10_status : yX10_status.cls ≠ "java/lang/invoke/MethodHandle" ∧ yX10_status.cls ≠ "java/lang/invoke/VarHandle" ∧ (parseMethodDescriptor yX10_status.desc).map (fun d => d.parameters.length) = some 0 := by decide +kernel
theorem cdX11_count : yX11_count.cls ≠ "java/lang/invoke/MethodHandle" ∧ yX11_count.cls ≠ "java/lang/invoke/VarHandle" ∧ (parseMethodDescriptor yX11_count.desc).map (fun d => d.parameters.length) = some 1 := by decide +kernel
theorem cdX11_status : yX11_status.cls ≠ "java/lang/invoke/MethodHandle" ∧ yX11_status.cls ≠ "java/lang/invoke/VarHandle" ∧ (parseMethodDescriptor yX11_status.desc).map (fun d => d.parameters.length) = some 0 := by decide +kernel
theorem Gd_X10_count : gdA wsX10_count := gd_cons (by decide +kernel) (gd_app (gd_all (ws := wsX10_count_o1) (by decide +kernel)) (gd_app (gd_app (gd_app (gd_app Gd_X100 Gd_X30) Gd_X10) (gd_app (gd_app Gd_X70 Gd_X80) Gd_X20)) (gd_app (gd_app (gd_app Gd_X00 Gd_X60) Gd_X40) (gd_app Gd_X90 Gd_X9_howMany))))
theorem Gd_X10_status : gdA wsX10_status := gd_cons (by decide +kernel) (gd_app (gd_all (ws := wsX10_status_o1) (by decide +kernel)) Gd_X100)
theorem Gd_X11_count : gdA wsX11_count := gd_cons (by decide +kernel) (gd_app (gd_all (ws := wsX11_count_o1) (by decide +kernel)) Gd_X110)
theorem Gd_X11_status : gdA wsX11_status := gd_cons (by decide +kernel) (gd_app (gd_all (ws := wsX11_status_o1) (by decide +kernel)) Gd_X110)
theorem ggL_law_X10_count : GoodIn wsL_law wsX10_count := goodIn_s (fun _ h => (wm_r (wm_r (wm_r (wm_r (wm_r (wm_l (wm_l (wm_r h))))))))) Gd_X10_count
theorem gL_law_X10_count : GoodIn wsL_law (wsV RL 174 RX10 yX10_count wsX10_count) := goodIn_V (own := RL) (idx := 174) (C := RX10) (y := yX10_count) (wm_l (wm_r (wm_r (wm_l (wm_i 13 rfl))))) (wm_l (wm_r (wm_r (wm_l (wm_i 14 rfl))))) (wm_l (wm_r (wm_r (wm_l (wm_i 15 rfl))))) (wm_l (wm_l (wm_l (wm_l (wm_l (wm_i 2 rfl)))))) ggL_law_X10_count
theorem ggL_law_X11_count : GoodIn wsL_law wsX11_count := goodIn_s (fun _ h => (wm_r (wm_r (wm_r (wm_r (wm_r (wm_l (wm_r h)))))))) Gd_X11_count
theorem gL_law_X11_count : GoodIn wsL_law (wsV RL 177 RX11 yX11_count wsX11_count) := goodIn_V (own := RL) (idx := 177) (C := RX11) (y := yX11_count) (wm_l (wm_r (wm_r (wm_l (wm_i 16 rfl))))) (wm_l (wm_r (wm_r (wm_l (wm_i 17 rfl))))) (wm_l (wm_r (wm_r (wm_l (wm_i 18 rfl))))) (wm_l (wm_l (wm_l (wm_l (wm_l (wm_i 5 rfl)))))) ggL_law_X11_count
theorem ggL_law_X10_status : GoodIn wsL_law wsX10_status := goodIn_s (fun _ h => (wm_r (wm_r (wm_r (wm_r (wm_r (wm_r (wm_l h)))))))) Gd_X10_status
theorem gL_law_X10_status : GoodIn wsL_law (wsV RL 178 RX10 yX10_status wsX10_status) := goodIn_V (own := RL) (idx := 178) (C := RX10) (y := yX10_status) (wm_l (wm_r (wm_r (wm_l (wm_i 19 rfl))))) (wm_l (wm_r (wm_r (wm_l (wm_i 20 rfl))))) (wm_l (wm_r (wm_r (wm_l (wm_i 21 rfl))))) (wm_l (wm_l (wm_l (wm_l (wm_l (wm_i 2 rfl)))))) ggL_law_X10_status
theorem ggL_law_X11_status : GoodIn wsL_law wsX11_status := goodIn_s (fun _ h => (wm_r (wm_r (wm_r (wm_r (wm_r (wm_r (wm_r h)))))))) Gd_X11_status
theorem sB_68 : dqA cL_law 1632 sL_68 := dq_next sB_67 24 rfl
theorem gL_law_X11_status : GoodIn wsL_law (wsV RL 181 RX11 yX11_status wsX11_status) := goodIn_V (own := RL) (idx := 181) (C := RX11) (y := yX11_status) (wm_l (wm_r (wm_r (wm_l (wm_i 22 rfl))))) (wm_l (wm_r (wm_r (wm_l (wm_i 23 rfl))))) (wm_l (wm_r (wm_r (wm_r (wm_i 0 rfl))))) (wm_l (wm_l (wm_l (wm_l (wm_l (wm_i 5 rfl)))))) ggL_law_X11_status
theorem dL_law_1616 : decode cL_law 1616 = .ok (.aload_n 1, 1) := dL_law_all101.2.2.1
theorem dL_law_1617 : decode cL_law 1617 = .ok (.aload_n 0, 1) := dL_law_all101.2.2.2.1
theorem dL_law_1618 : decode cL_law 1618 = .ok (.iload_n 3, 1) := dL_law_all101.2.2.2.2.1
theorem dL_law_1619 : decode cL_law 1619 = .ok (.iconst 1, 1) := dL_law_all101.2.2.2.2.2.1
theorem dL_law_1620 : decode cL_law 1620 = .ok (.iadd, 1) := dL_law_all101.2.2.2.2.2.2.1
theorem dL_law_1621 : decode cL_law 1621 = .ok (.iaload, 1) := dL_law_all101.2.2.2.2.2.2.2.1
theorem dL_law_1622 : decode cL_law 1622 = .ok (.invokevirtual 174, 3) := dL_law_all101.2.2.2.2.2.2.2.2.1
theorem dL_law_1625 : decode cL_law 1625 = .ok (.pop, 1) := dL_law_all101.2.2.2.2.2.2.2.2.2.1
theorem dL_law_1626 : decode cL_law 1626 = .ok (.aload_n 2, 1) := dL_law_all101.2.2.2.2.2.2.2.2.2.2.1
theorem dL_law_1627 : decode cL_law 1627 = .ok (.aload_n 0, 1) := dL_law_all101.2.2.2.2.2.2.2.2.2.2.2
theorem dL_law_all102 : decode cL_law 1628 = .ok (.iload_n 3, 1) ∧ decode cL_law 1629 = .ok (.iconst 1, 1) ∧ decode cL_law 1630 = .ok (.iadd, 1) ∧ decode cL_law 1631 = .ok (.iaload, 1) ∧ decode cL_law 1632 = .ok (.invokevirtual 177, 3) ∧ decode cL_law 1635 = .ok (.pop, 1) ∧ decode cL_law 1636 = .ok (.goto 16, 3) ∧ decode cL_law 1639 = .ok (.aload_n 1, 1) ∧ decode cL_law 1640 = .ok (.invokevirtual 178, 3) ∧ decode cL_law 1643 = .ok (.aload_n 2, 1) ∧ decode cL_law 1644 = .ok (.invokevirtual 181, 3) ∧ decode cL_law 1647 = .ok (.if_icmp .eq 5, 3) := ⟨dq_29 sB_67 20 rfl, dq_4 sB_67 21 rfl, dq_96 sB_67 22 rfl, dq_46 sB_67 23 rfl, dq_182 sB_68 0 rfl 177 (by decide), dq_87 sB_68 3 rfl, dq_167 sB_68 4 rfl 16 (by decide), dq_43 sB_68 7 rfl, dq_182 sB_68 8 rfl 178 (by decide), dq_44 sB_68 11 rfl, dq_182 sB_68 12 rfl 181 (by decide), by decide +kernel⟩
theorem dL_law_1628 : decode cL_law 1628 = .ok (.iload_n 3, 1) := dL_law_all102.1
theorem dL_law_1629 : decode cL_law 1629 = .ok (.iconst 1, 1) := dL_law_all102.2.1
theorem dL_law_1630 : decode cL_law 1630 = .ok (.iadd, 1) := dL_law_all102.2.2.1
theorem dL_law_1631 : decode cL_law 1631 = .ok (.iaload, 1) := dL_law_all102.2.2.2.1
theorem dL_law_1632 : decode cL_law 1632 = .ok (.invokevirtual 177, 3) := dL_law_all102.2.2.2.2.1
theorem dL_law_1635 : decode cL_law 1635 = .ok (.pop, 1) := dL_law_all102.2.2.2.2.2.1
theorem dL_law_1636 : decode cL_law 1636 = .ok (.goto 16, 3) := dL_law_all102.2.2.2.2.2.2.1
theorem dL_law_1639 : decode cL_law 1639 = .ok (.aload_n 1, 1) := dL_law_all102.2.2.2.2.2.2.2.1
theorem dL_law_1640 : decode cL_law 1640 = .ok (.invokevirtual 178, 3) := dL_law_all102.2.2.2.2.2.2.2.2.1
theorem dL_law_1643 : decode cL_law 1643 = .ok (.aload_n 2, 1) := dL_law_all102.2.2.2.2.2.2.2.2.2.1
theorem dL_law_1644 : decode cL_law 1644 = .ok (.invokevirtual 181, 3) := dL_law_all102.2.2.2.2.2.2.2.2.2.2.1
theorem dL_law_1647 : decode cL_law 1647 = .ok (.if_icmp .eq 5, 3) := dL_law_all102.2.2.2.2.2.2.2.2.2.2.2
set_option maxHeartbeats 4000000 in
set_option maxRecDepth 100000 in
theorem law_case_36 {p : Program} {l : Launch} {e : Env} {s : State} {m : MethodId} {below : List Frame} {meth : Method} {c : Code} {D : va_G} {cI cY cJ cQ : ClassId} {b L aK aV : Nat} {xs : Nat → Int32} {ad rw md : Nat → Nat} {sd i : Int32} {nx : Nat → Int32} {fx rs : Nat → Nat → Int32} {lo : Nat → Int64} {ny : Nat → Int32} {fy : Nat → Nat → Int32} {fl : Nat → Int64} {H : Heap} {locs : List Loc} {ls : Array Slot} (C0 : lawC p s m meth c b L xs D cI cY cJ cQ aK aV) (I : inv nx fx rs ny fy) (hP : va_P D vwCl (wX ad rw sd cI cY cJ cQ nx fx rs lo ++ wM md sd cI cY cJ cQ ny fy fl) H) (hD : va_D (fun q : Nat => s.heap.size ≤ q) (wX ad rw sd cI cY cJ cQ nx fx rs lo ++ wM md sd cI cY cJ cQ ny fy fl)) (hS : va_S (fun q : Nat => s.heap.size ≤ q) s.heap H locs) (hl : lv_has ls 4 [(0, .ref b), (1, .ref (ad 0)), (2, .ref (md 64)), (3, .int i)]) (hi1 : 1 ≤ i.toInt) (hi2 : i.toInt + 5 < L) (kk : ∀ (nx : Nat → Int32) (fx rs : Nat → Nat → Int32) (lo : Nat → Int64) (ny : Nat → Int32) (fy : Nat → Nat → Int32) (fl : Nat → Int64) (H : Heap) (locs : List Loc) (ls : Array Slot), inv nx fx rs ny fy → va_P D vwCl (wX ad rw sd cI cY cJ cQ nx fx rs lo ++ wM md sd cI cY cJ cQ ny fy fl) H → va_D (fun q : Nat => s.heap.size ≤ q) (wX ad rw sd cI cY cJ cQ nx fx rs lo ++ wM md sd cI cY cJ cQ ny fy fl) → va_S (fun q : Nat => s.heap.size ≤ q) s.heap H locs → lv_has ls 4 [(0, .ref b), (1, .ref (ad 0)), (2, .ref (md 64)), (3, .int i)] → W p l e room_1 s m #[Value.ref b] below meth c H locs 107 4890 (lw_Z below #[Value.ref b] s) (F0 m 1652 ls [])) : W p l e room_1 s m #[Value.ref b] below meth c H locs 107 4890 (lw_Z below #[Value.ref b] s) (F0 m 1616 ls []) := by
  obtain ⟨C1, hK, hN, hT, hL⟩ := C0
  obtain ⟨hx, hb, hr, hml, hown, hts0, hX, hbl, hlocks, hgv⟩ := C1
  have hA : ∀ q : Nat, s.heap.size ≤ q → (fun q : Nat => s.heap.size ≤ q) q := fun _ h => h
  have hbA : ¬ (fun q : Nat => s.heap.size ≤ q) b := Nat.not_le.mpr hbl
  have hts : ∀ w ∈ wsL_law, w.before #[Value.ref b] s = true := fun w h => hts0 w (wsL_law_in w h)
  replace hown : s.vm.findClass RL = some m.cls := hown
  replace hb : c.code = cL_law := hb
  have hak1 : vp_in (i + 1) L := law_in hi1 hi2 hL (by decide)
  obtain ⟨xk1, exk1⟩ : ∃ y : Int32, y = xs (i + 1).toNatClampNeg := ⟨_, rfl⟩
  refine inv_el I ?_
  intro Xhna Xhnb XH XD XV XN Xcna Xcnb XF Xpna Xpnb XG XO XW Xgna Xgnb XJ Xlna Xlnb Xdla Xdlb Xana Xanb Xuna Xunb XU Xlca Xlcb Xtna Xtnb XS Mhna Mhnb MH MS Mmlna Mmlnb Mmtna Mmtnb Chn Cho Chc Chp Chs Ccn Cfo Cwo Cpn Cpk Cpf Cpo Cpd Cpe Cgn Cgk Cgs Cgd Cge Can Cak Cah Cay Caz Cun Cuk Cuy Cuw Cum Clc Clp Cla Clb Caw Ciw Cln Ctd Cro Cmtn Cmtr Cmst Csh
  have Tcn := i_eq Ccn
  have Tpn := i_eq Cpn
  have Tgn := i_eq Cgn
  have Tan := i_eq Can
  have Tun := i_eq Cun
  have Tlc := i_eq Clc
  have Tln := i_eq Cln
  refine lv_aload_n hx hb dL_law_1616 rfl (lv_at hl 1 rfl) ?_
  refine law_arg (v := 1) hx hb hX hbl hbA hS (lv_at hl 0 rfl) (lv_at hl 3 rfl) (by decide) hak1 exk1 dL_law_1617 dL_law_1618 dL_law_1619 dL_law_1620 dL_law_1621 ?_
  refine st_iU (va_runV (C := RX10) (As := [.int xk1]) (rest := []) ⟨hx, hb, hml, hown, hts⟩ (ct_X10_count l D cI cY cJ cQ _ ad (nx 0) (nx 1) (nx 2) (nx 3) (nx 4) (nx 5) (nx 6) (nx 7) (nx 8) (nx 9) (nx 10) (nx 11) (nx 12) (nx 13) (nx 14) (nx 15) (nx 16) (nx 17) (fx 2) xk1) (cwV 1 hts gL_law_X10_count rfl rfl rfl ⟨rfl, cdX10_count⟩ ⟨Nat.le_of_ble_eq_true rfl, Nat.le_of_ble_eq_true rfl⟩) (cPreV (hP.sub [0, 10, 13, 14, 23, 29, 36, 42, 50, 57, 62] rfl) hK (hD.sub [0, 10, 13, 14, 23, 29, 36, 42, 50, 57, 62] (by decide +kernel) rfl) hN (ci := 10) (q0 := 0) rfl rfl) rfl rfl hl.1 rfl (lv_room (Nat.le_of_ble_eq_true rfl)) dL_law_1622 ⟨Nat.le_of_ble_eq_true rfl, Nat.le_of_ble_eq_true rfl⟩) hP hD hS hA [0, 10, 13, 14, 23, 29, 36, 42, 50, 57, 62] rfl (fun _ => rfl) (fun r3 u1 H locs hw2 => ?_)
  clear hP hS
  intro hP hS
  replace hw2 : True := hw2
  refine lv_pop hx hb dL_law_1625 rfl ?_
  have hPx : va_P D vwCl (wX ad rw sd cI cY cJ cQ nx fx rs lo ++ wM md sd cI cY cJ cQ ny fy fl) H := hP
  have hDx : va_D (fun q : Nat => s.heap.size ≤ q) (wX ad rw sd cI cY cJ cQ nx fx rs lo ++ wM md sd cI cY cJ cQ ny fy fl) := wXM_D hD
  have hP := hPx.comm
  have hD := hDx.comm
  refine lv_aload_n hx hb dL_law_1626 rfl (lv_at hl 2 rfl) ?_
  refine law_arg (v := 1) hx hb hX hbl hbA hS (lv_at hl 0 rfl) (lv_at hl 3 rfl) (by decide) hak1 exk1 dL_law_1627 dL_law_1628 dL_law_1629 dL_law_1630 dL_law_1631 ?_
  refine st_iU (va_runV (C := RX11) (As := [.int xk1]) (rest := []) ⟨hx, hb, hml, hown, hts⟩ (ct_X11_count l D cI cY cJ cQ _ md sd (ny 0) (ny 1) (ny 2) (ny 3) (ny 4) (ny 5) (ny 6) (ny 7) (ny 8) (ny 9) (ny 10) (ny 11) (ny 12) (ny 13) (ny 14) (ny 15) (ny 16) (ny 17) (ny 18) (ny 19) (ny 20) (ny 21) (ny 22) (fy 0) xk1) (cwV 1 hts gL_law_X11_count rfl rfl rfl ⟨rfl, cdX11_count⟩ ⟨Nat.le_of_ble_eq_true rfl, Nat.le_of_ble_eq_true rfl⟩) (cPreV (hP.sub [0, 1] rfl) hK (hD.sub [0, 1] (by decide +kernel) rfl) hN (ci := 11) (q0 := 0) rfl rfl) rfl rfl hl.1 rfl (lv_room (Nat.le_of_ble_eq_true rfl)) dL_law_1632 ⟨Nat.le_of_ble_eq_true rfl, Nat.le_of_ble_eq_true rfl⟩) hP hD hS hA [0, 1] rfl (fun _ => rfl) (fun r6 u4 H locs hw5 => ?_)
  clear hP hS
  intro hP hS
  replace hw5 : True := hw5
  refine lv_pop hx hb dL_law_1635 rfl ?_
  refine lv_goto (tgt := 1652) hx hb dL_law_1636 (by decide) ?_
  have hPm : va_P D vwCl (wM md sd cI cY cJ cQ (upd ny 0 0) fy fl ++ wX ad rw sd cI cY cJ cQ nx fx rs lo) H := hP
  have hDm : va_D (fun q : Nat => s.heap.size ≤ q) (wM md sd cI cY cJ cQ (upd ny 0 0) fy fl ++ wX ad rw sd cI cY cJ cQ nx fx rs lo) := wMX_D hD
  exact kk nx fx rs lo (upd ny 0 0) fy fl H locs ls ⟨Xhna, Xhnb, XH, XD, XV, XN, Xcna, Xcnb, XF, Xpna, Xpnb, XG, XO, XW, Xgna, Xgnb, XJ, Xlna, Xlnb, Xdla, Xdlb, Xana, Xanb, Xuna, Xunb, XU, Xlca, Xlcb, Xtna, Xtnb, XS, Mhna, Mhnb, MH, MS, Mmlna, Mmlnb, Mmtna, Mmtnb, Chn, Cho, Chc, Chp, Chs, Ccn, Cfo, Cwo, Cpn, Cpk, Cpf, Cpo, Cpd, Cpe, Cgn, Cgk, Cgs, Cgd, Cge, Can, Cak, Cah, Cay, Caz, Cun, Cuk, Cuy, Cuw, Cum, Clc, Clp, Cla, Clb, Caw, Ciw, Cln, Ctd, Cro, Cmtn, Cmtr, Cmst, Csh⟩ hPm.comm hDm.comm hS hl

set_option maxHeartbeats 4000000 in
set_option maxRecDepth 100000 in
theorem law_case_37 {p : Program} {l : Launch} {e : Env} {s : State} {m : MethodId} {below : List Frame} {meth : Method} {c : Code} {D : va_G} {cI cY cJ cQ : ClassId} {b L aK aV : Nat} {xs : Nat → Int32} {ad rw md : Nat → Nat} {sd i : Int32} {nx : Nat → Int32} {fx rs : Nat → Nat → Int32} {lo : Nat → Int64} {ny : Nat → Int32} {fy : Nat → Nat → Int32} {fl : Nat → Int64} {H : Heap} {locs : List Loc} {ls : Array Slot} (C0 : lawC p s m meth c b L xs D cI cY cJ cQ aK aV) (I : inv nx fx rs ny fy) (hP : va_P D vwCl (wX ad rw sd cI cY cJ cQ nx fx rs lo ++ wM md sd cI cY cJ cQ ny fy fl) H) (hD : va_D (fun q : Nat => s.heap.size ≤ q) (wX ad rw sd cI cY cJ cQ nx fx rs lo ++ wM md sd cI cY cJ cQ ny fy fl)) (hS : va_S (fun q : Nat => s.heap.size ≤ q) s.heap H locs) (hl : lv_has ls 4 [(0, .ref b), (1, .ref (ad 0)), (2, .ref (md 64)), (3, .int i)]) (hi1 : 1 ≤ i.toInt) (hi2 : i.toInt + 5 < L) (kk : ∀ (nx : Nat → Int32) (fx rs : Nat → Nat → Int32) (lo : Nat → Int64) (ny : Nat → Int32) (fy : Nat → Nat → Int32) (fl : Nat → Int64) (H : Heap) (locs : List Loc) (ls : Array Slot), inv nx fx rs ny fy → va_P D vwCl (wX ad rw sd cI cY cJ cQ nx fx rs lo ++ wM md sd cI cY cJ cQ ny fy fl) H → va_D (fun q : Nat => s.heap.size ≤ q) (wX ad rw sd cI cY cJ cQ nx fx rs lo ++ wM md sd cI cY cJ cQ ny fy fl) → va_S (fun q : Nat => s.heap.size ≤ q) s.heap H locs → lv_has ls 4 [(0, .ref b), (1, .ref (ad 0)), (2, .ref (md 64)), (3, .int i)] → W p l e room_1 s m #[Value.ref b] below meth c H locs 107 4890 (lw_Z below #[Value.ref b] s) (F0 m 1652 ls [])) : W p l e room_1 s m #[Value.ref b] below meth c H locs 107 4890 (lw_Z below #[Value.ref b] s) (F0 m 1639 ls []) := by
  obtain ⟨C1, hK, hN, hT, hL⟩ := C0
  obtain ⟨hx, hb, hr, hml, hown, hts0, hX, hbl, hlocks, hgv⟩ := C1
  have hA : ∀ q : Nat, s.heap.size ≤ q → (fun q : Nat => s.heap.size ≤ q) q := fun _ h => h
  have hbA : ¬ (fun q : Nat => s.heap.size ≤ q) b := Nat.not_le.mpr hbl
  have hts : ∀ w ∈ wsL_law, w.before #[Value.ref b] s = true := fun w h => hts0 w (wsL_law_in w h)
  replace hown : s.vm.findClass RL = some m.cls := hown
  replace hb : c.code = cL_law := hb
  refine inv_el I ?_
  intro Xhna Xhnb XH XD XV XN Xcna Xcnb XF Xpna Xpnb XG XO XW Xgna Xgnb XJ Xlna Xlnb Xdla Xdlb Xana Xanb Xuna Xunb XU Xlca Xlcb Xtna Xtnb XS Mhna Mhnb MH MS Mmlna Mmlnb Mmtna Mmtnb Chn Cho Chc Chp Chs Ccn Cfo Cwo Cpn Cpk Cpf Cpo Cpd Cpe Cgn Cgk Cgs Cgd Cge Can Cak Cah Cay Caz Cun Cuk Cuy Cuw Cum Clc Clp Cla Clb Caw Ciw Cln Ctd Cro Cmtn Cmtr Cmst Csh
  have Tcn := i_eq Ccn
  have Tpn := i_eq Cpn
  have Tgn := i_eq Cgn
  have Tan := i_eq Can
  have Tun := i_eq Cun
  have Tlc := i_eq Clc
  have Tln := i_eq Cln
  refine lv_aload_n hx hb dL_law_1639 rfl (lv_at hl 1 rfl) ?_
  refine st_iU (va_runV (C := RX10) (As := []) (rest := []) ⟨hx, hb, hml, hown, hts⟩ (ct_X10_status l D cI cY cJ cQ _ ad (nx 0) (nx 1) (nx 2)) (cwV 0 hts gL_law_X10_status rfl rfl rfl ⟨rfl, cdX10_status⟩ ⟨Nat.le_of_ble_eq_true rfl, Nat.le_of_ble_eq_true rfl⟩) (cPreV (hP.sub [0] rfl) hK (hD.sub [0] (by decide +kernel) rfl) hN (ci := 10) (q0 := 0) rfl rfl) rfl rfl hl.1 rfl (lv_room (Nat.le_of_ble_eq_true rfl)) dL_law_1640 ⟨Nat.le_of_ble_eq_true rfl, Nat.le_of_ble_eq_true rfl⟩) hP hD hS hA [0] rfl (fun _ => rfl) (fun r3 u1 H locs hw2 => ?_)
  clear hP hS
  intro hP hS
  replace hw2 : r3 = (nx 2) := hw2
  have hPx : va_P D vwCl (wX ad rw sd cI cY cJ cQ nx fx rs lo ++ wM md sd cI cY cJ cQ ny fy fl) H := hP
  have hDx : va_D (fun q : Nat => s.heap.size ≤ q) (wX ad rw sd cI cY cJ cQ nx fx rs lo ++ wM md sd cI cY cJ cQ ny fy fl) := wXM_D hD
  have hP := hPx.comm
  have hD := hDx.comm
  refine lv_aload_n hx hb dL_law_1643 rfl (lv_at hl 2 rfl) ?_
  refine st_iU (va_runV (C := RX11) (As := []) (rest := [.int r3]) ⟨hx, hb, hml, hown, hts⟩ (ct_X11_status l D cI cY cJ cQ _ md sd (ny 0) (ny 1) (ny 2) (ny 3) (ny 4) (ny 5) (ny 6) (ny 7) (ny 8) (ny 9) (ny 10) (ny 11) (ny 12) (ny 13) (ny 14) (ny 15) (ny 16) (ny 17) (ny 18) (ny 19) (ny 20) (ny 21) (ny 22)) (cwV 0 hts gL_law_X11_status rfl rfl rfl ⟨rfl, cdX11_status⟩ ⟨Nat.le_of_ble_eq_true rfl, Nat.le_of_ble_eq_true rfl⟩) (cPreV (hP.sub [0] rfl) hK (hD.sub [0] (by decide +kernel) rfl) hN (ci := 11) (q0 := 0) rfl rfl) rfl rfl hl.1 rfl (lv_room (Nat.le_of_ble_eq_true rfl)) dL_law_1644 ⟨Nat.le_of_ble_eq_true rfl, Nat.le_of_ble_eq_true rfl⟩) hP hD hS hA [0] rfl (fun _ => rfl) (fun r6 u4 H locs hw5 => ?_)
  clear hP hS
  intro hP hS
  replace hw5 : r6 = (ny 1) := hw5
  have e90 := hw2.trans (hw5.trans Cmst).symm
  refine lv_icmp_eq (tgt := 1652) hx hb dL_law_1647 (by decide) (fun _ => ?_) (fun c7 => by exfalso; exact c7 e90)
  have hPm : va_P D vwCl (wM md sd cI cY cJ cQ (upd ny 0 0) fy fl ++ wX ad rw sd cI cY cJ cQ nx fx rs lo) H := hP
  have hDm : va_D (fun q : Nat => s.heap.size ≤ q) (wM md sd cI cY cJ cQ (upd ny 0 0) fy fl ++ wX ad rw sd cI cY cJ cQ nx fx rs lo) := wMX_D hD
  exact kk nx fx rs lo (upd ny 0 0) fy fl H locs ls ⟨Xhna, Xhnb, XH, XD, XV, XN, Xcna, Xcnb, XF, Xpna, Xpnb, XG, XO, XW, Xgna, Xgnb, XJ, Xlna, Xlnb, Xdla, Xdlb, Xana, Xanb, Xuna, Xunb, XU, Xlca, Xlcb, Xtna, Xtnb, XS, Mhna, Mhnb, MH, MS, Mmlna, Mmlnb, Mmtna, Mmtnb, Chn, Cho, Chc, Chp, Chs, Ccn, Cfo, Cwo, Cpn, Cpk, Cpf, Cpo, Cpd, Cpe, Cgn, Cgk, Cgs, Cgd, Cge, Can, Cak, Cah, Cay, Caz, Cun, Cuk, Cuy, Cuw, Cum, Clc, Clp, Cla, Clb, Caw, Ciw, Cln, Ctd, Cro, Cmtn, Cmtr, Cmst, Csh⟩ hPm.comm hDm.comm hS hl
end

section
theorem dL_law_43 : decode cL_law 43 = .ok (.tableswitch 1609 0 37 #[165, 208, 251, 314, 337, 390, 433, 476, 519, 552, 575, 608, 671, 714, 747, 810, 873, 936, 949, 962, 1015, 1048, 1091, 1124, 1157, 1200, 1233, 1286, 1339, 1362, 1405, 1438, 1461, 1484, 1517, 1550, 1573, 1596], 165) := dL_law_all2.2.2.2.1
set_option maxHeartbeats 4000000 in
set_option maxRecDepth 100000 in
theorem law_switch_0 {p : Program} {l : Launch} {e : Env} {s : State} {m : MethodId} {below : List Frame} {meth : Method} {c : Code} {D : va_G} {cI cY cJ cQ : ClassId} {b L aK aV : Nat} {xs : Nat → Int32} {ad rw md : Nat → Nat} {sd i : Int32} {nx : Nat → Int32} {fx rs : Nat → Nat → Int32} {lo : Nat → Int64} {ny : Nat → Int32} {fy : Nat → Nat → Int32} {fl : Nat → Int64} {H : Heap} {locs : List Loc} {ls : Array Slot} {v : Int32} (C0 : lawC p s m meth c b L xs D cI cY cJ cQ aK aV) (I : inv nx fx rs ny fy) (hP : va_P D vwCl (wX ad rw sd cI cY cJ cQ nx fx rs lo ++ wM md sd cI cY cJ cQ ny fy fl) H) (hD : va_D (fun q : Nat => s.heap.size ≤ q) (wX ad rw sd cI cY cJ cQ nx fx rs lo ++ wM md sd cI cY cJ cQ ny fy fl)) (hS : va_S (fun q : Nat => s.heap.size ≤ q) s.heap H locs) (hl : lv_has ls 4 [(0, .ref b), (1, .ref (ad 0)), (2, .ref (md 64)), (3, .int i)]) (hi1 : 1 ≤ i.toInt) (hi2 : i.toInt + 5 < L) (kk : ∀ (nx : Nat → Int32) (fx rs : Nat → Nat → Int32) (lo : Nat → Int64) (ny : Nat → Int32) (fy : Nat → Nat → Int32) (fl : Nat → Int64) (H : Heap) (locs : List Loc) (ls : Array Slot), inv nx fx rs ny fy → va_P D vwCl (wX ad rw sd cI cY cJ cQ nx fx rs lo ++ wM md sd cI cY cJ cQ ny fy fl) H → va_D (fun q : Nat => s.heap.size ≤ q) (wX ad rw sd cI cY cJ cQ nx fx rs lo ++ wM md sd cI cY cJ cQ ny fy fl) → va_S (fun q : Nat => s.heap.size ≤ q) s.heap H locs → lv_has ls 4 [(0, .ref b), (1, .ref (ad 0)), (2, .ref (md 64)), (3, .int i)] → W p l e room_1 s m #[Value.ref b] below meth c H locs 107 4890 (lw_Z below #[Value.ref b] s) (F0 m 1652 ls [])) (v0 : 0 ≤ v.toInt) (v1 : v.toInt ≤ 9) : W p l e room_1 s m #[Value.ref b] below meth c H locs 107 4890 (lw_Z below #[Value.ref b] s) (F0 m 43 ls [.int v]) := by
  have C0k := C0
  obtain ⟨C1, hK, hN, hT, hL⟩ := C0
  obtain ⟨hx, hb, hr, hml, hown, hts0, hX, hbl, hlocks, hgv⟩ := C1
  have hA : ∀ q : Nat, s.heap.size ≤ q → (fun q : Nat => s.heap.size ≤ q) q := fun _ h => h
  have hbA : ¬ (fun q : Nat => s.heap.size ≤ q) b := Nat.not_le.mpr hbl
  have hts : ∀ w ∈ wsL_law, w.before #[Value.ref b] s = true := fun w h => hts0 w (wsL_law_in w h)
  replace hown : s.vm.findClass RL = some m.cls := hown
  replace hb : c.code = cL_law := hb
  by_cases g1 : v.toInt < 5
  · skip
    by_cases g2 : v.toInt < 3
    · skip
      by_cases g3 : v.toInt < 2
      · skip
        by_cases g4 : v.toInt < 1
        · skip
          have h5 : v.toInt = 0 := by omega
          refine lv_tableIn (tgt := 208) (off := 165) hx hb dL_law_43 (by omega) (by omega) (by rw [h5]; rfl) (by decide) ?_
          exact law_case_0 C0k I hP hD hS hl hi1 hi2 kk
        · skip
          have h6 : v.toInt = 1 := by omega
          refine lv_tableIn (tgt := 251) (off := 208) hx hb dL_law_43 (by omega) (by omega) (by rw [h6]; rfl) (by decide) ?_
          exact law_case_1 C0k I hP hD hS hl hi1 hi2 kk
      · skip
        have h7 : v.toInt = 2 := by omega
        refine lv_tableIn (tgt := 294) (off := 251) hx hb dL_law_43 (by omega) (by omega) (by rw [h7]; rfl) (by decide) ?_
        exact law_case_2 C0k I hP hD hS hl hi1 hi2 kk
    · skip
      by_cases g8 : v.toInt < 4
      · skip
        have h9 : v.toInt = 3 := by omega
        refine lv_tableIn (tgt := 357) (off := 314) hx hb dL_law_43 (by omega) (by omega) (by rw [h9]; rfl) (by decide) ?_
        exact law_case_3 C0k I hP hD hS hl hi1 hi2 kk
      · skip
        have h10 : v.toInt = 4 := by omega
        refine lv_tableIn (tgt := 380) (off := 337) hx hb dL_law_43 (by omega) (by omega) (by rw [h10]; rfl) (by decide) ?_
        exact law_case_4 C0k I hP hD hS hl hi1 hi2 kk
  · skip
    by_cases g11 : v.toInt < 8
    · skip
      by_cases g12 : v.toInt < 7
      · skip
        by_cases g13 : v.toInt < 6
        · skip
          have h14 : v.toInt = 5 := by omega
          refine lv_tableIn (tgt := 433) (off := 390) hx hb dL_law_43 (by omega) (by omega) (by rw [h14]; rfl) (by decide) ?_
          exact law_case_5 C0k I hP hD hS hl hi1 hi2 kk
        · skip
          have h15 : v.toInt = 6 := by omega
          refine lv_tableIn (tgt := 476) (off := 433) hx hb dL_law_43 (by omega) (by omega) (by rw [h15]; rfl) (by decide) ?_
          exact law_case_6 C0k I hP hD hS hl hi1 hi2 kk
      · skip
        have h16 : v.toInt = 7 := by omega
        refine lv_tableIn (tgt := 519) (off := 476) hx hb dL_law_43 (by omega) (by omega) (by rw [h16]; rfl) (by decide) ?_
        exact law_case_7 C0k I hP hD hS hl hi1 hi2 kk
    · skip
      by_cases g17 : v.toInt < 9
      · skip
        have h18 : v.toInt = 8 := by omega
        refine lv_tableIn (tgt := 562) (off := 519) hx hb dL_law_43 (by omega) (by omega) (by rw [h18]; rfl) (by decide) ?_
        exact law_case_8 C0k I hP hD hS hl hi1 hi2 kk
      · skip
        have h19 : v.toInt = 9 := by omega
        refine lv_tableIn (tgt := 595) (off := 552) hx hb dL_law_43 (by omega) (by omega) (by rw [h19]; rfl) (by decide) ?_
        exact law_case_9 C0k I hP hD hS hl hi1 hi2 kk

set_option maxHeartbeats 4000000 in
set_option maxRecDepth 100000 in
theorem law_switch_1 {p : Program} {l : Launch} {e : Env} {s : State} {m : MethodId} {below : List Frame} {meth : Method} {c : Code} {D : va_G} {cI cY cJ cQ : ClassId} {b L aK aV : Nat} {xs : Nat → Int32} {ad rw md : Nat → Nat} {sd i : Int32} {nx : Nat → Int32} {fx rs : Nat → Nat → Int32} {lo : Nat → Int64} {ny : Nat → Int32} {fy : Nat → Nat → Int32} {fl : Nat → Int64} {H : Heap} {locs : List Loc} {ls : Array Slot} {v : Int32} (C0 : lawC p s m meth c b L xs D cI cY cJ cQ aK aV) (I : inv nx fx rs ny fy) (hP : va_P D vwCl (wX ad rw sd cI cY cJ cQ nx fx rs lo ++ wM md sd cI cY cJ cQ ny fy fl) H) (hD : va_D (fun q : Nat => s.heap.size ≤ q) (wX ad rw sd cI cY cJ cQ nx fx rs lo ++ wM md sd cI cY cJ cQ ny fy fl)) (hS : va_S (fun q : Nat => s.heap.size ≤ q) s.heap H locs) (hl : lv_has ls 4 [(0, .ref b), (1, .ref (ad 0)), (2, .ref (md 64)), (3, .int i)]) (hi1 : 1 ≤ i.toInt) (hi2 : i.toInt + 5 < L) (kk : ∀ (nx : Nat → Int32) (fx rs : Nat → Nat → Int32) (lo : Nat → Int64) (ny : Nat → Int32) (fy : Nat → Nat → Int32) (fl : Nat → Int64) (H : Heap) (locs : List Loc) (ls : Array Slot), inv nx fx rs ny fy → va_P D vwCl (wX ad rw sd cI cY cJ cQ nx fx rs lo ++ wM md sd cI cY cJ cQ ny fy fl) H → va_D (fun q : Nat => s.heap.size ≤ q) (wX ad rw sd cI cY cJ cQ nx fx rs lo ++ wM md sd cI cY cJ cQ ny fy fl) → va_S (fun q : Nat => s.heap.size ≤ q) s.heap H locs → lv_has ls 4 [(0, .ref b), (1, .ref (ad 0)), (2, .ref (md 64)), (3, .int i)] → W p l e room_1 s m #[Value.ref b] below meth c H locs 107 4890 (lw_Z below #[Value.ref b] s) (F0 m 1652 ls [])) (v0 : 10 ≤ v.toInt) (v1 : v.toInt ≤ 19) : W p l e room_1 s m #[Value.ref b] below meth c H locs 107 4890 (lw_Z below #[Value.ref b] s) (F0 m 43 ls [.int v]) := by
  have C0k := C0
  obtain ⟨C1, hK, hN, hT, hL⟩ := C0
  obtain ⟨hx, hb, hr, hml, hown, hts0, hX, hbl, hlocks, hgv⟩ := C1
  have hA : ∀ q : Nat, s.heap.size ≤ q → (fun q : Nat => s.heap.size ≤ q) q := fun _ h => h
  have hbA : ¬ (fun q : Nat => s.heap.size ≤ q) b := Nat.not_le.mpr hbl
  have hts : ∀ w ∈ wsL_law, w.before #[Value.ref b] s = true := fun w h => hts0 w (wsL_law_in w h)
  replace hown : s.vm.findClass RL = some m.cls := hown
  replace hb : c.code = cL_law := hb
  by_cases g1 : v.toInt < 15
  · skip
    by_cases g2 : v.toInt < 13
    · skip
      by_cases g3 : v.toInt < 12
      · skip
        by_cases g4 : v.toInt < 11
        · skip
          have h5 : v.toInt = 10 := by omega
          refine lv_tableIn (tgt := 618) (off := 575) hx hb dL_law_43 (by omega) (by omega) (by rw [h5]; rfl) (by decide) ?_
          exact law_case_10 C0k I hP hD hS hl hi1 hi2 kk
        · skip
          have h6 : v.toInt = 11 := by omega
          refine lv_tableIn (tgt := 651) (off := 608) hx hb dL_law_43 (by omega) (by omega) (by rw [h6]; rfl) (by decide) ?_
          exact law_case_11 C0k I hP hD hS hl hi1 hi2 kk
      · skip
        have h7 : v.toInt = 12 := by omega
        refine lv_tableIn (tgt := 714) (off := 671) hx hb dL_law_43 (by omega) (by omega) (by rw [h7]; rfl) (by decide) ?_
        exact law_case_12 C0k I hP hD hS hl hi1 hi2 kk
    · skip
      by_cases g8 : v.toInt < 14
      · skip
        have h9 : v.toInt = 13 := by omega
        refine lv_tableIn (tgt := 757) (off := 714) hx hb dL_law_43 (by omega) (by omega) (by rw [h9]; rfl) (by decide) ?_
        exact law_case_13 C0k I hP hD hS hl hi1 hi2 kk
      · skip
        have h10 : v.toInt = 14 := by omega
        refine lv_tableIn (tgt := 790) (off := 747) hx hb dL_law_43 (by omega) (by omega) (by rw [h10]; rfl) (by decide) ?_
        exact law_case_14 C0k I hP hD hS hl hi1 hi2 kk
  · skip
    by_cases g11 : v.toInt < 18
    · skip
      by_cases g12 : v.toInt < 17
      · skip
        by_cases g13 : v.toInt < 16
        · skip
          have h14 : v.toInt = 15 := by omega
          refine lv_tableIn (tgt := 853) (off := 810) hx hb dL_law_43 (by omega) (by omega) (by rw [h14]; rfl) (by decide) ?_
          exact law_case_15 C0k I hP hD hS hl hi1 hi2 kk
        · skip
          have h15 : v.toInt = 16 := by omega
          refine lv_tableIn (tgt := 916) (off := 873) hx hb dL_law_43 (by omega) (by omega) (by rw [h15]; rfl) (by decide) ?_
          exact law_case_16 C0k I hP hD hS hl hi1 hi2 kk
      · skip
        have h16 : v.toInt = 17 := by omega
        refine lv_tableIn (tgt := 979) (off := 936) hx hb dL_law_43 (by omega) (by omega) (by rw [h16]; rfl) (by decide) ?_
        exact law_case_17 C0k I hP hD hS hl hi1 hi2 kk
    · skip
      by_cases g17 : v.toInt < 19
      · skip
        have h18 : v.toInt = 18 := by omega
        refine lv_tableIn (tgt := 992) (off := 949) hx hb dL_law_43 (by omega) (by omega) (by rw [h18]; rfl) (by decide) ?_
        exact law_case_18 C0k I hP hD hS hl hi1 hi2 kk
      · skip
        have h19 : v.toInt = 19 := by omega
        refine lv_tableIn (tgt := 1005) (off := 962) hx hb dL_law_43 (by omega) (by omega) (by rw [h19]; rfl) (by decide) ?_
        exact law_case_19 C0k I hP hD hS hl hi1 hi2 kk

set_option maxHeartbeats 4000000 in
set_option maxRecDepth 100000 in
theorem law_switch_2 {p : Program} {l : Launch} {e : Env} {s : State} {m : MethodId} {below : List Frame} {meth : Method} {c : Code} {D : va_G} {cI cY cJ cQ : ClassId} {b L aK aV : Nat} {xs : Nat → Int32} {ad rw md : Nat → Nat} {sd i : Int32} {nx : Nat → Int32} {fx rs : Nat → Nat → Int32} {lo : Nat → Int64} {ny : Nat → Int32} {fy : Nat → Nat → Int32} {fl : Nat → Int64} {H : Heap} {locs : List Loc} {ls : Array Slot} {v : Int32} (C0 : lawC p s m meth c b L xs D cI cY cJ cQ aK aV) (I : inv nx fx rs ny fy) (hP : va_P D vwCl (wX ad rw sd cI cY cJ cQ nx fx rs lo ++ wM md sd cI cY cJ cQ ny fy fl) H) (hD : va_D (fun q : Nat => s.heap.size ≤ q) (wX ad rw sd cI cY cJ cQ nx fx rs lo ++ wM md sd cI cY cJ cQ ny fy fl)) (hS : va_S (fun q : Nat => s.heap.size ≤ q) s.heap H locs) (hl : lv_has ls 4 [(0, .ref b), (1, .ref (ad 0)), (2, .ref (md 64)), (3, .int i)]) (hi1 : 1 ≤ i.toInt) (hi2 : i.toInt + 5 < L) (kk : ∀ (nx : Nat → Int32) (fx rs : Nat → Nat → Int32) (lo : Nat → Int64) (ny : Nat → Int32) (fy : Nat → Nat → Int32) (fl : Nat → Int64) (H : Heap) (locs : List Loc) (ls : Array Slot), inv nx fx rs ny fy → va_P D vwCl (wX ad rw sd cI cY cJ cQ nx fx rs lo ++ wM md sd cI cY cJ cQ ny fy fl) H → va_D (fun q : Nat => s.heap.size ≤ q) (wX ad rw sd cI cY cJ cQ nx fx rs lo ++ wM md sd cI cY cJ cQ ny fy fl) → va_S (fun q : Nat => s.heap.size ≤ q) s.heap H locs → lv_has ls 4 [(0, .ref b), (1, .ref (ad 0)), (2, .ref (md 64)), (3, .int i)] → W p l e room_1 s m #[Value.ref b] below meth c H locs 107 4890 (lw_Z below #[Value.ref b] s) (F0 m 1652 ls [])) (v0 : 20 ≤ v.toInt) (v1 : v.toInt ≤ 29) : W p l e room_1 s m #[Value.ref b] below meth c H locs 107 4890 (lw_Z below #[Value.ref b] s) (F0 m 43 ls [.int v]) := by
  have C0k := C0
  obtain ⟨C1, hK, hN, hT, hL⟩ := C0
  obtain ⟨hx, hb, hr, hml, hown, hts0, hX, hbl, hlocks, hgv⟩ := C1
  have hA : ∀ q : Nat, s.heap.size ≤ q → (fun q : Nat => s.heap.size ≤ q) q := fun _ h => h
  have hbA : ¬ (fun q : Nat => s.heap.size ≤ q) b := Nat.not_le.mpr hbl
  have hts : ∀ w ∈ wsL_law, w.before #[Value.ref b] s = true := fun w h => hts0 w (wsL_law_in w h)
  replace hown : s.vm.findClass RL = some m.cls := hown
  replace hb : c.code = cL_law := hb
  by_cases g1 : v.toInt < 25
  · skip
    by_cases g2 : v.toInt < 23
    · skip
      by_cases g3 : v.toInt < 22
      · skip
        by_cases g4 : v.toInt < 21
        · skip
          have h5 : v.toInt = 20 := by omega
          refine lv_tableIn (tgt := 1058) (off := 1015) hx hb dL_law_43 (by omega) (by omega) (by rw [h5]; rfl) (by decide) ?_
          exact law_case_20 C0k I hP hD hS hl hi1 hi2 kk
        · skip
          have h6 : v.toInt = 21 := by omega
          refine lv_tableIn (tgt := 1091) (off := 1048) hx hb dL_law_43 (by omega) (by omega) (by rw [h6]; rfl) (by decide) ?_
          exact law_case_21 C0k I hP hD hS hl hi1 hi2 kk
      · skip
        have h7 : v.toInt = 22 := by omega
        refine lv_tableIn (tgt := 1134) (off := 1091) hx hb dL_law_43 (by omega) (by omega) (by rw [h7]; rfl) (by decide) ?_
        exact law_case_22 C0k I hP hD hS hl hi1 hi2 kk
    · skip
      by_cases g8 : v.toInt < 24
      · skip
        have h9 : v.toInt = 23 := by omega
        refine lv_tableIn (tgt := 1167) (off := 1124) hx hb dL_law_43 (by omega) (by omega) (by rw [h9]; rfl) (by decide) ?_
        exact law_case_23 C0k I hP hD hS hl hi1 hi2 kk
      · skip
        have h10 : v.toInt = 24 := by omega
        refine lv_tableIn (tgt := 1200) (off := 1157) hx hb dL_law_43 (by omega) (by omega) (by rw [h10]; rfl) (by decide) ?_
        exact law_case_24 C0k I hP hD hS hl hi1 hi2 kk
  · skip
    by_cases g11 : v.toInt < 28
    · skip
      by_cases g12 : v.toInt < 27
      · skip
        by_cases g13 : v.toInt < 26
        · skip
          have h14 : v.toInt = 25 := by omega
          refine lv_tableIn (tgt := 1243) (off := 1200) hx hb dL_law_43 (by omega) (by omega) (by rw [h14]; rfl) (by decide) ?_
          exact law_case_25 C0k I hP hD hS hl hi1 hi2 kk
        · skip
          have h15 : v.toInt = 26 := by omega
          refine lv_tableIn (tgt := 1276) (off := 1233) hx hb dL_law_43 (by omega) (by omega) (by rw [h15]; rfl) (by decide) ?_
          exact law_case_26 C0k I hP hD hS hl hi1 hi2 kk
      · skip
        have h16 : v.toInt = 27 := by omega
        refine lv_tableIn (tgt := 1329) (off := 1286) hx hb dL_law_43 (by omega) (by omega) (by rw [h16]; rfl) (by decide) ?_
        exact law_case_27 C0k I hP hD hS hl hi1 hi2 kk
    · skip
      by_cases g17 : v.toInt < 29
      · skip
        have h18 : v.toInt = 28 := by omega
        refine lv_tableIn (tgt := 1382) (off := 1339) hx hb dL_law_43 (by omega) (by omega) (by rw [h18]; rfl) (by decide) ?_
        exact law_case_28 C0k I hP hD hS hl hi1 hi2 kk
      · skip
        have h19 : v.toInt = 29 := by omega
        refine lv_tableIn (tgt := 1405) (off := 1362) hx hb dL_law_43 (by omega) (by omega) (by rw [h19]; rfl) (by decide) ?_
        exact law_case_29 C0k I hP hD hS hl hi1 hi2 kk

set_option maxHeartbeats 4000000 in
set_option maxRecDepth 100000 in
theorem law_switch_3 {p : Program} {l : Launch} {e : Env} {s : State} {m : MethodId} {below : List Frame} {meth : Method} {c : Code} {D : va_G} {cI cY cJ cQ : ClassId} {b L aK aV : Nat} {xs : Nat → Int32} {ad rw md : Nat → Nat} {sd i : Int32} {nx : Nat → Int32} {fx rs : Nat → Nat → Int32} {lo : Nat → Int64} {ny : Nat → Int32} {fy : Nat → Nat → Int32} {fl : Nat → Int64} {H : Heap} {locs : List Loc} {ls : Array Slot} {v : Int32} (C0 : lawC p s m meth c b L xs D cI cY cJ cQ aK aV) (I : inv nx fx rs ny fy) (hP : va_P D vwCl (wX ad rw sd cI cY cJ cQ nx fx rs lo ++ wM md sd cI cY cJ cQ ny fy fl) H) (hD : va_D (fun q : Nat => s.heap.size ≤ q) (wX ad rw sd cI cY cJ cQ nx fx rs lo ++ wM md sd cI cY cJ cQ ny fy fl)) (hS : va_S (fun q : Nat => s.heap.size ≤ q) s.heap H locs) (hl : lv_has ls 4 [(0, .ref b), (1, .ref (ad 0)), (2, .ref (md 64)), (3, .int i)]) (hi1 : 1 ≤ i.toInt) (hi2 : i.toInt + 5 < L) (kk : ∀ (nx : Nat → Int32) (fx rs : Nat → Nat → Int32) (lo : Nat → Int64) (ny : Nat → Int32) (fy : Nat → Nat → Int32) (fl : Nat → Int64) (H : Heap) (locs : List Loc) (ls : Array Slot), inv nx fx rs ny fy → va_P D vwCl (wX ad rw sd cI cY cJ cQ nx fx rs lo ++ wM md sd cI cY cJ cQ ny fy fl) H → va_D (fun q : Nat => s.heap.size ≤ q) (wX ad rw sd cI cY cJ cQ nx fx rs lo ++ wM md sd cI cY cJ cQ ny fy fl) → va_S (fun q : Nat => s.heap.size ≤ q) s.heap H locs → lv_has ls 4 [(0, .ref b), (1, .ref (ad 0)), (2, .ref (md 64)), (3, .int i)] → W p l e room_1 s m #[Value.ref b] below meth c H locs 107 4890 (lw_Z below #[Value.ref b] s) (F0 m 1652 ls [])) (v0 : 30 ≤ v.toInt) (v1 : v.toInt ≤ 37) : W p l e room_1 s m #[Value.ref b] below meth c H locs 107 4890 (lw_Z below #[Value.ref b] s) (F0 m 43 ls [.int v]) := by
  have C0k := C0
  obtain ⟨C1, hK, hN, hT, hL⟩ := C0
  obtain ⟨hx, hb, hr, hml, hown, hts0, hX, hbl, hlocks, hgv⟩ := C1
  have hA : ∀ q : Nat, s.heap.size ≤ q → (fun q : Nat => s.heap.size ≤ q) q := fun _ h => h
  have hbA : ¬ (fun q : Nat => s.heap.size ≤ q) b := Nat.not_le.mpr hbl
  have hts : ∀ w ∈ wsL_law, w.before #[Value.ref b] s = true := fun w h => hts0 w (wsL_law_in w h)
  replace hown : s.vm.findClass RL = some m.cls := hown
  replace hb : c.code = cL_law := hb
  by_cases g1 : v.toInt < 34
  · skip
    by_cases g2 : v.toInt < 32
    · skip
      by_cases g3 : v.toInt < 31
      · skip
        have h4 : v.toInt = 30 := by omega
        refine lv_tableIn (tgt := 1448) (off := 1405) hx hb dL_law_43 (by omega) (by omega) (by rw [h4]; rfl) (by decide) ?_
        exact law_case_30 C0k I hP hD hS hl hi1 hi2 kk
      · skip
        have h5 : v.toInt = 31 := by omega
        refine lv_tableIn (tgt := 1481) (off := 1438) hx hb dL_law_43 (by omega) (by omega) (by rw [h5]; rfl) (by decide) ?_
        exact law_case_31 C0k I hP hD hS hl hi1 hi2 kk
    · skip
      by_cases g6 : v.toInt < 33
      · skip
        have h7 : v.toInt = 32 := by omega
        refine lv_tableIn (tgt := 1504) (off := 1461) hx hb dL_law_43 (by omega) (by omega) (by rw [h7]; rfl) (by decide) ?_
        exact law_case_32 C0k I hP hD hS hl hi1 hi2 kk
      · skip
        have h8 : v.toInt = 33 := by omega
        refine lv_tableIn (tgt := 1527) (off := 1484) hx hb dL_law_43 (by omega) (by omega) (by rw [h8]; rfl) (by decide) ?_
        exact law_case_33 C0k I hP hD hS hl hi1 hi2 kk
  · skip
    by_cases g9 : v.toInt < 36
    · skip
      by_cases g10 : v.toInt < 35
      · skip
        have h11 : v.toInt = 34 := by omega
        refine lv_tableIn (tgt := 1560) (off := 1517) hx hb dL_law_43 (by omega) (by omega) (by rw [h11]; rfl) (by decide) ?_
        exact law_case_34 C0k I hP hD hS hl hi1 hi2 kk
      · skip
        have h12 : v.toInt = 35 := by omega
        refine lv_tableIn (tgt := 1593) (off := 1550) hx hb dL_law_43 (by omega) (by omega) (by rw [h12]; rfl) (by decide) ?_
        exact law_case_35 C0k I hP hD hS hl hi1 hi2 kk
    · skip
      by_cases g13 : v.toInt < 37
      · skip
        have h14 : v.toInt = 36 := by omega
        refine lv_tableIn (tgt := 1616) (off := 1573) hx hb dL_law_43 (by omega) (by omega) (by rw [h14]; rfl) (by decide) ?_
        exact law_case_36 C0k I hP hD hS hl hi1 hi2 kk
      · skip
        have h15 : v.toInt = 37 := by omega
        refine lv_tableIn (tgt := 1639) (off := 1596) hx hb dL_law_43 (by omega) (by omega) (by rw [h15]; rfl) (by decide) ?_
        exact law_case_37 C0k I hP hD hS hl hi1 hi2 kk
end

section
theorem dq_3 {c : ByteArray} {o : Nat} {m t : List UInt8} (h : dqA c o m) (j : Nat) (hj : m.drop j = 3 :: t) : decode c (o + j) = .ok (.iconst 0, 1) := dq_dec (by unfold Jvm.ClassFile.Decoder.instr; rw [dq_u1 (dq1 h hj)]; rfl)
theorem sB_69 : dqA cL_law 1656 sL_69 := dq_next sB_68 24 rfl
theorem dL_law_all1 : decode cL_law 22 = .ok (.invokespecial 20, 3) ∧ decode cL_law 25 = .ok (.astore_n 2, 1) ∧ decode cL_law 26 = .ok (.iconst 1, 1) ∧ decode cL_law 27 = .ok (.istore_n 3, 1) ∧ decode cL_law 28 = .ok (.iload_n 3, 1) ∧ decode cL_law 29 = .ok (.aload_n 0, 1) ∧ decode cL_law 30 = .ok (.arraylength, 1) ∧ decode cL_law 31 = .ok (.bipush 6, 2) ∧ decode cL_law 33 = .ok (.isub, 1) ∧ decode cL_law 34 = .ok (.if_icmp .gt 1624, 3) ∧ decode cL_law 37 = .ok (.aload_n 0, 1) ∧ decode cL_law 38 = .ok (.iload_n 3, 1) := ⟨by decide +kernel, by decide +kernel, dq_4 sB_1 2 rfl, by decide +kernel, dq_29 sB_1 4 rfl, dq_42 sB_1 5 rfl, by decide +kernel, by decide +kernel, by decide +kernel, by decide +kernel, dq_42 sB_1 13 rfl, dq_29 sB_1 14 rfl⟩
theorem dL_law_28 : decode cL_law 28 = .ok (.iload_n 3, 1) := dL_law_all1.2.2.2.2.1
theorem dL_law_29 : decode cL_law 29 = .ok (.aload_n 0, 1) := dL_law_all1.2.2.2.2.2.1
theorem dL_law_30 : decode cL_law 30 = .ok (.arraylength, 1) := dL_law_all1.2.2.2.2.2.2.1
theorem dL_law_31 : decode cL_law 31 = .ok (.bipush 6, 2) := dL_law_all1.2.2.2.2.2.2.2.1
theorem dL_law_33 : decode cL_law 33 = .ok (.isub, 1) := dL_law_all1.2.2.2.2.2.2.2.2.1
theorem dL_law_34 : decode cL_law 34 = .ok (.if_icmp .gt 1624, 3) := dL_law_all1.2.2.2.2.2.2.2.2.2.1
theorem dL_law_37 : decode cL_law 37 = .ok (.aload_n 0, 1) := dL_law_all1.2.2.2.2.2.2.2.2.2.2.1
theorem dL_law_38 : decode cL_law 38 = .ok (.iload_n 3, 1) := dL_law_all1.2.2.2.2.2.2.2.2.2.2.2
theorem dL_law_39 : decode cL_law 39 = .ok (.iaload, 1) := dL_law_all2.1
theorem dL_law_40 : decode cL_law 40 = .ok (.bipush 63, 2) := dL_law_all2.2.1
theorem dL_law_42 : decode cL_law 42 = .ok (.iand, 1) := dL_law_all2.2.2.1
theorem dL_law_all103 : decode cL_law 1650 = .ok (.iconst 0, 1) ∧ decode cL_law 1651 = .ok (.ireturn, 1) ∧ decode cL_law 1652 = .ok (.iinc 3 6, 3) ∧ decode cL_law 1655 = .ok (.goto (-1627), 3) ∧ decode cL_law 1658 = .ok (.iconst 1, 1) ∧ decode cL_law 1659 = .ok (.ireturn, 1) := ⟨dq_3 sB_68 18 rfl, by decide +kernel, by decide +kernel, dq_167 sB_68 23 rfl (-1627) (by decide), dq_4 sB_69 2 rfl, by decide +kernel⟩
theorem dL_law_1652 : decode cL_law 1652 = .ok (.iinc 3 6, 3) := dL_law_all103.2.2.1
theorem dL_law_1655 : decode cL_law 1655 = .ok (.goto (-1627), 3) := dL_law_all103.2.2.2.1
theorem dL_law_1658 : decode cL_law 1658 = .ok (.iconst 1, 1) := dL_law_all103.2.2.2.2.1
theorem dL_law_1659 : decode cL_law 1659 = .ok (.ireturn, 1) := dL_law_all103.2.2.2.2.2
set_option maxHeartbeats 4000000 in
set_option maxRecDepth 100000 in
theorem law_loop {p : Program} {l : Launch} {e : Env} {s : State} {m : MethodId} {below : List Frame} {meth : Method} {c : Code} {D : va_G} {cI cY cJ cQ : ClassId} {b L aK aV : Nat} {xs : Nat → Int32} {ad rw md : Nat → Nat} {sd i : Int32} {nx : Nat → Int32} {fx rs : Nat → Nat → Int32} {lo : Nat → Int64} {ny : Nat → Int32} {fy : Nat → Nat → Int32} {fl : Nat → Int64} {H : Heap} {locs : List Loc} {ls : Array Slot} (C0 : lawC p s m meth c b L xs D cI cY cJ cQ aK aV) (I : inv nx fx rs ny fy) (hP : va_P D vwCl (wX ad rw sd cI cY cJ cQ nx fx rs lo ++ wM md sd cI cY cJ cQ ny fy fl) H) (hD : va_D (fun q : Nat => s.heap.size ≤ q) (wX ad rw sd cI cY cJ cQ nx fx rs lo ++ wM md sd cI cY cJ cQ ny fy fl)) (hS : va_S (fun q : Nat => s.heap.size ≤ q) s.heap H locs) (hl : lv_has ls 4 [(0, .ref b), (1, .ref (ad 0)), (2, .ref (md 64)), (3, .int i)]) (hi1 : 1 ≤ i.toInt) (hi2 : i.toInt ≤ (L : Int) + 6) : W p l e room_1 s m #[Value.ref b] below meth c H locs 107 4890 (lw_Z below #[Value.ref b] s) (F0 m 28 ls []) := by
  have C0k := C0
  obtain ⟨C1, hK, hN, hT, hL⟩ := C0
  obtain ⟨hx, hb, hr, hml, hown, hts0, hX, hbl, hlocks, hgv⟩ := C1
  have hA : ∀ q : Nat, s.heap.size ≤ q → (fun q : Nat => s.heap.size ≤ q) q := fun _ h => h
  have hbA : ¬ (fun q : Nat => s.heap.size ≤ q) b := Nat.not_le.mpr hbl
  have hts : ∀ w ∈ wsL_law, w.before #[Value.ref b] s = true := fun w h => hts0 w (wsL_law_in w h)
  replace hown : s.vm.findClass RL = some m.cls := hown
  replace hb : c.code = cL_law := hb
  have hLI : (Int32.ofNat L).toInt = (L : Int) := nI_toInt (by omega)
  have k6 : (6 : Int32).toInt = 6 := by decide
  have k63 : (63 : Int32).toInt = 63 := by decide
  refine st_loop 28 (fun _ => []) (fun (i : Int32) (ls : Array Slot) (H : Heap) (locs : List Loc) => ∃ (nx : Nat → Int32) (fx rs : Nat → Nat → Int32) (lo : Nat → Int64) (ny : Nat → Int32) (fy : Nat → Nat → Int32) (fl : Nat → Int64), inv nx fx rs ny fy ∧ va_P D vwCl (wX ad rw sd cI cY cJ cQ nx fx rs lo ++ wM md sd cI cY cJ cQ ny fy fl) H ∧ va_D (fun q : Nat => s.heap.size ≤ q) (wX ad rw sd cI cY cJ cQ nx fx rs lo ++ wM md sd cI cY cJ cQ ny fy fl) ∧ va_S (fun q : Nat => s.heap.size ≤ q) s.heap H locs ∧ lv_has ls 4 [(0, .ref b), (1, .ref (ad 0)), (2, .ref (md 64)), (3, .int i)] ∧ 1 ≤ i.toInt ∧ i.toInt ≤ (L : Int) + 6) (fun (i : Int32) => (L : Int) + 6 - i.toInt) ?_ ?_ i ⟨nx, fx, rs, lo, ny, fy, fl, I, hP, hD, hS, hl, hi1, hi2⟩
  · rintro i ls H locs ⟨nx, fx, rs, lo, ny, fy, fl, I, hP, hD, hS, hl, h1, h2⟩
    show (0 : Int) ≤ (L : Int) + 6 - i.toInt
    omega
  · rintro n9 ih9 i ls H locs ⟨nx, fx, rs, lo, ny, fy, fl, I, hP, hD, hS, hl, h1, h2⟩ hm9
    have hm9 : (L : Int) + 6 - i.toInt < (n9 : Int) + 1 := hm9
    have hl : lv_has ls 4 [(0, .ref b), (1, .ref (ad 0)), (2, .ref (md 64)), (3, .int i)] := hl
    show W _ _ _ _ _ _ _ _ _ _ _ _ _ _ _ (F0 m 28 ls [])
    refine lv_iload_n hx hb dL_law_28 rfl (lv_at hl 3 rfl) ?_
    refine lv_aload_n hx hb dL_law_29 rfl (lv_at hl 0 rfl) ?_
    refine va_slen hx hb hX hbl hbA hS dL_law_30 ?_
    refine lv_bipush (v := 6) hx hb dL_law_31 (by decide) ?_
    refine lv_isub hx hb dL_law_33 ?_
    refine lv_topi (fun v1 ev1 => ?_)
    try have tv1 : v1.toInt = (Int32.ofNat L).toInt - 6 := by rw [ev1]; exact (i_sub (x := (Int32.ofNat L)) (y := (6 : Int32)) (by rw [k6]; omega) (by rw [k6]; omega)).trans (by rw [k6])
    refine lv_icmp_gt (tgt := 1658) hx hb dL_law_34 (by decide) (fun c1 => ?_) (fun c1 => ?_)
    · refine lv_iconst (v := 1) hx hb dL_law_1658 (by decide) ?_
      refine va_forget (fun q hq => hS.2.2 q hq) ?_
      refine W.widen (k := 600000) (n := 7302250) (Nat.le_of_ble_eq_true rfl) (Nat.le_of_ble_eq_true rfl) ?_
      exact lw_ret hx hb hr hlocks dL_law_1659
    · have f1 := i_nlt c1
      refine lv_aload_n hx hb dL_law_37 rfl (lv_at hl 0 rfl) ?_
      refine lv_iload_n hx hb dL_law_38 rfl (lv_at hl 3 rfl) ?_
      refine va_sld hx hb hX hbl hbA hS (i_in (by omega) (by omega)) dL_law_39 ?_
      refine lv_topi (fun a2 ea2 => ?_)
      refine lv_bipush (v := 63) hx hb dL_law_40 (by decide) ?_
      refine lv_iand hx hb dL_law_42 ?_
      refine lv_topi (fun v3 ev3 => ?_)
      have T9 : ∀ (nx : Nat → Int32) (fx rs : Nat → Nat → Int32) (lo : Nat → Int64) (ny : Nat → Int32) (fy : Nat → Nat → Int32) (fl : Nat → Int64) (H : Heap) (locs : List Loc) (ls : Array Slot), inv nx fx rs ny fy → va_P D vwCl (wX ad rw sd cI cY cJ cQ nx fx rs lo ++ wM md sd cI cY cJ cQ ny fy fl) H → va_D (fun q : Nat => s.heap.size ≤ q) (wX ad rw sd cI cY cJ cQ nx fx rs lo ++ wM md sd cI cY cJ cQ ny fy fl) → va_S (fun q : Nat => s.heap.size ≤ q) s.heap H locs → lv_has ls 4 [(0, .ref b), (1, .ref (ad 0)), (2, .ref (md 64)), (3, .int i)] → W p l e room_1 s m #[Value.ref b] below meth c H locs 107 4890 (lw_Z below #[Value.ref b] s) (F0 m 1652 ls []) := by
        intro nx fx rs lo ny fy fl H locs ls I hP hD hS hl
        obtain ⟨v4, ev4⟩ : ∃ y : Int32, y = i + 6 := ⟨_, rfl⟩
        try have tv4 : v4.toInt = i.toInt + 6 := by rw [ev4]; exact (i_add (x := i) (y := (6 : Int32)) (by rw [k6]; omega) (by rw [k6]; omega)).trans (by rw [k6])
        refine lv_iinc (v := v4) (lv' := [(3, .int v4), (0, .ref b), (1, .ref (ad 0)), (2, .ref (md 64))]) hx hb dL_law_1652 hl (k := 3) rfl (by rw [ev4]; rfl) (by decide) rfl (fun ls hl => ?_)
        refine lv_goto (tgt := 28) hx hb dL_law_1655 (by decide) ?_
        exact ih9 v4 ls H locs ⟨nx, fx, rs, lo, ny, fy, fl, I, hP, hD, hS, lv_sub hl [1, 2, 3, 0] rfl, (by omega), (by omega)⟩ (by show (L : Int) + 6 - v4.toInt < _; omega)
      by_cases g9 : v3.toInt < 0 ∨ 37 < v3.toInt
      · refine lv_tableOut (tgt := 1652) hx hb dL_law_43 g9 (by decide) ?_
        exact T9 nx fx rs lo ny fy fl H locs ls I hP hD hS hl
      · skip
        by_cases g90 : v3.toInt ≤ 9
        · exact law_switch_0 C0k I hP hD hS hl (by omega) (by omega) T9 (by omega) g90
        · skip
          by_cases g91 : v3.toInt ≤ 19
          · exact law_switch_1 C0k I hP hD hS hl (by omega) (by omega) T9 (by omega) g91
          · skip
            by_cases g92 : v3.toInt ≤ 29
            · exact law_switch_2 C0k I hP hD hS hl (by omega) (by omega) T9 (by omega) g92
            · skip
              exact law_switch_3 C0k I hP hD hS hl (by omega) (by omega) T9 (by omega) (by omega)
end

section
theorem dL_cell_all0 : decode cL_cell 0 = .ok (.iload_n 1, 1) ∧ decode cL_cell 1 = .ok (.aload_n 0, 1) ∧ decode cL_cell 2 = .ok (.arraylength, 1) ∧ decode cL_cell 3 = .ok (.if_icmp .ge 9, 3) ∧ decode cL_cell 6 = .ok (.aload_n 0, 1) ∧ decode cL_cell 7 = .ok (.iload_n 1, 1) ∧ decode cL_cell 8 = .ok (.iaload, 1) ∧ decode cL_cell 9 = .ok (.goto 4, 3) ∧ decode cL_cell 12 = .ok (.iconst 0, 1) ∧ decode cL_cell 13 = .ok (.ireturn, 1) := by decide +kernel
theorem dL_cell_0 : decode cL_cell 0 = .ok (.iload_n 1, 1) := dL_cell_all0.1
theorem dL_cell_1 : decode cL_cell 1 = .ok (.aload_n 0, 1) := dL_cell_all0.2.1
theorem dL_cell_2 : decode cL_cell 2 = .ok (.arraylength, 1) := dL_cell_all0.2.2.1
theorem dL_cell_3 : decode cL_cell 3 = .ok (.if_icmp .ge 9, 3) := dL_cell_all0.2.2.2.1
theorem dL_cell_6 : decode cL_cell 6 = .ok (.aload_n 0, 1) := dL_cell_all0.2.2.2.2.1
theorem dL_cell_7 : decode cL_cell 7 = .ok (.iload_n 1, 1) := dL_cell_all0.2.2.2.2.2.1
theorem dL_cell_8 : decode cL_cell 8 = .ok (.iaload, 1) := dL_cell_all0.2.2.2.2.2.2.1
theorem dL_cell_9 : decode cL_cell 9 = .ok (.goto 4, 3) := dL_cell_all0.2.2.2.2.2.2.2.1
theorem dL_cell_12 : decode cL_cell 12 = .ok (.iconst 0, 1) := dL_cell_all0.2.2.2.2.2.2.2.2.1
theorem dL_cell_13 : decode cL_cell 13 = .ok (.ireturn, 1) := dL_cell_all0.2.2.2.2.2.2.2.2.2
theorem inv_0 : inv (fun _ => 0) (upR (upR (upR (upR (fun _ _ => 0) 2 (fun _ => (-1))) 13 (fun _ => (-1000000))) 14 (fun _ => 4)) 15 (fun _ => 100000)) (fun _ _ => 0) (fun _ => 0) (upR (upR (upR (upR (fun _ _ => 0) 0 (fun _ => (-1))) 30 (fun _ => (-1000000))) 28 (fun _ => 4)) 29 (fun _ => 100000)) := ⟨(by show 0 ≤ (0 : Int32).toInt; decide), (by show (0 : Int32).toInt ≤ 40; decide), (fun j hj => absurd hj (by show ¬ (j : Int) < (0 : Int32).toInt; have k0 : (0 : Int32).toInt = 0 := rfl; omega)), (fun j hj => absurd hj (by show ¬ (j : Int) < (0 : Int32).toInt; have k0 : (0 : Int32).toInt = 0 := rfl; omega)), (fun j hj => absurd hj (by show ¬ (j : Int) < (0 : Int32).toInt; have k0 : (0 : Int32).toInt = 0 := rfl; omega)), (fun j hj => absurd hj (by show ¬ (j : Int) < (0 : Int32).toInt; have k0 : (0 : Int32).toInt = 0 := rfl; omega)), (by show 0 ≤ (0 : Int32).toInt; decide), (by show (0 : Int32).toInt ≤ 12; decide), (fun j hj => absurd hj (by show ¬ (j : Int) < (0 : Int32).toInt; have k0 : (0 : Int32).toInt = 0 := rfl; omega)), (by show 0 ≤ (0 : Int32).toInt; decide), (by show (0 : Int32).toInt ≤ 40; decide), (fun j hj => absurd hj (by show ¬ (j : Int) < (0 : Int32).toInt; have k0 : (0 : Int32).toInt = 0 := rfl; omega)), (fun j hj => absurd hj (by show ¬ (j : Int) < (0 : Int32).toInt; have k0 : (0 : Int32).toInt = 0 := rfl; omega)), ⟨fun i j _ hj => absurd hj (by show ¬ (j : Int) < (0 : Int32).toInt; have k0 : (0 : Int32).toInt = 0 := rfl; omega), fun x hx => absurd hx (by show ¬ (x : Int) < (0 : Int32).toInt; have k0 : (0 : Int32).toInt = 0 := rfl; omega)⟩, (by show 0 ≤ (0 : Int32).toInt; decide), (by show (0 : Int32).toInt ≤ 40; decide), (fun j hj => absurd hj (by show ¬ (j : Int) < (0 : Int32).toInt; have k0 : (0 : Int32).toInt = 0 := rfl; omega)), (by show 0 ≤ (0 : Int32).toInt; decide), (by show (0 : Int32).toInt ≤ 300; decide), (by show 0 ≤ (0 : Int32).toInt; decide), (by show (0 : Int32).toInt ≤ 12; decide), (by show 0 ≤ (0 : Int32).toInt; decide), (by show (0 : Int32).toInt ≤ 60; decide), (by show 0 ≤ (0 : Int32).toInt; decide), (by show (0 : Int32).toInt ≤ 60; decide), (fun j hj => absurd hj (by show ¬ (j : Int) < (0 : Int32).toInt; have k0 : (0 : Int32).toInt = 0 := rfl; omega)), (by show 0 ≤ (0 : Int32).toInt; decide), (by show (0 : Int32).toInt ≤ 20; decide), (by show 0 ≤ (0 : Int32).toInt; decide), (by show (0 : Int32).toInt ≤ 16; decide), (fun j hj => ⟨by show (-1 : Int) ≤ (-1 : Int32).toInt; decide, by show (-1 : Int32).toInt ≤ 60; decide⟩), (by show 0 ≤ (0 : Int32).toInt; decide), (by show (0 : Int32).toInt ≤ 40; decide), (fun j hj => absurd hj (by show ¬ (j : Int) < (0 : Int32).toInt; have k0 : (0 : Int32).toInt = 0 := rfl; omega)), (fun j hj => ⟨by show (0 : Int) ≤ (0 : Int32).toInt; decide, by show (0 : Int32).toInt ≤ 60; decide⟩), (by show 0 ≤ (0 : Int32).toInt; decide), (by show (0 : Int32).toInt ≤ 12; decide), (by show 0 ≤ (0 : Int32).toInt; decide), (by show (0 : Int32).toInt ≤ 16; decide), rfl, rfl, rfl, rfl, rfl, rfl, rfl, rfl, rfl, rfl, rfl, rfl, rfl, rfl, rfl, rfl, rfl, rfl, rfl, rfl, rfl, rfl, rfl, rfl, rfl, rfl, rfl, rfl, rfl, rfl, rfl, rfl, rfl, rfl, rfl, rfl, rfl, rfl, rfl, rfl, rfl, (fun j hj => ⟨Or.inl ⟨by show (-1 : Int32).toInt < 0; decide, by show (-1 : Int32).toInt = -1; decide⟩, fun k hk => rfl⟩)⟩


/-- cell(script, 0) -/
def cellv (L : Nat) (xs : Nat → Int32) : Int32 := if 0 < L then xs ((0 : Int32).toNatClampNeg) else 0
abbrev cellPc (D : va_G) (cI cY cJ cQ : ClassId) (b L : Nat) (xs : Nat → Int32) (sz : Nat) : Array Value → State → Prop := va_Pc [.ref b, .int 0] (fun U => U.heap.size = sz ∧ va_X b L xs U U.heap ∧ b < U.heap.size ∧ va_K D vwCl (ty4 cI cY cJ cQ) U)
theorem cellBlind {D : va_G} {cI cY cJ cQ : ClassId} {b L : Nat} {xs : Nat → Int32} {sz : Nat} : FrameBlind (cellPc D cI cY cJ cQ b L xs sz) := fun a U g mk q => by
  obtain ⟨q0, q1, qX, qb, qK⟩ := q
  exact ⟨q0, q1, va_X.moved (u := U) (U := U.calling g mk a) (Vm.Alike.refl U.vm) qX, qb, va_K.moved (u := U) (U := U.calling g mk a) (Vm.Alike.refl U.vm) qK⟩

set_option maxHeartbeats 4000000 in
set_option maxRecDepth 100000 in
theorem ct_L_cell (l : Launch) (D : va_G) (cI cY cJ cQ : ClassId) (sz : Nat) (b L : Nat) (hL : L ≤ 3073) (xs : Nat → Int32) : Met l yL_cell wsL_cell ({ frames := 0, cells := 0, slots := 0, locals := 0 }) (cellPc D cI cY cJ cQ b L xs sz) (va_Qi (fun (r : Int32) (u : Unit) => r = cellv L xs) (cB D (ty4 cI cY cJ cQ) (fun (u : Unit) => []) (va_A [] sz)) (va_A [] sz)) 0 0 (va_A [] sz) := by
  refine Met.ofW (cc := cL_cell) (maxL := 2) (ret := (some .int)) (by decide) rfl ?_
  intro p e s m args below meth c s₁ B hml hv
  obtain ⟨rfl, hsz, hX, hbl, hK⟩ := hv
  have hx := B.exec
  have hb := B.bytes
  have hr := B.returns
  have hlocks := B.notSynchronized
  subst hsz
  have hbA : ¬ va_A [] s.heap.size b := fun h => by
    rcases h with ⟨k, e9, h⟩ | h
    · simp at h
    · omega
  have hS : va_S (va_A [] s.heap.size) s.heap s.heap [] := va_S.rf
  have hl := lv_entry ([.ref b, .int 0]) (n := 2) (Nat.le_of_ble_eq_true rfl)
  rw [lg_entry_eq]
  generalize (lg_sl ([.ref b, .int 0]) ++ List.replicate (2 - (lg_sl ([.ref b, .int 0])).length) Slot.unset).toArray = ls at hl ⊢
  have hl : lv_has ls 2 [(0, .ref b), (1, .int 0)] := hl
  have k0 : (0 : Int32).toInt = 0 := by decide
  have hLI : (Int32.ofNat L).toInt = (L : Int) := nI_toInt (by omega)
  refine lv_iload_n hx hb dL_cell_0 rfl (lv_at hl 1 rfl) ?_
  refine lv_aload_n hx hb dL_cell_1 rfl (lv_at hl 0 rfl) ?_
  refine va_slen hx hb hX hbl hbA hS dL_cell_2 ?_
  refine lv_icmp_ge (tgt := 12) hx hb dL_cell_3 (by decide) (fun c1 => ?_) (fun c1 => ?_)
  · have f1 := i_le c1
    refine lv_iconst (v := 0) hx hb dL_cell_12 (by decide) ?_
    exact W.iret (v := 0) hx hb hr (fun t ht hW => ⟨⟨0, (), rfl, (by unfold cellv; rw [if_neg (by omega)]), va_P.nil, va_K.moved hW.alike hK, va_D.nil⟩, hS.F ht⟩) hS.2.2 dL_cell_13
  · have f1 := i_nle c1
    refine lv_aload_n hx hb dL_cell_6 rfl (lv_at hl 0 rfl) ?_
    refine lv_iload_n hx hb dL_cell_7 rfl (lv_at hl 1 rfl) ?_
    refine va_sld hx hb hX hbl hbA hS (i_in (by omega) (by omega)) dL_cell_8 ?_
    refine lv_goto (tgt := 13) hx hb dL_cell_9 (by decide) ?_
    exact W.iret hx hb hr (fun t ht hW => ⟨⟨_, (), rfl, (by unfold cellv; rw [if_pos (by omega)]), va_P.nil, va_K.moved hW.alike hK, va_D.nil⟩, hS.F ht⟩) hS.2.2 dL_cell_13
theorem arr_i {args : Array Value} {s : State} (h : (Cond.arrayClass .int).before args s = true) : ∃ cA, ArrOfT s cA .int ∧ va_RA s cA .int := by
  obtain ⟨cA, kA, comp, h1, h2, h3⟩ := Cond.arrayClass_spec h
  exact ⟨cA, fun n z => ⟨fun k h => (by cases h), kA, h2, comp, h3⟩, h1⟩
theorem arr_y {args : Array Value} {s : State} (h : (Cond.arrayClass .byte).before args s = true) : ∃ cA, ArrOfT s cA .byte ∧ va_RA s cA .byte := by
  obtain ⟨cA, kA, comp, h1, h2, h3⟩ := Cond.arrayClass_spec h
  exact ⟨cA, fun n z => ⟨fun k h => (by cases h), kA, h2, comp, h3⟩, h1⟩
theorem arr_j {args : Array Value} {s : State} (h : (Cond.arrayClass .long).before args s = true) : ∃ cA, ArrOfT s cA .long ∧ va_RA s cA .long := by
  obtain ⟨cA, kA, comp, h1, h2, h3⟩ := Cond.arrayClass_spec h
  exact ⟨cA, fun n z => ⟨fun k h => (by cases h), kA, h2, comp, h3⟩, h1⟩
theorem arr_q {args : Array Value} {s : State} (h : (Cond.arrayOver (.array .int)).before args s = true) : ∃ cA, ArrOfT s cA (.array .int) ∧ va_RA s cA (.array .int) := by
  obtain ⟨comp, cA, kA, h0, h2, h3, h1⟩ := Jvm.Cond.arrayOver_specA h
  exact ⟨cA, fun n z => ⟨fun k h => (by cases h), kA, h2, comp, h3⟩, h1⟩
end

section
theorem fsX11 : ∀ j, j < 64 → defaultValue (tyX11 j) = vp_V [.int 0, .long 0, .int 0, .null, .null, .null, .int 0, .null, .null, .null, .null, .null, .null, .null, .null, .int 0, .null, .null, .int 0, .null, .null, .null, .null, .null, .int 0, .int 0, .null, .null, .null, .null, .int 0, .null, .int 0, .null, .null, .int 0, .int 0, .int 0, .int 0, .int 0, .int 0, .int 0, .int 0, .int 0, .int 0, .null, .null, .null, .null, .null, .null, .null, .int 0, .null, .null, .null, .null, .int 0, .null, .null, .null, .int 0, .null, .int 0] j := by decide +kernel
end

section
theorem cdX11_init : yX11_init.cls ≠ "java/lang/invoke/MethodHandle" ∧ yX11_init.cls ≠ "java/lang/invoke/VarHandle" ∧ (parseMethodDescriptor yX11_init.desc).map (fun d => d.parameters.length) = some 1 := by decide +kernel
theorem Gd_X11_init : gdA wsX11_init := gd_cons (by decide +kernel) (gd_app (gd_app (gd_all (ws := wsX11_init_o1) (by decide +kernel)) (gd_all (ws := wsX11_init_o2) (by decide +kernel))) Gd_X110)
theorem ggL_law_X11_init : GoodIn wsL_law wsX11_init := goodIn_s (fun _ h => (wm_r (wm_l (wm_l (wm_r (wm_l (wm_l (wm_r h)))))))) Gd_X11_init
set_option maxRecDepth 20000 in
theorem gL_law_X11_init : GoodIn wsL_law (wsX11_init) := ggL_law_X11_init
theorem dL_law_22 : decode cL_law 22 = .ok (.invokespecial 20, 3) := dL_law_all1.1
theorem dL_law_25 : decode cL_law 25 = .ok (.astore_n 2, 1) := dL_law_all1.2.1
theorem dL_law_26 : decode cL_law 26 = .ok (.iconst 1, 1) := dL_law_all1.2.2.1
theorem dL_law_27 : decode cL_law 27 = .ok (.istore_n 3, 1) := dL_law_all1.2.2.2.1
set_option maxHeartbeats 4000000 in
set_option maxRecDepth 100000 in
theorem law_mod2 {p : Program} {l : Launch} {e : Env} {s : State} {m : MethodId} {below : List Frame} {meth : Method} {c : Code} {D : va_G} {cI cY cJ cQ : ClassId} {b L aK aV : Nat} {xs : Nat → Int32} {ad rw : Nat → Nat} {qm : Nat} {sd : Int32} {H : Heap} {locs : List Loc} {ls : Array Slot} (C0 : lawC p s m meth c b L xs D cI cY cJ cQ aK aV) (hP : va_P D vwCl [(oC10 ad (0) (0) (0)), (aI cI (ad 11) 16 (fun _ => 0)), (aI cI (rw 0) 60 (fun _ => 0)), (aI cI (rw 1) 60 (fun _ => 0)), (aI cI (rw 2) 60 (fun _ => 0)), (aI cI (rw 3) 60 (fun _ => 0)), (aI cI (rw 4) 60 (fun _ => 0)), (aI cI (rw 5) 60 (fun _ => 0)), (aI cI (rw 6) 60 (fun _ => 0)), (aI cI (rw 7) 60 (fun _ => 0)), (oC9 ad ), ((ad 12), .inl (cQ, 8, .inr (.inr (.inr (.inr (fun i => if i < 8 then some (rw i) else none)))))), (aI cI (ad 13) 8 (fun _ => 0)), (aI cI (ad 14) 8 (fun _ => (-1))), (oC3 ad (0)), (aI cI (ad 23) 40 (fun _ => 0)), (aI cI (ad 24) 40 (fun _ => 0)), (aI cI (ad 25) 40 (fun _ => 0)), (aI cI (ad 26) 40 (fun _ => 0)), (aI cI (ad 27) 200 (fun _ => 0)), (aI cI (ad 28) 200 (fun _ => 0)), (aI cI (ad 29) 20 (fun _ => 0)), (aI cI (ad 30) 10 (fun _ => 0)), (oC1 ad (0)), (aI cI (ad 31) 12 (fun _ => 0)), (aI cI (ad 32) 12 (fun _ => 0)), (aI cI (ad 33) 12 (fun _ => (-1000000))), (aI cI (ad 34) 6 (fun _ => 4)), (aI cI (ad 35) 6 (fun _ => 100000)), (oC7 ad (0)), (aI cI (ad 36) 40 (fun _ => 0)), (aI cI (ad 37) 40 (fun _ => 0)), (aI cI (ad 38) 40 (fun _ => 0)), (aI cI (ad 39) 40 (fun _ => 0)), (aI cI (ad 40) 40 (fun _ => 0)), (aI cI (ad 41) 40 (fun _ => 0)), (oC8 ad (0)), (aI cI (ad 42) 40 (fun _ => 0)), (aI cI (ad 43) 40 (fun _ => 0)), (aI cI (ad 44) 40 (fun _ => 0)), (aI cI (ad 45) 40 (fun _ => 0)), (aI cI (ad 46) 40 (fun _ => 0)), (oC2 ad (0) (0) (0) (0) (0) (0) (0) (0)), (aI cY (ad 47) 300 (fun _ => 0)), (aI cI (ad 48) 12 (fun _ => 0)), (aI cI (ad 49) 12 (fun _ => 0)), (aI cI (ad 50) 12 (fun _ => 0)), (aI cI (ad 51) 12 (fun _ => 0)), (aI cI (ad 52) 12 (fun _ => 0)), (aI cI (ad 53) 12 (fun _ => 0)), (oC0 ad (0)), (aI cI (ad 54) 60 (fun _ => 0)), (aI cI (ad 55) 60 (fun _ => 0)), (aI cI (ad 56) 60 (fun _ => 0)), (aI cI (ad 57) 60 (fun _ => 0)), (oC5 ad sd), (aJ cJ (ad 58) 12 (fun _ => 0)), (oC6 ad (0)), (aI cI (ad 59) 60 (fun _ => 0)), (aI cI (ad 60) 60 (fun _ => 0)), (aI cI (ad 61) 60 (fun _ => 0)), (aI cI (ad 62) 60 (fun _ => 0)), (oC4 ad (0)), (aI cI (ad 63) 20 (fun _ => 0)), (aI cI (ad 64) 20 (fun _ => 0)), (aI cI (ad 65) 20 (fun _ => 0)), (qm, .inr (11, [.int 0, .long 0, .int 0, .null, .null, .null, .int 0, .null, .null, .null, .null, .null, .null, .null, .null, .int 0, .null, .null, .int 0, .null, .null, .null, .null, .null, .int 0, .int 0, .null, .null, .null, .null, .int 0, .null, .int 0, .null, .null, .int 0, .int 0, .int 0, .int 0, .int 0, .int 0, .int 0, .int 0, .int 0, .int 0, .null, .null, .null, .null, .null, .null, .null, .int 0, .null, .null, .null, .null, .int 0, .null, .null, .null, .int 0, .null, .int 0]))] H) (hD : va_D (fun q : Nat => s.heap.size ≤ q) [(oC10 ad (0) (0) (0)), (aI cI (ad 11) 16 (fun _ => 0)), (aI cI (rw 0) 60 (fun _ => 0)), (aI cI (rw 1) 60 (fun _ => 0)), (aI cI (rw 2) 60 (fun _ => 0)), (aI cI (rw 3) 60 (fun _ => 0)), (aI cI (rw 4) 60 (fun _ => 0)), (aI cI (rw 5) 60 (fun _ => 0)), (aI cI (rw 6) 60 (fun _ => 0)), (aI cI (rw 7) 60 (fun _ => 0)), (oC9 ad ), ((ad 12), .inl (cQ, 8, .inr (.inr (.inr (.inr (fun i => if i < 8 then some (rw i) else none)))))), (aI cI (ad 13) 8 (fun _ => 0)), (aI cI (ad 14) 8 (fun _ => (-1))), (oC3 ad (0)), (aI cI (ad 23) 40 (fun _ => 0)), (aI cI (ad 24) 40 (fun _ => 0)), (aI cI (ad 25) 40 (fun _ => 0)), (aI cI (ad 26) 40 (fun _ => 0)), (aI cI (ad 27) 200 (fun _ => 0)), (aI cI (ad 28) 200 (fun _ => 0)), (aI cI (ad 29) 20 (fun _ => 0)), (aI cI (ad 30) 10 (fun _ => 0)), (oC1 ad (0)), (aI cI (ad 31) 12 (fun _ => 0)), (aI cI (ad 32) 12 (fun _ => 0)), (aI cI (ad 33) 12 (fun _ => (-1000000))), (aI cI (ad 34) 6 (fun _ => 4)), (aI cI (ad 35) 6 (fun _ => 100000)), (oC7 ad (0)), (aI cI (ad 36) 40 (fun _ => 0)), (aI cI (ad 37) 40 (fun _ => 0)), (aI cI (ad 38) 40 (fun _ => 0)), (aI cI (ad 39) 40 (fun _ => 0)), (aI cI (ad 40) 40 (fun _ => 0)), (aI cI (ad 41) 40 (fun _ => 0)), (oC8 ad (0)), (aI cI (ad 42) 40 (fun _ => 0)), (aI cI (ad 43) 40 (fun _ => 0)), (aI cI (ad 44) 40 (fun _ => 0)), (aI cI (ad 45) 40 (fun _ => 0)), (aI cI (ad 46) 40 (fun _ => 0)), (oC2 ad (0) (0) (0) (0) (0) (0) (0) (0)), (aI cY (ad 47) 300 (fun _ => 0)), (aI cI (ad 48) 12 (fun _ => 0)), (aI cI (ad 49) 12 (fun _ => 0)), (aI cI (ad 50) 12 (fun _ => 0)), (aI cI (ad 51) 12 (fun _ => 0)), (aI cI (ad 52) 12 (fun _ => 0)), (aI cI (ad 53) 12 (fun _ => 0)), (oC0 ad (0)), (aI cI (ad 54) 60 (fun _ => 0)), (aI cI (ad 55) 60 (fun _ => 0)), (aI cI (ad 56) 60 (fun _ => 0)), (aI cI (ad 57) 60 (fun _ => 0)), (oC5 ad sd), (aJ cJ (ad 58) 12 (fun _ => 0)), (oC6 ad (0)), (aI cI (ad 59) 60 (fun _ => 0)), (aI cI (ad 60) 60 (fun _ => 0)), (aI cI (ad 61) 60 (fun _ => 0)), (aI cI (ad 62) 60 (fun _ => 0)), (oC4 ad (0)), (aI cI (ad 63) 20 (fun _ => 0)), (aI cI (ad 64) 20 (fun _ => 0)), (aI cI (ad 65) 20 (fun _ => 0)), (qm, .inr (11, [.int 0, .long 0, .int 0, .null, .null, .null, .int 0, .null, .null, .null, .null, .null, .null, .null, .null, .int 0, .null, .null, .int 0, .null, .null, .null, .null, .null, .int 0, .int 0, .null, .null, .null, .null, .int 0, .null, .int 0, .null, .null, .int 0, .int 0, .int 0, .int 0, .int 0, .int 0, .int 0, .int 0, .int 0, .int 0, .null, .null, .null, .null, .null, .null, .null, .int 0, .null, .null, .null, .null, .int 0, .null, .null, .null, .int 0, .null, .int 0]))]) (hS : va_S (fun q : Nat => s.heap.size ≤ q) s.heap H locs) (hl : lv_has ls 4 [(1, .ref (ad 0)), (0, .ref b)]) : W p l e room_1 s m #[Value.ref b] below meth c H locs 67 2662 (lw_Z below #[Value.ref b] s) (F0 m 22 ls [.int sd, .ref qm, .ref qm]) := by
  have C0k := C0
  obtain ⟨C1, hK, hN, hT, hL⟩ := C0
  obtain ⟨hx, hb, hr, hml, hown, hts0, hX, hbl, hlocks, hgv⟩ := C1
  have hA : ∀ q : Nat, s.heap.size ≤ q → (fun q : Nat => s.heap.size ≤ q) q := fun _ h => h
  have hbA : ¬ (fun q : Nat => s.heap.size ≤ q) b := Nat.not_le.mpr hbl
  have hts : ∀ w ∈ wsL_law, w.before #[Value.ref b] s = true := fun w h => hts0 w (wsL_law_in w h)
  replace hown : s.vm.findClass RL = some m.cls := hown
  replace hb : c.code = cL_law := hb
  refine st_v (wr := [(oC10 ad (0) (0) (0)), (aI cI (ad 11) 16 (fun _ => 0)), (aI cI (rw 0) 60 (fun _ => 0)), (aI cI (rw 1) 60 (fun _ => 0)), (aI cI (rw 2) 60 (fun _ => 0)), (aI cI (rw 3) 60 (fun _ => 0)), (aI cI (rw 4) 60 (fun _ => 0)), (aI cI (rw 5) 60 (fun _ => 0)), (aI cI (rw 6) 60 (fun _ => 0)), (aI cI (rw 7) 60 (fun _ => 0)), (oC9 ad ), ((ad 12), .inl (cQ, 8, .inr (.inr (.inr (.inr (fun i => if i < 8 then some (rw i) else none)))))), (aI cI (ad 13) 8 (fun _ => 0)), (aI cI (ad 14) 8 (fun _ => (-1))), (oC3 ad (0)), (aI cI (ad 23) 40 (fun _ => 0)), (aI cI (ad 24) 40 (fun _ => 0)), (aI cI (ad 25) 40 (fun _ => 0)), (aI cI (ad 26) 40 (fun _ => 0)), (aI cI (ad 27) 200 (fun _ => 0)), (aI cI (ad 28) 200 (fun _ => 0)), (aI cI (ad 29) 20 (fun _ => 0)), (aI cI (ad 30) 10 (fun _ => 0)), (oC1 ad (0)), (aI cI (ad 31) 12 (fun _ => 0)), (aI cI (ad 32) 12 (fun _ => 0)), (aI cI (ad 33) 12 (fun _ => (-1000000))), (aI cI (ad 34) 6 (fun _ => 4)), (aI cI (ad 35) 6 (fun _ => 100000)), (oC7 ad (0)), (aI cI (ad 36) 40 (fun _ => 0)), (aI cI (ad 37) 40 (fun _ => 0)), (aI cI (ad 38) 40 (fun _ => 0)), (aI cI (ad 39) 40 (fun _ => 0)), (aI cI (ad 40) 40 (fun _ => 0)), (aI cI (ad 41) 40 (fun _ => 0)), (oC8 ad (0)), (aI cI (ad 42) 40 (fun _ => 0)), (aI cI (ad 43) 40 (fun _ => 0)), (aI cI (ad 44) 40 (fun _ => 0)), (aI cI (ad 45) 40 (fun _ => 0)), (aI cI (ad 46) 40 (fun _ => 0)), (oC2 ad (0) (0) (0) (0) (0) (0) (0) (0)), (aI cY (ad 47) 300 (fun _ => 0)), (aI cI (ad 48) 12 (fun _ => 0)), (aI cI (ad 49) 12 (fun _ => 0)), (aI cI (ad 50) 12 (fun _ => 0)), (aI cI (ad 51) 12 (fun _ => 0)), (aI cI (ad 52) 12 (fun _ => 0)), (aI cI (ad 53) 12 (fun _ => 0)), (oC0 ad (0)), (aI cI (ad 54) 60 (fun _ => 0)), (aI cI (ad 55) 60 (fun _ => 0)), (aI cI (ad 56) 60 (fun _ => 0)), (aI cI (ad 57) 60 (fun _ => 0)), (oC5 ad sd), (aJ cJ (ad 58) 12 (fun _ => 0)), (oC6 ad (0)), (aI cI (ad 59) 60 (fun _ => 0)), (aI cI (ad 60) 60 (fun _ => 0)), (aI cI (ad 61) 60 (fun _ => 0)), (aI cI (ad 62) 60 (fun _ => 0)), (oC4 ad (0)), (aI cI (ad 63) 20 (fun _ => 0)), (aI cI (ad 64) 20 (fun _ => 0)), (aI cI (ad 65) 20 (fun _ => 0))]) (va_runI (As := [.int sd]) (rest := [.ref qm]) ⟨hx, hb, hml, hown, hts⟩ (ct_X11_init l D cI cY cJ cQ _ qm sd) (cwI 1 hts gL_law_X11_init rfl rfl rfl (hts (Cond.initialized RX11) (wm_l (wm_l (wm_l (wm_l (wm_l (wm_i 5 rfl))))))) (hts (Cond.methodLink RL 20 yX11_init) (wm_l (wm_l (wm_l (wm_l (wm_l (wm_i 12 rfl))))))) (hts (Cond.instanceMethod yX11_init) (wm_l (wm_l (wm_l (wm_l (wm_l (wm_i 13 rfl))))))) rfl cdX11_init ⟨Nat.le_of_ble_eq_true rfl, Nat.le_of_ble_eq_true rfl⟩) (cPreS (hP.sub [66] rfl) hK (hD.sub [66] (by decide +kernel) rfl) hN) rfl rfl hl.1 rfl (lv_room (Nat.le_of_ble_eq_true rfl)) dL_law_22 ⟨Nat.le_of_ble_eq_true rfl, Nat.le_of_ble_eq_true rfl⟩) hP hD hS hA [66] [0, 1, 2, 3, 4, 5, 6, 7, 8, 9, 10, 11, 12, 13, 14, 15, 16, 17, 18, 19, 20, 21, 22, 23, 24, 25, 26, 27, 28, 29, 30, 31, 32, 33, 34, 35, 36, 37, 38, 39, 40, 41, 42, 43, 44, 45, 46, 47, 48, 49, 50, 51, 52, 53, 54, 55, 56, 57, 58, 59, 60, 61, 62, 63, 64, 65] rfl rfl (by decide +kernel) (by decide +kernel) (fun u1 H locs hw2 => ?_)
  clear hP hD hS
  intro hP hD hS
  obtain ⟨md, emd⟩ : ∃ f : Nat → Nat, f = u1 := ⟨_, rfl⟩
  subst emd
  replace hw2 : md 64 = qm := hw2
  have hPn := hP
  have hDn := hD
  subst hw2
  have hP := hPn
  have hD := hDn
  replace hP : va_P D vwCl [(oC10 ad (0) (0) (0)), (aI cI (ad 11) 16 (fun _ => 0)), (aI cI (rw 0) 60 (fun _ => 0)), (aI cI (rw 1) 60 (fun _ => 0)), (aI cI (rw 2) 60 (fun _ => 0)), (aI cI (rw 3) 60 (fun _ => 0)), (aI cI (rw 4) 60 (fun _ => 0)), (aI cI (rw 5) 60 (fun _ => 0)), (aI cI (rw 6) 60 (fun _ => 0)), (aI cI (rw 7) 60 (fun _ => 0)), (oC9 ad ), ((ad 12), .inl (cQ, 8, .inr (.inr (.inr (.inr (fun i => if i < 8 then some (rw i) else none)))))), (aI cI (ad 13) 8 (fun _ => 0)), (aI cI (ad 14) 8 (fun _ => (-1))), (oC3 ad (0)), (aI cI (ad 23) 40 (fun _ => 0)), (aI cI (ad 24) 40 (fun _ => 0)), (aI cI (ad 25) 40 (fun _ => 0)), (aI cI (ad 26) 40 (fun _ => 0)), (aI cI (ad 27) 200 (fun _ => 0)), (aI cI (ad 28) 200 (fun _ => 0)), (aI cI (ad 29) 20 (fun _ => 0)), (aI cI (ad 30) 10 (fun _ => 0)), (oC1 ad (0)), (aI cI (ad 31) 12 (fun _ => 0)), (aI cI (ad 32) 12 (fun _ => 0)), (aI cI (ad 33) 12 (fun _ => (-1000000))), (aI cI (ad 34) 6 (fun _ => 4)), (aI cI (ad 35) 6 (fun _ => 100000)), (oC7 ad (0)), (aI cI (ad 36) 40 (fun _ => 0)), (aI cI (ad 37) 40 (fun _ => 0)), (aI cI (ad 38) 40 (fun _ => 0)), (aI cI (ad 39) 40 (fun _ => 0)), (aI cI (ad 40) 40 (fun _ => 0)), (aI cI (ad 41) 40 (fun _ => 0)), (oC8 ad (0)), (aI cI (ad 42) 40 (fun _ => 0)), (aI cI (ad 43) 40 (fun _ => 0)), (aI cI (ad 44) 40 (fun _ => 0)), (aI cI (ad 45) 40 (fun _ => 0)), (aI cI (ad 46) 40 (fun _ => 0)), (oC2 ad (0) (0) (0) (0) (0) (0) (0) (0)), (aI cY (ad 47) 300 (fun _ => 0)), (aI cI (ad 48) 12 (fun _ => 0)), (aI cI (ad 49) 12 (fun _ => 0)), (aI cI (ad 50) 12 (fun _ => 0)), (aI cI (ad 51) 12 (fun _ => 0)), (aI cI (ad 52) 12 (fun _ => 0)), (aI cI (ad 53) 12 (fun _ => 0)), (oC0 ad (0)), (aI cI (ad 54) 60 (fun _ => 0)), (aI cI (ad 55) 60 (fun _ => 0)), (aI cI (ad 56) 60 (fun _ => 0)), (aI cI (ad 57) 60 (fun _ => 0)), (oC5 ad sd), (aJ cJ (ad 58) 12 (fun _ => 0)), (oC6 ad (0)), (aI cI (ad 59) 60 (fun _ => 0)), (aI cI (ad 60) 60 (fun _ => 0)), (aI cI (ad 61) 60 (fun _ => 0)), (aI cI (ad 62) 60 (fun _ => 0)), (oC4 ad (0)), (aI cI (ad 63) 20 (fun _ => 0)), (aI cI (ad 64) 20 (fun _ => 0)), (aI cI (ad 65) 20 (fun _ => 0)), (moC md sd (0) (0) (0) (0) (0) (0) (0) (0) (0) (0) (0) (0) (0) (0) (0) (0) (0) (0) (0) (0) (0) (0) (0)), (aI cI (md 3) 8 (fun _ => (-1))), (aI cI (md 4) 8 (fun _ => 0)), (aI cI (md 5) 480 (fun _ => 0)), (aI cI (md 7) 40 (fun _ => 0)), (aI cI (md 8) 40 (fun _ => 0)), (aI cI (md 9) 40 (fun _ => 0)), (aI cI (md 10) 40 (fun _ => 0)), (aI cI (md 11) 200 (fun _ => 0)), (aI cI (md 12) 12 (fun _ => 0)), (aI cI (md 13) 12 (fun _ => 0)), (aJ cJ (md 14) 12 (fun _ => 0)), (aI cI (md 16) 12 (fun _ => 0)), (aI cI (md 17) 12 (fun _ => 0)), (aI cI (md 19) 40 (fun _ => 0)), (aI cI (md 20) 40 (fun _ => 0)), (aI cI (md 21) 40 (fun _ => 0)), (aI cI (md 22) 40 (fun _ => 0)), (aI cI (md 23) 40 (fun _ => 0)), (aI cI (md 26) 40 (fun _ => 0)), (aI cI (md 27) 40 (fun _ => 0)), (aI cI (md 28) 40 (fun _ => 0)), (aI cI (md 29) 40 (fun _ => 0)), (aI cI (md 31) 36 (fun _ => 0)), (aI cI (md 33) 36 (fun _ => 0)), (aI cI (md 34) 300 (fun _ => 0)), (aI cI (md 45) 60 (fun _ => 0)), (aI cI (md 46) 60 (fun _ => 0)), (aI cI (md 47) 60 (fun _ => 0)), (aI cI (md 48) 60 (fun _ => 0)), (aI cI (md 49) 6 (fun _ => 4)), (aI cI (md 50) 6 (fun _ => 100000)), (aI cI (md 51) 12 (fun _ => (-1000000))), (aI cI (md 53) 60 (fun _ => 0)), (aI cI (md 54) 60 (fun _ => 0)), (aI cI (md 55) 60 (fun _ => 0)), (aI cI (md 56) 60 (fun _ => 0)), (aI cI (md 58) 20 (fun _ => 0)), (aI cI (md 59) 20 (fun _ => 0)), (aI cI (md 60) 20 (fun _ => 0)), (aI cI (md 62) 16 (fun _ => 0))] H := hP
  replace hD : va_D (fun q : Nat => s.heap.size ≤ q) [(oC10 ad (0) (0) (0)), (aI cI (ad 11) 16 (fun _ => 0)), (aI cI (rw 0) 60 (fun _ => 0)), (aI cI (rw 1) 60 (fun _ => 0)), (aI cI (rw 2) 60 (fun _ => 0)), (aI cI (rw 3) 60 (fun _ => 0)), (aI cI (rw 4) 60 (fun _ => 0)), (aI cI (rw 5) 60 (fun _ => 0)), (aI cI (rw 6) 60 (fun _ => 0)), (aI cI (rw 7) 60 (fun _ => 0)), (oC9 ad ), ((ad 12), .inl (cQ, 8, .inr (.inr (.inr (.inr (fun i => if i < 8 then some (rw i) else none)))))), (aI cI (ad 13) 8 (fun _ => 0)), (aI cI (ad 14) 8 (fun _ => (-1))), (oC3 ad (0)), (aI cI (ad 23) 40 (fun _ => 0)), (aI cI (ad 24) 40 (fun _ => 0)), (aI cI (ad 25) 40 (fun _ => 0)), (aI cI (ad 26) 40 (fun _ => 0)), (aI cI (ad 27) 200 (fun _ => 0)), (aI cI (ad 28) 200 (fun _ => 0)), (aI cI (ad 29) 20 (fun _ => 0)), (aI cI (ad 30) 10 (fun _ => 0)), (oC1 ad (0)), (aI cI (ad 31) 12 (fun _ => 0)), (aI cI (ad 32) 12 (fun _ => 0)), (aI cI (ad 33) 12 (fun _ => (-1000000))), (aI cI (ad 34) 6 (fun _ => 4)), (aI cI (ad 35) 6 (fun _ => 100000)), (oC7 ad (0)), (aI cI (ad 36) 40 (fun _ => 0)), (aI cI (ad 37) 40 (fun _ => 0)), (aI cI (ad 38) 40 (fun _ => 0)), (aI cI (ad 39) 40 (fun _ => 0)), (aI cI (ad 40) 40 (fun _ => 0)), (aI cI (ad 41) 40 (fun _ => 0)), (oC8 ad (0)), (aI cI (ad 42) 40 (fun _ => 0)), (aI cI (ad 43) 40 (fun _ => 0)), (aI cI (ad 44) 40 (fun _ => 0)), (aI cI (ad 45) 40 (fun _ => 0)), (aI cI (ad 46) 40 (fun _ => 0)), (oC2 ad (0) (0) (0) (0) (0) (0) (0) (0)), (aI cY (ad 47) 300 (fun _ => 0)), (aI cI (ad 48) 12 (fun _ => 0)), (aI cI (ad 49) 12 (fun _ => 0)), (aI cI (ad 50) 12 (fun _ => 0)), (aI cI (ad 51) 12 (fun _ => 0)), (aI cI (ad 52) 12 (fun _ => 0)), (aI cI (ad 53) 12 (fun _ => 0)), (oC0 ad (0)), (aI cI (ad 54) 60 (fun _ => 0)), (aI cI (ad 55) 60 (fun _ => 0)), (aI cI (ad 56) 60 (fun _ => 0)), (aI cI (ad 57) 60 (fun _ => 0)), (oC5 ad sd), (aJ cJ (ad 58) 12 (fun _ => 0)), (oC6 ad (0)), (aI cI (ad 59) 60 (fun _ => 0)), (aI cI (ad 60) 60 (fun _ => 0)), (aI cI (ad 61) 60 (fun _ => 0)), (aI cI (ad 62) 60 (fun _ => 0)), (oC4 ad (0)), (aI cI (ad 63) 20 (fun _ => 0)), (aI cI (ad 64) 20 (fun _ => 0)), (aI cI (ad 65) 20 (fun _ => 0)), (moC md sd (0) (0) (0) (0) (0) (0) (0) (0) (0) (0) (0) (0) (0) (0) (0) (0) (0) (0) (0) (0) (0) (0) (0)), (aI cI (md 3) 8 (fun _ => (-1))), (aI cI (md 4) 8 (fun _ => 0)), (aI cI (md 5) 480 (fun _ => 0)), (aI cI (md 7) 40 (fun _ => 0)), (aI cI (md 8) 40 (fun _ => 0)), (aI cI (md 9) 40 (fun _ => 0)), (aI cI (md 10) 40 (fun _ => 0)), (aI cI (md 11) 200 (fun _ => 0)), (aI cI (md 12) 12 (fun _ => 0)), (aI cI (md 13) 12 (fun _ => 0)), (aJ cJ (md 14) 12 (fun _ => 0)), (aI cI (md 16) 12 (fun _ => 0)), (aI cI (md 17) 12 (fun _ => 0)), (aI cI (md 19) 40 (fun _ => 0)), (aI cI (md 20) 40 (fun _ => 0)), (aI cI (md 21) 40 (fun _ => 0)), (aI cI (md 22) 40 (fun _ => 0)), (aI cI (md 23) 40 (fun _ => 0)), (aI cI (md 26) 40 (fun _ => 0)), (aI cI (md 27) 40 (fun _ => 0)), (aI cI (md 28) 40 (fun _ => 0)), (aI cI (md 29) 40 (fun _ => 0)), (aI cI (md 31) 36 (fun _ => 0)), (aI cI (md 33) 36 (fun _ => 0)), (aI cI (md 34) 300 (fun _ => 0)), (aI cI (md 45) 60 (fun _ => 0)), (aI cI (md 46) 60 (fun _ => 0)), (aI cI (md 47) 60 (fun _ => 0)), (aI cI (md 48) 60 (fun _ => 0)), (aI cI (md 49) 6 (fun _ => 4)), (aI cI (md 50) 6 (fun _ => 100000)), (aI cI (md 51) 12 (fun _ => (-1000000))), (aI cI (md 53) 60 (fun _ => 0)), (aI cI (md 54) 60 (fun _ => 0)), (aI cI (md 55) 60 (fun _ => 0)), (aI cI (md 56) 60 (fun _ => 0)), (aI cI (md 58) 20 (fun _ => 0)), (aI cI (md 59) 20 (fun _ => 0)), (aI cI (md 60) 20 (fun _ => 0)), (aI cI (md 62) 16 (fun _ => 0))] := hD
  refine W.widen (k := 107) (n := 4890) (by first | exact Nat.le_of_ble_eq_true rfl | omega) (by first | exact Nat.le_of_ble_eq_true rfl | omega) ?_
  refine lv_astore_n (lv' := [(2, .ref (md 64)), (1, .ref (ad 0)), (0, .ref b)]) hx hb dL_law_25 rfl hl (by decide) rfl (fun ls hl => ?_)
  refine lv_iconst (v := 1) hx hb dL_law_26 (by decide) ?_
  refine lv_istore_n (lv' := [(3, .int 1), (2, .ref (md 64)), (1, .ref (ad 0)), (0, .ref b)]) hx hb dL_law_27 rfl hl (by decide) rfl (fun ls hl => ?_)
  have hP0 : va_P D vwCl (wX ad rw sd cI cY cJ cQ (fun _ => 0) (upR (upR (upR (upR (fun _ _ => 0) 2 (fun _ => (-1))) 13 (fun _ => (-1000000))) 14 (fun _ => 4)) 15 (fun _ => 100000)) (fun _ _ => 0) (fun _ => 0) ++ wM md sd cI cY cJ cQ (fun _ => 0) (upR (upR (upR (upR (fun _ _ => 0) 0 (fun _ => (-1))) 30 (fun _ => (-1000000))) 28 (fun _ => 4)) 29 (fun _ => 100000)) (fun _ => 0)) H := hP
  have hD0 : va_D (fun q : Nat => s.heap.size ≤ q) (wX ad rw sd cI cY cJ cQ (fun _ => 0) (upR (upR (upR (upR (fun _ _ => 0) 2 (fun _ => (-1))) 13 (fun _ => (-1000000))) 14 (fun _ => 4)) 15 (fun _ => 100000)) (fun _ _ => 0) (fun _ => 0) ++ wM md sd cI cY cJ cQ (fun _ => 0) (upR (upR (upR (upR (fun _ _ => 0) 0 (fun _ => (-1))) 30 (fun _ => (-1000000))) 28 (fun _ => 4)) 29 (fun _ => 100000)) (fun _ => 0)) := hD
  have k1 : (1 : Int32).toInt = 1 := rfl
  exact law_loop (i := 1) C0k inv_0 hP0 hD0 hS (lv_sub hl [3, 2, 1, 0] rfl) (by omega) (by omega)
end

section
theorem Gd_L_cell : gdA wsL_cell := gd_cons (by decide +kernel) (gd_all (ws := []) rfl)
theorem inlX11 : ∀ w ∈ wsX110, w ∈ wsL_law := fun _ h => (wm_r (wm_l (wm_l (wm_l (wm_l (wm_l (wm_l (wm_r h))))))))
theorem ggL_law_L_cell : GoodIn wsL_law wsL_cell := goodIn_s (fun _ h => (wm_r (wm_l (wm_l (wm_r (wm_l (wm_l (wm_l (wm_l h))))))))) Gd_L_cell
theorem gL_law_L_cell : GoodIn wsL_law (va_wsS RL 9 yL_cell wsL_cell) := goodIn_S (own := RL) (idx := 9) (y := yL_cell) (wm_l (wm_l (wm_l (wm_l (wm_l (wm_i 7 rfl)))))) (wm_l (wm_l (wm_l (wm_l (wm_l (wm_i 8 rfl)))))) (wm_l (wm_l (wm_l (wm_l (wm_l (wm_i 9 rfl)))))) ggL_law_L_cell
theorem dL_law_all0 : decode cL_law 0 = .ok (.new 7, 3) ∧ decode cL_law 3 = .ok (.dup, 1) ∧ decode cL_law 4 = .ok (.aload_n 0, 1) ∧ decode cL_law 5 = .ok (.iconst 0, 1) ∧ decode cL_law 6 = .ok (.invokestatic 9, 3) ∧ decode cL_law 9 = .ok (.invokespecial 15, 3) ∧ decode cL_law 12 = .ok (.astore_n 1, 1) ∧ decode cL_law 13 = .ok (.new 18, 3) ∧ decode cL_law 16 = .ok (.dup, 1) ∧ decode cL_law 17 = .ok (.aload_n 0, 1) ∧ decode cL_law 18 = .ok (.iconst 0, 1) ∧ decode cL_law 19 = .ok (.invokestatic 9, 3) := ⟨by decide +kernel, by decide +kernel, dq_42 sB_0 4 rfl, dq_3 sB_0 5 rfl, by decide +kernel, by decide +kernel, by decide +kernel, by decide +kernel, by decide +kernel, dq_42 sB_0 17 rfl, dq_3 sB_0 18 rfl, by decide +kernel⟩
theorem dL_law_12 : decode cL_law 12 = .ok (.astore_n 1, 1) := dL_law_all0.2.2.2.2.2.2.1
theorem dL_law_13 : decode cL_law 13 = .ok (.new 18, 3) := dL_law_all0.2.2.2.2.2.2.2.1
theorem dL_law_16 : decode cL_law 16 = .ok (.dup, 1) := dL_law_all0.2.2.2.2.2.2.2.2.1
theorem dL_law_17 : decode cL_law 17 = .ok (.aload_n 0, 1) := dL_law_all0.2.2.2.2.2.2.2.2.2.1
theorem dL_law_18 : decode cL_law 18 = .ok (.iconst 0, 1) := dL_law_all0.2.2.2.2.2.2.2.2.2.2.1
theorem dL_law_19 : decode cL_law 19 = .ok (.invokestatic 9, 3) := dL_law_all0.2.2.2.2.2.2.2.2.2.2.2
set_option maxHeartbeats 4000000 in
set_option maxRecDepth 100000 in
theorem law_mod {p : Program} {l : Launch} {e : Env} {s : State} {m : MethodId} {below : List Frame} {meth : Method} {c : Code} {D : va_G} {cI cY cJ cQ : ClassId} {b L aK aV : Nat} {xs : Nat → Int32} {ad rw : Nat → Nat} {sd : Int32} {H : Heap} {locs : List Loc} {ls : Array Slot} (C0 : lawC p s m meth c b L xs D cI cY cJ cQ aK aV) (esd : sd = cellv L xs) (hP : va_P D vwCl [(oC10 ad (0) (0) (0)), (aI cI (ad 11) 16 (fun _ => 0)), (aI cI (rw 0) 60 (fun _ => 0)), (aI cI (rw 1) 60 (fun _ => 0)), (aI cI (rw 2) 60 (fun _ => 0)), (aI cI (rw 3) 60 (fun _ => 0)), (aI cI (rw 4) 60 (fun _ => 0)), (aI cI (rw 5) 60 (fun _ => 0)), (aI cI (rw 6) 60 (fun _ => 0)), (aI cI (rw 7) 60 (fun _ => 0)), (oC9 ad ), ((ad 12), .inl (cQ, 8, .inr (.inr (.inr (.inr (fun i => if i < 8 then some (rw i) else none)))))), (aI cI (ad 13) 8 (fun _ => 0)), (aI cI (ad 14) 8 (fun _ => (-1))), (oC3 ad (0)), (aI cI (ad 23) 40 (fun _ => 0)), (aI cI (ad 24) 40 (fun _ => 0)), (aI cI (ad 25) 40 (fun _ => 0)), (aI cI (ad 26) 40 (fun _ => 0)), (aI cI (ad 27) 200 (fun _ => 0)), (aI cI (ad 28) 200 (fun _ => 0)), (aI cI (ad 29) 20 (fun _ => 0)), (aI cI (ad 30) 10 (fun _ => 0)), (oC1 ad (0)), (aI cI (ad 31) 12 (fun _ => 0)), (aI cI (ad 32) 12 (fun _ => 0)), (aI cI (ad 33) 12 (fun _ => (-1000000))), (aI cI (ad 34) 6 (fun _ => 4)), (aI cI (ad 35) 6 (fun _ => 100000)), (oC7 ad (0)), (aI cI (ad 36) 40 (fun _ => 0)), (aI cI (ad 37) 40 (fun _ => 0)), (aI cI (ad 38) 40 (fun _ => 0)), (aI cI (ad 39) 40 (fun _ => 0)), (aI cI (ad 40) 40 (fun _ => 0)), (aI cI (ad 41) 40 (fun _ => 0)), (oC8 ad (0)), (aI cI (ad 42) 40 (fun _ => 0)), (aI cI (ad 43) 40 (fun _ => 0)), (aI cI (ad 44) 40 (fun _ => 0)), (aI cI (ad 45) 40 (fun _ => 0)), (aI cI (ad 46) 40 (fun _ => 0)), (oC2 ad (0) (0) (0) (0) (0) (0) (0) (0)), (aI cY (ad 47) 300 (fun _ => 0)), (aI cI (ad 48) 12 (fun _ => 0)), (aI cI (ad 49) 12 (fun _ => 0)), (aI cI (ad 50) 12 (fun _ => 0)), (aI cI (ad 51) 12 (fun _ => 0)), (aI cI (ad 52) 12 (fun _ => 0)), (aI cI (ad 53) 12 (fun _ => 0)), (oC0 ad (0)), (aI cI (ad 54) 60 (fun _ => 0)), (aI cI (ad 55) 60 (fun _ => 0)), (aI cI (ad 56) 60 (fun _ => 0)), (aI cI (ad 57) 60 (fun _ => 0)), (oC5 ad sd), (aJ cJ (ad 58) 12 (fun _ => 0)), (oC6 ad (0)), (aI cI (ad 59) 60 (fun _ => 0)), (aI cI (ad 60) 60 (fun _ => 0)), (aI cI (ad 61) 60 (fun _ => 0)), (aI cI (ad 62) 60 (fun _ => 0)), (oC4 ad (0)), (aI cI (ad 63) 20 (fun _ => 0)), (aI cI (ad 64) 20 (fun _ => 0)), (aI cI (ad 65) 20 (fun _ => 0))] H) (hD : va_D (fun q : Nat => s.heap.size ≤ q) [(oC10 ad (0) (0) (0)), (aI cI (ad 11) 16 (fun _ => 0)), (aI cI (rw 0) 60 (fun _ => 0)), (aI cI (rw 1) 60 (fun _ => 0)), (aI cI (rw 2) 60 (fun _ => 0)), (aI cI (rw 3) 60 (fun _ => 0)), (aI cI (rw 4) 60 (fun _ => 0)), (aI cI (rw 5) 60 (fun _ => 0)), (aI cI (rw 6) 60 (fun _ => 0)), (aI cI (rw 7) 60 (fun _ => 0)), (oC9 ad ), ((ad 12), .inl (cQ, 8, .inr (.inr (.inr (.inr (fun i => if i < 8 then some (rw i) else none)))))), (aI cI (ad 13) 8 (fun _ => 0)), (aI cI (ad 14) 8 (fun _ => (-1))), (oC3 ad (0)), (aI cI (ad 23) 40 (fun _ => 0)), (aI cI (ad 24) 40 (fun _ => 0)), (aI cI (ad 25) 40 (fun _ => 0)), (aI cI (ad 26) 40 (fun _ => 0)), (aI cI (ad 27) 200 (fun _ => 0)), (aI cI (ad 28) 200 (fun _ => 0)), (aI cI (ad 29) 20 (fun _ => 0)), (aI cI (ad 30) 10 (fun _ => 0)), (oC1 ad (0)), (aI cI (ad 31) 12 (fun _ => 0)), (aI cI (ad 32) 12 (fun _ => 0)), (aI cI (ad 33) 12 (fun _ => (-1000000))), (aI cI (ad 34) 6 (fun _ => 4)), (aI cI (ad 35) 6 (fun _ => 100000)), (oC7 ad (0)), (aI cI (ad 36) 40 (fun _ => 0)), (aI cI (ad 37) 40 (fun _ => 0)), (aI cI (ad 38) 40 (fun _ => 0)), (aI cI (ad 39) 40 (fun _ => 0)), (aI cI (ad 40) 40 (fun _ => 0)), (aI cI (ad 41) 40 (fun _ => 0)), (oC8 ad (0)), (aI cI (ad 42) 40 (fun _ => 0)), (aI cI (ad 43) 40 (fun _ => 0)), (aI cI (ad 44) 40 (fun _ => 0)), (aI cI (ad 45) 40 (fun _ => 0)), (aI cI (ad 46) 40 (fun _ => 0)), (oC2 ad (0) (0) (0) (0) (0) (0) (0) (0)), (aI cY (ad 47) 300 (fun _ => 0)), (aI cI (ad 48) 12 (fun _ => 0)), (aI cI (ad 49) 12 (fun _ => 0)), (aI cI (ad 50) 12 (fun _ => 0)), (aI cI (ad 51) 12 (fun _ => 0)), (aI cI (ad 52) 12 (fun _ => 0)), (aI cI (ad 53) 12 (fun _ => 0)), (oC0 ad (0)), (aI cI (ad 54) 60 (fun _ => 0)), (aI cI (ad 55) 60 (fun _ => 0)), (aI cI (ad 56) 60 (fun _ => 0)), (aI cI (ad 57) 60 (fun _ => 0)), (oC5 ad sd), (aJ cJ (ad 58) 12 (fun _ => 0)), (oC6 ad (0)), (aI cI (ad 59) 60 (fun _ => 0)), (aI cI (ad 60) 60 (fun _ => 0)), (aI cI (ad 61) 60 (fun _ => 0)), (aI cI (ad 62) 60 (fun _ => 0)), (oC4 ad (0)), (aI cI (ad 63) 20 (fun _ => 0)), (aI cI (ad 64) 20 (fun _ => 0)), (aI cI (ad 65) 20 (fun _ => 0))]) (hS : va_S (fun q : Nat => s.heap.size ≤ q) s.heap H locs) (hl : lv_has ls 4 [(0, .ref b)]) : W p l e room_1 s m #[Value.ref b] below meth c H locs 66 2598 (lw_Z below #[Value.ref b] s) (F0 m 12 ls [.ref (ad 0)]) := by
  have C0k := C0
  obtain ⟨C1, hK, hN, hT, hL⟩ := C0
  obtain ⟨hx, hb, hr, hml, hown, hts0, hX, hbl, hlocks, hgv⟩ := C1
  have hA : ∀ q : Nat, s.heap.size ≤ q → (fun q : Nat => s.heap.size ≤ q) q := fun _ h => h
  have hbA : ¬ (fun q : Nat => s.heap.size ≤ q) b := Nat.not_le.mpr hbl
  have hts : ∀ w ∈ wsL_law, w.before #[Value.ref b] s = true := fun w h => hts0 w (wsL_law_in w h)
  replace hown : s.vm.findClass RL = some m.cls := hown
  replace hb : c.code = cL_law := hb
  refine lv_astore_n (lv' := [(1, .ref (ad 0)), (0, .ref b)]) hx hb dL_law_12 rfl hl (by decide) rfl (fun ls hl => ?_)
  refine va_new (ci := 11) (fs := [.int 0, .long 0, .int 0, .null, .null, .null, .int 0, .null, .null, .null, .null, .null, .null, .null, .null, .int 0, .null, .null, .int 0, .null, .null, .null, .null, .null, .int 0, .int 0, .null, .null, .null, .null, .int 0, .null, .int 0, .null, .null, .int 0, .int 0, .int 0, .int 0, .int 0, .int 0, .int 0, .int 0, .int 0, .int 0, .null, .null, .null, .null, .null, .null, .null, .int 0, .null, .null, .null, .null, .int 0, .null, .null, .null, .int 0, .null, .int 0]) (C := RX11) (T := TX11) (N := 64) hx hb hts inlX11 tyX11 tyX11_ok hown (hts (Cond.classLink RL 18 RX11) (wm_l (wm_l (wm_l (wm_l (wm_l (wm_i 3 rfl))))))) (hts (Cond.instantiable RX11 64) (wm_l (wm_l (wm_l (wm_l (wm_l (wm_i 4 rfl))))))) (hts (Cond.initialized RX11) (wm_l (wm_l (wm_l (wm_l (wm_l (wm_i 5 rfl))))))) hK hP hD hS hA rfl fsX11 (Nat.le_of_ble_eq_true rfl) (Nat.le_of_ble_eq_true rfl) dL_law_13 (fun q1 H => ?_)
  clear hP hD hS
  intro hP hD hS
  replace hP : va_P D vwCl [(oC10 ad (0) (0) (0)), (aI cI (ad 11) 16 (fun _ => 0)), (aI cI (rw 0) 60 (fun _ => 0)), (aI cI (rw 1) 60 (fun _ => 0)), (aI cI (rw 2) 60 (fun _ => 0)), (aI cI (rw 3) 60 (fun _ => 0)), (aI cI (rw 4) 60 (fun _ => 0)), (aI cI (rw 5) 60 (fun _ => 0)), (aI cI (rw 6) 60 (fun _ => 0)), (aI cI (rw 7) 60 (fun _ => 0)), (oC9 ad ), ((ad 12), .inl (cQ, 8, .inr (.inr (.inr (.inr (fun i => if i < 8 then some (rw i) else none)))))), (aI cI (ad 13) 8 (fun _ => 0)), (aI cI (ad 14) 8 (fun _ => (-1))), (oC3 ad (0)), (aI cI (ad 23) 40 (fun _ => 0)), (aI cI (ad 24) 40 (fun _ => 0)), (aI cI (ad 25) 40 (fun _ => 0)), (aI cI (ad 26) 40 (fun _ => 0)), (aI cI (ad 27) 200 (fun _ => 0)), (aI cI (ad 28) 200 (fun _ => 0)), (aI cI (ad 29) 20 (fun _ => 0)), (aI cI (ad 30) 10 (fun _ => 0)), (oC1 ad (0)), (aI cI (ad 31) 12 (fun _ => 0)), (aI cI (ad 32) 12 (fun _ => 0)), (aI cI (ad 33) 12 (fun _ => (-1000000))), (aI cI (ad 34) 6 (fun _ => 4)), (aI cI (ad 35) 6 (fun _ => 100000)), (oC7 ad (0)), (aI cI (ad 36) 40 (fun _ => 0)), (aI cI (ad 37) 40 (fun _ => 0)), (aI cI (ad 38) 40 (fun _ => 0)), (aI cI (ad 39) 40 (fun _ => 0)), (aI cI (ad 40) 40 (fun _ => 0)), (aI cI (ad 41) 40 (fun _ => 0)), (oC8 ad (0)), (aI cI (ad 42) 40 (fun _ => 0)), (aI cI (ad 43) 40 (fun _ => 0)), (aI cI (ad 44) 40 (fun _ => 0)), (aI cI (ad 45) 40 (fun _ => 0)), (aI cI (ad 46) 40 (fun _ => 0)), (oC2 ad (0) (0) (0) (0) (0) (0) (0) (0)), (aI cY (ad 47) 300 (fun _ => 0)), (aI cI (ad 48) 12 (fun _ => 0)), (aI cI (ad 49) 12 (fun _ => 0)), (aI cI (ad 50) 12 (fun _ => 0)), (aI cI (ad 51) 12 (fun _ => 0)), (aI cI (ad 52) 12 (fun _ => 0)), (aI cI (ad 53) 12 (fun _ => 0)), (oC0 ad (0)), (aI cI (ad 54) 60 (fun _ => 0)), (aI cI (ad 55) 60 (fun _ => 0)), (aI cI (ad 56) 60 (fun _ => 0)), (aI cI (ad 57) 60 (fun _ => 0)), (oC5 ad sd), (aJ cJ (ad 58) 12 (fun _ => 0)), (oC6 ad (0)), (aI cI (ad 59) 60 (fun _ => 0)), (aI cI (ad 60) 60 (fun _ => 0)), (aI cI (ad 61) 60 (fun _ => 0)), (aI cI (ad 62) 60 (fun _ => 0)), (oC4 ad (0)), (aI cI (ad 63) 20 (fun _ => 0)), (aI cI (ad 64) 20 (fun _ => 0)), (aI cI (ad 65) 20 (fun _ => 0)), (q1, .inr (11, [.int 0, .long 0, .int 0, .null, .null, .null, .int 0, .null, .null, .null, .null, .null, .null, .null, .null, .int 0, .null, .null, .int 0, .null, .null, .null, .null, .null, .int 0, .int 0, .null, .null, .null, .null, .int 0, .null, .int 0, .null, .null, .int 0, .int 0, .int 0, .int 0, .int 0, .int 0, .int 0, .int 0, .int 0, .int 0, .null, .null, .null, .null, .null, .null, .null, .int 0, .null, .null, .null, .null, .int 0, .null, .null, .null, .int 0, .null, .int 0]))] H := hP
  replace hD : va_D (fun q : Nat => s.heap.size ≤ q) [(oC10 ad (0) (0) (0)), (aI cI (ad 11) 16 (fun _ => 0)), (aI cI (rw 0) 60 (fun _ => 0)), (aI cI (rw 1) 60 (fun _ => 0)), (aI cI (rw 2) 60 (fun _ => 0)), (aI cI (rw 3) 60 (fun _ => 0)), (aI cI (rw 4) 60 (fun _ => 0)), (aI cI (rw 5) 60 (fun _ => 0)), (aI cI (rw 6) 60 (fun _ => 0)), (aI cI (rw 7) 60 (fun _ => 0)), (oC9 ad ), ((ad 12), .inl (cQ, 8, .inr (.inr (.inr (.inr (fun i => if i < 8 then some (rw i) else none)))))), (aI cI (ad 13) 8 (fun _ => 0)), (aI cI (ad 14) 8 (fun _ => (-1))), (oC3 ad (0)), (aI cI (ad 23) 40 (fun _ => 0)), (aI cI (ad 24) 40 (fun _ => 0)), (aI cI (ad 25) 40 (fun _ => 0)), (aI cI (ad 26) 40 (fun _ => 0)), (aI cI (ad 27) 200 (fun _ => 0)), (aI cI (ad 28) 200 (fun _ => 0)), (aI cI (ad 29) 20 (fun _ => 0)), (aI cI (ad 30) 10 (fun _ => 0)), (oC1 ad (0)), (aI cI (ad 31) 12 (fun _ => 0)), (aI cI (ad 32) 12 (fun _ => 0)), (aI cI (ad 33) 12 (fun _ => (-1000000))), (aI cI (ad 34) 6 (fun _ => 4)), (aI cI (ad 35) 6 (fun _ => 100000)), (oC7 ad (0)), (aI cI (ad 36) 40 (fun _ => 0)), (aI cI (ad 37) 40 (fun _ => 0)), (aI cI (ad 38) 40 (fun _ => 0)), (aI cI (ad 39) 40 (fun _ => 0)), (aI cI (ad 40) 40 (fun _ => 0)), (aI cI (ad 41) 40 (fun _ => 0)), (oC8 ad (0)), (aI cI (ad 42) 40 (fun _ => 0)), (aI cI (ad 43) 40 (fun _ => 0)), (aI cI (ad 44) 40 (fun _ => 0)), (aI cI (ad 45) 40 (fun _ => 0)), (aI cI (ad 46) 40 (fun _ => 0)), (oC2 ad (0) (0) (0) (0) (0) (0) (0) (0)), (aI cY (ad 47) 300 (fun _ => 0)), (aI cI (ad 48) 12 (fun _ => 0)), (aI cI (ad 49) 12 (fun _ => 0)), (aI cI (ad 50) 12 (fun _ => 0)), (aI cI (ad 51) 12 (fun _ => 0)), (aI cI (ad 52) 12 (fun _ => 0)), (aI cI (ad 53) 12 (fun _ => 0)), (oC0 ad (0)), (aI cI (ad 54) 60 (fun _ => 0)), (aI cI (ad 55) 60 (fun _ => 0)), (aI cI (ad 56) 60 (fun _ => 0)), (aI cI (ad 57) 60 (fun _ => 0)), (oC5 ad sd), (aJ cJ (ad 58) 12 (fun _ => 0)), (oC6 ad (0)), (aI cI (ad 59) 60 (fun _ => 0)), (aI cI (ad 60) 60 (fun _ => 0)), (aI cI (ad 61) 60 (fun _ => 0)), (aI cI (ad 62) 60 (fun _ => 0)), (oC4 ad (0)), (aI cI (ad 63) 20 (fun _ => 0)), (aI cI (ad 64) 20 (fun _ => 0)), (aI cI (ad 65) 20 (fun _ => 0)), (q1, .inr (11, [.int 0, .long 0, .int 0, .null, .null, .null, .int 0, .null, .null, .null, .null, .null, .null, .null, .null, .int 0, .null, .null, .int 0, .null, .null, .null, .null, .null, .int 0, .int 0, .null, .null, .null, .null, .int 0, .null, .int 0, .null, .null, .int 0, .int 0, .int 0, .int 0, .int 0, .int 0, .int 0, .int 0, .int 0, .int 0, .null, .null, .null, .null, .null, .null, .null, .int 0, .null, .null, .null, .null, .int 0, .null, .null, .null, .int 0, .null, .int 0]))] := hD
  refine W.widen (k := 67) (n := 2662) (by first | exact Nat.le_of_ble_eq_true rfl | omega) (by first | exact Nat.le_of_ble_eq_true rfl | omega) ?_
  refine lv_dup hx hb dL_law_16 rfl ?_
  refine lv_aload_n hx hb dL_law_17 rfl (lv_at hl 1 rfl) ?_
  refine lv_iconst (v := 0) hx hb dL_law_18 (by decide) ?_
  refine st_i (wr := [(oC10 ad (0) (0) (0)), (aI cI (ad 11) 16 (fun _ => 0)), (aI cI (rw 0) 60 (fun _ => 0)), (aI cI (rw 1) 60 (fun _ => 0)), (aI cI (rw 2) 60 (fun _ => 0)), (aI cI (rw 3) 60 (fun _ => 0)), (aI cI (rw 4) 60 (fun _ => 0)), (aI cI (rw 5) 60 (fun _ => 0)), (aI cI (rw 6) 60 (fun _ => 0)), (aI cI (rw 7) 60 (fun _ => 0)), (oC9 ad ), ((ad 12), .inl (cQ, 8, .inr (.inr (.inr (.inr (fun i => if i < 8 then some (rw i) else none)))))), (aI cI (ad 13) 8 (fun _ => 0)), (aI cI (ad 14) 8 (fun _ => (-1))), (oC3 ad (0)), (aI cI (ad 23) 40 (fun _ => 0)), (aI cI (ad 24) 40 (fun _ => 0)), (aI cI (ad 25) 40 (fun _ => 0)), (aI cI (ad 26) 40 (fun _ => 0)), (aI cI (ad 27) 200 (fun _ => 0)), (aI cI (ad 28) 200 (fun _ => 0)), (aI cI (ad 29) 20 (fun _ => 0)), (aI cI (ad 30) 10 (fun _ => 0)), (oC1 ad (0)), (aI cI (ad 31) 12 (fun _ => 0)), (aI cI (ad 32) 12 (fun _ => 0)), (aI cI (ad 33) 12 (fun _ => (-1000000))), (aI cI (ad 34) 6 (fun _ => 4)), (aI cI (ad 35) 6 (fun _ => 100000)), (oC7 ad (0)), (aI cI (ad 36) 40 (fun _ => 0)), (aI cI (ad 37) 40 (fun _ => 0)), (aI cI (ad 38) 40 (fun _ => 0)), (aI cI (ad 39) 40 (fun _ => 0)), (aI cI (ad 40) 40 (fun _ => 0)), (aI cI (ad 41) 40 (fun _ => 0)), (oC8 ad (0)), (aI cI (ad 42) 40 (fun _ => 0)), (aI cI (ad 43) 40 (fun _ => 0)), (aI cI (ad 44) 40 (fun _ => 0)), (aI cI (ad 45) 40 (fun _ => 0)), (aI cI (ad 46) 40 (fun _ => 0)), (oC2 ad (0) (0) (0) (0) (0) (0) (0) (0)), (aI cY (ad 47) 300 (fun _ => 0)), (aI cI (ad 48) 12 (fun _ => 0)), (aI cI (ad 49) 12 (fun _ => 0)), (aI cI (ad 50) 12 (fun _ => 0)), (aI cI (ad 51) 12 (fun _ => 0)), (aI cI (ad 52) 12 (fun _ => 0)), (aI cI (ad 53) 12 (fun _ => 0)), (oC0 ad (0)), (aI cI (ad 54) 60 (fun _ => 0)), (aI cI (ad 55) 60 (fun _ => 0)), (aI cI (ad 56) 60 (fun _ => 0)), (aI cI (ad 57) 60 (fun _ => 0)), (oC5 ad sd), (aJ cJ (ad 58) 12 (fun _ => 0)), (oC6 ad (0)), (aI cI (ad 59) 60 (fun _ => 0)), (aI cI (ad 60) 60 (fun _ => 0)), (aI cI (ad 61) 60 (fun _ => 0)), (aI cI (ad 62) 60 (fun _ => 0)), (oC4 ad (0)), (aI cI (ad 63) 20 (fun _ => 0)), (aI cI (ad 64) 20 (fun _ => 0)), (aI cI (ad 65) 20 (fun _ => 0)), (q1, .inr (11, [.int 0, .long 0, .int 0, .null, .null, .null, .int 0, .null, .null, .null, .null, .null, .null, .null, .null, .int 0, .null, .null, .int 0, .null, .null, .null, .null, .null, .int 0, .int 0, .null, .null, .null, .null, .int 0, .null, .int 0, .null, .null, .int 0, .int 0, .int 0, .int 0, .int 0, .int 0, .int 0, .int 0, .int 0, .int 0, .null, .null, .null, .null, .null, .null, .null, .int 0, .null, .null, .null, .null, .int 0, .null, .null, .null, .int 0, .null, .int 0]))]) (va_runS (As := [.ref b, .int 0]) (rest := [.ref q1, .ref q1]) ⟨hx, hb, hml, hown, hts⟩ (ct_L_cell l D cI cY cJ cQ _ b L hL xs) (va_cwS 2 hts gL_law_L_cell rfl rfl rfl (by decide +kernel) ⟨Nat.le_of_ble_eq_true rfl, Nat.le_of_ble_eq_true rfl⟩) ⟨cellBlind, fun U hU hW => ⟨rfl, by rw [hU], va_X.moved hW.alike (by rw [hU]; exact hX.kept (hS.2.1 b hbl hbA)), by rw [hU]; exact Nat.lt_of_lt_of_le hbl hS.1, va_K.moved hW.alike hK⟩⟩ rfl rfl hl.1 rfl (lv_room (Nat.le_of_ble_eq_true rfl)) dL_law_19 ⟨Nat.le_of_ble_eq_true rfl, Nat.le_of_ble_eq_true rfl⟩) hP hD hS hA [] [0, 1, 2, 3, 4, 5, 6, 7, 8, 9, 10, 11, 12, 13, 14, 15, 16, 17, 18, 19, 20, 21, 22, 23, 24, 25, 26, 27, 28, 29, 30, 31, 32, 33, 34, 35, 36, 37, 38, 39, 40, 41, 42, 43, 44, 45, 46, 47, 48, 49, 50, 51, 52, 53, 54, 55, 56, 57, 58, 59, 60, 61, 62, 63, 64, 65, 66] rfl rfl (by decide +kernel) (by decide +kernel) (fun r2 u3 H locs hw4 hP hD hS => ?_)
  replace hw4 : sd = r2 := (hw4.trans esd.symm).symm
  subst hw4
  replace hP : va_P D vwCl [(oC10 ad (0) (0) (0)), (aI cI (ad 11) 16 (fun _ => 0)), (aI cI (rw 0) 60 (fun _ => 0)), (aI cI (rw 1) 60 (fun _ => 0)), (aI cI (rw 2) 60 (fun _ => 0)), (aI cI (rw 3) 60 (fun _ => 0)), (aI cI (rw 4) 60 (fun _ => 0)), (aI cI (rw 5) 60 (fun _ => 0)), (aI cI (rw 6) 60 (fun _ => 0)), (aI cI (rw 7) 60 (fun _ => 0)), (oC9 ad ), ((ad 12), .inl (cQ, 8, .inr (.inr (.inr (.inr (fun i => if i < 8 then some (rw i) else none)))))), (aI cI (ad 13) 8 (fun _ => 0)), (aI cI (ad 14) 8 (fun _ => (-1))), (oC3 ad (0)), (aI cI (ad 23) 40 (fun _ => 0)), (aI cI (ad 24) 40 (fun _ => 0)), (aI cI (ad 25) 40 (fun _ => 0)), (aI cI (ad 26) 40 (fun _ => 0)), (aI cI (ad 27) 200 (fun _ => 0)), (aI cI (ad 28) 200 (fun _ => 0)), (aI cI (ad 29) 20 (fun _ => 0)), (aI cI (ad 30) 10 (fun _ => 0)), (oC1 ad (0)), (aI cI (ad 31) 12 (fun _ => 0)), (aI cI (ad 32) 12 (fun _ => 0)), (aI cI (ad 33) 12 (fun _ => (-1000000))), (aI cI (ad 34) 6 (fun _ => 4)), (aI cI (ad 35) 6 (fun _ => 100000)), (oC7 ad (0)), (aI cI (ad 36) 40 (fun _ => 0)), (aI cI (ad 37) 40 (fun _ => 0)), (aI cI (ad 38) 40 (fun _ => 0)), (aI cI (ad 39) 40 (fun _ => 0)), (aI cI (ad 40) 40 (fun _ => 0)), (aI cI (ad 41) 40 (fun _ => 0)), (oC8 ad (0)), (aI cI (ad 42) 40 (fun _ => 0)), (aI cI (ad 43) 40 (fun _ => 0)), (aI cI (ad 44) 40 (fun _ => 0)), (aI cI (ad 45) 40 (fun _ => 0)), (aI cI (ad 46) 40 (fun _ => 0)), (oC2 ad (0) (0) (0) (0) (0) (0) (0) (0)), (aI cY (ad 47) 300 (fun _ => 0)), (aI cI (ad 48) 12 (fun _ => 0)), (aI cI (ad 49) 12 (fun _ => 0)), (aI cI (ad 50) 12 (fun _ => 0)), (aI cI (ad 51) 12 (fun _ => 0)), (aI cI (ad 52) 12 (fun _ => 0)), (aI cI (ad 53) 12 (fun _ => 0)), (oC0 ad (0)), (aI cI (ad 54) 60 (fun _ => 0)), (aI cI (ad 55) 60 (fun _ => 0)), (aI cI (ad 56) 60 (fun _ => 0)), (aI cI (ad 57) 60 (fun _ => 0)), (oC5 ad sd), (aJ cJ (ad 58) 12 (fun _ => 0)), (oC6 ad (0)), (aI cI (ad 59) 60 (fun _ => 0)), (aI cI (ad 60) 60 (fun _ => 0)), (aI cI (ad 61) 60 (fun _ => 0)), (aI cI (ad 62) 60 (fun _ => 0)), (oC4 ad (0)), (aI cI (ad 63) 20 (fun _ => 0)), (aI cI (ad 64) 20 (fun _ => 0)), (aI cI (ad 65) 20 (fun _ => 0)), (q1, .inr (11, [.int 0, .long 0, .int 0, .null, .null, .null, .int 0, .null, .null, .null, .null, .null, .null, .null, .null, .int 0, .null, .null, .int 0, .null, .null, .null, .null, .null, .int 0, .int 0, .null, .null, .null, .null, .int 0, .null, .int 0, .null, .null, .int 0, .int 0, .int 0, .int 0, .int 0, .int 0, .int 0, .int 0, .int 0, .int 0, .null, .null, .null, .null, .null, .null, .null, .int 0, .null, .null, .null, .null, .int 0, .null, .null, .null, .int 0, .null, .int 0]))] H := hP
  replace hD : va_D (fun q : Nat => s.heap.size ≤ q) [(oC10 ad (0) (0) (0)), (aI cI (ad 11) 16 (fun _ => 0)), (aI cI (rw 0) 60 (fun _ => 0)), (aI cI (rw 1) 60 (fun _ => 0)), (aI cI (rw 2) 60 (fun _ => 0)), (aI cI (rw 3) 60 (fun _ => 0)), (aI cI (rw 4) 60 (fun _ => 0)), (aI cI (rw 5) 60 (fun _ => 0)), (aI cI (rw 6) 60 (fun _ => 0)), (aI cI (rw 7) 60 (fun _ => 0)), (oC9 ad ), ((ad 12), .inl (cQ, 8, .inr (.inr (.inr (.inr (fun i => if i < 8 then some (rw i) else none)))))), (aI cI (ad 13) 8 (fun _ => 0)), (aI cI (ad 14) 8 (fun _ => (-1))), (oC3 ad (0)), (aI cI (ad 23) 40 (fun _ => 0)), (aI cI (ad 24) 40 (fun _ => 0)), (aI cI (ad 25) 40 (fun _ => 0)), (aI cI (ad 26) 40 (fun _ => 0)), (aI cI (ad 27) 200 (fun _ => 0)), (aI cI (ad 28) 200 (fun _ => 0)), (aI cI (ad 29) 20 (fun _ => 0)), (aI cI (ad 30) 10 (fun _ => 0)), (oC1 ad (0)), (aI cI (ad 31) 12 (fun _ => 0)), (aI cI (ad 32) 12 (fun _ => 0)), (aI cI (ad 33) 12 (fun _ => (-1000000))), (aI cI (ad 34) 6 (fun _ => 4)), (aI cI (ad 35) 6 (fun _ => 100000)), (oC7 ad (0)), (aI cI (ad 36) 40 (fun _ => 0)), (aI cI (ad 37) 40 (fun _ => 0)), (aI cI (ad 38) 40 (fun _ => 0)), (aI cI (ad 39) 40 (fun _ => 0)), (aI cI (ad 40) 40 (fun _ => 0)), (aI cI (ad 41) 40 (fun _ => 0)), (oC8 ad (0)), (aI cI (ad 42) 40 (fun _ => 0)), (aI cI (ad 43) 40 (fun _ => 0)), (aI cI (ad 44) 40 (fun _ => 0)), (aI cI (ad 45) 40 (fun _ => 0)), (aI cI (ad 46) 40 (fun _ => 0)), (oC2 ad (0) (0) (0) (0) (0) (0) (0) (0)), (aI cY (ad 47) 300 (fun _ => 0)), (aI cI (ad 48) 12 (fun _ => 0)), (aI cI (ad 49) 12 (fun _ => 0)), (aI cI (ad 50) 12 (fun _ => 0)), (aI cI (ad 51) 12 (fun _ => 0)), (aI cI (ad 52) 12 (fun _ => 0)), (aI cI (ad 53) 12 (fun _ => 0)), (oC0 ad (0)), (aI cI (ad 54) 60 (fun _ => 0)), (aI cI (ad 55) 60 (fun _ => 0)), (aI cI (ad 56) 60 (fun _ => 0)), (aI cI (ad 57) 60 (fun _ => 0)), (oC5 ad sd), (aJ cJ (ad 58) 12 (fun _ => 0)), (oC6 ad (0)), (aI cI (ad 59) 60 (fun _ => 0)), (aI cI (ad 60) 60 (fun _ => 0)), (aI cI (ad 61) 60 (fun _ => 0)), (aI cI (ad 62) 60 (fun _ => 0)), (oC4 ad (0)), (aI cI (ad 63) 20 (fun _ => 0)), (aI cI (ad 64) 20 (fun _ => 0)), (aI cI (ad 65) 20 (fun _ => 0)), (q1, .inr (11, [.int 0, .long 0, .int 0, .null, .null, .null, .int 0, .null, .null, .null, .null, .null, .null, .null, .null, .int 0, .null, .null, .int 0, .null, .null, .null, .null, .null, .int 0, .int 0, .null, .null, .null, .null, .int 0, .null, .int 0, .null, .null, .int 0, .int 0, .int 0, .int 0, .int 0, .int 0, .int 0, .int 0, .int 0, .int 0, .null, .null, .null, .null, .null, .null, .null, .int 0, .null, .null, .null, .null, .int 0, .null, .null, .null, .int 0, .null, .int 0]))] := hD
  exact law_mod2 (ad := ad) (rw := rw) (sd := sd) C0k hP hD hS hl
end

section

/-- the words' text as the tables have it -/
theorem str_0 {args : Array Value} {s : State} {A : Nat → Prop} (hgv : (Jvm.Cond.and given_1 narrow_1).before args s = true) (hts : ∀ w ∈ lw_tbl, w.before args s = true) (hA : ∀ a : Nat, a < s.heap.size → ¬ A a) : ∃ aK aV : Nat, strW aK aV A s := by
  have hs := flat_of_before _ hgv
  have h1 := vk_Sof (args := args) (s := s) (N := 1) (tm := fun _ => Term.string RX2 95) (len := [30]) (byt := [WORDB]) (A := A) (fun i hi => by obtain rfl : i = 0 := (by omega); decide)
    (fun i hi => hs (Cond.exactly (.string RX2 95) "java/lang/String") (by decide +kernel)) (fun i hi => hs (Cond.eq (.field (.string RX2 95) "java/lang/String" "coder" "B") (.int 0)) (by decide +kernel))
    (fun i hi => hs (Cond.arrayOf (.field (.string RX2 95) "java/lang/String" "value" "[B") .byte) (by decide +kernel))
    (fun i hi => by
      have : i = 0 := by omega
      subst this
      exact hs (Cond.eq (.length (.field (.string RX2 95) "java/lang/String" "value" "[B")) (.int 30)) (by decide +kernel))
    (fun i hi j hj => by
      have : i = 0 := by omega
      subst this
      have hj : j < 30 := hj
      exact hs _ ((by decide +kernel : ∀ j, j < 30 → (Cond.eq (.elem (.field (.string RX2 95) "java/lang/String" "value" "[B") (.int (Int32.ofNat j))) (.int (([WORDB].getD 0 []).getD j 0))) ∈ flatC (Jvm.Cond.and given_1 narrow_1)) j hj))
    (fun i j hi hj hij => by omega) hA
  obtain ⟨adK, adV, h2, h3⟩ := h1
  refine ⟨adK 0, adV 0, vk_R.of (hts (.stringRef RX2 95 WORDT) (by decide +kernel)) (h3 0 (by decide)), ⟨fun i hi => ?_, fun i j hi hj _ => by omega⟩, ?_, ?_⟩
  · have : i = 0 := by omega
    subst this
    exact h2.1 0 (by decide)
  · exact va_Zof (hts (.laysStatic "java/lang/String" "COMPACT_STRINGS" "Z") (by decide +kernel)) (hts (.initialized "java/lang/String") (by decide +kernel)) (va_eqt (hs (Cond.eq (.static "java/lang/String" "COMPACT_STRINGS" "Z") (.int 1)) (by decide +kernel))) hA
  · exact va_Zqof (hts (.laysStatic "jdk/internal/util/Preconditions" "SIOOBE_FORMATTER" "Ljava/util/function/BiFunction;") (by decide +kernel)) (hts (.initialized "jdk/internal/util/Preconditions") (by decide +kernel)) (hs (Cond.isRef (.static "jdk/internal/util/Preconditions" "SIOOBE_FORMATTER" "Ljava/util/function/BiFunction;")) (by decide +kernel)) hA
end

section
theorem cdX10_init : yX10_init.cls ≠ "java/lang/invoke/MethodHandle" ∧ yX10_init.cls ≠ "java/lang/invoke/VarHandle" ∧ (parseMethodDescriptor yX10_init.desc).map (fun d => d.parameters.length) = some 1 := by decide +kernel
theorem Gd_X10_init : gdA wsX10_init := gd_cons (by decide +kernel) (gd_app (gd_app (gd_app (gd_all (ws := wsX10_init_o1) (by decide +kernel)) (gd_all (ws := wsX10_init_o2) (by decide +kernel))) (gd_all (ws := wsX10_init_o3) (by decide +kernel))) (gd_app (gd_app (gd_app (gd_app (gd_app Gd_X90 Gd_X100) Gd_X30) (gd_app (gd_app Gd_X10 Gd_X70) Gd_X80)) (gd_app (gd_app (gd_app Gd_X20 Gd_X00) Gd_X60) (gd_app Gd_X40 Gd_X50))) (gd_app (gd_app (gd_app (gd_app Gd_X9_init Gd_X3_init) Gd_X1_init) (gd_app Gd_X7_init Gd_X8_init)) (gd_app (gd_app (gd_app Gd_X2_init Gd_X0_init) Gd_X6_init) (gd_app Gd_X4_init Gd_X5_init)))))
theorem inlX0 : ∀ w ∈ wsX00, w ∈ wsL_law := fun _ h => (wm_r (wm_l (wm_l (wm_l (wm_r (wm_l (wm_r h)))))))
theorem inX0 : ∀ w ∈ wsX00, w ∈ lw_tbl := fun w h => wsL_law_in w (inlX0 w h)
theorem inlX1 : ∀ w ∈ wsX10, w ∈ wsL_law := fun _ h => (wm_r (wm_l (wm_l (wm_l (wm_l (wm_r (wm_l (wm_r h))))))))
theorem inX1 : ∀ w ∈ wsX10, w ∈ lw_tbl := fun w h => wsL_law_in w (inlX1 w h)
theorem inlX2 : ∀ w ∈ wsX20, w ∈ wsL_law := fun _ h => (wm_r (wm_l (wm_l (wm_l (wm_r (wm_l (wm_l (wm_r h))))))))
theorem inX2 : ∀ w ∈ wsX20, w ∈ lw_tbl := fun w h => wsL_law_in w (inlX2 w h)
theorem inlX3 : ∀ w ∈ wsX30, w ∈ wsL_law := fun _ h => (wm_r (wm_l (wm_l (wm_l (wm_l (wm_r (wm_l (wm_l h))))))))
theorem inX3 : ∀ w ∈ wsX30, w ∈ lw_tbl := fun w h => wsL_law_in w (inlX3 w h)
theorem inlX4 : ∀ w ∈ wsX40, w ∈ wsL_law := fun _ h => (wm_r (wm_l (wm_l (wm_l (wm_r (wm_r (wm_l (wm_r h))))))))
theorem inX4 : ∀ w ∈ wsX40, w ∈ lw_tbl := fun w h => wsL_law_in w (inlX4 w h)
theorem inlX5 : ∀ w ∈ wsX50, w ∈ wsL_law := fun _ h => (wm_r (wm_l (wm_l (wm_l (wm_r (wm_r (wm_r h)))))))
theorem inX5 : ∀ w ∈ wsX50, w ∈ lw_tbl := fun w h => wsL_law_in w (inlX5 w h)
theorem inlX6 : ∀ w ∈ wsX60, w ∈ wsL_law := fun _ h => (wm_r (wm_l (wm_l (wm_l (wm_r (wm_r (wm_l (wm_l h))))))))
theorem inX6 : ∀ w ∈ wsX60, w ∈ lw_tbl := fun w h => wsL_law_in w (inlX6 w h)
theorem inlX7 : ∀ w ∈ wsX70, w ∈ wsL_law := fun _ h => (wm_r (wm_l (wm_l (wm_l (wm_l (wm_r (wm_r h)))))))
theorem inX7 : ∀ w ∈ wsX70, w ∈ lw_tbl := fun w h => wsL_law_in w (inlX7 w h)
theorem inlX8 : ∀ w ∈ wsX80, w ∈ wsL_law := fun _ h => (wm_r (wm_l (wm_l (wm_l (wm_r (wm_l (wm_l (wm_l h))))))))
theorem inX8 : ∀ w ∈ wsX80, w ∈ lw_tbl := fun w h => wsL_law_in w (inlX8 w h)
theorem inlX9 : ∀ w ∈ wsX90, w ∈ wsL_law := fun _ h => (wm_r (wm_l (wm_l (wm_l (wm_l (wm_l (wm_r h)))))))
theorem inX9 : ∀ w ∈ wsX90, w ∈ lw_tbl := fun w h => wsL_law_in w (inlX9 w h)
theorem inlX10 : ∀ w ∈ wsX100, w ∈ wsL_law := fun _ h => (wm_r (wm_l (wm_l (wm_l (wm_l (wm_l (wm_l (wm_l h))))))))
theorem inX10 : ∀ w ∈ wsX100, w ∈ lw_tbl := fun w h => wsL_law_in w (inlX10 w h)
theorem inX11 : ∀ w ∈ wsX110, w ∈ lw_tbl := fun w h => wsL_law_in w (inlX11 w h)
theorem ggL_law_X10_init : GoodIn wsL_law wsX10_init := goodIn_s (fun _ h => (wm_r (wm_l (wm_l (wm_r (wm_l (wm_l (wm_l (wm_r h))))))))) Gd_X10_init
set_option maxRecDepth 20000 in
theorem gL_law_X10_init : GoodIn wsL_law (wsX10_init) := ggL_law_X10_init
theorem dL_law_0 : decode cL_law 0 = .ok (.new 7, 3) := dL_law_all0.1
theorem dL_law_3 : decode cL_law 3 = .ok (.dup, 1) := dL_law_all0.2.1
theorem dL_law_4 : decode cL_law 4 = .ok (.aload_n 0, 1) := dL_law_all0.2.2.1
theorem dL_law_5 : decode cL_law 5 = .ok (.iconst 0, 1) := dL_law_all0.2.2.2.1
theorem dL_law_6 : decode cL_law 6 = .ok (.invokestatic 9, 3) := dL_law_all0.2.2.2.2.1
theorem dL_law_9 : decode cL_law 9 = .ok (.invokespecial 15, 3) := dL_law_all0.2.2.2.2.2.1
set_option maxHeartbeats 4000000 in
set_option maxRecDepth 100000 in
theorem whole_start {p : Program} {e : Env} {s : State} {m : MethodId} {below : List Frame} {meth : Method} {c : Code} (l : Launch) {b L : Nat} {xs : Nat → Int32} (hL : L ≤ 3073) (C0 : lw_At p s m meth c b L xs) : W p l e room_1 s m #[Value.ref b] below meth c s.heap [] 0 0 (lw_Z below #[Value.ref b] s) (entryFrame m ([Value.ref b] : List Value).toArray 4) := by
  obtain ⟨hx, hb, hr, hml, hown, hts0, hX, hbl, hlocks, hgv⟩ := id C0
  have hA : ∀ q : Nat, s.heap.size ≤ q → (fun q : Nat => s.heap.size ≤ q) q := fun _ h => h
  have hbA : ¬ (fun q : Nat => s.heap.size ≤ q) b := Nat.not_le.mpr hbl
  obtain ⟨c0, iS0, hKn0⟩ := u_known (C := RX0) (T := TX0) (N := 5) (n := 5) hts0 inX0 (hts0 (.instantiable RX0 5) (by decide +kernel))
  obtain ⟨c1, iS1, hKn1⟩ := u_known (C := RX1) (T := TX1) (N := 6) (n := 6) hts0 inX1 (hts0 (.instantiable RX1 6) (by decide +kernel))
  obtain ⟨c2, iS2, hKn2⟩ := u_known (C := RX2) (T := TX2) (N := 15) (n := 15) hts0 inX2 (hts0 (.instantiable RX2 15) (by decide +kernel))
  obtain ⟨c3, iS3, hKn3⟩ := u_known (C := RX3) (T := TX3) (N := 9) (n := 9) hts0 inX3 (hts0 (.instantiable RX3 9) (by decide +kernel))
  obtain ⟨c4, iS4, hKn4⟩ := u_known (C := RX4) (T := TX4) (N := 4) (n := 4) hts0 inX4 (hts0 (.instantiable RX4 4) (by decide +kernel))
  obtain ⟨c5, iS5, hKn5⟩ := u_known (C := RX5) (T := TX5) (N := 2) (n := 2) hts0 inX5 (hts0 (.instantiable RX5 2) (by decide +kernel))
  obtain ⟨c6, iS6, hKn6⟩ := u_known (C := RX6) (T := TX6) (N := 5) (n := 5) hts0 inX6 (hts0 (.instantiable RX6 5) (by decide +kernel))
  obtain ⟨c7, iS7, hKn7⟩ := u_known (C := RX7) (T := TX7) (N := 7) (n := 7) hts0 inX7 (hts0 (.instantiable RX7 7) (by decide +kernel))
  obtain ⟨c8, iS8, hKn8⟩ := u_known (C := RX8) (T := TX8) (N := 6) (n := 6) hts0 inX8 (hts0 (.instantiable RX8 6) (by decide +kernel))
  obtain ⟨c9, iS9, hKn9⟩ := u_known (C := RX9) (T := TX9) (N := 3) (n := 3) hts0 inX9 (hts0 (.instantiable RX9 3) (by decide +kernel))
  obtain ⟨c10, iS10, hKn10⟩ := u_known (C := RX10) (T := TX10) (N := 14) (n := 14) hts0 inX10 (hts0 (.instantiable RX10 14) (by decide +kernel))
  obtain ⟨c11, iS11, hKn11⟩ := u_known (C := RX11) (T := TX11) (N := 64) (n := 64) hts0 inX11 (hts0 (.instantiable RX11 64) (by decide +kernel))
  obtain ⟨dC, dI, hKc⟩ : ∃ (dC : Nat → ClassId) (dI : Nat → Nat → Nat), ∀ (k : Nat) (q : vw_C), vwCl[k]? = some q → u_Kn s q.1 q.2.1 q.2.2 (dC k) (dI k) := by
    refine ⟨fun k => if k = 0 then c0 else if k = 1 then c1 else if k = 2 then c2 else if k = 3 then c3 else if k = 4 then c4 else if k = 5 then c5 else if k = 6 then c6 else if k = 7 then c7 else if k = 8 then c8 else if k = 9 then c9 else if k = 10 then c10 else c11, fun k => if k = 0 then iS0 else if k = 1 then iS1 else if k = 2 then iS2 else if k = 3 then iS3 else if k = 4 then iS4 else if k = 5 then iS5 else if k = 6 then iS6 else if k = 7 then iS7 else if k = 8 then iS8 else if k = 9 then iS9 else if k = 10 then iS10 else iS11, ?_⟩
    intro k q hq
    match k, hq with
    | 0, hq => cases hq; exact hKn0
    | 1, hq => cases hq; exact hKn1
    | 2, hq => cases hq; exact hKn2
    | 3, hq => cases hq; exact hKn3
    | 4, hq => cases hq; exact hKn4
    | 5, hq => cases hq; exact hKn5
    | 6, hq => cases hq; exact hKn6
    | 7, hq => cases hq; exact hKn7
    | 8, hq => cases hq; exact hKn8
    | 9, hq => cases hq; exact hKn9
    | 10, hq => cases hq; exact hKn10
    | 11, hq => cases hq; exact hKn11
    | k + 12, hq => simp [vwCl] at hq
  obtain ⟨cI, eI⟩ := arr_i (hts0 (.arrayClass .int) (by decide +kernel))
  obtain ⟨cY, aY⟩ := arr_y (hts0 (.arrayClass .byte) (by decide +kernel))
  obtain ⟨cJ, eJ⟩ := arr_j (hts0 (.arrayClass .long) (by decide +kernel))
  obtain ⟨cQ, aQ⟩ := arr_q (hts0 (.arrayOver (.array .int)) (by decide +kernel))
  obtain ⟨D, hK⟩ : ∃ D : va_G, va_K D vwCl (ty4 cI cY cJ cQ) s := by
    refine ⟨(dC, dI), hKc, ?_⟩
    intro k q h
    match k, h with
    | 0, h => cases h; exact eI
    | 1, h => cases h; exact aY
    | 2, h => cases h; exact eJ
    | 3, h => cases h; exact aQ
    | k + 4, h => simp at h
  have hN : nw s := by
    refine ⟨?_, hts0 (.arrayOver (.array .int)) (by decide +kernel)⟩
    refine List.forall_mem_cons.mpr ⟨?_, List.forall_mem_cons.mpr ⟨?_, List.forall_mem_cons.mpr ⟨?_, List.forall_mem_cons.mpr ⟨?_, List.forall_mem_cons.mpr ⟨?_, List.forall_mem_cons.mpr ⟨?_, List.forall_mem_cons.mpr ⟨?_, List.forall_mem_cons.mpr ⟨?_, List.forall_mem_cons.mpr ⟨?_, List.forall_mem_cons.mpr ⟨?_, fun _ h => absurd h List.not_mem_nil⟩⟩⟩⟩⟩⟩⟩⟩⟩⟩
    · exact va_Nw.of rfl (hts0 (.methodLinkNest RX10 18 yX3_init "PortRooms") (by decide +kernel))
    · exact va_Nw.of rfl (hts0 (.methodLinkNest RX10 32 yX7_init "PortRooms") (by decide +kernel))
    · exact va_Nw.of rfl (hts0 (.methodLinkNest RX10 39 yX8_init "PortRooms") (by decide +kernel))
    · exact va_Nw.of rfl (hts0 (.methodLinkNest RX10 46 yX2_init "PortRooms") (by decide +kernel))
    · exact va_Nw.of rfl (hts0 (.methodLinkNest RX10 53 yX0_init "PortRooms") (by decide +kernel))
    · exact va_Nw.of rfl (hts0 (.methodLinkNest RX10 60 yX6_init "PortRooms") (by decide +kernel))
    · exact va_Nw.of rfl (hts0 (.methodLinkNest RX10 67 yX4_init "PortRooms") (by decide +kernel))
    · exact va_Nw.of rfl (hts0 (.methodLinkNest RX1 43 yX10_hasBit "PortRooms") (by decide +kernel))
    · exact va_Nw.of rfl (hts0 (.methodLinkNest RX3 62 yX10_hasBit "PortRooms") (by decide +kernel))
    · exact va_Nw.of rfl (hts0 (.methodLinkNest RX5 29 yX10_hasBit "PortRooms") (by decide +kernel))
  have hts : ∀ w ∈ wsL_law, w.before #[Value.ref b] s = true := fun w h => hts0 w (wsL_law_in w h)
  replace hown : s.vm.findClass RL = some m.cls := hown
  replace hb : c.code = cL_law := hb
  obtain ⟨aK, aV, hT⟩ := str_0 (A := (fun q : Nat => s.heap.size ≤ q)) hgv hts0 (fun a ha => Nat.not_le.mpr ha)
  have C0k : lawC p s m meth c b L xs D cI cY cJ cQ aK aV := ⟨C0, hK, hN, hT, hL⟩
  have hS : va_S (fun q : Nat => s.heap.size ≤ q) s.heap s.heap [] := va_S.rf
  have hP : va_P D vwCl [] s.heap := va_P.nil
  have hD : va_D (fun q : Nat => s.heap.size ≤ q) [] := va_D.nil
  obtain ⟨sd, esd⟩ : ∃ y : Int32, y = cellv L xs := ⟨_, rfl⟩
  have hl := lv_entry ([.ref b]) (n := 4) (Nat.le_of_ble_eq_true rfl)
  rw [lg_entry_eq]
  generalize (lg_sl ([.ref b]) ++ List.replicate (4 - (lg_sl ([.ref b])).length) Slot.unset).toArray = ls at hl ⊢
  have hl : lv_has ls 4 [(0, .ref b)] := hl
  refine va_new (ci := 10) (fs := [.null, .null, .null, .null, .null, .null, .null, .null, .null, .null, .null, .int 0, .int 0, .int 0]) (C := RX10) (T := TX10) (N := 14) hx hb hts inlX10 tyX10 tyX10_ok hown (hts (Cond.classLink RL 7 RX10) (wm_l (wm_l (wm_l (wm_l (wm_l (wm_i 0 rfl))))))) (hts (Cond.instantiable RX10 14) (wm_l (wm_l (wm_l (wm_l (wm_l (wm_i 1 rfl))))))) (hts (Cond.initialized RX10) (wm_l (wm_l (wm_l (wm_l (wm_l (wm_i 2 rfl))))))) hK hP hD hS hA rfl (fun j hj => by rcases (show j = 0 ∨ j = 1 ∨ j = 2 ∨ j = 3 ∨ j = 4 ∨ j = 5 ∨ j = 6 ∨ j = 7 ∨ j = 8 ∨ j = 9 ∨ j = 10 ∨ j = 11 ∨ j = 12 ∨ j = 13 by omega) with rfl | rfl | rfl | rfl | rfl | rfl | rfl | rfl | rfl | rfl | rfl | rfl | rfl | rfl <;> rfl) (Nat.le_of_ble_eq_true rfl) (Nat.le_of_ble_eq_true rfl) dL_law_0 (fun q1 H => ?_)
  clear hP hD hS
  intro hP hD hS
  replace hP : va_P D vwCl [(q1, .inr (10, [.null, .null, .null, .null, .null, .null, .null, .null, .null, .null, .null, .int 0, .int 0, .int 0]))] H := hP
  replace hD : va_D (fun q : Nat => s.heap.size ≤ q) [(q1, .inr (10, [.null, .null, .null, .null, .null, .null, .null, .null, .null, .null, .null, .int 0, .int 0, .int 0]))] := hD
  refine W.widen (k := 1) (n := 14) (by first | exact Nat.le_of_ble_eq_true rfl | omega) (by first | exact Nat.le_of_ble_eq_true rfl | omega) ?_
  refine lv_dup hx hb dL_law_3 rfl ?_
  refine lv_aload_n hx hb dL_law_4 rfl (lv_at hl 0 rfl) ?_
  refine lv_iconst (v := 0) hx hb dL_law_5 (by decide) ?_
  refine st_i (wr := [(q1, .inr (10, [.null, .null, .null, .null, .null, .null, .null, .null, .null, .null, .null, .int 0, .int 0, .int 0]))]) (va_runS (As := [.ref b, .int 0]) (rest := [.ref q1, .ref q1]) ⟨hx, hb, hml, hown, hts⟩ (ct_L_cell l D cI cY cJ cQ _ b L hL xs) (va_cwS 2 hts gL_law_L_cell rfl rfl rfl (by decide +kernel) ⟨Nat.le_of_ble_eq_true rfl, Nat.le_of_ble_eq_true rfl⟩) ⟨cellBlind, fun U hU hW => ⟨rfl, by rw [hU], va_X.moved hW.alike (by rw [hU]; exact hX.kept (hS.2.1 b hbl hbA)), by rw [hU]; exact Nat.lt_of_lt_of_le hbl hS.1, va_K.moved hW.alike hK⟩⟩ rfl rfl hl.1 rfl (lv_room (Nat.le_of_ble_eq_true rfl)) dL_law_6 ⟨Nat.le_of_ble_eq_true rfl, Nat.le_of_ble_eq_true rfl⟩) hP hD hS hA [] [0] rfl rfl (by decide +kernel) (by decide +kernel) (fun r2 u3 H locs hw4 hP hD hS => ?_)
  replace hw4 : sd = r2 := (hw4.trans esd.symm).symm
  subst hw4
  replace hP : va_P D vwCl [(q1, .inr (10, [.null, .null, .null, .null, .null, .null, .null, .null, .null, .null, .null, .int 0, .int 0, .int 0]))] H := hP
  replace hD : va_D (fun q : Nat => s.heap.size ≤ q) [(q1, .inr (10, [.null, .null, .null, .null, .null, .null, .null, .null, .null, .null, .null, .int 0, .int 0, .int 0]))] := hD
  refine st_v (wr := []) (va_runI (As := [.int sd]) (rest := [.ref q1]) ⟨hx, hb, hml, hown, hts⟩ (ct_X10_init l D cI cY cJ cQ _ q1 sd) (cwI 1 hts gL_law_X10_init rfl rfl rfl (hts (Cond.initialized RX10) (wm_l (wm_l (wm_l (wm_l (wm_l (wm_i 2 rfl))))))) (hts (Cond.methodLink RL 15 yX10_init) (wm_l (wm_l (wm_l (wm_l (wm_l (wm_i 10 rfl))))))) (hts (Cond.instanceMethod yX10_init) (wm_l (wm_l (wm_l (wm_l (wm_l (wm_i 11 rfl))))))) rfl cdX10_init ⟨Nat.le_of_ble_eq_true rfl, Nat.le_of_ble_eq_true rfl⟩) (cPreS (hP.sub [0] rfl) hK (hD.sub [0] (by decide +kernel) rfl) hN) rfl rfl hl.1 rfl (lv_room (Nat.le_of_ble_eq_true rfl)) dL_law_9 ⟨Nat.le_of_ble_eq_true rfl, Nat.le_of_ble_eq_true rfl⟩) hP hD hS hA [0] [] rfl rfl (by decide +kernel) (by decide +kernel) (fun u5 H locs hw6 => ?_)
  clear hP hD hS
  intro hP hD hS
  obtain ⟨ad, rw⟩ := u5
  replace hw6 : ad 0 = q1 := hw6
  have hPn := hP
  have hDn := hD
  subst hw6
  have hP := hPn
  have hD := hDn
  replace hP : va_P D vwCl [(oC10 ad (0) (0) (0)), (aI cI (ad 11) 16 (fun _ => 0)), (aI cI (rw 0) 60 (fun _ => 0)), (aI cI (rw 1) 60 (fun _ => 0)), (aI cI (rw 2) 60 (fun _ => 0)), (aI cI (rw 3) 60 (fun _ => 0)), (aI cI (rw 4) 60 (fun _ => 0)), (aI cI (rw 5) 60 (fun _ => 0)), (aI cI (rw 6) 60 (fun _ => 0)), (aI cI (rw 7) 60 (fun _ => 0)), (oC9 ad ), ((ad 12), .inl (cQ, 8, .inr (.inr (.inr (.inr (fun i => if i < 8 then some (rw i) else none)))))), (aI cI (ad 13) 8 (fun _ => 0)), (aI cI (ad 14) 8 (fun _ => (-1))), (oC3 ad (0)), (aI cI (ad 23) 40 (fun _ => 0)), (aI cI (ad 24) 40 (fun _ => 0)), (aI cI (ad 25) 40 (fun _ => 0)), (aI cI (ad 26) 40 (fun _ => 0)), (aI cI (ad 27) 200 (fun _ => 0)), (aI cI (ad 28) 200 (fun _ => 0)), (aI cI (ad 29) 20 (fun _ => 0)), (aI cI (ad 30) 10 (fun _ => 0)), (oC1 ad (0)), (aI cI (ad 31) 12 (fun _ => 0)), (aI cI (ad 32) 12 (fun _ => 0)), (aI cI (ad 33) 12 (fun _ => (-1000000))), (aI cI (ad 34) 6 (fun _ => 4)), (aI cI (ad 35) 6 (fun _ => 100000)), (oC7 ad (0)), (aI cI (ad 36) 40 (fun _ => 0)), (aI cI (ad 37) 40 (fun _ => 0)), (aI cI (ad 38) 40 (fun _ => 0)), (aI cI (ad 39) 40 (fun _ => 0)), (aI cI (ad 40) 40 (fun _ => 0)), (aI cI (ad 41) 40 (fun _ => 0)), (oC8 ad (0)), (aI cI (ad 42) 40 (fun _ => 0)), (aI cI (ad 43) 40 (fun _ => 0)), (aI cI (ad 44) 40 (fun _ => 0)), (aI cI (ad 45) 40 (fun _ => 0)), (aI cI (ad 46) 40 (fun _ => 0)), (oC2 ad (0) (0) (0) (0) (0) (0) (0) (0)), (aI cY (ad 47) 300 (fun _ => 0)), (aI cI (ad 48) 12 (fun _ => 0)), (aI cI (ad 49) 12 (fun _ => 0)), (aI cI (ad 50) 12 (fun _ => 0)), (aI cI (ad 51) 12 (fun _ => 0)), (aI cI (ad 52) 12 (fun _ => 0)), (aI cI (ad 53) 12 (fun _ => 0)), (oC0 ad (0)), (aI cI (ad 54) 60 (fun _ => 0)), (aI cI (ad 55) 60 (fun _ => 0)), (aI cI (ad 56) 60 (fun _ => 0)), (aI cI (ad 57) 60 (fun _ => 0)), (oC5 ad sd), (aJ cJ (ad 58) 12 (fun _ => 0)), (oC6 ad (0)), (aI cI (ad 59) 60 (fun _ => 0)), (aI cI (ad 60) 60 (fun _ => 0)), (aI cI (ad 61) 60 (fun _ => 0)), (aI cI (ad 62) 60 (fun _ => 0)), (oC4 ad (0)), (aI cI (ad 63) 20 (fun _ => 0)), (aI cI (ad 64) 20 (fun _ => 0)), (aI cI (ad 65) 20 (fun _ => 0))] H := hP
  replace hD : va_D (fun q : Nat => s.heap.size ≤ q) [(oC10 ad (0) (0) (0)), (aI cI (ad 11) 16 (fun _ => 0)), (aI cI (rw 0) 60 (fun _ => 0)), (aI cI (rw 1) 60 (fun _ => 0)), (aI cI (rw 2) 60 (fun _ => 0)), (aI cI (rw 3) 60 (fun _ => 0)), (aI cI (rw 4) 60 (fun _ => 0)), (aI cI (rw 5) 60 (fun _ => 0)), (aI cI (rw 6) 60 (fun _ => 0)), (aI cI (rw 7) 60 (fun _ => 0)), (oC9 ad ), ((ad 12), .inl (cQ, 8, .inr (.inr (.inr (.inr (fun i => if i < 8 then some (rw i) else none)))))), (aI cI (ad 13) 8 (fun _ => 0)), (aI cI (ad 14) 8 (fun _ => (-1))), (oC3 ad (0)), (aI cI (ad 23) 40 (fun _ => 0)), (aI cI (ad 24) 40 (fun _ => 0)), (aI cI (ad 25) 40 (fun _ => 0)), (aI cI (ad 26) 40 (fun _ => 0)), (aI cI (ad 27) 200 (fun _ => 0)), (aI cI (ad 28) 200 (fun _ => 0)), (aI cI (ad 29) 20 (fun _ => 0)), (aI cI (ad 30) 10 (fun _ => 0)), (oC1 ad (0)), (aI cI (ad 31) 12 (fun _ => 0)), (aI cI (ad 32) 12 (fun _ => 0)), (aI cI (ad 33) 12 (fun _ => (-1000000))), (aI cI (ad 34) 6 (fun _ => 4)), (aI cI (ad 35) 6 (fun _ => 100000)), (oC7 ad (0)), (aI cI (ad 36) 40 (fun _ => 0)), (aI cI (ad 37) 40 (fun _ => 0)), (aI cI (ad 38) 40 (fun _ => 0)), (aI cI (ad 39) 40 (fun _ => 0)), (aI cI (ad 40) 40 (fun _ => 0)), (aI cI (ad 41) 40 (fun _ => 0)), (oC8 ad (0)), (aI cI (ad 42) 40 (fun _ => 0)), (aI cI (ad 43) 40 (fun _ => 0)), (aI cI (ad 44) 40 (fun _ => 0)), (aI cI (ad 45) 40 (fun _ => 0)), (aI cI (ad 46) 40 (fun _ => 0)), (oC2 ad (0) (0) (0) (0) (0) (0) (0) (0)), (aI cY (ad 47) 300 (fun _ => 0)), (aI cI (ad 48) 12 (fun _ => 0)), (aI cI (ad 49) 12 (fun _ => 0)), (aI cI (ad 50) 12 (fun _ => 0)), (aI cI (ad 51) 12 (fun _ => 0)), (aI cI (ad 52) 12 (fun _ => 0)), (aI cI (ad 53) 12 (fun _ => 0)), (oC0 ad (0)), (aI cI (ad 54) 60 (fun _ => 0)), (aI cI (ad 55) 60 (fun _ => 0)), (aI cI (ad 56) 60 (fun _ => 0)), (aI cI (ad 57) 60 (fun _ => 0)), (oC5 ad sd), (aJ cJ (ad 58) 12 (fun _ => 0)), (oC6 ad (0)), (aI cI (ad 59) 60 (fun _ => 0)), (aI cI (ad 60) 60 (fun _ => 0)), (aI cI (ad 61) 60 (fun _ => 0)), (aI cI (ad 62) 60 (fun _ => 0)), (oC4 ad (0)), (aI cI (ad 63) 20 (fun _ => 0)), (aI cI (ad 64) 20 (fun _ => 0)), (aI cI (ad 65) 20 (fun _ => 0))] := hD
  refine W.widen (k := 66) (n := 2598) (by first | exact Nat.le_of_ble_eq_true rfl | omega) (by first | exact Nat.le_of_ble_eq_true rfl | omega) ?_
  exact law_mod (ad := ad) (rw := rw) (sd := sd) C0k esd hP hD hS hl
end
