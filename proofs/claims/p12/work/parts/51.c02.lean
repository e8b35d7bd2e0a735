theorem cdX10_truly : yX10_truly.cls ≠ "java/lang/invoke/MethodHandle" ∧ yX10_truly.cls ≠ "java/lang/invoke/VarHandle" ∧ (parseMethodDescriptor yX10_truly.desc).map (fun d => d.parameters.length) = some 2 := by decide +kernel
theorem cdX10_rings : yX10_rings.cls ≠ "java/lang/invoke/MethodHandle" ∧ yX10_rings.cls ≠ "java/lang/invoke/VarHandle" ∧ (parseMethodDescriptor yX10_rings.desc).map (fun d => d.parameters.length) = some 1 := by decide +kernel
theorem cdX10_crate : yX10_crate.cls ≠ "java/lang/invoke/MethodHandle" ∧ yX10_crate.cls ≠ "java/lang/invoke/VarHandle" ∧ (parseMethodDescriptor yX10_crate.desc).map (fun d => d.parameters.length) = some 2 := by decide +kernel
theorem cdX10_paper : yX10_paper.cls ≠ "java/lang/invoke/MethodHandle" ∧ yX10_paper.cls ≠ "java/lang/invoke/VarHandle" ∧ (parseMethodDescriptor yX10_paper.desc).map (fun d => d.parameters.length) = some 5 := by decide +kernel
theorem cdX11_truly : yX11_truly.cls ≠ "java/lang/invoke/MethodHandle" ∧ yX11_truly.cls ≠ "java/lang/invoke/VarHandle" ∧ (parseMethodDescriptor yX11_truly.desc).map (fun d => d.parameters.length) = some 2 := by decide +kernel
theorem cdX11_rings : yX11_rings.cls ≠ "java/lang/invoke/MethodHandle" ∧ yX11_rings.cls ≠ "java/lang/invoke/VarHandle" ∧ (parseMethodDescriptor yX11_rings.desc).map (fun d => d.parameters.length) = some 1 := by decide +kernel
theorem cdX11_crate : yX11_crate.cls ≠ "java/lang/invoke/MethodHandle" ∧ yX11_crate.cls ≠ "java/lang/invoke/VarHandle" ∧ (parseMethodDescriptor yX11_crate.desc).map (fun d => d.parameters.length) = some 2 := by decide +kernel
theorem cdX11_paper : yX11_paper.cls ≠ "java/lang/invoke/MethodHandle" ∧ yX11_paper.cls ≠ "java/lang/invoke/VarHandle" ∧ (parseMethodDescriptor yX11_paper.desc).map (fun d => d.parameters.length) = some 5 := by decide +kernel
set_option maxRecDepth 20000 in
theorem ggL_law_X10_truly : GoodIn wsL_law wsX10_truly := goodIn_ch _ [(17, 19), (8, 8), (1, 0), (17, 20), (12, 6), (12, 7), (0, 2), (12, 8), (8, 9), (8, 10), (8, 11), (12, 15), (12, 16), (12, 17), (14, 12), (14, 13), (14, 14), (0, 23), (14, 15), (3, 6), (3, 7), (12, 22), (3, 2), (3, 3), (3, 5), (3, 4), (14, 16), (2, 20), (2, 21), (2, 22), (14, 17), (14, 18), (14, 19), (14, 20), (14, 21), (14, 22), (14, 23), (3, 8), (15, 0), (15, 1), (15, 2), (15, 3), (3, 9), (15, 4), (11, 1), (11, 2), (11, 3), (15, 5), (15, 6), (15, 23), (16, 0), (16, 1), (16, 2), (16, 3), (16, 4), (16, 5), (16, 6), (16, 7), (16, 8), (16, 9), (16, 10), (16, 11), (16, 12), (16, 13), (16, 14), (16, 15), (16, 16), (15, 8), (15, 9), (15, 10), (48, 0), (48, 1), (48, 2), (48, 3), (48, 4), (48, 5), (48, 6), (48, 7), (48, 8), (48, 9), (48, 10), (48, 11), (48, 12), (48, 13), (51, 0), (51, 1), (51, 2), (51, 3), (51, 4), (51, 5), (51, 6), (51, 7), (51, 8)] rfl (by decide +kernel)
set_option maxRecDepth 20000 in
theorem gL_law_X10_truly : GoodIn wsL_law (wsV RL 57 RX10 yX10_truly wsX10_truly) := goodIn_app (goodIn_ch _ [(17, 16), (17, 17), (17, 18), (0, 2)] rfl (by decide +kernel)) ggL_law_X10_truly
set_option maxRecDepth 20000 in
theorem ggL_law_X11_truly : GoodIn wsL_law wsX11_truly := goodIn_ch _ [(18, 0), (9, 6), (9, 8), (8, 2), (13, 10), (13, 11), (0, 5), (13, 12), (13, 13), (9, 14), (9, 15), (9, 16), (13, 18), (13, 19), (13, 20), (13, 21), (17, 1), (17, 2), (17, 3), (17, 4), (17, 5), (17, 6), (17, 7), (17, 8), (17, 9), (6, 16), (15, 15), (15, 16), (15, 17), (15, 18), (13, 8), (6, 12), (6, 13), (6, 15), (6, 14), (17, 10), (17, 11), (17, 12), (17, 13), (6, 17), (6, 19), (17, 14), (6, 18), (13, 7), (17, 15), (49, 0), (49, 1), (49, 2), (49, 3), (49, 4), (49, 5), (49, 6), (49, 7), (49, 8), (49, 9), (49, 10), (49, 11), (49, 12), (49, 13), (49, 14), (49, 15), (49, 16), (49, 17), (49, 18), (49, 19), (49, 20), (49, 21), (49, 22), (49, 23), (49, 24), (49, 25), (49, 26), (49, 27), (49, 28), (49, 29), (49, 30), (49, 31), (49, 32), (49, 33), (49, 34), (49, 35), (49, 36), (49, 37), (49, 38), (49, 39), (49, 40), (49, 41), (49, 42), (49, 43), (49, 44), (49, 45), (49, 46), (49, 47), (49, 48), (49, 49), (49, 50), (49, 51), (49, 52), (49, 53), (49, 54), (49, 55), (49, 56), (49, 57), (49, 58), (49, 59), (49, 60), (49, 61), (49, 62), (49, 63)] rfl (by decide +kernel)
set_option maxRecDepth 20000 in
theorem gL_law_X11_truly : GoodIn wsL_law (wsV RL 61 RX11 yX11_truly wsX11_truly) := goodIn_app (goodIn_ch _ [(17, 21), (17, 22), (17, 23), (0, 5)] rfl (by decide +kernel)) ggL_law_X11_truly
set_option maxRecDepth 20000 in
theorem ggL_law_X10_rings : GoodIn wsL_law wsX10_rings := goodIn_ch _ [(18, 4), (8, 8), (1, 0), (18, 5), (12, 15), (12, 16), (0, 2), (12, 17), (8, 9), (8, 10), (8, 11), (14, 12), (14, 13), (14, 14), (0, 23), (14, 15), (3, 6), (3, 7), (12, 22), (3, 2), (3, 3), (3, 5), (3, 4), (14, 16), (2, 20), (2, 21), (2, 22), (14, 17), (14, 18), (14, 19), (14, 20), (14, 21), (14, 22), (14, 23), (3, 8), (15, 0), (15, 1), (15, 2), (15, 3), (3, 9), (15, 4), (11, 1), (11, 2), (11, 3), (15, 5), (15, 6), (18, 6), (48, 0), (48, 1), (48, 2), (48, 3), (48, 4), (48, 5), (48, 6), (48, 7), (48, 8), (48, 9), (48, 10), (48, 11), (48, 12), (48, 13), (51, 0), (51, 1), (51, 2), (51, 3), (51, 4), (51, 5), (51, 6), (51, 7), (51, 8)] rfl (by decide +kernel)
set_option maxRecDepth 20000 in
theorem gL_law_X10_rings : GoodIn wsL_law (wsV RL 62 RX10 yX10_rings wsX10_rings) := goodIn_app (goodIn_ch _ [(18, 1), (18, 2), (18, 3), (0, 2)] rfl (by decide +kernel)) ggL_law_X10_rings
set_option maxRecDepth 20000 in
theorem ggL_law_X11_rings : GoodIn wsL_law wsX11_rings := goodIn_ch _ [(18, 10), (9, 6), (9, 8), (6, 16), (13, 18), (13, 19), (0, 5), (13, 20), (13, 21), (9, 14), (9, 15), (9, 16), (17, 6), (17, 7), (17, 8), (17, 9), (15, 15), (15, 16), (15, 17), (15, 18), (8, 2), (13, 8), (6, 12), (6, 13), (6, 15), (6, 14), (49, 0), (49, 1), (49, 2), (49, 3), (49, 4), (49, 5), (49, 6), (49, 7), (49, 8), (49, 9), (49, 10), (49, 11), (49, 12), (49, 13), (49, 14), (49, 15), (49, 16), (49, 17), (49, 18), (49, 19), (49, 20), (49, 21), (49, 22), (49, 23), (49, 24), (49, 25), (49, 26), (49, 27), (49, 28), (49, 29), (49, 30), (49, 31), (49, 32), (49, 33), (49, 34), (49, 35), (49, 36), (49, 37), (49, 38), (49, 39), (49, 40), (49, 41), (49, 42), (49, 43), (49, 44), (49, 45), (49, 46), (49, 47), (49, 48), (49, 49), (49, 50), (49, 51), (49, 52), (49, 53), (49, 54), (49, 55), (49, 56), (49, 57), (49, 58), (49, 59), (49, 60), (49, 61), (49, 62), (49, 63)] rfl (by decide +kernel)
set_option maxRecDepth 20000 in
theorem gL_law_X11_rings : GoodIn wsL_law (wsV RL 65 RX11 yX11_rings wsX11_rings) := goodIn_app (goodIn_ch _ [(18, 7), (18, 8), (18, 9), (0, 5)] rfl (by decide +kernel)) ggL_law_X11_rings
set_option maxRecDepth 20000 in
theorem ggL_law_X10_crate : GoodIn wsL_law wsX10_crate := goodIn_ch _ [(18, 14), (18, 15), (8, 8), (1, 4), (18, 16), (12, 2), (12, 6), (12, 7), (0, 2), (12, 8), (8, 9), (8, 10), (8, 11), (12, 12), (12, 13), (12, 14), (18, 17), (18, 18), (18, 19), (1, 3), (18, 20), (3, 14), (18, 21), (3, 15), (48, 0), (48, 1), (48, 2), (48, 3), (48, 4), (48, 5), (48, 6), (48, 7), (48, 8), (48, 9), (48, 10), (48, 11), (48, 12), (48, 13), (52, 0), (52, 1), (52, 2), (52, 3), (52, 4), (52, 5)] rfl (by decide +kernel)
set_option maxRecDepth 20000 in
theorem gL_law_X10_crate : GoodIn wsL_law (wsV RL 66 RX10 yX10_crate wsX10_crate) := goodIn_app (goodIn_ch _ [(18, 11), (18, 12), (18, 13), (0, 2)] rfl (by decide +kernel)) ggL_law_X10_crate
set_option maxRecDepth 20000 in
theorem ggL_law_X11_crate : GoodIn wsL_law wsX11_crate := goodIn_ch _ [(19, 1), (9, 6), (19, 2), (9, 8), (19, 3), (13, 9), (6, 20), (6, 21), (13, 10), (13, 11), (0, 5), (13, 12), (13, 13), (9, 14), (9, 15), (9, 16), (49, 0), (49, 1), (49, 2), (49, 3), (49, 4), (49, 5), (49, 6), (49, 7), (49, 8), (49, 9), (49, 10), (49, 11), (49, 12), (49, 13), (49, 14), (49, 15), (49, 16), (49, 17), (49, 18), (49, 19), (49, 20), (49, 21), (49, 22), (49, 23), (49, 24), (49, 25), (49, 26), (49, 27), (49, 28), (49, 29), (49, 30), (49, 31), (49, 32), (49, 33), (49, 34), (49, 35), (49, 36), (49, 37), (49, 38), (49, 39), (49, 40), (49, 41), (49, 42), (49, 43), (49, 44), (49, 45), (49, 46), (49, 47), (49, 48), (49, 49), (49, 50), (49, 51), (49, 52), (49, 53), (49, 54), (49, 55), (49, 56), (49, 57), (49, 58), (49, 59), (49, 60), (49, 61), (49, 62), (49, 63)] rfl (by decide +kernel)
set_option maxRecDepth 20000 in
theorem gL_law_X11_crate : GoodIn wsL_law (wsV RL 69 RX11 yX11_crate wsX11_crate) := goodIn_app (goodIn_ch _ [(18, 22), (18, 23), (19, 0), (0, 5)] rfl (by decide +kernel)) ggL_law_X11_crate
set_option maxRecDepth 20000 in
theorem ggL_law_X10_paper : GoodIn wsL_law wsX10_paper := goodIn_ch _ [(19, 7), (8, 8), (1, 8), (19, 8), (12, 2), (19, 9), (19, 10), (19, 11), (0, 2), (19, 12), (1, 4), (18, 16), (8, 9), (8, 10), (8, 11), (12, 6), (12, 7), (12, 8), (19, 13), (19, 14), (19, 15), (12, 15), (12, 16), (12, 17), (19, 16), (19, 17), (19, 18), (1, 7), (19, 19), (4, 1), (19, 20), (4, 2), (4, 3), (4, 4), (4, 5), (4, 6), (19, 21), (19, 22), (19, 23), (20, 0), (48, 0), (48, 1), (48, 2), (48, 3), (48, 4), (48, 5), (48, 6), (48, 7), (48, 8), (48, 9), (48, 10), (48, 11), (48, 12), (48, 13), (53, 0), (53, 1), (53, 2), (53, 3), (53, 4), (53, 5), (53, 6), (52, 0), (52, 1), (52, 2), (52, 3), (52, 4), (52, 5)] rfl (by decide +kernel)
set_option maxRecDepth 20000 in
theorem gL_law_X10_paper : GoodIn wsL_law (wsV RL 70 RX10 yX10_paper wsX10_paper) := goodIn_app (goodIn_ch _ [(19, 4), (19, 5), (19, 6), (0, 2)] rfl (by decide +kernel)) ggL_law_X10_paper
set_option maxRecDepth 20000 in
theorem ggL_law_X11_paper : GoodIn wsL_law wsX11_paper := goodIn_ch _ [(20, 4), (9, 6), (13, 21), (9, 8), (20, 5), (13, 9), (6, 22), (6, 23), (7, 0), (7, 1), (7, 2), (20, 6), (20, 7), (20, 8), (0, 5), (20, 9), (19, 3), (9, 14), (9, 15), (9, 16), (13, 10), (13, 11), (13, 12), (13, 13), (13, 18), (13, 19), (13, 20), (49, 0), (49, 1), (49, 2), (49, 3), (49, 4), (49, 5), (49, 6), (49, 7), (49, 8), (49, 9), (49, 10), (49, 11), (49, 12), (49, 13), (49, 14), (49, 15), (49, 16), (49, 17), (49, 18), (49, 19), (49, 20), (49, 21), (49, 22), (49, 23), (49, 24), (49, 25), (49, 26), (49, 27), (49, 28), (49, 29), (49, 30), (49, 31), (49, 32), (49, 33), (49, 34), (49, 35), (49, 36), (49, 37), (49, 38), (49, 39), (49, 40), (49, 41), (49, 42), (49, 43), (49, 44), (49, 45), (49, 46), (49, 47), (49, 48), (49, 49), (49, 50), (49, 51), (49, 52), (49, 53), (49, 54), (49, 55), (49, 56), (49, 57), (49, 58), (49, 59), (49, 60), (49, 61), (49, 62), (49, 63)] rfl (by decide +kernel)
set_option maxRecDepth 20000 in
theorem gL_law_X11_paper : GoodIn wsL_law (wsV RL 73 RX11 yX11_paper wsX11_paper) := goodIn_app (goodIn_ch _ [(20, 1), (20, 2), (20, 3), (0, 5)] rfl (by decide +kernel)) ggL_law_X11_paper
theorem dL_law_562 : decode cL_law 562 = .ok (.aload_n 1, 1) := dL_law_all27.2.2.2.2.2.2.2.2.2.2.1
theorem dL_law_563 : decode cL_law 563 = .ok (.aload_n 0, 1) := dL_law_all27.2.2.2.2.2.2.2.2.2.2.2
theorem dL_law_all28 : decode cL_law 564 = .ok (.iload_n 3, 1) ∧ decode cL_law 565 = .ok (.iconst 1, 1) ∧ decode cL_law 566 = .ok (.iadd, 1) ∧ decode cL_law 567 = .ok (.iaload, 1) ∧ decode cL_law 568 = .ok (.aload_n 0, 1) ∧ decode cL_law 569 = .ok (.iload_n 3, 1) ∧ decode cL_law 570 = .ok (.iconst 2, 1) ∧ decode cL_law 571 = .ok (.iadd, 1) ∧ decode cL_law 572 = .ok (.iaload, 1) ∧ decode cL_law 573 = .ok (.invokevirtual 57, 3) ∧ decode cL_law 576 = .ok (.pop, 1) ∧ decode cL_law 577 = .ok (.aload_n 2, 1) := by decide +kernel
theorem dL_law_564 : decode cL_law 564 = .ok (.iload_n 3, 1) := dL_law_all28.1
theorem dL_law_565 : decode cL_law 565 = .ok (.iconst 1, 1) := dL_law_all28.2.1
theorem dL_law_566 : decode cL_law 566 = .ok (.iadd, 1) := dL_law_all28.2.2.1
theorem dL_law_567 : decode cL_law 567 = .ok (.iaload, 1) := dL_law_all28.2.2.2.1
theorem dL_law_568 : decode cL_law 568 = .ok (.aload_n 0, 1) := dL_law_all28.2.2.2.2.1
theorem dL_law_569 : decode cL_law 569 = .ok (.iload_n 3, 1) := dL_law_all28.2.2.2.2.2.1
theorem dL_law_570 : decode cL_law 570 = .ok (.iconst 2, 1) := dL_law_all28.2.2.2.2.2.2.1
theorem dL_law_571 : decode cL_law 571 = .ok (.iadd, 1) := dL_law_all28.2.2.2.2.2.2.2.1
theorem dL_law_572 : decode cL_law 572 = .ok (.iaload, 1) := dL_law_all28.2.2.2.2.2.2.2.2.1
theorem dL_law_573 : decode cL_law 573 = .ok (.invokevirtual 57, 3) := dL_law_all28.2.2.2.2.2.2.2.2.2.1
theorem dL_law_576 : decode cL_law 576 = .ok (.pop, 1) := dL_law_all28.2.2.2.2.2.2.2.2.2.2.1
theorem dL_law_577 : decode cL_law 577 = .ok (.aload_n 2, 1) := dL_law_all28.2.2.2.2.2.2.2.2.2.2.2
theorem dL_law_all29 : decode cL_law 578 = .ok (.aload_n 0, 1) ∧ decode cL_law 579 = .ok (.iload_n 3, 1) ∧ decode cL_law 580 = .ok (.iconst 1, 1) ∧ decode cL_law 581 = .ok (.iadd, 1) ∧ decode cL_law 582 = .ok (.iaload, 1) ∧ decode cL_law 583 = .ok (.aload_n 0, 1) ∧ decode cL_law 584 = .ok (.iload_n 3, 1) ∧ decode cL_law 585 = .ok (.iconst 2, 1) ∧ decode cL_law 586 = .ok (.iadd, 1) ∧ decode cL_law 587 = .ok (.iaload, 1) ∧ decode cL_law 588 = .ok (.invokevirtual 61, 3) ∧ decode cL_law 591 = .ok (.pop, 1) := by decide +kernel
theorem dL_law_578 : decode cL_law 578 = .ok (.aload_n 0, 1) := dL_law_all29.1
theorem dL_law_579 : decode cL_law 579 = .ok (.iload_n 3, 1) := dL_law_all29.2.1
theorem dL_law_580 : decode cL_law 580 = .ok (.iconst 1, 1) := dL_law_all29.2.2.1
theorem dL_law_581 : decode cL_law 581 = .ok (.iadd, 1) := dL_law_all29.2.2.2.1
theorem dL_law_582 : decode cL_law 582 = .ok (.iaload, 1) := dL_law_all29.2.2.2.2.1
theorem dL_law_583 : decode cL_law 583 = .ok (.aload_n 0, 1) := dL_law_all29.2.2.2.2.2.1
theorem dL_law_584 : decode cL_law 584 = .ok (.iload_n 3, 1) := dL_law_all29.2.2.2.2.2.2.1
theorem dL_law_585 : decode cL_law 585 = .ok (.iconst 2, 1) := dL_law_all29.2.2.2.2.2.2.2.1
theorem dL_law_586 : decode cL_law 586 = .ok (.iadd, 1) := dL_law_all29.2.2.2.2.2.2.2.2.1
theorem dL_law_587 : decode cL_law 587 = .ok (.iaload, 1) := dL_law_all29.2.2.2.2.2.2.2.2.2.1
theorem dL_law_588 : decode cL_law 588 = .ok (.invokevirtual 61, 3) := dL_law_all29.2.2.2.2.2.2.2.2.2.2.1
theorem dL_law_591 : decode cL_law 591 = .ok (.pop, 1) := dL_law_all29.2.2.2.2.2.2.2.2.2.2.2
theorem dL_law_all30 : decode cL_law 592 = .ok (.goto 1060, 3) ∧ decode cL_law 595 = .ok (.aload_n 1, 1) ∧ decode cL_law 596 = .ok (.aload_n 0, 1) ∧ decode cL_law 597 = .ok (.iload_n 3, 1) ∧ decode cL_law 598 = .ok (.iconst 1, 1) ∧ decode cL_law 599 = .ok (.iadd, 1) ∧ decode cL_law 600 = .ok (.iaload, 1) ∧ decode cL_law 601 = .ok (.invokevirtual 62, 3) ∧ decode cL_law 604 = .ok (.pop, 1) ∧ decode cL_law 605 = .ok (.aload_n 2, 1) ∧ decode cL_law 606 = .ok (.aload_n 0, 1) ∧ decode cL_law 607 = .ok (.iload_n 3, 1) := by decide +kernel
theorem dL_law_592 : decode cL_law 592 = .ok (.goto 1060, 3) := dL_law_all30.1
theorem dL_law_595 : decode cL_law 595 = .ok (.aload_n 1, 1) := dL_law_all30.2.1
theorem dL_law_596 : decode cL_law 596 = .ok (.aload_n 0, 1) := dL_law_all30.2.2.1
theorem dL_law_597 : decode cL_law 597 = .ok (.iload_n 3, 1) := dL_law_all30.2.2.2.1
theorem dL_law_598 : decode cL_law 598 = .ok (.iconst 1, 1) := dL_law_all30.2.2.2.2.1
theorem dL_law_599 : decode cL_law 599 = .ok (.iadd, 1) := dL_law_all30.2.2.2.2.2.1
theorem dL_law_600 : decode cL_law 600 = .ok (.iaload, 1) := dL_law_all30.2.2.2.2.2.2.1
theorem dL_law_601 : decode cL_law 601 = .ok (.invokevirtual 62, 3) := dL_law_all30.2.2.2.2.2.2.2.1
theorem dL_law_604 : decode cL_law 604 = .ok (.pop, 1) := dL_law_all30.2.2.2.2.2.2.2.2.1
theorem dL_law_605 : decode cL_law 605 = .ok (.aload_n 2, 1) := dL_law_all30.2.2.2.2.2.2.2.2.2.1
theorem dL_law_606 : decode cL_law 606 = .ok (.aload_n 0, 1) := dL_law_all30.2.2.2.2.2.2.2.2.2.2.1
theorem dL_law_607 : decode cL_law 607 = .ok (.iload_n 3, 1) := dL_law_all30.2.2.2.2.2.2.2.2.2.2.2
theorem dL_law_all31 : decode cL_law 608 = .ok (.iconst 1, 1) ∧ decode cL_law 609 = .ok (.iadd, 1) ∧ decode cL_law 610 = .ok (.iaload, 1) ∧ decode cL_law 611 = .ok (.invokevirtual 65, 3) ∧ decode cL_law 614 = .ok (.pop, 1) ∧ decode cL_law 615 = .ok (.goto 1037, 3) ∧ decode cL_law 618 = .ok (.aload_n 1, 1) ∧ decode cL_law 619 = .ok (.aload_n 0, 1) ∧ decode cL_law 620 = .ok (.iload_n 3, 1) ∧ decode cL_law 621 = .ok (.iconst 1, 1) ∧ decode cL_law 622 = .ok (.iadd, 1) ∧ decode cL_law 623 = .ok (.iaload, 1) := by decide +kernel
theorem dL_law_608 : decode cL_law 608 = .ok (.iconst 1, 1) := dL_law_all31.1
theorem dL_law_609 : decode cL_law 609 = .ok (.iadd, 1) := dL_law_all31.2.1
theorem dL_law_610 : decode cL_law 610 = .ok (.iaload, 1) := dL_law_all31.2.2.1
theorem dL_law_611 : decode cL_law 611 = .ok (.invokevirtual 65, 3) := dL_law_all31.2.2.2.1
theorem dL_law_614 : decode cL_law 614 = .ok (.pop, 1) := dL_law_all31.2.2.2.2.1
theorem dL_law_615 : decode cL_law 615 = .ok (.goto 1037, 3) := dL_law_all31.2.2.2.2.2.1
theorem dL_law_618 : decode cL_law 618 = .ok (.aload_n 1, 1) := dL_law_all31.2.2.2.2.2.2.1
theorem dL_law_619 : decode cL_law 619 = .ok (.aload_n 0, 1) := dL_law_all31.2.2.2.2.2.2.2.1
theorem dL_law_620 : decode cL_law 620 = .ok (.iload_n 3, 1) := dL_law_all31.2.2.2.2.2.2.2.2.1
theorem dL_law_621 : decode cL_law 621 = .ok (.iconst 1, 1) := dL_law_all31.2.2.2.2.2.2.2.2.2.1
theorem dL_law_622 : decode cL_law 622 = .ok (.iadd, 1) := dL_law_all31.2.2.2.2.2.2.2.2.2.2.1
theorem dL_law_623 : decode cL_law 623 = .ok (.iaload, 1) := dL_law_all31.2.2.2.2.2.2.2.2.2.2.2
theorem dL_law_all32 : decode cL_law 624 = .ok (.aload_n 0, 1) ∧ decode cL_law 625 = .ok (.iload_n 3, 1) ∧ decode cL_law 626 = .ok (.iconst 2, 1) ∧ decode cL_law 627 = .ok (.iadd, 1) ∧ decode cL_law 628 = .ok (.iaload, 1) ∧ decode cL_law 629 = .ok (.invokevirtual 66, 3) ∧ decode cL_law 632 = .ok (.aload_n 2, 1) ∧ decode cL_law 633 = .ok (.aload_n 0, 1) ∧ decode cL_law 634 = .ok (.iload_n 3, 1) ∧ decode cL_law 635 = .ok (.iconst 1, 1) ∧ decode cL_law 636 = .ok (.iadd, 1) ∧ decode cL_law 637 = .ok (.iaload, 1) := by decide +kernel
theorem dL_law_624 : decode cL_law 624 = .ok (.aload_n 0, 1) := dL_law_all32.1
theorem dL_law_625 : decode cL_law 625 = .ok (.iload_n 3, 1) := dL_law_all32.2.1
theorem dL_law_626 : decode cL_law 626 = .ok (.iconst 2, 1) := dL_law_all32.2.2.1
theorem dL_law_627 : decode cL_law 627 = .ok (.iadd, 1) := dL_law_all32.2.2.2.1
theorem dL_law_628 : decode cL_law 628 = .ok (.iaload, 1) := dL_law_all32.2.2.2.2.1
theorem dL_law_629 : decode cL_law 629 = .ok (.invokevirtual 66, 3) := dL_law_all32.2.2.2.2.2.1
theorem dL_law_632 : decode cL_law 632 = .ok (.aload_n 2, 1) := dL_law_all32.2.2.2.2.2.2.1
theorem dL_law_633 : decode cL_law 633 = .ok (.aload_n 0, 1) := dL_law_all32.2.2.2.2.2.2.2.1
theorem dL_law_634 : decode cL_law 634 = .ok (.iload_n 3, 1) := dL_law_all32.2.2.2.2.2.2.2.2.1
theorem dL_law_635 : decode cL_law 635 = .ok (.iconst 1, 1) := dL_law_all32.2.2.2.2.2.2.2.2.2.1
theorem dL_law_636 : decode cL_law 636 = .ok (.iadd, 1) := dL_law_all32.2.2.2.2.2.2.2.2.2.2.1
theorem dL_law_637 : decode cL_law 637 = .ok (.iaload, 1) := dL_law_all32.2.2.2.2.2.2.2.2.2.2.2
theorem dL_law_all33 : decode cL_law 638 = .ok (.aload_n 0, 1) ∧ decode cL_law 639 = .ok (.iload_n 3, 1) ∧ decode cL_law 640 = .ok (.iconst 2, 1) ∧ decode cL_law 641 = .ok (.iadd, 1) ∧ decode cL_law 642 = .ok (.iaload, 1) ∧ decode cL_law 643 = .ok (.invokevirtual 69, 3) ∧ decode cL_law 646 = .ok (.if_icmp .eq 1006, 3) ∧ decode cL_law 649 = .ok (.iconst 0, 1) ∧ decode cL_law 650 = .ok (.ireturn, 1) ∧ decode cL_law 651 = .ok (.aload_n 1, 1) ∧ decode cL_law 652 = .ok (.aload_n 0, 1) ∧ decode cL_law 653 = .ok (.iload_n 3, 1) := by decide +kernel
theorem dL_law_638 : decode cL_law 638 = .ok (.aload_n 0, 1) := dL_law_all33.1
theorem dL_law_639 : decode cL_law 639 = .ok (.iload_n 3, 1) := dL_law_all33.2.1
theorem dL_law_640 : decode cL_law 640 = .ok (.iconst 2, 1) := dL_law_all33.2.2.1
theorem dL_law_641 : decode cL_law 641 = .ok (.iadd, 1) := dL_law_all33.2.2.2.1
theorem dL_law_642 : decode cL_law 642 = .ok (.iaload, 1) := dL_law_all33.2.2.2.2.1
theorem dL_law_643 : decode cL_law 643 = .ok (.invokevirtual 69, 3) := dL_law_all33.2.2.2.2.2.1
theorem dL_law_646 : decode cL_law 646 = .ok (.if_icmp .eq 1006, 3) := dL_law_all33.2.2.2.2.2.2.1
theorem dL_law_651 : decode cL_law 651 = .ok (.aload_n 1, 1) := dL_law_all33.2.2.2.2.2.2.2.2.2.1
theorem dL_law_652 : decode cL_law 652 = .ok (.aload_n 0, 1) := dL_law_all33.2.2.2.2.2.2.2.2.2.2.1
theorem dL_law_653 : decode cL_law 653 = .ok (.iload_n 3, 1) := dL_law_all33.2.2.2.2.2.2.2.2.2.2.2
theorem dL_law_all34 : decode cL_law 654 = .ok (.iconst 1, 1) ∧ decode cL_law 655 = .ok (.iadd, 1) ∧ decode cL_law 656 = .ok (.iaload, 1) ∧ decode cL_law 657 = .ok (.aload_n 0, 1) ∧ decode cL_law 658 = .ok (.iload_n 3, 1) ∧ decode cL_law 659 = .ok (.iconst 2, 1) ∧ decode cL_law 660 = .ok (.iadd, 1) ∧ decode cL_law 661 = .ok (.iaload, 1) ∧ decode cL_law 662 = .ok (.aload_n 0, 1) ∧ decode cL_law 663 = .ok (.iload_n 3, 1) ∧ decode cL_law 664 = .ok (.iconst 3, 1) ∧ decode cL_law 665 = .ok (.iadd, 1) := by decide +kernel
theorem dL_law_654 : decode cL_law 654 = .ok (.iconst 1, 1) := dL_law_all34.1
theorem dL_law_655 : decode cL_law 655 = .ok (.iadd, 1) := dL_law_all34.2.1
theorem dL_law_656 : decode cL_law 656 = .ok (.iaload, 1) := dL_law_all34.2.2.1
theorem dL_law_657 : decode cL_law 657 = .ok (.aload_n 0, 1) := dL_law_all34.2.2.2.1
theorem dL_law_658 : decode cL_law 658 = .ok (.iload_n 3, 1) := dL_law_all34.2.2.2.2.1
theorem dL_law_659 : decode cL_law 659 = .ok (.iconst 2, 1) := dL_law_all34.2.2.2.2.2.1
theorem dL_law_660 : decode cL_law 660 = .ok (.iadd, 1) := dL_law_all34.2.2.2.2.2.2.1
theorem dL_law_661 : decode cL_law 661 = .ok (.iaload, 1) := dL_law_all34.2.2.2.2.2.2.2.1
theorem dL_law_662 : decode cL_law 662 = .ok (.aload_n 0, 1) := dL_law_all34.2.2.2.2.2.2.2.2.1
theorem dL_law_663 : decode cL_law 663 = .ok (.iload_n 3, 1) := dL_law_all34.2.2.2.2.2.2.2.2.2.1
theorem dL_law_664 : decode cL_law 664 = .ok (.iconst 3, 1) := dL_law_all34.2.2.2.2.2.2.2.2.2.2.1
theorem dL_law_665 : decode cL_law 665 = .ok (.iadd, 1) := dL_law_all34.2.2.2.2.2.2.2.2.2.2.2
theorem dL_law_all35 : decode cL_law 666 = .ok (.iaload, 1) ∧ decode cL_law 667 = .ok (.aload_n 0, 1) ∧ decode cL_law 668 = .ok (.iload_n 3, 1) ∧ decode cL_law 669 = .ok (.iconst 4, 1) ∧ decode cL_law 670 = .ok (.iadd, 1) ∧ decode cL_law 671 = .ok (.iaload, 1) ∧ decode cL_law 672 = .ok (.aload_n 0, 1) ∧ decode cL_law 673 = .ok (.iload_n 3, 1) ∧ decode cL_law 674 = .ok (.iconst 5, 1) ∧ decode cL_law 675 = .ok (.iadd, 1) ∧ decode cL_law 676 = .ok (.iaload, 1) ∧ decode cL_law 677 = .ok (.invokevirtual 70, 3) := by decide +kernel
theorem dL_law_666 : decode cL_law 666 = .ok (.iaload, 1) := dL_law_all35.1
theorem dL_law_667 : decode cL_law 667 = .ok (.aload_n 0, 1) := dL_law_all35.2.1
theorem dL_law_668 : decode cL_law 668 = .ok (.iload_n 3, 1) := dL_law_all35.2.2.1
theorem dL_law_669 : decode cL_law 669 = .ok (.iconst 4, 1) := dL_law_all35.2.2.2.1
theorem dL_law_670 : decode cL_law 670 = .ok (.iadd, 1) := dL_law_all35.2.2.2.2.1
theorem dL_law_671 : decode cL_law 671 = .ok (.iaload, 1) := dL_law_all35.2.2.2.2.2.1
theorem dL_law_672 : decode cL_law 672 = .ok (.aload_n 0, 1) := dL_law_all35.2.2.2.2.2.2.1
theorem dL_law_673 : decode cL_law 673 = .ok (.iload_n 3, 1) := dL_law_all35.2.2.2.2.2.2.2.1
theorem dL_law_674 : decode cL_law 674 = .ok (.iconst 5, 1) := dL_law_all35.2.2.2.2.2.2.2.2.1
theorem dL_law_675 : decode cL_law 675 = .ok (.iadd, 1) := dL_law_all35.2.2.2.2.2.2.2.2.2.1
theorem dL_law_676 : decode cL_law 676 = .ok (.iaload, 1) := dL_law_all35.2.2.2.2.2.2.2.2.2.2.1
theorem dL_law_677 : decode cL_law 677 = .ok (.invokevirtual 70, 3) := dL_law_all35.2.2.2.2.2.2.2.2.2.2.2
theorem dL_law_all36 : decode cL_law 680 = .ok (.pop, 1) ∧ decode cL_law 681 = .ok (.aload_n 2, 1) ∧ decode cL_law 682 = .ok (.aload_n 0, 1) ∧ decode cL_law 683 = .ok (.iload_n 3, 1) ∧ decode cL_law 684 = .ok (.iconst 1, 1) ∧ decode cL_law 685 = .ok (.iadd, 1) ∧ decode cL_law 686 = .ok (.iaload, 1) ∧ decode cL_law 687 = .ok (.aload_n 0, 1) ∧ decode cL_law 688 = .ok (.iload_n 3, 1) ∧ decode cL_law 689 = .ok (.iconst 2, 1) ∧ decode cL_law 690 = .ok (.iadd, 1) ∧ decode cL_law 691 = .ok (.iaload, 1) := by decide +kernel
theorem dL_law_680 : decode cL_law 680 = .ok (.pop, 1) := dL_law_all36.1
theorem dL_law_681 : decode cL_law 681 = .ok (.aload_n 2, 1) := dL_law_all36.2.1
theorem dL_law_682 : decode cL_law 682 = .ok (.aload_n 0, 1) := dL_law_all36.2.2.1
theorem dL_law_683 : decode cL_law 683 = .ok (.iload_n 3, 1) := dL_law_all36.2.2.2.1
theorem dL_law_684 : decode cL_law 684 = .ok (.iconst 1, 1) := dL_law_all36.2.2.2.2.1
theorem dL_law_685 : decode cL_law 685 = .ok (.iadd, 1) := dL_law_all36.2.2.2.2.2.1
theorem dL_law_686 : decode cL_law 686 = .ok (.iaload, 1) := dL_law_all36.2.2.2.2.2.2.1
theorem dL_law_687 : decode cL_law 687 = .ok (.aload_n 0, 1) := dL_law_all36.2.2.2.2.2.2.2.1
theorem dL_law_688 : decode cL_law 688 = .ok (.iload_n 3, 1) := dL_law_all36.2.2.2.2.2.2.2.2.1
theorem dL_law_689 : decode cL_law 689 = .ok (.iconst 2, 1) := dL_law_all36.2.2.2.2.2.2.2.2.2.1
theorem dL_law_690 : decode cL_law 690 = .ok (.iadd, 1) := dL_law_all36.2.2.2.2.2.2.2.2.2.2.1
theorem dL_law_691 : decode cL_law 691 = .ok (.iaload, 1) := dL_law_all36.2.2.2.2.2.2.2.2.2.2.2
theorem dL_law_all37 : decode cL_law 692 = .ok (.aload_n 0, 1) ∧ decode cL_law 693 = .ok (.iload_n 3, 1) ∧ decode cL_law 694 = .ok (.iconst 3, 1) ∧ decode cL_law 695 = .ok (.iadd, 1) ∧ decode cL_law 696 = .ok (.iaload, 1) ∧ decode cL_law 697 = .ok (.aload_n 0, 1) ∧ decode cL_law 698 = .ok (.iload_n 3, 1) ∧ decode cL_law 699 = .ok (.iconst 4, 1) ∧ decode cL_law 700 = .ok (.iadd, 1) ∧ decode cL_law 701 = .ok (.iaload, 1) ∧ decode cL_law 702 = .ok (.aload_n 0, 1) ∧ decode cL_law 703 = .ok (.iload_n 3, 1) := by decide +kernel
theorem dL_law_692 : decode cL_law 692 = .ok (.aload_n 0, 1) := dL_law_all37.1
theorem dL_law_693 : decode cL_law 693 = .ok (.iload_n 3, 1) := dL_law_all37.2.1
theorem dL_law_694 : decode cL_law 694 = .ok (.iconst 3, 1) := dL_law_all37.2.2.1
theorem dL_law_695 : decode cL_law 695 = .ok (.iadd, 1) := dL_law_all37.2.2.2.1
theorem dL_law_696 : decode cL_law 696 = .ok (.iaload, 1) := dL_law_all37.2.2.2.2.1
theorem dL_law_697 : decode cL_law 697 = .ok (.aload_n 0, 1) := dL_law_all37.2.2.2.2.2.1
theorem dL_law_698 : decode cL_law 698 = .ok (.iload_n 3, 1) := dL_law_all37.2.2.2.2.2.2.1
theorem dL_law_699 : decode cL_law 699 = .ok (.iconst 4, 1) := dL_law_all37.2.2.2.2.2.2.2.1
theorem dL_law_700 : decode cL_law 700 = .ok (.iadd, 1) := dL_law_all37.2.2.2.2.2.2.2.2.1
theorem dL_law_701 : decode cL_law 701 = .ok (.iaload, 1) := dL_law_all37.2.2.2.2.2.2.2.2.2.1
theorem dL_law_702 : decode cL_law 702 = .ok (.aload_n 0, 1) := dL_law_all37.2.2.2.2.2.2.2.2.2.2.1
theorem dL_law_703 : decode cL_law 703 = .ok (.iload_n 3, 1) := dL_law_all37.2.2.2.2.2.2.2.2.2.2.2
theorem dL_law_all38 : decode cL_law 704 = .ok (.iconst 5, 1) ∧ decode cL_law 705 = .ok (.iadd, 1) ∧ decode cL_law 706 = .ok (.iaload, 1) ∧ decode cL_law 707 = .ok (.invokevirtual 73, 3) ∧ decode cL_law 710 = .ok (.pop, 1) ∧ decode cL_law 711 = .ok (.goto 941, 3) ∧ decode cL_law 714 = .ok (.aload_n 1, 1) ∧ decode cL_law 715 = .ok (.aload_n 0, 1) ∧ decode cL_law 716 = .ok (.iload_n 3, 1) ∧ decode cL_law 717 = .ok (.iconst 1, 1) ∧ decode cL_law 718 = .ok (.iadd, 1) ∧ decode cL_law 719 = .ok (.iaload, 1) := by decide +kernel
theorem dL_law_704 : decode cL_law 704 = .ok (.iconst 5, 1) := dL_law_all38.1
theorem dL_law_705 : decode cL_law 705 = .ok (.iadd, 1) := dL_law_all38.2.1
theorem dL_law_706 : decode cL_law 706 = .ok (.iaload, 1) := dL_law_all38.2.2.1
theorem dL_law_707 : decode cL_law 707 = .ok (.invokevirtual 73, 3) := dL_law_all38.2.2.2.1
theorem dL_law_710 : decode cL_law 710 = .ok (.pop, 1) := dL_law_all38.2.2.2.2.1
theorem dL_law_711 : decode cL_law 711 = .ok (.goto 941, 3) := dL_law_all38.2.2.2.2.2.1
set_option maxHeartbeats 4000000 in
set_option maxRecDepth 100000 in
theorem law_case_8 {p : Program} {l : Launch} {e : Env} {s : State} {m : MethodId} {below : List Frame} {meth : Method} {c : Code} {D : va_G} {cI cY cJ cQ : ClassId} {b L aK aV : Nat} {xs : Nat → Int32} {ad rw md : Nat → Nat} {sd i : Int32} {nx : Nat → Int32} {fx rs : Nat → Nat → Int32} {lo : Nat → Int64} {ny : Nat → Int32} {fy : Nat → Nat → Int32} {fl : Nat → Int64} {H : Heap} {locs : List Loc} {ls : Array Slot} (C0 : lawC p s m meth c b L xs D cI cY cJ cQ aK aV) (I : inv nx fx ny fy) (hP : va_P D vwCl (wX ad rw sd cI cY cJ cQ nx fx rs lo ++ wM md sd cI cY cJ cQ ny fy fl) H) (hD : va_D (fun q : Nat => s.heap.size ≤ q) (wX ad rw sd cI cY cJ cQ nx fx rs lo ++ wM md sd cI cY cJ cQ ny fy fl)) (hS : va_S (fun q : Nat => s.heap.size ≤ q) s.heap H locs) (hl : lv_has ls 4 [(0, .ref b), (1, .ref (ad 0)), (2, .ref (md 64)), (3, .int i)]) (hi1 : 1 ≤ i.toInt) (hi2 : i.toInt + 5 < L) (kk : ∀ (nx : Nat → Int32) (fx rs : Nat → Nat → Int32) (lo : Nat → Int64) (ny : Nat → Int32) (fy : Nat → Nat → Int32) (fl : Nat → Int64) (H : Heap) (locs : List Loc) (ls : Array Slot), inv nx fx ny fy → va_P D vwCl (wX ad rw sd cI cY cJ cQ nx fx rs lo ++ wM md sd cI cY cJ cQ ny fy fl) H → va_D (fun q : Nat => s.heap.size ≤ q) (wX ad rw sd cI cY cJ cQ nx fx rs lo ++ wM md sd cI cY cJ cQ ny fy fl) → va_S (fun q : Nat => s.heap.size ≤ q) s.heap H locs → lv_has ls 4 [(0, .ref b), (1, .ref (ad 0)), (2, .ref (md 64)), (3, .int i)] → W p l e room_1 s m #[Value.ref b] below meth c H locs 107 4890 (lw_Z below #[Value.ref b] s) (F0 m 1652 ls [])) : W p l e room_1 s m #[Value.ref b] below meth c H locs 107 4890 (lw_Z below #[Value.ref b] s) (F0 m 562 ls []) := by
  obtain ⟨C1, hK, hN, hT, hL⟩ := C0
  obtain ⟨hx, hb, hr, hml, hown, hts0, hX, hbl, hlocks, hgv⟩ := C1
  have hA : ∀ q : Nat, s.heap.size ≤ q → (fun q : Nat => s.heap.size ≤ q) q := fun _ h => h
  have hbA : ¬ (fun q : Nat => s.heap.size ≤ q) b := Nat.not_le.mpr hbl
  have hts : ∀ w ∈ wsL_law, w.before #[Value.ref b] s = true := fun w h => hts0 w (wsL_law_in w h)
  replace hown : s.vm.findClass RL = some m.cls := hown
  replace hb : c.code = cL_law := hb
  obtain ⟨Xhna, Xhnb, XH, Xcna, Xcnb, Xpna, Xpnb, XO, Xgna, Xgnb, Xlna, Xlnb, Xdla, Xdlb, Xana, Xanb, Xuna, Xunb, Xlca, Xlcb, Xtna, Xtnb, XS, Mhna, Mhnb, MH, MS, Mmlna, Mmlnb, Mmtna, Mmtnb, Ccn, Cfo, Cwo, Cpn, Cpk, Cpf, Cpo, Cpd, Cpe, Cgn, Cgk, Cgs, Cgd, Cge, Can, Cak, Cah, Cay, Caz, Cun, Cuk, Cuy, Cuw, Cum, Clc, Clp, Cla, Clb, Caw, Ciw, Cln, Ctd⟩ := I
  have Tcn := i_eq Ccn
  have Tpn := i_eq Cpn
  have Tgn := i_eq Cgn
  have Tan := i_eq Can
  have Tun := i_eq Cun
  have Tlc := i_eq Clc
  have Tln := i_eq Cln
  have k1 : (1 : Int32).toInt = 1 := by decide
  have k2 : (2 : Int32).toInt = 2 := by decide
  obtain ⟨xk1, exk1⟩ : ∃ y : Int32, y = xs (i.toNatClampNeg + 1) := ⟨_, rfl⟩
  obtain ⟨xk2, exk2⟩ : ∃ y : Int32, y = xs (i.toNatClampNeg + 2) := ⟨_, rfl⟩
  refine lv_aload_n hx hb dL_law_562 rfl (lv_at hl 1 rfl) ?_
  refine lv_aload_n hx hb dL_law_563 rfl (lv_at hl 0 rfl) ?_
  refine lv_iload_n hx hb dL_law_564 rfl (lv_at hl 3 rfl) ?_
  refine lv_iconst (v := 1) hx hb dL_law_565 (by decide) ?_
  refine lv_iadd hx hb dL_law_566 ?_
  refine lv_topi (fun v1 ev1 => ?_)
  try have tv1 : v1.toInt = i.toInt + 1 := by rw [ev1]; exact (i_add (x := i) (y := (1 : Int32)) (by rw [k1]; omega) (by rw [k1]; omega)).trans (by rw [k1])
  refine va_sld hx hb hX hbl hbA hS (i_in (by omega) (by omega)) dL_law_567 ?_
  refine lv_topi (fun a2 ea2 => ?_)
  replace ea2 : xk1 = a2 := (ea2.trans (by rw [exk1]; congr 1; have := i_cl (x := v1) (by omega); have := i_cl (x := i) (by omega); omega)).symm
  subst ea2
  refine lv_aload_n hx hb dL_law_568 rfl (lv_at hl 0 rfl) ?_
  refine lv_iload_n hx hb dL_law_569 rfl (lv_at hl 3 rfl) ?_
  refine lv_iconst (v := 2) hx hb dL_law_570 (by decide) ?_
  refine lv_iadd hx hb dL_law_571 ?_
  refine lv_topi (fun v3 ev3 => ?_)
  try have tv3 : v3.toInt = i.toInt + 2 := by rw [ev3]; exact (i_add (x := i) (y := (2 : Int32)) (by rw [k2]; omega) (by rw [k2]; omega)).trans (by rw [k2])
  refine va_sld hx hb hX hbl hbA hS (i_in (by omega) (by omega)) dL_law_572 ?_
  refine lv_topi (fun a4 ea4 => ?_)
  replace ea4 : xk2 = a4 := (ea4.trans (by rw [exk2]; congr 1; have := i_cl (x := v3) (by omega); have := i_cl (x := i) (by omega); omega)).symm
  subst ea4
  refine st_iQ (wr := [((ad 11), .inl (cI, 16, .inl (fx 0))), ((rw 0), .inl (cI, 60, .inl (rs 0))), ((rw 1), .inl (cI, 60, .inl (rs 1))), ((rw 2), .inl (cI, 60, .inl (rs 2))), ((rw 3), .inl (cI, 60, .inl (rs 3))), ((rw 4), .inl (cI, 60, .inl (rs 4))), ((rw 5), .inl (cI, 60, .inl (rs 5))), ((rw 6), .inl (cI, 60, .inl (rs 6))), ((rw 7), .inl (cI, 60, .inl (rs 7))), ((ad 1), .inr (9, [.ref (ad 12), .ref (ad 13), .ref (ad 14)])), ((ad 12), .inl (cQ, 8, .inr (.inr (.inr (.inr (fun i => if i < 8 then some (rw i) else none)))))), ((ad 13), .inl (cI, 8, .inl (fx 1))), ((ad 14), .inl (cI, 8, .inl (fx 2))), ((ad 3), .inr (1, [.ref (ad 31), .ref (ad 32), .ref (ad 33), .int (nx 4), .ref (ad 34), .ref (ad 35)])), ((ad 31), .inl (cI, 12, .inl (fx 11))), ((ad 32), .inl (cI, 12, .inl (fx 12))), ((ad 33), .inl (cI, 12, .inl (fx 13))), ((ad 34), .inl (cI, 6, .inl (fx 14))), ((ad 35), .inl (cI, 6, .inl (fx 15))), ((ad 4), .inr (7, [.ref (ad 36), .ref (ad 37), .ref (ad 38), .ref (ad 39), .ref (ad 40), .ref (ad 41), .int (nx 5)])), ((ad 36), .inl (cI, 40, .inl (fx 16))), ((ad 37), .inl (cI, 40, .inl (fx 17))), ((ad 38), .inl (cI, 40, .inl (fx 18))), ((ad 39), .inl (cI, 40, .inl (fx 19))), ((ad 40), .inl (cI, 40, .inl (fx 20))), ((ad 41), .inl (cI, 40, .inl (fx 21))), ((ad 5), .inr (8, [.ref (ad 42), .ref (ad 43), .ref (ad 44), .ref (ad 45), .int (nx 6), .ref (ad 46)])), ((ad 42), .inl (cI, 40, .inl (fx 22))), ((ad 43), .inl (cI, 40, .inl (fx 23))), ((ad 44), .inl (cI, 40, .inl (fx 24))), ((ad 45), .inl (cI, 40, .inl (fx 25))), ((ad 46), .inl (cI, 40, .inl (fx 26))), ((ad 6), .inr (2, [.ref (ad 47), .int (nx 7), .int (nx 8), .ref (ad 48), .ref (ad 49), .ref (ad 50), .int (nx 9), .ref (ad 51), .ref (ad 52), .ref (ad 53), .int (nx 10), .int (nx 11), .int (nx 12), .int (nx 13), .int (nx 14)])), ((ad 47), .inl (cY, 300, .inl (fx 27))), ((ad 48), .inl (cI, 12, .inl (fx 28))), ((ad 49), .inl (cI, 12, .inl (fx 29))), ((ad 50), .inl (cI, 12, .inl (fx 30))), ((ad 51), .inl (cI, 12, .inl (fx 31))), ((ad 52), .inl (cI, 12, .inl (fx 32))), ((ad 53), .inl (cI, 12, .inl (fx 33))), ((ad 7), .inr (0, [.ref (ad 54), .ref (ad 55), .ref (ad 56), .ref (ad 57), .int (nx 15)])), ((ad 54), .inl (cI, 60, .inl (fx 34))), ((ad 55), .inl (cI, 60, .inl (fx 35))), ((ad 56), .inl (cI, 60, .inl (fx 36))), ((ad 57), .inl (cI, 60, .inl (fx 37))), ((ad 8), .inr (5, [.int sd, .ref (ad 58)])), ((ad 58), .inl (cJ, 12, .inr (.inl lo))), ((ad 9), .inr (6, [.ref (ad 59), .ref (ad 60), .ref (ad 61), .ref (ad 62), .int (nx 16)])), ((ad 59), .inl (cI, 60, .inl (fx 38))), ((ad 60), .inl (cI, 60, .inl (fx 39))), ((ad 61), .inl (cI, 60, .inl (fx 40))), ((ad 62), .inl (cI, 60, .inl (fx 41))), ((ad 10), .inr (4, [.ref (ad 63), .ref (ad 64), .ref (ad 65), .int (nx 17)])), ((ad 63), .inl (cI, 20, .inl (fx 42))), ((ad 64), .inl (cI, 20, .inl (fx 43))), ((ad 65), .inl (cI, 20, .inl (fx 44)))]) (va_runV (C := RX10) (As := [.int xk1, .int xk2]) (rest := []) ⟨hx, hb, hml, hown, hts⟩ (ct_X10_truly l D cI cY cJ cQ _ ad (nx 0) (nx 1) (nx 2) (nx 3) (fx 3) (fx 4) (fx 5) (fx 6) (fx 7) (fx 8) (fx 9) (fx 10) xk1 xk2 (by omega) (by omega) (by assumption)) (cwV 2 hts gL_law_X10_truly rfl rfl rfl ⟨rfl, cdX10_truly⟩ ⟨Nat.le_of_ble_eq_true rfl, Nat.le_of_ble_eq_true rfl⟩) (cPreV (hP.sub [0, 14, 15, 16, 17, 18, 19, 20, 21, 22] rfl) hK (hD.sub [0, 14, 15, 16, 17, 18, 19, 20, 21, 22] (by decide +kernel) rfl) hN (ci := 10) (q0 := 0) rfl rfl) rfl rfl hl.1 rfl (lv_room (Nat.le_of_ble_eq_true rfl)) dL_law_573 ⟨Nat.le_of_ble_eq_true rfl, Nat.le_of_ble_eq_true rfl⟩) hP hD hS hA [0, 14, 15, 16, 17, 18, 19, 20, 21, 22] [1, 2, 3, 4, 5, 6, 7, 8, 9, 10, 11, 12, 13, 23, 24, 25, 26, 27, 28, 29, 30, 31, 32, 33, 34, 35, 36, 37, 38, 39, 40, 41, 42, 43, 44, 45, 46, 47, 48, 49, 50, 51, 52, 53, 54, 55, 56, 57, 58, 59, 60, 61, 62, 63, 64, 65] rfl rfl (by decide +kernel) (by decide +kernel) (fun r7 u5 H locs hw6 hP hD hS => ?_)
  obtain ⟨pt_8, ps_9, ha_10, re_11⟩ := u5
  replace hw6 : True := hw6
  refine lv_pop hx hb dL_law_576 rfl ?_
  have hPx : va_P D vwCl (wX ad rw sd cI cY cJ cQ nx (upR (upR (upR (upR fx 7 pt_8) 8 ps_9) 9 ha_10) 10 re_11) rs lo ++ wM md sd cI cY cJ cQ ny fy fl) H := hP.part [56, 0, 1, 2, 3, 4, 5, 6, 7, 8, 9, 10, 11, 12, 57, 58, 59, 60, 61, 62, 63, 64, 65, 13, 14, 15, 16, 17, 18, 19, 20, 21, 22, 23, 24, 25, 26, 27, 28, 29, 30, 31, 32, 33, 34, 35, 36, 37, 38, 39, 40, 41, 42, 43, 44, 45, 46, 47, 48, 49, 50, 51, 52, 53, 54, 55] rfl
  have hDx : va_D (fun q : Nat => s.heap.size ≤ q) (wX ad rw sd cI cY cJ cQ nx (upR (upR (upR (upR fx 7 pt_8) 8 ps_9) 9 ha_10) 10 re_11) rs lo ++ wM md sd cI cY cJ cQ ny fy fl) := hD.part [56, 0, 1, 2, 3, 4, 5, 6, 7, 8, 9, 10, 11, 12, 57, 58, 59, 60, 61, 62, 63, 64, 65, 13, 14, 15, 16, 17, 18, 19, 20, 21, 22, 23, 24, 25, 26, 27, 28, 29, 30, 31, 32, 33, 34, 35, 36, 37, 38, 39, 40, 41, 42, 43, 44, 45, 46, 47, 48, 49, 50, 51, 52, 53, 54, 55] (by decide +kernel) rfl
  have hP := hPx.comm
  have hD := hDx.comm
  refine lv_aload_n hx hb dL_law_577 rfl (lv_at hl 2 rfl) ?_
  refine lv_aload_n hx hb dL_law_578 rfl (lv_at hl 0 rfl) ?_
  refine lv_iload_n hx hb dL_law_579 rfl (lv_at hl 3 rfl) ?_
  refine lv_iconst (v := 1) hx hb dL_law_580 (by decide) ?_
  refine lv_iadd hx hb dL_law_581 ?_
  refine lv_topi (fun v12 ev12 => ?_)
  try have tv12 : v12.toInt = i.toInt + 1 := by rw [ev12]; exact (i_add (x := i) (y := (1 : Int32)) (by rw [k1]; omega) (by rw [k1]; omega)).trans (by rw [k1])
  refine va_sld hx hb hX hbl hbA hS (i_in (by omega) (by omega)) dL_law_582 ?_
  refine lv_topi (fun a13 ea13 => ?_)
  replace ea13 : xk1 = a13 := (ea13.trans (by rw [exk1]; congr 1; have := i_cl (x := v12) (by omega); have := i_cl (x := i) (by omega); omega)).symm
  subst ea13
  refine lv_aload_n hx hb dL_law_583 rfl (lv_at hl 0 rfl) ?_
  refine lv_iload_n hx hb dL_law_584 rfl (lv_at hl 3 rfl) ?_
  refine lv_iconst (v := 2) hx hb dL_law_585 (by decide) ?_
  refine lv_iadd hx hb dL_law_586 ?_
  refine lv_topi (fun v14 ev14 => ?_)
  try have tv14 : v14.toInt = i.toInt + 2 := by rw [ev14]; exact (i_add (x := i) (y := (2 : Int32)) (by rw [k2]; omega) (by rw [k2]; omega)).trans (by rw [k2])
  refine va_sld hx hb hX hbl hbA hS (i_in (by omega) (by omega)) dL_law_587 ?_
  refine lv_topi (fun a15 ea15 => ?_)
  replace ea15 : xk2 = a15 := (ea15.trans (by rw [exk2]; congr 1; have := i_cl (x := v14) (by omega); have := i_cl (x := i) (by omega); omega)).symm
  subst ea15
  refine st_iQ (wr := [((md 3), .inl (cI, 8, .inl (fy 0))), ((md 4), .inl (cI, 8, .inl (fy 1))), ((md 5), .inl (cI, 480, .inl (fy 2))), ((md 16), .inl (cI, 12, .inl (fy 10))), ((md 17), .inl (cI, 12, .inl (fy 11))), ((md 19), .inl (cI, 40, .inl (fy 12))), ((md 20), .inl (cI, 40, .inl (fy 13))), ((md 21), .inl (cI, 40, .inl (fy 14))), ((md 22), .inl (cI, 40, .inl (fy 15))), ((md 23), .inl (cI, 40, .inl (fy 16))), ((md 26), .inl (cI, 40, .inl (fy 17))), ((md 27), .inl (cI, 40, .inl (fy 18))), ((md 28), .inl (cI, 40, .inl (fy 19))), ((md 29), .inl (cI, 40, .inl (fy 20))), ((md 31), .inl (cI, 36, .inl (fy 21))), ((md 33), .inl (cI, 36, .inl (fy 22))), ((md 34), .inl (cI, 300, .inl (fy 23))), ((md 45), .inl (cI, 60, .inl (fy 24))), ((md 46), .inl (cI, 60, .inl (fy 25))), ((md 47), .inl (cI, 60, .inl (fy 26))), ((md 48), .inl (cI, 60, .inl (fy 27))), ((md 49), .inl (cI, 6, .inl (fy 28))), ((md 50), .inl (cI, 6, .inl (fy 29))), ((md 51), .inl (cI, 12, .inl (fy 30))), ((md 53), .inl (cI, 60, .inl (fy 31))), ((md 54), .inl (cI, 60, .inl (fy 32))), ((md 55), .inl (cI, 60, .inl (fy 33))), ((md 56), .inl (cI, 60, .inl (fy 34))), ((md 58), .inl (cI, 20, .inl (fy 35))), ((md 59), .inl (cI, 20, .inl (fy 36))), ((md 60), .inl (cI, 20, .inl (fy 37))), ((md 62), .inl (cI, 16, .inl (fy 38)))]) (va_runV (C := RX11) (As := [.int xk1, .int xk2]) (rest := []) ⟨hx, hb, hml, hown, hts⟩ (ct_X11_truly l D cI cY cJ cQ _ md sd (ny 0) (ny 1) (ny 2) (ny 3) (ny 4) (ny 5) (ny 6) (ny 7) (ny 8) (ny 9) (ny 10) (ny 11) (ny 12) (ny 13) (ny 14) (ny 15) (ny 16) (ny 17) (ny 18) (ny 19) (ny 20) (ny 21) (ny 22) (fy 3) (fy 4) (fy 5) (fy 6) (fy 7) (fy 8) (fy 9) fl xk1 xk2 (by omega) (by omega)) (cwV 2 hts gL_law_X11_truly rfl rfl rfl ⟨rfl, cdX11_truly⟩ ⟨Nat.le_of_ble_eq_true rfl, Nat.le_of_ble_eq_true rfl⟩) (cPreV (hP.sub [0, 4, 5, 6, 7, 8, 9, 10, 11] rfl) hK (hD.sub [0, 4, 5, 6, 7, 8, 9, 10, 11] (by decide +kernel) rfl) hN (ci := 11) (q0 := 0) rfl rfl) rfl rfl hl.1 rfl (lv_room (Nat.le_of_ble_eq_true rfl)) dL_law_588 ⟨Nat.le_of_ble_eq_true rfl, Nat.le_of_ble_eq_true rfl⟩) hP hD hS hA [0, 4, 5, 6, 7, 8, 9, 10, 11] [1, 2, 3, 12, 13, 14, 15, 16, 17, 18, 19, 20, 21, 22, 23, 24, 25, 26, 27, 28, 29, 30, 31, 32, 33, 34, 35, 36, 37, 38, 39, 40] rfl rfl (by decide +kernel) (by decide +kernel) (fun r18 u16 H locs hw17 hP hD hS => ?_)
  obtain ⟨mh_19, mp_20, mt_21, mf_22⟩ := u16
  replace hw17 : True := hw17
  refine lv_pop hx hb dL_law_591 rfl ?_
  refine lv_goto (tgt := 1652) hx hb dL_law_592 (by decide) ?_
  have hPm : va_P D vwCl (wM md sd cI cY cJ cQ (upd ny 0 0) (upR (upR (upR fy 7 mh_19) 8 mp_20) 9 mt_21) mf_22 ++ wX ad rw sd cI cY cJ cQ nx (upR (upR (upR (upR fx 7 pt_8) 8 ps_9) 9 ha_10) 10 re_11) rs lo) H := hP.part [32, 0, 1, 2, 33, 34, 35, 36, 37, 38, 39, 40, 3, 4, 5, 6, 7, 8, 9, 10, 11, 12, 13, 14, 15, 16, 17, 18, 19, 20, 21, 22, 23, 24, 25, 26, 27, 28, 29, 30, 31] rfl
  have hDm : va_D (fun q : Nat => s.heap.size ≤ q) (wM md sd cI cY cJ cQ (upd ny 0 0) (upR (upR (upR fy 7 mh_19) 8 mp_20) 9 mt_21) mf_22 ++ wX ad rw sd cI cY cJ cQ nx (upR (upR (upR (upR fx 7 pt_8) 8 ps_9) 9 ha_10) 10 re_11) rs lo) := hD.part [32, 0, 1, 2, 33, 34, 35, 36, 37, 38, 39, 40, 3, 4, 5, 6, 7, 8, 9, 10, 11, 12, 13, 14, 15, 16, 17, 18, 19, 20, 21, 22, 23, 24, 25, 26, 27, 28, 29, 30, 31] (by decide +kernel) rfl
  exact kk nx (upR (upR (upR (upR fx 7 pt_8) 8 ps_9) 9 ha_10) 10 re_11) rs lo (upd ny 0 0) (upR (upR (upR fy 7 mh_19) 8 mp_20) 9 mt_21) mf_22 H locs ls ⟨Xhna, Xhnb, XH, Xcna, Xcnb, Xpna, Xpnb, XO, Xgna, Xgnb, Xlna, Xlnb, Xdla, Xdlb, Xana, Xanb, Xuna, Xunb, Xlca, Xlcb, Xtna, Xtnb, XS, Mhna, Mhnb, MH, MS, Mmlna, Mmlnb, Mmtna, Mmtnb, Ccn, Cfo, Cwo, Cpn, Cpk, Cpf, Cpo, Cpd, Cpe, Cgn, Cgk, Cgs, Cgd, Cge, Can, Cak, Cah, Cay, Caz, Cun, Cuk, Cuy, Cuw, Cum, Clc, Clp, Cla, Clb, Caw, Ciw, Cln, Ctd⟩ hPm.comm hDm.comm hS hl

set_option maxHeartbeats 4000000 in
set_option maxRecDepth 100000 in
theorem law_case_9 {p : Program} {l : Launch} {e : Env} {s : State} {m : MethodId} {below : List Frame} {meth : Method} {c : Code} {D : va_G} {cI cY cJ cQ : ClassId} {b L aK aV : Nat} {xs : Nat → Int32} {ad rw md : Nat → Nat} {sd i : Int32} {nx : Nat → Int32} {fx rs : Nat → Nat → Int32} {lo : Nat → Int64} {ny : Nat → Int32} {fy : Nat → Nat → Int32} {fl : Nat → Int64} {H : Heap} {locs : List Loc} {ls : Array Slot} (C0 : lawC p s m meth c b L xs D cI cY cJ cQ aK aV) (I : inv nx fx ny fy) (hP : va_P D vwCl (wX ad rw sd cI cY cJ cQ nx fx rs lo ++ wM md sd cI cY cJ cQ ny fy fl) H) (hD : va_D (fun q : Nat => s.heap.size ≤ q) (wX ad rw sd cI cY cJ cQ nx fx rs lo ++ wM md sd cI cY cJ cQ ny fy fl)) (hS : va_S (fun q : Nat => s.heap.size ≤ q) s.heap H locs) (hl : lv_has ls 4 [(0, .ref b), (1, .ref (ad 0)), (2, .ref (md 64)), (3, .int i)]) (hi1 : 1 ≤ i.toInt) (hi2 : i.toInt + 5 < L) (kk : ∀ (nx : Nat → Int32) (fx rs : Nat → Nat → Int32) (lo : Nat → Int64) (ny : Nat → Int32) (fy : Nat → Nat → Int32) (fl : Nat → Int64) (H : Heap) (locs : List Loc) (ls : Array Slot), inv nx fx ny fy → va_P D vwCl (wX ad rw sd cI cY cJ cQ nx fx rs lo ++ wM md sd cI cY cJ cQ ny fy fl) H → va_D (fun q : Nat => s.heap.size ≤ q) (wX ad rw sd cI cY cJ cQ nx fx rs lo ++ wM md sd cI cY cJ cQ ny fy fl) → va_S (fun q : Nat => s.heap.size ≤ q) s.heap H locs → lv_has ls 4 [(0, .ref b), (1, .ref (ad 0)), (2, .ref (md 64)), (3, .int i)] → W p l e room_1 s m #[Value.ref b] below meth c H locs 107 4890 (lw_Z below #[Value.ref b] s) (F0 m 1652 ls [])) : W p l e room_1 s m #[Value.ref b] below meth c H locs 107 4890 (lw_Z below #[Value.ref b] s) (F0 m 595 ls []) := by
  obtain ⟨C1, hK, hN, hT, hL⟩ := C0
  obtain ⟨hx, hb, hr, hml, hown, hts0, hX, hbl, hlocks, hgv⟩ := C1
  have hA : ∀ q : Nat, s.heap.size ≤ q → (fun q : Nat => s.heap.size ≤ q) q := fun _ h => h
  have hbA : ¬ (fun q : Nat => s.heap.size ≤ q) b := Nat.not_le.mpr hbl
  have hts : ∀ w ∈ wsL_law, w.before #[Value.ref b] s = true := fun w h => hts0 w (wsL_law_in w h)
  replace hown : s.vm.findClass RL = some m.cls := hown
  replace hb : c.code = cL_law := hb
  obtain ⟨Xhna, Xhnb, XH, Xcna, Xcnb, Xpna, Xpnb, XO, Xgna, Xgnb, Xlna, Xlnb, Xdla, Xdlb, Xana, Xanb, Xuna, Xunb, Xlca, Xlcb, Xtna, Xtnb, XS, Mhna, Mhnb, MH, MS, Mmlna, Mmlnb, Mmtna, Mmtnb, Ccn, Cfo, Cwo, Cpn, Cpk, Cpf, Cpo, Cpd, Cpe, Cgn, Cgk, Cgs, Cgd, Cge, Can, Cak, Cah, Cay, Caz, Cun, Cuk, Cuy, Cuw, Cum, Clc, Clp, Cla, Clb, Caw, Ciw, Cln, Ctd⟩ := I
  have Tcn := i_eq Ccn
  have Tpn := i_eq Cpn
  have Tgn := i_eq Cgn
  have Tan := i_eq Can
  have Tun := i_eq Cun
  have Tlc := i_eq Clc
  have Tln := i_eq Cln
  have k1 : (1 : Int32).toInt = 1 := by decide
  obtain ⟨xk1, exk1⟩ : ∃ y : Int32, y = xs (i.toNatClampNeg + 1) := ⟨_, rfl⟩
  refine lv_aload_n hx hb dL_law_595 rfl (lv_at hl 1 rfl) ?_
  refine lv_aload_n hx hb dL_law_596 rfl (lv_at hl 0 rfl) ?_
  refine lv_iload_n hx hb dL_law_597 rfl (lv_at hl 3 rfl) ?_
  refine lv_iconst (v := 1) hx hb dL_law_598 (by decide) ?_
  refine lv_iadd hx hb dL_law_599 ?_
  refine lv_topi (fun v1 ev1 => ?_)
  try have tv1 : v1.toInt = i.toInt + 1 := by rw [ev1]; exact (i_add (x := i) (y := (1 : Int32)) (by rw [k1]; omega) (by rw [k1]; omega)).trans (by rw [k1])
  refine va_sld hx hb hX hbl hbA hS (i_in (by omega) (by omega)) dL_law_600 ?_
  refine lv_topi (fun a2 ea2 => ?_)
  replace ea2 : xk1 = a2 := (ea2.trans (by rw [exk1]; congr 1; have := i_cl (x := v1) (by omega); have := i_cl (x := i) (by omega); omega)).symm
  subst ea2
  refine st_iQ (wr := [((ad 11), .inl (cI, 16, .inl (fx 0))), ((rw 0), .inl (cI, 60, .inl (rs 0))), ((rw 1), .inl (cI, 60, .inl (rs 1))), ((rw 2), .inl (cI, 60, .inl (rs 2))), ((rw 3), .inl (cI, 60, .inl (rs 3))), ((rw 4), .inl (cI, 60, .inl (rs 4))), ((rw 5), .inl (cI, 60, .inl (rs 5))), ((rw 6), .inl (cI, 60, .inl (rs 6))), ((rw 7), .inl (cI, 60, .inl (rs 7))), ((ad 1), .inr (9, [.ref (ad 12), .ref (ad 13), .ref (ad 14)])), ((ad 12), .inl (cQ, 8, .inr (.inr (.inr (.inr (fun i => if i < 8 then some (rw i) else none)))))), ((ad 13), .inl (cI, 8, .inl (fx 1))), ((ad 14), .inl (cI, 8, .inl (fx 2))), ((ad 3), .inr (1, [.ref (ad 31), .ref (ad 32), .ref (ad 33), .int (nx 4), .ref (ad 34), .ref (ad 35)])), ((ad 31), .inl (cI, 12, .inl (fx 11))), ((ad 32), .inl (cI, 12, .inl (fx 12))), ((ad 33), .inl (cI, 12, .inl (fx 13))), ((ad 34), .inl (cI, 6, .inl (fx 14))), ((ad 35), .inl (cI, 6, .inl (fx 15))), ((ad 4), .inr (7, [.ref (ad 36), .ref (ad 37), .ref (ad 38), .ref (ad 39), .ref (ad 40), .ref (ad 41), .int (nx 5)])), ((ad 36), .inl (cI, 40, .inl (fx 16))), ((ad 37), .inl (cI, 40, .inl (fx 17))), ((ad 38), .inl (cI, 40, .inl (fx 18))), ((ad 39), .inl (cI, 40, .inl (fx 19))), ((ad 40), .inl (cI, 40, .inl (fx 20))), ((ad 41), .inl (cI, 40, .inl (fx 21))), ((ad 5), .inr (8, [.ref (ad 42), .ref (ad 43), .ref (ad 44), .ref (ad 45), .int (nx 6), .ref (ad 46)])), ((ad 42), .inl (cI, 40, .inl (fx 22))), ((ad 43), .inl (cI, 40, .inl (fx 23))), ((ad 44), .inl (cI, 40, .inl (fx 24))), ((ad 45), .inl (cI, 40, .inl (fx 25))), ((ad 46), .inl (cI, 40, .inl (fx 26))), ((ad 6), .inr (2, [.ref (ad 47), .int (nx 7), .int (nx 8), .ref (ad 48), .ref (ad 49), .ref (ad 50), .int (nx 9), .ref (ad 51), .ref (ad 52), .ref (ad 53), .int (nx 10), .int (nx 11), .int (nx 12), .int (nx 13), .int (nx 14)])), ((ad 47), .inl (cY, 300, .inl (fx 27))), ((ad 48), .inl (cI, 12, .inl (fx 28))), ((ad 49), .inl (cI, 12, .inl (fx 29))), ((ad 50), .inl (cI, 12, .inl (fx 30))), ((ad 51), .inl (cI, 12, .inl (fx 31))), ((ad 52), .inl (cI, 12, .inl (fx 32))), ((ad 53), .inl (cI, 12, .inl (fx 33))), ((ad 7), .inr (0, [.ref (ad 54), .ref (ad 55), .ref (ad 56), .ref (ad 57), .int (nx 15)])), ((ad 54), .inl (cI, 60, .inl (fx 34))), ((ad 55), .inl (cI, 60, .inl (fx 35))), ((ad 56), .inl (cI, 60, .inl (fx 36))), ((ad 57), .inl (cI, 60, .inl (fx 37))), ((ad 8), .inr (5, [.int sd, .ref (ad 58)])), ((ad 58), .inl (cJ, 12, .inr (.inl lo))), ((ad 9), .inr (6, [.ref (ad 59), .ref (ad 60), .ref (ad 61), .ref (ad 62), .int (nx 16)])), ((ad 59), .inl (cI, 60, .inl (fx 38))), ((ad 60), .inl (cI, 60, .inl (fx 39))), ((ad 61), .inl (cI, 60, .inl (fx 40))), ((ad 62), .inl (cI, 60, .inl (fx 41))), ((ad 10), .inr (4, [.ref (ad 63), .ref (ad 64), .ref (ad 65), .int (nx 17)])), ((ad 63), .inl (cI, 20, .inl (fx 42))), ((ad 64), .inl (cI, 20, .inl (fx 43))), ((ad 65), .inl (cI, 20, .inl (fx 44)))]) (va_runV (C := RX10) (As := [.int xk1]) (rest := []) ⟨hx, hb, hml, hown, hts⟩ (ct_X10_rings l D cI cY cJ cQ _ ad (nx 0) (nx 1) (nx 2) (nx 3) (fx 3) (fx 4) (fx 5) (fx 6) (fx 7) (fx 8) (fx 9) (fx 10) xk1 (by omega) (by omega) (by assumption)) (cwV 1 hts gL_law_X10_rings rfl rfl rfl ⟨rfl, cdX10_rings⟩ ⟨Nat.le_of_ble_eq_true rfl, Nat.le_of_ble_eq_true rfl⟩) (cPreV (hP.sub [0, 14, 15, 16, 17, 18, 19, 20, 21, 22] rfl) hK (hD.sub [0, 14, 15, 16, 17, 18, 19, 20, 21, 22] (by decide +kernel) rfl) hN (ci := 10) (q0 := 0) rfl rfl) rfl rfl hl.1 rfl (lv_room (Nat.le_of_ble_eq_true rfl)) dL_law_601 ⟨Nat.le_of_ble_eq_true rfl, Nat.le_of_ble_eq_true rfl⟩) hP hD hS hA [0, 14, 15, 16, 17, 18, 19, 20, 21, 22] [1, 2, 3, 4, 5, 6, 7, 8, 9, 10, 11, 12, 13, 23, 24, 25, 26, 27, 28, 29, 30, 31, 32, 33, 34, 35, 36, 37, 38, 39, 40, 41, 42, 43, 44, 45, 46, 47, 48, 49, 50, 51, 52, 53, 54, 55, 56, 57, 58, 59, 60, 61, 62, 63, 64, 65] rfl rfl (by decide +kernel) (by decide +kernel) (fun r5 u3 H locs hw4 hP hD hS => ?_)
  obtain ⟨pt_6, ps_7, ha_8, re_9⟩ := u3
  replace hw4 : True := hw4
  refine lv_pop hx hb dL_law_604 rfl ?_
  have hPx : va_P D vwCl (wX ad rw sd cI cY cJ cQ nx (upR (upR (upR (upR fx 7 pt_6) 8 ps_7) 9 ha_8) 10 re_9) rs lo ++ wM md sd cI cY cJ cQ ny fy fl) H := hP.part [56, 0, 1, 2, 3, 4, 5, 6, 7, 8, 9, 10, 11, 12, 57, 58, 59, 60, 61, 62, 63, 64, 65, 13, 14, 15, 16, 17, 18, 19, 20, 21, 22, 23, 24, 25, 26, 27, 28, 29, 30, 31, 32, 33, 34, 35, 36, 37, 38, 39, 40, 41, 42, 43, 44, 45, 46, 47, 48, 49, 50, 51, 52, 53, 54, 55] rfl
  have hDx : va_D (fun q : Nat => s.heap.size ≤ q) (wX ad rw sd cI cY cJ cQ nx (upR (upR (upR (upR fx 7 pt_6) 8 ps_7) 9 ha_8) 10 re_9) rs lo ++ wM md sd cI cY cJ cQ ny fy fl) := hD.part [56, 0, 1, 2, 3, 4, 5, 6, 7, 8, 9, 10, 11, 12, 57, 58, 59, 60, 61, 62, 63, 64, 65, 13, 14, 15, 16, 17, 18, 19, 20, 21, 22, 23, 24, 25, 26, 27, 28, 29, 30, 31, 32, 33, 34, 35, 36, 37, 38, 39, 40, 41, 42, 43, 44, 45, 46, 47, 48, 49, 50, 51, 52, 53, 54, 55] (by decide +kernel) rfl
  have hP := hPx.comm
  have hD := hDx.comm
  refine lv_aload_n hx hb dL_law_605 rfl (lv_at hl 2 rfl) ?_
  refine lv_aload_n hx hb dL_law_606 rfl (lv_at hl 0 rfl) ?_
  refine lv_iload_n hx hb dL_law_607 rfl (lv_at hl 3 rfl) ?_
  refine lv_iconst (v := 1) hx hb dL_law_608 (by decide) ?_
  refine lv_iadd hx hb dL_law_609 ?_
  refine lv_topi (fun v10 ev10 => ?_)
  try have tv10 : v10.toInt = i.toInt + 1 := by rw [ev10]; exact (i_add (x := i) (y := (1 : Int32)) (by rw [k1]; omega) (by rw [k1]; omega)).trans (by rw [k1])
  refine va_sld hx hb hX hbl hbA hS (i_in (by omega) (by omega)) dL_law_610 ?_
  refine lv_topi (fun a11 ea11 => ?_)
  replace ea11 : xk1 = a11 := (ea11.trans (by rw [exk1]; congr 1; have := i_cl (x := v10) (by omega); have := i_cl (x := i) (by omega); omega)).symm
  subst ea11
  refine st_iQ (wr := [((md 3), .inl (cI, 8, .inl (fy 0))), ((md 4), .inl (cI, 8, .inl (fy 1))), ((md 5), .inl (cI, 480, .inl (fy 2))), ((md 12), .inl (cI, 12, .inl (fy 8))), ((md 13), .inl (cI, 12, .inl (fy 9))), ((md 14), .inl (cJ, 12, .inr (.inl fl))), ((md 16), .inl (cI, 12, .inl (fy 10))), ((md 17), .inl (cI, 12, .inl (fy 11))), ((md 19), .inl (cI, 40, .inl (fy 12))), ((md 20), .inl (cI, 40, .inl (fy 13))), ((md 21), .inl (cI, 40, .inl (fy 14))), ((md 22), .inl (cI, 40, .inl (fy 15))), ((md 23), .inl (cI, 40, .inl (fy 16))), ((md 26), .inl (cI, 40, .inl (fy 17))), ((md 27), .inl (cI, 40, .inl (fy 18))), ((md 28), .inl (cI, 40, .inl (fy 19))), ((md 29), .inl (cI, 40, .inl (fy 20))), ((md 31), .inl (cI, 36, .inl (fy 21))), ((md 33), .inl (cI, 36, .inl (fy 22))), ((md 34), .inl (cI, 300, .inl (fy 23))), ((md 45), .inl (cI, 60, .inl (fy 24))), ((md 46), .inl (cI, 60, .inl (fy 25))), ((md 47), .inl (cI, 60, .inl (fy 26))), ((md 48), .inl (cI, 60, .inl (fy 27))), ((md 49), .inl (cI, 6, .inl (fy 28))), ((md 50), .inl (cI, 6, .inl (fy 29))), ((md 51), .inl (cI, 12, .inl (fy 30))), ((md 53), .inl (cI, 60, .inl (fy 31))), ((md 54), .inl (cI, 60, .inl (fy 32))), ((md 55), .inl (cI, 60, .inl (fy 33))), ((md 56), .inl (cI, 60, .inl (fy 34))), ((md 58), .inl (cI, 20, .inl (fy 35))), ((md 59), .inl (cI, 20, .inl (fy 36))), ((md 60), .inl (cI, 20, .inl (fy 37))), ((md 62), .inl (cI, 16, .inl (fy 38)))]) (va_runV (C := RX11) (As := [.int xk1]) (rest := []) ⟨hx, hb, hml, hown, hts⟩ (ct_X11_rings l D cI cY cJ cQ _ md sd (ny 0) (ny 1) (ny 2) (ny 3) (ny 4) (ny 5) (ny 6) (ny 7) (ny 8) (ny 9) (ny 10) (ny 11) (ny 12) (ny 13) (ny 14) (ny 15) (ny 16) (ny 17) (ny 18) (ny 19) (ny 20) (ny 21) (ny 22) (fy 3) (fy 4) (fy 5) (fy 6) (fy 7) xk1 (by omega) (by omega)) (cwV 1 hts gL_law_X11_rings rfl rfl rfl ⟨rfl, cdX11_rings⟩ ⟨Nat.le_of_ble_eq_true rfl, Nat.le_of_ble_eq_true rfl⟩) (cPreV (hP.sub [0, 4, 5, 6, 7, 8] rfl) hK (hD.sub [0, 4, 5, 6, 7, 8] (by decide +kernel) rfl) hN (ci := 11) (q0 := 0) rfl rfl) rfl rfl hl.1 rfl (lv_room (Nat.le_of_ble_eq_true rfl)) dL_law_611 ⟨Nat.le_of_ble_eq_true rfl, Nat.le_of_ble_eq_true rfl⟩) hP hD hS hA [0, 4, 5, 6, 7, 8] [1, 2, 3, 9, 10, 11, 12, 13, 14, 15, 16, 17, 18, 19, 20, 21, 22, 23, 24, 25, 26, 27, 28, 29, 30, 31, 32, 33, 34, 35, 36, 37, 38, 39, 40] rfl rfl (by decide +kernel) (by decide +kernel) (fun r14 u12 H locs hw13 hP hD hS => ?_)
  replace hw13 : True := hw13
  refine lv_pop hx hb dL_law_614 rfl ?_
  refine lv_goto (tgt := 1652) hx hb dL_law_615 (by decide) ?_
  have hPm : va_P D vwCl (wM md sd cI cY cJ cQ (upd ny 0 0) (upR fy 7 u12) fl ++ wX ad rw sd cI cY cJ cQ nx (upR (upR (upR (upR fx 7 pt_6) 8 ps_7) 9 ha_8) 10 re_9) rs lo) H := hP.part [35, 0, 1, 2, 36, 37, 38, 39, 40, 3, 4, 5, 6, 7, 8, 9, 10, 11, 12, 13, 14, 15, 16, 17, 18, 19, 20, 21, 22, 23, 24, 25, 26, 27, 28, 29, 30, 31, 32, 33, 34] rfl
  have hDm : va_D (fun q : Nat => s.heap.size ≤ q) (wM md sd cI cY cJ cQ (upd ny 0 0) (upR fy 7 u12) fl ++ wX ad rw sd cI cY cJ cQ nx (upR (upR (upR (upR fx 7 pt_6) 8 ps_7) 9 ha_8) 10 re_9) rs lo) := hD.part [35, 0, 1, 2, 36, 37, 38, 39, 40, 3, 4, 5, 6, 7, 8, 9, 10, 11, 12, 13, 14, 15, 16, 17, 18, 19, 20, 21, 22, 23, 24, 25, 26, 27, 28, 29, 30, 31, 32, 33, 34] (by decide +kernel) rfl
  exact kk nx (upR (upR (upR (upR fx 7 pt_6) 8 ps_7) 9 ha_8) 10 re_9) rs lo (upd ny 0 0) (upR fy 7 u12) fl H locs ls ⟨Xhna, Xhnb, XH, Xcna, Xcnb, Xpna, Xpnb, XO, Xgna, Xgnb, Xlna, Xlnb, Xdla, Xdlb, Xana, Xanb, Xuna, Xunb, Xlca, Xlcb, Xtna, Xtnb, XS, Mhna, Mhnb, MH, MS, Mmlna, Mmlnb, Mmtna, Mmtnb, Ccn, Cfo, Cwo, Cpn, Cpk, Cpf, Cpo, Cpd, Cpe, Cgn, Cgk, Cgs, Cgd, Cge, Can, Cak, Cah, Cay, Caz, Cun, Cuk, Cuy, Cuw, Cum, Clc, Clp, Cla, Clb, Caw, Ciw, Cln, Ctd⟩ hPm.comm hDm.comm hS hl

set_option maxHeartbeats 4000000 in
set_option maxRecDepth 100000 in
theorem law_case_10 {p : Program} {l : Launch} {e : Env} {s : State} {m : MethodId} {below : List Frame} {meth : Method} {c : Code} {D : va_G} {cI cY cJ cQ : ClassId} {b L aK aV : Nat} {xs : Nat → Int32} {ad rw md : Nat → Nat} {sd i : Int32} {nx : Nat → Int32} {fx rs : Nat → Nat → Int32} {lo : Nat → Int64} {ny : Nat → Int32} {fy : Nat → Nat → Int32} {fl : Nat → Int64} {H : Heap} {locs : List Loc} {ls : Array Slot} (C0 : lawC p s m meth c b L xs D cI cY cJ cQ aK aV) (I : inv nx fx ny fy) (hP : va_P D vwCl (wX ad rw sd cI cY cJ cQ nx fx rs lo ++ wM md sd cI cY cJ cQ ny fy fl) H) (hD : va_D (fun q : Nat => s.heap.size ≤ q) (wX ad rw sd cI cY cJ cQ nx fx rs lo ++ wM md sd cI cY cJ cQ ny fy fl)) (hS : va_S (fun q : Nat => s.heap.size ≤ q) s.heap H locs) (hl : lv_has ls 4 [(0, .ref b), (1, .ref (ad 0)), (2, .ref (md 64)), (3, .int i)]) (hi1 : 1 ≤ i.toInt) (hi2 : i.toInt + 5 < L) (kk : ∀ (nx : Nat → Int32) (fx rs : Nat → Nat → Int32) (lo : Nat → Int64) (ny : Nat → Int32) (fy : Nat → Nat → Int32) (fl : Nat → Int64) (H : Heap) (locs : List Loc) (ls : Array Slot), inv nx fx ny fy → va_P D vwCl (wX ad rw sd cI cY cJ cQ nx fx rs lo ++ wM md sd cI cY cJ cQ ny fy fl) H → va_D (fun q : Nat => s.heap.size ≤ q) (wX ad rw sd cI cY cJ cQ nx fx rs lo ++ wM md sd cI cY cJ cQ ny fy fl) → va_S (fun q : Nat => s.heap.size ≤ q) s.heap H locs → lv_has ls 4 [(0, .ref b), (1, .ref (ad 0)), (2, .ref (md 64)), (3, .int i)] → W p l e room_1 s m #[Value.ref b] below meth c H locs 107 4890 (lw_Z below #[Value.ref b] s) (F0 m 1652 ls [])) : W p l e room_1 s m #[Value.ref b] below meth c H locs 107 4890 (lw_Z below #[Value.ref b] s) (F0 m 618 ls []) := by
  obtain ⟨C1, hK, hN, hT, hL⟩ := C0
  obtain ⟨hx, hb, hr, hml, hown, hts0, hX, hbl, hlocks, hgv⟩ := C1
  have hA : ∀ q : Nat, s.heap.size ≤ q → (fun q : Nat => s.heap.size ≤ q) q := fun _ h => h
  have hbA : ¬ (fun q : Nat => s.heap.size ≤ q) b := Nat.not_le.mpr hbl
  have hts : ∀ w ∈ wsL_law, w.before #[Value.ref b] s = true := fun w h => hts0 w (wsL_law_in w h)
  replace hown : s.vm.findClass RL = some m.cls := hown
  replace hb : c.code = cL_law := hb
  obtain ⟨Xhna, Xhnb, XH, Xcna, Xcnb, Xpna, Xpnb, XO, Xgna, Xgnb, Xlna, Xlnb, Xdla, Xdlb, Xana, Xanb, Xuna, Xunb, Xlca, Xlcb, Xtna, Xtnb, XS, Mhna, Mhnb, MH, MS, Mmlna, Mmlnb, Mmtna, Mmtnb, Ccn, Cfo, Cwo, Cpn, Cpk, Cpf, Cpo, Cpd, Cpe, Cgn, Cgk, Cgs, Cgd, Cge, Can, Cak, Cah, Cay, Caz, Cun, Cuk, Cuy, Cuw, Cum, Clc, Clp, Cla, Clb, Caw, Ciw, Cln, Ctd⟩ := I
  have Tcn := i_eq Ccn
  have Tpn := i_eq Cpn
  have Tgn := i_eq Cgn
  have Tan := i_eq Can
  have Tun := i_eq Cun
  have Tlc := i_eq Clc
  have Tln := i_eq Cln
  have k1 : (1 : Int32).toInt = 1 := by decide
  have k2 : (2 : Int32).toInt = 2 := by decide
  obtain ⟨xk1, exk1⟩ : ∃ y : Int32, y = xs (i.toNatClampNeg + 1) := ⟨_, rfl⟩
  obtain ⟨xk2, exk2⟩ : ∃ y : Int32, y = xs (i.toNatClampNeg + 2) := ⟨_, rfl⟩
  refine lv_aload_n hx hb dL_law_618 rfl (lv_at hl 1 rfl) ?_
  refine lv_aload_n hx hb dL_law_619 rfl (lv_at hl 0 rfl) ?_
  refine lv_iload_n hx hb dL_law_620 rfl (lv_at hl 3 rfl) ?_
  refine lv_iconst (v := 1) hx hb dL_law_621 (by decide) ?_
  refine lv_iadd hx hb dL_law_622 ?_
  refine lv_topi (fun v1 ev1 => ?_)
  try have tv1 : v1.toInt = i.toInt + 1 := by rw [ev1]; exact (i_add (x := i) (y := (1 : Int32)) (by rw [k1]; omega) (by rw [k1]; omega)).trans (by rw [k1])
  refine va_sld hx hb hX hbl hbA hS (i_in (by omega) (by omega)) dL_law_623 ?_
  refine lv_topi (fun a2 ea2 => ?_)
  replace ea2 : xk1 = a2 := (ea2.trans (by rw [exk1]; congr 1; have := i_cl (x := v1) (by omega); have := i_cl (x := i) (by omega); omega)).symm
  subst ea2
  refine lv_aload_n hx hb dL_law_624 rfl (lv_at hl 0 rfl) ?_
  refine lv_iload_n hx hb dL_law_625 rfl (lv_at hl 3 rfl) ?_
  refine lv_iconst (v := 2) hx hb dL_law_626 (by decide) ?_
  refine lv_iadd hx hb dL_law_627 ?_
  refine lv_topi (fun v3 ev3 => ?_)
  try have tv3 : v3.toInt = i.toInt + 2 := by rw [ev3]; exact (i_add (x := i) (y := (2 : Int32)) (by rw [k2]; omega) (by rw [k2]; omega)).trans (by rw [k2])
  refine va_sld hx hb hX hbl hbA hS (i_in (by omega) (by omega)) dL_law_628 ?_
  refine lv_topi (fun a4 ea4 => ?_)
  replace ea4 : xk2 = a4 := (ea4.trans (by rw [exk2]; congr 1; have := i_cl (x := v3) (by omega); have := i_cl (x := i) (by omega); omega)).symm
  subst ea4
  refine st_iQ (wr := [((ad 11), .inl (cI, 16, .inl (fx 0))), ((rw 0), .inl (cI, 60, .inl (rs 0))), ((rw 1), .inl (cI, 60, .inl (rs 1))), ((rw 2), .inl (cI, 60, .inl (rs 2))), ((rw 3), .inl (cI, 60, .inl (rs 3))), ((rw 4), .inl (cI, 60, .inl (rs 4))), ((rw 5), .inl (cI, 60, .inl (rs 5))), ((rw 6), .inl (cI, 60, .inl (rs 6))), ((rw 7), .inl (cI, 60, .inl (rs 7))), ((ad 1), .inr (9, [.ref (ad 12), .ref (ad 13), .ref (ad 14)])), ((ad 12), .inl (cQ, 8, .inr (.inr (.inr (.inr (fun i => if i < 8 then some (rw i) else none)))))), ((ad 13), .inl (cI, 8, .inl (fx 1))), ((ad 14), .inl (cI, 8, .inl (fx 2))), ((ad 2), .inr (3, [.ref (ad 23), .ref (ad 24), .ref (ad 25), .ref (ad 26), .int (nx 3), .ref (ad 27), .ref (ad 28), .ref (ad 29), .ref (ad 30)])), ((ad 23), .inl (cI, 40, .inl (fx 3))), ((ad 24), .inl (cI, 40, .inl (fx 4))), ((ad 25), .inl (cI, 40, .inl (fx 5))), ((ad 26), .inl (cI, 40, .inl (fx 6))), ((ad 27), .inl (cI, 200, .inl (fx 7))), ((ad 28), .inl (cI, 200, .inl (fx 8))), ((ad 29), .inl (cI, 20, .inl (fx 9))), ((ad 30), .inl (cI, 10, .inl (fx 10))), ((ad 33), .inl (cI, 12, .inl (fx 13))), ((ad 34), .inl (cI, 6, .inl (fx 14))), ((ad 35), .inl (cI, 6, .inl (fx 15))), ((ad 4), .inr (7, [.ref (ad 36), .ref (ad 37), .ref (ad 38), .ref (ad 39), .ref (ad 40), .ref (ad 41), .int (nx 5)])), ((ad 36), .inl (cI, 40, .inl (fx 16))), ((ad 37), .inl (cI, 40, .inl (fx 17))), ((ad 38), .inl (cI, 40, .inl (fx 18))), ((ad 39), .inl (cI, 40, .inl (fx 19))), ((ad 40), .inl (cI, 40, .inl (fx 20))), ((ad 41), .inl (cI, 40, .inl (fx 21))), ((ad 5), .inr (8, [.ref (ad 42), .ref (ad 43), .ref (ad 44), .ref (ad 45), .int (nx 6), .ref (ad 46)])), ((ad 42), .inl (cI, 40, .inl (fx 22))), ((ad 43), .inl (cI, 40, .inl (fx 23))), ((ad 44), .inl (cI, 40, .inl (fx 24))), ((ad 45), .inl (cI, 40, .inl (fx 25))), ((ad 46), .inl (cI, 40, .inl (fx 26))), ((ad 6), .inr (2, [.ref (ad 47), .int (nx 7), .int (nx 8), .ref (ad 48), .ref (ad 49), .ref (ad 50), .int (nx 9), .ref (ad 51), .ref (ad 52), .ref (ad 53), .int (nx 10), .int (nx 11), .int (nx 12), .int (nx 13), .int (nx 14)])), ((ad 47), .inl (cY, 300, .inl (fx 27))), ((ad 48), .inl (cI, 12, .inl (fx 28))), ((ad 49), .inl (cI, 12, .inl (fx 29))), ((ad 50), .inl (cI, 12, .inl (fx 30))), ((ad 51), .inl (cI, 12, .inl (fx 31))), ((ad 52), .inl (cI, 12, .inl (fx 32))), ((ad 53), .inl (cI, 12, .inl (fx 33))), ((ad 7), .inr (0, [.ref (ad 54), .ref (ad 55), .ref (ad 56), .ref (ad 57), .int (nx 15)])), ((ad 54), .inl (cI, 60, .inl (fx 34))), ((ad 55), .inl (cI, 60, .inl (fx 35))), ((ad 56), .inl (cI, 60, .inl (fx 36))), ((ad 57), .inl (cI, 60, .inl (fx 37))), ((ad 8), .inr (5, [.int sd, .ref (ad 58)])), ((ad 58), .inl (cJ, 12, .inr (.inl lo))), ((ad 9), .inr (6, [.ref (ad 59), .ref (ad 60), .ref (ad 61), .ref (ad 62), .int (nx 16)])), ((ad 59), .inl (cI, 60, .inl (fx 38))), ((ad 60), .inl (cI, 60, .inl (fx 39))), ((ad 61), .inl (cI, 60, .inl (fx 40))), ((ad 62), .inl (cI, 60, .inl (fx 41))), ((ad 10), .inr (4, [.ref (ad 63), .ref (ad 64), .ref (ad 65), .int (nx 17)])), ((ad 63), .inl (cI, 20, .inl (fx 42))), ((ad 64), .inl (cI, 20, .inl (fx 43))), ((ad 65), .inl (cI, 20, .inl (fx 44)))]) (va_runV (C := RX10) (As := [.int xk1, .int xk2]) (rest := []) ⟨hx, hb, hml, hown, hts⟩ (ct_X10_crate l D cI cY cJ cQ _ ad (nx 0) (nx 1) (nx 2) (nx 4) (fx 11) (fx 12) xk1 xk2 (by omega) (by omega)) (cwV 2 hts gL_law_X10_crate rfl rfl rfl ⟨rfl, cdX10_crate⟩ ⟨Nat.le_of_ble_eq_true rfl, Nat.le_of_ble_eq_true rfl⟩) (cPreV (hP.sub [0, 23, 24, 25] rfl) hK (hD.sub [0, 23, 24, 25] (by decide +kernel) rfl) hN (ci := 10) (q0 := 0) rfl rfl) rfl rfl hl.1 rfl (lv_room (Nat.le_of_ble_eq_true rfl)) dL_law_629 ⟨Nat.le_of_ble_eq_true rfl, Nat.le_of_ble_eq_true rfl⟩) hP hD hS hA [0, 23, 24, 25] [1, 2, 3, 4, 5, 6, 7, 8, 9, 10, 11, 12, 13, 14, 15, 16, 17, 18, 19, 20, 21, 22, 26, 27, 28, 29, 30, 31, 32, 33, 34, 35, 36, 37, 38, 39, 40, 41, 42, 43, 44, 45, 46, 47, 48, 49, 50, 51, 52, 53, 54, 55, 56, 57, 58, 59, 60, 61, 62, 63, 64, 65] rfl rfl (by decide +kernel) (by decide +kernel) (fun r7 u5 H locs hw6 hP hD hS => ?_)
  obtain ⟨cn_8, fo_9, wo_10⟩ := u5
  replace hw6 : (r7, (cn_8, fo_9, wo_10)) = sp_crate (nx 4) (fx 11) (fx 12) xk1 xk2 := hw6
  obtain ⟨hw6a, hw6b⟩ := sp_crate_ok hw6 (by omega) (by omega)
  have hPx : va_P D vwCl (wX ad rw sd cI cY cJ cQ (upd nx 4 cn_8) (upR (upR fx 11 fo_9) 12 wo_10) rs lo ++ wM md sd cI cY cJ cQ ny fy fl) H := hP.part [62, 0, 1, 2, 3, 4, 5, 6, 7, 8, 9, 10, 11, 12, 13, 14, 15, 16, 17, 18, 19, 20, 21, 63, 64, 65, 22, 23, 24, 25, 26, 27, 28, 29, 30, 31, 32, 33, 34, 35, 36, 37, 38, 39, 40, 41, 42, 43, 44, 45, 46, 47, 48, 49, 50, 51, 52, 53, 54, 55, 56, 57, 58, 59, 60, 61] rfl
  have hDx : va_D (fun q : Nat => s.heap.size ≤ q) (wX ad rw sd cI cY cJ cQ (upd nx 4 cn_8) (upR (upR fx 11 fo_9) 12 wo_10) rs lo ++ wM md sd cI cY cJ cQ ny fy fl) := hD.part [62, 0, 1, 2, 3, 4, 5, 6, 7, 8, 9, 10, 11, 12, 13, 14, 15, 16, 17, 18, 19, 20, 21, 63, 64, 65, 22, 23, 24, 25, 26, 27, 28, 29, 30, 31, 32, 33, 34, 35, 36, 37, 38, 39, 40, 41, 42, 43, 44, 45, 46, 47, 48, 49, 50, 51, 52, 53, 54, 55, 56, 57, 58, 59, 60, 61] (by decide +kernel) rfl
  have hP := hPx.comm
  have hD := hDx.comm
  refine lv_aload_n hx hb dL_law_632 rfl (lv_at hl 2 rfl) ?_
  refine lv_aload_n hx hb dL_law_633 rfl (lv_at hl 0 rfl) ?_
  refine lv_iload_n hx hb dL_law_634 rfl (lv_at hl 3 rfl) ?_
  refine lv_iconst (v := 1) hx hb dL_law_635 (by decide) ?_
  refine lv_iadd hx hb dL_law_636 ?_
  refine lv_topi (fun v11 ev11 => ?_)
  try have tv11 : v11.toInt = i.toInt + 1 := by rw [ev11]; exact (i_add (x := i) (y := (1 : Int32)) (by rw [k1]; omega) (by rw [k1]; omega)).trans (by rw [k1])
  refine va_sld hx hb hX hbl hbA hS (i_in (by omega) (by omega)) dL_law_637 ?_
  refine lv_topi (fun a12 ea12 => ?_)
  replace ea12 : xk1 = a12 := (ea12.trans (by rw [exk1]; congr 1; have := i_cl (x := v11) (by omega); have := i_cl (x := i) (by omega); omega)).symm
  subst ea12
  refine lv_aload_n hx hb dL_law_638 rfl (lv_at hl 0 rfl) ?_
  refine lv_iload_n hx hb dL_law_639 rfl (lv_at hl 3 rfl) ?_
  refine lv_iconst (v := 2) hx hb dL_law_640 (by decide) ?_
  refine lv_iadd hx hb dL_law_641 ?_
  refine lv_topi (fun v13 ev13 => ?_)
  try have tv13 : v13.toInt = i.toInt + 2 := by rw [ev13]; exact (i_add (x := i) (y := (2 : Int32)) (by rw [k2]; omega) (by rw [k2]; omega)).trans (by rw [k2])
  refine va_sld hx hb hX hbl hbA hS (i_in (by omega) (by omega)) dL_law_642 ?_
  refine lv_topi (fun a14 ea14 => ?_)
  replace ea14 : xk2 = a14 := (ea14.trans (by rw [exk2]; congr 1; have := i_cl (x := v13) (by omega); have := i_cl (x := i) (by omega); omega)).symm
  subst ea14
  refine st_iQ (wr := [((md 3), .inl (cI, 8, .inl (fy 0))), ((md 4), .inl (cI, 8, .inl (fy 1))), ((md 5), .inl (cI, 480, .inl (fy 2))), ((md 7), .inl (cI, 40, .inl (fy 3))), ((md 8), .inl (cI, 40, .inl (fy 4))), ((md 9), .inl (cI, 40, .inl (fy 5))), ((md 10), .inl (cI, 40, .inl (fy 6))), ((md 11), .inl (cI, 200, .inl (fy 7))), ((md 12), .inl (cI, 12, .inl (fy 8))), ((md 13), .inl (cI, 12, .inl (fy 9))), ((md 14), .inl (cJ, 12, .inr (.inl fl))), ((md 19), .inl (cI, 40, .inl (fy 12))), ((md 20), .inl (cI, 40, .inl (fy 13))), ((md 21), .inl (cI, 40, .inl (fy 14))), ((md 22), .inl (cI, 40, .inl (fy 15))), ((md 23), .inl (cI, 40, .inl (fy 16))), ((md 26), .inl (cI, 40, .inl (fy 17))), ((md 27), .inl (cI, 40, .inl (fy 18))), ((md 28), .inl (cI, 40, .inl (fy 19))), ((md 29), .inl (cI, 40, .inl (fy 20))), ((md 31), .inl (cI, 36, .inl (fy 21))), ((md 33), .inl (cI, 36, .inl (fy 22))), ((md 34), .inl (cI, 300, .inl (fy 23))), ((md 45), .inl (cI, 60, .inl (fy 24))), ((md 46), .inl (cI, 60, .inl (fy 25))), ((md 47), .inl (cI, 60, .inl (fy 26))), ((md 48), .inl (cI, 60, .inl (fy 27))), ((md 49), .inl (cI, 6, .inl (fy 28))), ((md 50), .inl (cI, 6, .inl (fy 29))), ((md 51), .inl (cI, 12, .inl (fy 30))), ((md 53), .inl (cI, 60, .inl (fy 31))), ((md 54), .inl (cI, 60, .inl (fy 32))), ((md 55), .inl (cI, 60, .inl (fy 33))), ((md 56), .inl (cI, 60, .inl (fy 34))), ((md 58), .inl (cI, 20, .inl (fy 35))), ((md 59), .inl (cI, 20, .inl (fy 36))), ((md 60), .inl (cI, 20, .inl (fy 37))), ((md 62), .inl (cI, 16, .inl (fy 38)))]) (va_runV (C := RX11) (As := [.int xk1, .int xk2]) (rest := [.int r7]) ⟨hx, hb, hml, hown, hts⟩ (ct_X11_crate l D cI cY cJ cQ _ md sd (ny 0) (ny 1) (ny 2) (ny 3) (ny 4) (ny 5) (ny 6) (ny 7) (ny 8) (ny 9) (ny 10) (ny 11) (ny 12) (ny 13) (ny 14) (ny 15) (ny 16) (ny 17) (ny 18) (ny 19) (ny 20) (ny 21) (ny 22) (fy 10) (fy 11) xk1 xk2 (by omega) (by omega)) (cwV 2 hts gL_law_X11_crate rfl rfl rfl ⟨rfl, cdX11_crate⟩ ⟨Nat.le_of_ble_eq_true rfl, Nat.le_of_ble_eq_true rfl⟩) (cPreV (hP.sub [0, 12, 13] rfl) hK (hD.sub [0, 12, 13] (by decide +kernel) rfl) hN (ci := 11) (q0 := 0) rfl rfl) rfl rfl hl.1 rfl (lv_room (Nat.le_of_ble_eq_true rfl)) dL_law_643 ⟨Nat.le_of_ble_eq_true rfl, Nat.le_of_ble_eq_true rfl⟩) hP hD hS hA [0, 12, 13] [1, 2, 3, 4, 5, 6, 7, 8, 9, 10, 11, 14, 15, 16, 17, 18, 19, 20, 21, 22, 23, 24, 25, 26, 27, 28, 29, 30, 31, 32, 33, 34, 35, 36, 37, 38, 39, 40] rfl rfl (by decide +kernel) (by decide +kernel) (fun r17 u15 H locs hw16 hP hD hS => ?_)
  obtain ⟨cn_18, fo_19, wo_20⟩ := u15
  replace hw16 : (r17, (cn_18, fo_19, wo_20)) = sp_crate (ny 3) (fy 10) (fy 11) xk1 xk2 := hw16
  rw [Ccn, Cfo, Cwo] at hw16
  have e9 := hw6.trans hw16.symm
  simp only [Prod.mk.injEq] at e9
  obtain ⟨e90, e9cn, e9fo, e9wo⟩ := e9
  refine lv_icmp_eq (tgt := 1652) hx hb dL_law_646 (by decide) (fun _ => ?_) (fun c21 => by exfalso; exact c21 e90)
  have hPm : va_P D vwCl (wM md sd cI cY cJ cQ (upd (upd ny 0 0) 3 cn_18) (upR (upR fy 10 fo_19) 11 wo_20) fl ++ wX ad rw sd cI cY cJ cQ (upd nx 4 cn_8) (upR (upR fx 11 fo_9) 12 wo_10) rs lo) H := hP.part [38, 0, 1, 2, 3, 4, 5, 6, 7, 8, 9, 10, 39, 40, 11, 12, 13, 14, 15, 16, 17, 18, 19, 20, 21, 22, 23, 24, 25, 26, 27, 28, 29, 30, 31, 32, 33, 34, 35, 36, 37] rfl
  have hDm : va_D (fun q : Nat => s.heap.size ≤ q) (wM md sd cI cY cJ cQ (upd (upd ny 0 0) 3 cn_18) (upR (upR fy 10 fo_19) 11 wo_20) fl ++ wX ad rw sd cI cY cJ cQ (upd nx 4 cn_8) (upR (upR fx 11 fo_9) 12 wo_10) rs lo) := hD.part [38, 0, 1, 2, 3, 4, 5, 6, 7, 8, 9, 10, 39, 40, 11, 12, 13, 14, 15, 16, 17, 18, 19, 20, 21, 22, 23, 24, 25, 26, 27, 28, 29, 30, 31, 32, 33, 34, 35, 36, 37] (by decide +kernel) rfl
  exact kk (upd nx 4 cn_8) (upR (upR fx 11 fo_9) 12 wo_10) rs lo (upd (upd ny 0 0) 3 cn_18) (upR (upR fy 10 fo_19) 11 wo_20) fl H locs ls ⟨Xhna, Xhnb, XH, (by show 0 ≤ (cn_8).toInt; omega), (by show (cn_8).toInt ≤ 12; omega), Xpna, Xpnb, XO, Xgna, Xgnb, Xlna, Xlnb, Xdla, Xdlb, Xana, Xanb, Xuna, Xunb, Xlca, Xlcb, Xtna, Xtnb, XS, Mhna, Mhnb, MH, MS, Mmlna, Mmlnb, Mmtna, Mmtnb, (show (cn_18) = (cn_8) from e9cn.symm), (show (fo_19) = (fo_9) from e9fo.symm), (show (wo_20) = (wo_10) from e9wo.symm), Cpn, Cpk, Cpf, Cpo, Cpd, Cpe, Cgn, Cgk, Cgs, Cgd, Cge, Can, Cak, Cah, Cay, Caz, Cun, Cuk, Cuy, Cuw, Cum, Clc, Clp, Cla, Clb, Caw, Ciw, Cln, Ctd⟩ hPm.comm hDm.comm hS hl

set_option maxHeartbeats 4000000 in
set_option maxRecDepth 100000 in
theorem law_case_11 {p : Program} {l : Launch} {e : Env} {s : State} {m : MethodId} {below : List Frame} {meth : Method} {c : Code} {D : va_G} {cI cY cJ cQ : ClassId} {b L aK aV : Nat} {xs : Nat → Int32} {ad rw md : Nat → Nat} {sd i : Int32} {nx : Nat → Int32} {fx rs : Nat → Nat → Int32} {lo : Nat → Int64} {ny : Nat → Int32} {fy : Nat → Nat → Int32} {fl : Nat → Int64} {H : Heap} {locs : List Loc} {ls : Array Slot} (C0 : lawC p s m meth c b L xs D cI cY cJ cQ aK aV) (I : inv nx fx ny fy) (hP : va_P D vwCl (wX ad rw sd cI cY cJ cQ nx fx rs lo ++ wM md sd cI cY cJ cQ ny fy fl) H) (hD : va_D (fun q : Nat => s.heap.size ≤ q) (wX ad rw sd cI cY cJ cQ nx fx rs lo ++ wM md sd cI cY cJ cQ ny fy fl)) (hS : va_S (fun q : Nat => s.heap.size ≤ q) s.heap H locs) (hl : lv_has ls 4 [(0, .ref b), (1, .ref (ad 0)), (2, .ref (md 64)), (3, .int i)]) (hi1 : 1 ≤ i.toInt) (hi2 : i.toInt + 5 < L) (kk : ∀ (nx : Nat → Int32) (fx rs : Nat → Nat → Int32) (lo : Nat → Int64) (ny : Nat → Int32) (fy : Nat → Nat → Int32) (fl : Nat → Int64) (H : Heap) (locs : List Loc) (ls : Array Slot), inv nx fx ny fy → va_P D vwCl (wX ad rw sd cI cY cJ cQ nx fx rs lo ++ wM md sd cI cY cJ cQ ny fy fl) H → va_D (fun q : Nat => s.heap.size ≤ q) (wX ad rw sd cI cY cJ cQ nx fx rs lo ++ wM md sd cI cY cJ cQ ny fy fl) → va_S (fun q : Nat => s.heap.size ≤ q) s.heap H locs → lv_has ls 4 [(0, .ref b), (1, .ref (ad 0)), (2, .ref (md 64)), (3, .int i)] → W p l e room_1 s m #[Value.ref b] below meth c H locs 107 4890 (lw_Z below #[Value.ref b] s) (F0 m 1652 ls [])) : W p l e room_1 s m #[Value.ref b] below meth c H locs 107 4890 (lw_Z below #[Value.ref b] s) (F0 m 651 ls []) := by
  obtain ⟨C1, hK, hN, hT, hL⟩ := C0
  obtain ⟨hx, hb, hr, hml, hown, hts0, hX, hbl, hlocks, hgv⟩ := C1
  have hA : ∀ q : Nat, s.heap.size ≤ q → (fun q : Nat => s.heap.size ≤ q) q := fun _ h => h
  have hbA : ¬ (fun q : Nat => s.heap.size ≤ q) b := Nat.not_le.mpr hbl
  have hts : ∀ w ∈ wsL_law, w.before #[Value.ref b] s = true := fun w h => hts0 w (wsL_law_in w h)
  replace hown : s.vm.findClass RL = some m.cls := hown
  replace hb : c.code = cL_law := hb
  obtain ⟨Xhna, Xhnb, XH, Xcna, Xcnb, Xpna, Xpnb, XO, Xgna, Xgnb, Xlna, Xlnb, Xdla, Xdlb, Xana, Xanb, Xuna, Xunb, Xlca, Xlcb, Xtna, Xtnb, XS, Mhna, Mhnb, MH, MS, Mmlna, Mmlnb, Mmtna, Mmtnb, Ccn, Cfo, Cwo, Cpn, Cpk, Cpf, Cpo, Cpd, Cpe, Cgn, Cgk, Cgs, Cgd, Cge, Can, Cak, Cah, Cay, Caz, Cun, Cuk, Cuy, Cuw, Cum, Clc, Clp, Cla, Clb, Caw, Ciw, Cln, Ctd⟩ := I
  have Tcn := i_eq Ccn
  have Tpn := i_eq Cpn
  have Tgn := i_eq Cgn
  have Tan := i_eq Can
  have Tun := i_eq Cun
  have Tlc := i_eq Clc
  have Tln := i_eq Cln
  have k1 : (1 : Int32).toInt = 1 := by decide
  have k2 : (2 : Int32).toInt = 2 := by decide
  have k3 : (3 : Int32).toInt = 3 := by decide
  have k4 : (4 : Int32).toInt = 4 := by decide
  have k5 : (5 : Int32).toInt = 5 := by decide
  obtain ⟨xk1, exk1⟩ : ∃ y : Int32, y = xs (i.toNatClampNeg + 1) := ⟨_, rfl⟩
  obtain ⟨xk2, exk2⟩ : ∃ y : Int32, y = xs (i.toNatClampNeg + 2) := ⟨_, rfl⟩
  obtain ⟨xk3, exk3⟩ : ∃ y : Int32, y = xs (i.toNatClampNeg + 3) := ⟨_, rfl⟩
  obtain ⟨xk4, exk4⟩ : ∃ y : Int32, y = xs (i.toNatClampNeg + 4) := ⟨_, rfl⟩
  obtain ⟨xk5, exk5⟩ : ∃ y : Int32, y = xs (i.toNatClampNeg + 5) := ⟨_, rfl⟩
  refine lv_aload_n hx hb dL_law_651 rfl (lv_at hl 1 rfl) ?_
  refine lv_aload_n hx hb dL_law_652 rfl (lv_at hl 0 rfl) ?_
  refine lv_iload_n hx hb dL_law_653 rfl (lv_at hl 3 rfl) ?_
  refine lv_iconst (v := 1) hx hb dL_law_654 (by decide) ?_
  refine lv_iadd hx hb dL_law_655 ?_
  refine lv_topi (fun v1 ev1 => ?_)
  try have tv1 : v1.toInt = i.toInt + 1 := by rw [ev1]; exact (i_add (x := i) (y := (1 : Int32)) (by rw [k1]; omega) (by rw [k1]; omega)).trans (by rw [k1])
  refine va_sld hx hb hX hbl hbA hS (i_in (by omega) (by omega)) dL_law_656 ?_
  refine lv_topi (fun a2 ea2 => ?_)
  replace ea2 : xk1 = a2 := (ea2.trans (by rw [exk1]; congr 1; have := i_cl (x := v1) (by omega); have := i_cl (x := i) (by omega); omega)).symm
  subst ea2
  refine lv_aload_n hx hb dL_law_657 rfl (lv_at hl 0 rfl) ?_
  refine lv_iload_n hx hb dL_law_658 rfl (lv_at hl 3 rfl) ?_
  refine lv_iconst (v := 2) hx hb dL_law_659 (by decide) ?_
  refine lv_iadd hx hb dL_law_660 ?_
  refine lv_topi (fun v3 ev3 => ?_)
  try have tv3 : v3.toInt = i.toInt + 2 := by rw [ev3]; exact (i_add (x := i) (y := (2 : Int32)) (by rw [k2]; omega) (by rw [k2]; omega)).trans (by rw [k2])
  refine va_sld hx hb hX hbl hbA hS (i_in (by omega) (by omega)) dL_law_661 ?_
  refine lv_topi (fun a4 ea4 => ?_)
  replace ea4 : xk2 = a4 := (ea4.trans (by rw [exk2]; congr 1; have := i_cl (x := v3) (by omega); have := i_cl (x := i) (by omega); omega)).symm
  subst ea4
  refine lv_aload_n hx hb dL_law_662 rfl (lv_at hl 0 rfl) ?_
  refine lv_iload_n hx hb dL_law_663 rfl (lv_at hl 3 rfl) ?_
  refine lv_iconst (v := 3) hx hb dL_law_664 (by decide) ?_
  refine lv_iadd hx hb dL_law_665 ?_
  refine lv_topi (fun v5 ev5 => ?_)
  try have tv5 : v5.toInt = i.toInt + 3 := by rw [ev5]; exact (i_add (x := i) (y := (3 : Int32)) (by rw [k3]; omega) (by rw [k3]; omega)).trans (by rw [k3])
  refine va_sld hx hb hX hbl hbA hS (i_in (by omega) (by omega)) dL_law_666 ?_
  refine lv_topi (fun a6 ea6 => ?_)
  replace ea6 : xk3 = a6 := (ea6.trans (by rw [exk3]; congr 1; have := i_cl (x := v5) (by omega); have := i_cl (x := i) (by omega); omega)).symm
  subst ea6
  refine lv_aload_n hx hb dL_law_667 rfl (lv_at hl 0 rfl) ?_
  refine lv_iload_n hx hb dL_law_668 rfl (lv_at hl 3 rfl) ?_
  refine lv_iconst (v := 4) hx hb dL_law_669 (by decide) ?_
  refine lv_iadd hx hb dL_law_670 ?_
  refine lv_topi (fun v7 ev7 => ?_)
  try have tv7 : v7.toInt = i.toInt + 4 := by rw [ev7]; exact (i_add (x := i) (y := (4 : Int32)) (by rw [k4]; omega) (by rw [k4]; omega)).trans (by rw [k4])
  refine va_sld hx hb hX hbl hbA hS (i_in (by omega) (by omega)) dL_law_671 ?_
  refine lv_topi (fun a8 ea8 => ?_)
  replace ea8 : xk4 = a8 := (ea8.trans (by rw [exk4]; congr 1; have := i_cl (x := v7) (by omega); have := i_cl (x := i) (by omega); omega)).symm
  subst ea8
  refine lv_aload_n hx hb dL_law_672 rfl (lv_at hl 0 rfl) ?_
  refine lv_iload_n hx hb dL_law_673 rfl (lv_at hl 3 rfl) ?_
  refine lv_iconst (v := 5) hx hb dL_law_674 (by decide) ?_
  refine lv_iadd hx hb dL_law_675 ?_
  refine lv_topi (fun v9 ev9 => ?_)
  try have tv9 : v9.toInt = i.toInt + 5 := by rw [ev9]; exact (i_add (x := i) (y := (5 : Int32)) (by rw [k5]; omega) (by rw [k5]; omega)).trans (by rw [k5])
  refine va_sld hx hb hX hbl hbA hS (i_in (by omega) (by omega)) dL_law_676 ?_
  refine lv_topi (fun a10 ea10 => ?_)
  replace ea10 : xk5 = a10 := (ea10.trans (by rw [exk5]; congr 1; have := i_cl (x := v9) (by omega); have := i_cl (x := i) (by omega); omega)).symm
  subst ea10
  refine st_iQ (wr := [((ad 11), .inl (cI, 16, .inl (fx 0))), ((rw 0), .inl (cI, 60, .inl (rs 0))), ((rw 1), .inl (cI, 60, .inl (rs 1))), ((rw 2), .inl (cI, 60, .inl (rs 2))), ((rw 3), .inl (cI, 60, .inl (rs 3))), ((rw 4), .inl (cI, 60, .inl (rs 4))), ((rw 5), .inl (cI, 60, .inl (rs 5))), ((rw 6), .inl (cI, 60, .inl (rs 6))), ((rw 7), .inl (cI, 60, .inl (rs 7))), ((ad 1), .inr (9, [.ref (ad 12), .ref (ad 13), .ref (ad 14)])), ((ad 12), .inl (cQ, 8, .inr (.inr (.inr (.inr (fun i => if i < 8 then some (rw i) else none)))))), ((ad 13), .inl (cI, 8, .inl (fx 1))), ((ad 14), .inl (cI, 8, .inl (fx 2))), ((ad 2), .inr (3, [.ref (ad 23), .ref (ad 24), .ref (ad 25), .ref (ad 26), .int (nx 3), .ref (ad 27), .ref (ad 28), .ref (ad 29), .ref (ad 30)])), ((ad 23), .inl (cI, 40, .inl (fx 3))), ((ad 24), .inl (cI, 40, .inl (fx 4))), ((ad 25), .inl (cI, 40, .inl (fx 5))), ((ad 26), .inl (cI, 40, .inl (fx 6))), ((ad 27), .inl (cI, 200, .inl (fx 7))), ((ad 28), .inl (cI, 200, .inl (fx 8))), ((ad 29), .inl (cI, 20, .inl (fx 9))), ((ad 30), .inl (cI, 10, .inl (fx 10))), ((ad 31), .inl (cI, 12, .inl (fx 11))), ((ad 32), .inl (cI, 12, .inl (fx 12))), ((ad 33), .inl (cI, 12, .inl (fx 13))), ((ad 34), .inl (cI, 6, .inl (fx 14))), ((ad 35), .inl (cI, 6, .inl (fx 15))), ((ad 5), .inr (8, [.ref (ad 42), .ref (ad 43), .ref (ad 44), .ref (ad 45), .int (nx 6), .ref (ad 46)])), ((ad 42), .inl (cI, 40, .inl (fx 22))), ((ad 43), .inl (cI, 40, .inl (fx 23))), ((ad 44), .inl (cI, 40, .inl (fx 24))), ((ad 45), .inl (cI, 40, .inl (fx 25))), ((ad 46), .inl (cI, 40, .inl (fx 26))), ((ad 6), .inr (2, [.ref (ad 47), .int (nx 7), .int (nx 8), .ref (ad 48), .ref (ad 49), .ref (ad 50), .int (nx 9), .ref (ad 51), .ref (ad 52), .ref (ad 53), .int (nx 10), .int (nx 11), .int (nx 12), .int (nx 13), .int (nx 14)])), ((ad 47), .inl (cY, 300, .inl (fx 27))), ((ad 48), .inl (cI, 12, .inl (fx 28))), ((ad 49), .inl (cI, 12, .inl (fx 29))), ((ad 50), .inl (cI, 12, .inl (fx 30))), ((ad 51), .inl (cI, 12, .inl (fx 31))), ((ad 52), .inl (cI, 12, .inl (fx 32))), ((ad 53), .inl (cI, 12, .inl (fx 33))), ((ad 7), .inr (0, [.ref (ad 54), .ref (ad 55), .ref (ad 56), .ref (ad 57), .int (nx 15)])), ((ad 54), .inl (cI, 60, .inl (fx 34))), ((ad 55), .inl (cI, 60, .inl (fx 35))), ((ad 56), .inl (cI, 60, .inl (fx 36))), ((ad 57), .inl (cI, 60, .inl (fx 37))), ((ad 8), .inr (5, [.int sd, .ref (ad 58)])), ((ad 58), .inl (cJ, 12, .inr (.inl lo))), ((ad 9), .inr (6, [.ref (ad 59), .ref (ad 60), .ref (ad 61), .ref (ad 62), .int (nx 16)])), ((ad 59), .inl (cI, 60, .inl (fx 38))), ((ad 60), .inl (cI, 60, .inl (fx 39))), ((ad 61), .inl (cI, 60, .inl (fx 40))), ((ad 62), .inl (cI, 60, .inl (fx 41))), ((ad 10), .inr (4, [.ref (ad 63), .ref (ad 64), .ref (ad 65), .int (nx 17)])), ((ad 63), .inl (cI, 20, .inl (fx 42))), ((ad 64), .inl (cI, 20, .inl (fx 43))), ((ad 65), .inl (cI, 20, .inl (fx 44)))]) (va_runV (C := RX10) (As := [.int xk1, .int xk2, .int xk3, .int xk4, .int xk5]) (rest := []) ⟨hx, hb, hml, hown, hts⟩ (ct_X10_paper l D cI cY cJ cQ _ ad (nx 0) (nx 1) (nx 2) (nx 4) (nx 5) (fx 16) (fx 17) (fx 18) (fx 19) (fx 20) (fx 21) xk1 xk2 xk3 xk4 xk5 (by omega) (by omega) (by assumption)) (cwV 5 hts gL_law_X10_paper rfl rfl rfl ⟨rfl, cdX10_paper⟩ ⟨Nat.le_of_ble_eq_true rfl, Nat.le_of_ble_eq_true rfl⟩) (cPreV (hP.sub [0, 23, 29, 30, 31, 32, 33, 34, 35] rfl) hK (hD.sub [0, 23, 29, 30, 31, 32, 33, 34, 35] (by decide +kernel) rfl) hN (ci := 10) (q0 := 0) rfl rfl) rfl rfl hl.1 rfl (lv_room (Nat.le_of_ble_eq_true rfl)) dL_law_677 ⟨Nat.le_of_ble_eq_true rfl, Nat.le_of_ble_eq_true rfl⟩) hP hD hS hA [0, 23, 29, 30, 31, 32, 33, 34, 35] [1, 2, 3, 4, 5, 6, 7, 8, 9, 10, 11, 12, 13, 14, 15, 16, 17, 18, 19, 20, 21, 22, 24, 25, 26, 27, 28, 36, 37, 38, 39, 40, 41, 42, 43, 44, 45, 46, 47, 48, 49, 50, 51, 52, 53, 54, 55, 56, 57, 58, 59, 60, 61, 62, 63, 64, 65] rfl rfl (by decide +kernel) (by decide +kernel) (fun r13 u11 H locs hw12 hP hD hS => ?_)
  obtain ⟨pn_14, pk_15, pf_16, po_17, pd_18, pe_19, pr_20⟩ := u11
  replace hw12 : (r13, pn_14, pk_15, pf_16, po_17, pd_18, pe_19) = sp_paper (nx 5) (fx 16) (fx 17) (fx 18) (fx 19) (fx 20) (nx 4) xk1 xk2 xk3 xk4 xk5 ∧ okO pn_14 pr_20 := hw12
  obtain ⟨hw12, hw12o⟩ := hw12
  obtain ⟨hw12a, hw12b⟩ := sp_paper_ok hw12 (by omega) (by omega)
  refine lv_pop hx hb dL_law_680 rfl ?_
  have hPx : va_P D vwCl (wX ad rw sd cI cY cJ cQ (upd nx 5 pn_14) (upR (upR (upR (upR (upR (upR fx 16 pk_15) 17 pf_16) 18 po_17) 19 pd_18) 20 pe_19) 21 pr_20) rs lo ++ wM md sd cI cY cJ cQ ny fy fl) H := hP.part [57, 0, 1, 2, 3, 4, 5, 6, 7, 8, 9, 10, 11, 12, 13, 14, 15, 16, 17, 18, 19, 20, 21, 58, 22, 23, 24, 25, 26, 59, 60, 61, 62, 63, 64, 65, 27, 28, 29, 30, 31, 32, 33, 34, 35, 36, 37, 38, 39, 40, 41, 42, 43, 44, 45, 46, 47, 48, 49, 50, 51, 52, 53, 54, 55, 56] rfl
  have hDx : va_D (fun q : Nat => s.heap.size ≤ q) (wX ad rw sd cI cY cJ cQ (upd nx 5 pn_14) (upR (upR (upR (upR (upR (upR fx 16 pk_15) 17 pf_16) 18 po_17) 19 pd_18) 20 pe_19) 21 pr_20) rs lo ++ wM md sd cI cY cJ cQ ny fy fl) := hD.part [57, 0, 1, 2, 3, 4, 5, 6, 7, 8, 9, 10, 11, 12, 13, 14, 15, 16, 17, 18, 19, 20, 21, 58, 22, 23, 24, 25, 26, 59, 60, 61, 62, 63, 64, 65, 27, 28, 29, 30, 31, 32, 33, 34, 35, 36, 37, 38, 39, 40, 41, 42, 43, 44, 45, 46, 47, 48, 49, 50, 51, 52, 53, 54, 55, 56] (by decide +kernel) rfl
  have hP := hPx.comm
  have hD := hDx.comm
  refine lv_aload_n hx hb dL_law_681 rfl (lv_at hl 2 rfl) ?_
  refine lv_aload_n hx hb dL_law_682 rfl (lv_at hl 0 rfl) ?_
  refine lv_iload_n hx hb dL_law_683 rfl (lv_at hl 3 rfl) ?_
  refine lv_iconst (v := 1) hx hb dL_law_684 (by decide) ?_
  refine lv_iadd hx hb dL_law_685 ?_
  refine lv_topi (fun v21 ev21 => ?_)
  try have tv21 : v21.toInt = i.toInt + 1 := by rw [ev21]; exact (i_add (x := i) (y := (1 : Int32)) (by rw [k1]; omega) (by rw [k1]; omega)).trans (by rw [k1])
  refine va_sld hx hb hX hbl hbA hS (i_in (by omega) (by omega)) dL_law_686 ?_
  refine lv_topi (fun a22 ea22 => ?_)
  replace ea22 : xk1 = a22 := (ea22.trans (by rw [exk1]; congr 1; have := i_cl (x := v21) (by omega); have := i_cl (x := i) (by omega); omega)).symm
  subst ea22
  refine lv_aload_n hx hb dL_law_687 rfl (lv_at hl 0 rfl) ?_
  refine lv_iload_n hx hb dL_law_688 rfl (lv_at hl 3 rfl) ?_
  refine lv_iconst (v := 2) hx hb dL_law_689 (by decide) ?_
  refine lv_iadd hx hb dL_law_690 ?_
  refine lv_topi (fun v23 ev23 => ?_)
  try have tv23 : v23.toInt = i.toInt + 2 := by rw [ev23]; exact (i_add (x := i) (y := (2 : Int32)) (by rw [k2]; omega) (by rw [k2]; omega)).trans (by rw [k2])
  refine va_sld hx hb hX hbl hbA hS (i_in (by omega) (by omega)) dL_law_691 ?_
  refine lv_topi (fun a24 ea24 => ?_)
  replace ea24 : xk2 = a24 := (ea24.trans (by rw [exk2]; congr 1; have := i_cl (x := v23) (by omega); have := i_cl (x := i) (by omega); omega)).symm
  subst ea24
  refine lv_aload_n hx hb dL_law_692 rfl (lv_at hl 0 rfl) ?_
  refine lv_iload_n hx hb dL_law_693 rfl (lv_at hl 3 rfl) ?_
  refine lv_iconst (v := 3) hx hb dL_law_694 (by decide) ?_
  refine lv_iadd hx hb dL_law_695 ?_
  refine lv_topi (fun v25 ev25 => ?_)
  try have tv25 : v25.toInt = i.toInt + 3 := by rw [ev25]; exact (i_add (x := i) (y := (3 : Int32)) (by rw [k3]; omega) (by rw [k3]; omega)).trans (by rw [k3])
  refine va_sld hx hb hX hbl hbA hS (i_in (by omega) (by omega)) dL_law_696 ?_
  refine lv_topi (fun a26 ea26 => ?_)
  replace ea26 : xk3 = a26 := (ea26.trans (by rw [exk3]; congr 1; have := i_cl (x := v25) (by omega); have := i_cl (x := i) (by omega); omega)).symm
  subst ea26
  refine lv_aload_n hx hb dL_law_697 rfl (lv_at hl 0 rfl) ?_
  refine lv_iload_n hx hb dL_law_698 rfl (lv_at hl 3 rfl) ?_
  refine lv_iconst (v := 4) hx hb dL_law_699 (by decide) ?_
  refine lv_iadd hx hb dL_law_700 ?_
  refine lv_topi (fun v27 ev27 => ?_)
  try have tv27 : v27.toInt = i.toInt + 4 := by rw [ev27]; exact (i_add (x := i) (y := (4 : Int32)) (by rw [k4]; omega) (by rw [k4]; omega)).trans (by rw [k4])
  refine va_sld hx hb hX hbl hbA hS (i_in (by omega) (by omega)) dL_law_701 ?_
  refine lv_topi (fun a28 ea28 => ?_)
  replace ea28 : xk4 = a28 := (ea28.trans (by rw [exk4]; congr 1; have := i_cl (x := v27) (by omega); have := i_cl (x := i) (by omega); omega)).symm
  subst ea28
  refine lv_aload_n hx hb dL_law_702 rfl (lv_at hl 0 rfl) ?_
  refine lv_iload_n hx hb dL_law_703 rfl (lv_at hl 3 rfl) ?_
  refine lv_iconst (v := 5) hx hb dL_law_704 (by decide) ?_
  refine lv_iadd hx hb dL_law_705 ?_
  refine lv_topi (fun v29 ev29 => ?_)
  try have tv29 : v29.toInt = i.toInt + 5 := by rw [ev29]; exact (i_add (x := i) (y := (5 : Int32)) (by rw [k5]; omega) (by rw [k5]; omega)).trans (by rw [k5])
  refine va_sld hx hb hX hbl hbA hS (i_in (by omega) (by omega)) dL_law_706 ?_
  refine lv_topi (fun a30 ea30 => ?_)
  replace ea30 : xk5 = a30 := (ea30.trans (by rw [exk5]; congr 1; have := i_cl (x := v29) (by omega); have := i_cl (x := i) (by omega); omega)).symm
  subst ea30
  refine st_iQ (wr := [((md 3), .inl (cI, 8, .inl (fy 0))), ((md 4), .inl (cI, 8, .inl (fy 1))), ((md 5), .inl (cI, 480, .inl (fy 2))), ((md 7), .inl (cI, 40, .inl (fy 3))), ((md 8), .inl (cI, 40, .inl (fy 4))), ((md 9), .inl (cI, 40, .inl (fy 5))), ((md 10), .inl (cI, 40, .inl (fy 6))), ((md 11), .inl (cI, 200, .inl (fy 7))), ((md 12), .inl (cI, 12, .inl (fy 8))), ((md 13), .inl (cI, 12, .inl (fy 9))), ((md 14), .inl (cJ, 12, .inr (.inl fl))), ((md 16), .inl (cI, 12, .inl (fy 10))), ((md 17), .inl (cI, 12, .inl (fy 11))), ((md 26), .inl (cI, 40, .inl (fy 17))), ((md 27), .inl (cI, 40, .inl (fy 18))), ((md 28), .inl (cI, 40, .inl (fy 19))), ((md 29), .inl (cI, 40, .inl (fy 20))), ((md 31), .inl (cI, 36, .inl (fy 21))), ((md 33), .inl (cI, 36, .inl (fy 22))), ((md 34), .inl (cI, 300, .inl (fy 23))), ((md 45), .inl (cI, 60, .inl (fy 24))), ((md 46), .inl (cI, 60, .inl (fy 25))), ((md 47), .inl (cI, 60, .inl (fy 26))), ((md 48), .inl (cI, 60, .inl (fy 27))), ((md 49), .inl (cI, 6, .inl (fy 28))), ((md 50), .inl (cI, 6, .inl (fy 29))), ((md 51), .inl (cI, 12, .inl (fy 30))), ((md 53), .inl (cI, 60, .inl (fy 31))), ((md 54), .inl (cI, 60, .inl (fy 32))), ((md 55), .inl (cI, 60, .inl (fy 33))), ((md 56), .inl (cI, 60, .inl (fy 34))), ((md 58), .inl (cI, 20, .inl (fy 35))), ((md 59), .inl (cI, 20, .inl (fy 36))), ((md 60), .inl (cI, 20, .inl (fy 37))), ((md 62), .inl (cI, 16, .inl (fy 38)))]) (va_runV (C := RX11) (As := [.int xk1, .int xk2, .int xk3, .int xk4, .int xk5]) (rest := []) ⟨hx, hb, hml, hown, hts⟩ (ct_X11_paper l D cI cY cJ cQ _ md sd (ny 0) (ny 1) (ny 2) (ny 3) (ny 4) (ny 5) (ny 6) (ny 7) (ny 8) (ny 9) (ny 10) (ny 11) (ny 12) (ny 13) (ny 14) (ny 15) (ny 16) (ny 17) (ny 18) (ny 19) (ny 20) (ny 21) (ny 22) (fy 12) (fy 13) (fy 14) (fy 15) (fy 16) xk1 xk2 xk3 xk4 xk5 (by omega) (by omega) (by omega) (by omega)) (cwV 5 hts gL_law_X11_paper rfl rfl rfl ⟨rfl, cdX11_paper⟩ ⟨Nat.le_of_ble_eq_true rfl, Nat.le_of_ble_eq_true rfl⟩) (cPreV (hP.sub [0, 14, 15, 16, 17, 18] rfl) hK (hD.sub [0, 14, 15, 16, 17, 18] (by decide +kernel) rfl) hN (ci := 11) (q0 := 0) rfl rfl) rfl rfl hl.1 rfl (lv_room (Nat.le_of_ble_eq_true rfl)) dL_law_707 ⟨Nat.le_of_ble_eq_true rfl, Nat.le_of_ble_eq_true rfl⟩) hP hD hS hA [0, 14, 15, 16, 17, 18] [1, 2, 3, 4, 5, 6, 7, 8, 9, 10, 11, 12, 13, 19, 20, 21, 22, 23, 24, 25, 26, 27, 28, 29, 30, 31, 32, 33, 34, 35, 36, 37, 38, 39, 40] rfl rfl (by decide +kernel) (by decide +kernel) (fun r33 u31 H locs hw32 hP hD hS => ?_)
  obtain ⟨pn_34, pk_35, pf_36, po_37, pd_38, pe_39⟩ := u31
  replace hw32 : (r33, (pn_34, pk_35, pf_36, po_37, pd_38, pe_39)) = sp_paper (ny 4) (fy 12) (fy 13) (fy 14) (fy 15) (fy 16) (ny 3) xk1 xk2 xk3 xk4 xk5 := hw32
  rw [Cpn, Cpk, Cpf, Cpo, Cpd, Cpe, Ccn] at hw32
  have e9 := hw12.trans hw32.symm
  simp only [Prod.mk.injEq] at e9
  obtain ⟨e90, e9pn, e9pk, e9pf, e9po, e9pd, e9pe⟩ := e9
  refine lv_pop hx hb dL_law_710 rfl ?_
  refine lv_goto (tgt := 1652) hx hb dL_law_711 (by decide) ?_
  have hPm : va_P D vwCl (wM md sd cI cY cJ cQ (upd (upd ny 0 0) 4 pn_34) (upR (upR (upR (upR (upR fy 12 pk_35) 13 pf_36) 14 po_37) 15 pd_38) 16 pe_39) fl ++ wX ad rw sd cI cY cJ cQ (upd nx 5 pn_14) (upR (upR (upR (upR (upR (upR fx 16 pk_15) 17 pf_16) 18 po_17) 19 pd_18) 20 pe_19) 21 pr_20) rs lo) H := hP.part [35, 0, 1, 2, 3, 4, 5, 6, 7, 8, 9, 10, 11, 12, 36, 37, 38, 39, 40, 13, 14, 15, 16, 17, 18, 19, 20, 21, 22, 23, 24, 25, 26, 27, 28, 29, 30, 31, 32, 33, 34] rfl
  have hDm : va_D (fun q : Nat => s.heap.size ≤ q) (wM md sd cI cY cJ cQ (upd (upd ny 0 0) 4 pn_34) (upR (upR (upR (upR (upR fy 12 pk_35) 13 pf_36) 14 po_37) 15 pd_38) 16 pe_39) fl ++ wX ad rw sd cI cY cJ cQ (upd nx 5 pn_14) (upR (upR (upR (upR (upR (upR fx 16 pk_15) 17 pf_16) 18 po_17) 19 pd_18) 20 pe_19) 21 pr_20) rs lo) := hD.part [35, 0, 1, 2, 3, 4, 5, 6, 7, 8, 9, 10, 11, 12, 36, 37, 38, 39, 40, 13, 14, 15, 16, 17, 18, 19, 20, 21, 22, 23, 24, 25, 26, 27, 28, 29, 30, 31, 32, 33, 34] (by decide +kernel) rfl
  exact kk (upd nx 5 pn_14) (upR (upR (upR (upR (upR (upR fx 16 pk_15) 17 pf_16) 18 po_17) 19 pd_18) 20 pe_19) 21 pr_20) rs lo (upd (upd ny 0 0) 4 pn_34) (upR (upR (upR (upR (upR fy 12 pk_35) 13 pf_36) 14 po_37) 15 pd_38) 16 pe_39) fl H locs ls ⟨Xhna, Xhnb, XH, Xcna, Xcnb, (by show 0 ≤ (pn_14).toInt; omega), (by show (pn_14).toInt ≤ 40; omega), (show okO (pn_14) (pr_20) by assumption), Xgna, Xgnb, Xlna, Xlnb, Xdla, Xdlb, Xana, Xanb, Xuna, Xunb, Xlca, Xlcb, Xtna, Xtnb, XS, Mhna, Mhnb, MH, MS, Mmlna, Mmlnb, Mmtna, Mmtnb, Ccn, Cfo, Cwo, (show (pn_34) = (pn_14) from e9pn.symm), (show (pk_35) = (pk_15) from e9pk.symm), (show (pf_36) = (pf_16) from e9pf.symm), (show (po_37) = (po_17) from e9po.symm), (show (pd_38) = (pd_18) from e9pd.symm), (show (pe_39) = (pe_19) from e9pe.symm), Cgn, Cgk, Cgs, Cgd, Cge, Can, Cak, Cah, Cay, Caz, Cun, Cuk, Cuy, Cuw, Cum, Clc, Clp, Cla, Clb, Caw, Ciw, Cln, Ctd⟩ hPm.comm hDm.comm hS hl
