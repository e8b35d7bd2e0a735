theorem cdX10_truly : yX10_truly.cls ≠ "java/lang/invoke/MethodHandle" ∧ yX10_truly.cls ≠ "java/lang/invoke/VarHandle" ∧ (parseMethodDescriptor yX10_truly.desc).map (fun d => d.parameters.length) = some 2 := by decide +kernel
theorem cdX10_rings : yX10_rings.cls ≠ "java/lang/invoke/MethodHandle" ∧ yX10_rings.cls ≠ "java/lang/invoke/VarHandle" ∧ (parseMethodDescriptor yX10_rings.desc).map (fun d => d.parameters.length) = some 1 := by decide +kernel
theorem cdX10_crate : yX10_crate.cls ≠ "java/lang/invoke/MethodHandle" ∧ yX10_crate.cls ≠ "java/lang/invoke/VarHandle" ∧ (parseMethodDescriptor yX10_crate.desc).map (fun d => d.parameters.length) = some 2 := by decide +kernel
theorem cdX10_paper : yX10_paper.cls ≠ "java/lang/invoke/MethodHandle" ∧ yX10_paper.cls ≠ "java/lang/invoke/VarHandle" ∧ (parseMethodDescriptor yX10_paper.desc).map (fun d => d.parameters.length) = some 5 := by decide +kernel
theorem cdX11_truly : yX11_truly.cls ≠ "java/lang/invoke/MethodHandle" ∧ yX11_truly.cls ≠ "java/lang/invoke/VarHandle" ∧ (parseMethodDescriptor yX11_truly.desc).map (fun d => d.parameters.length) = some 2 := by decide +kernel
theorem cdX11_rings : yX11_rings.cls ≠ "java/lang/invoke/MethodHandle" ∧ yX11_rings.cls ≠ "java/lang/invoke/VarHandle" ∧ (parseMethodDescriptor yX11_rings.desc).map (fun d => d.parameters.length) = some 1 := by decide +kernel
theorem cdX11_crate : yX11_crate.cls ≠ "java/lang/invoke/MethodHandle" ∧ yX11_crate.cls ≠ "java/lang/invoke/VarHandle" ∧ (parseMethodDescriptor yX11_crate.desc).map (fun d => d.parameters.length) = some 2 := by decide +kernel
theorem cdX11_paper : yX11_paper.cls ≠ "java/lang/invoke/MethodHandle" ∧ yX11_paper.cls ≠ "java/lang/invoke/VarHandle" ∧ (parseMethodDescriptor yX11_paper.desc).map (fun d => d.parameters.length) = some 5 := by decide +kernel
theorem Gd_X10_truly : gdA wsX10_truly := gd_cons (by decide +kernel) (gd_app (gd_all (ws := wsX10_truly_o1) (by decide +kernel)) (gd_app (gd_app (gd_app Gd_X100 Gd_X30) Gd_X10_isOwner) (gd_app (gd_app Gd_X10_isDay Gd_X3_lookAt) Gd_X3_shareOf)))
theorem Gd_X10_rings : gdA wsX10_rings := gd_cons (by decide +kernel) (gd_app (gd_all (ws := wsX10_rings_o1) (by decide +kernel)) (gd_app (gd_app (gd_app Gd_X100 Gd_X30) Gd_X10_isDay) (gd_app Gd_X3_lookAt Gd_X10_hasBit)))
theorem Gd_X10_crate : gdA wsX10_crate := gd_cons (by decide +kernel) (gd_app (gd_all (ws := wsX10_crate_o1) (by decide +kernel)) (gd_app (gd_app (gd_app Gd_X100 Gd_X10) Gd_X10_isOwner) (gd_app Gd_X10_isFrom Gd_X1_tell)))
theorem Gd_X10_paper : gdA wsX10_paper := gd_cons (by decide +kernel) (gd_app (gd_all (ws := wsX10_paper_o1) (by decide +kernel)) (gd_app (gd_app (gd_app Gd_X100 Gd_X70) (gd_app Gd_X10 Gd_X10_isCrate)) (gd_app (gd_app Gd_X10_isOwner Gd_X10_areDays) Gd_X7_tell)))
theorem Gd_X11_truly : gdA wsX11_truly := gd_cons (by decide +kernel) (gd_app (gd_all (ws := wsX11_truly_o1) (by decide +kernel)) (gd_app (gd_app Gd_X110 Gd_X11_isOwner) (gd_app Gd_X11_isDay Gd_X11_shareOf)))
theorem Gd_X11_rings : gdA wsX11_rings := gd_cons (by decide +kernel) (gd_app (gd_all (ws := wsX11_rings_o1) (by decide +kernel)) (gd_app (gd_app Gd_X110 Gd_X11_isDay) Gd_X11_findHas))
theorem Gd_X11_crate : gdA wsX11_crate := gd_cons (by decide +kernel) (gd_app (gd_all (ws := wsX11_crate_o1) (by decide +kernel)) (gd_app (gd_app Gd_X110 Gd_X11_isOwner) Gd_X11_in))
theorem Gd_X11_paper : gdA wsX11_paper := gd_cons (by decide +kernel) (gd_app (gd_all (ws := wsX11_paper_o1) (by decide +kernel)) (gd_app (gd_app (gd_app Gd_X110 Gd_X11_isCrate) Gd_X11_isOwner) (gd_app Gd_X11_isDay Gd_X11_in)))
theorem ggL_law_X10_truly : GoodIn wsL_law wsX10_truly := goodIn_s (fun _ h => (wm_r (wm_l (wm_r (wm_l (wm_r (wm_l (wm_r h)))))))) Gd_X10_truly
theorem gL_law_X10_truly : GoodIn wsL_law (wsV RL 57 RX10 yX10_truly wsX10_truly) := goodIn_V (own := RL) (idx := 57) (C := RX10) (y := yX10_truly) (wm_l (wm_l (wm_l (wm_r (wm_i 13 rfl))))) (wm_l (wm_l (wm_l (wm_r (wm_i 14 rfl))))) (wm_l (wm_l (wm_l (wm_r (wm_i 15 rfl))))) (wm_l (wm_l (wm_l (wm_l (wm_l (wm_i 2 rfl)))))) ggL_law_X10_truly
theorem ggL_law_X11_truly : GoodIn wsL_law wsX11_truly := goodIn_s (fun _ h => (wm_r (wm_l (wm_r (wm_l (wm_r (wm_r (wm_l (wm_l h))))))))) Gd_X11_truly
theorem gL_law_X11_truly : GoodIn wsL_law (wsV RL 61 RX11 yX11_truly wsX11_truly) := goodIn_V (own := RL) (idx := 61) (C := RX11) (y := yX11_truly) (wm_l (wm_l (wm_l (wm_r (wm_i 16 rfl))))) (wm_l (wm_l (wm_l (wm_r (wm_i 17 rfl))))) (wm_l (wm_l (wm_l (wm_r (wm_i 18 rfl))))) (wm_l (wm_l (wm_l (wm_l (wm_l (wm_i 5 rfl)))))) ggL_law_X11_truly
theorem ggL_law_X10_rings : GoodIn wsL_law wsX10_rings := goodIn_s (fun _ h => (wm_r (wm_l (wm_r (wm_l (wm_r (wm_r (wm_l (wm_r h))))))))) Gd_X10_rings
theorem gL_law_X10_rings : GoodIn wsL_law (wsV RL 62 RX10 yX10_rings wsX10_rings) := goodIn_V (own := RL) (idx := 62) (C := RX10) (y := yX10_rings) (wm_l (wm_l (wm_l (wm_r (wm_i 19 rfl))))) (wm_l (wm_l (wm_l (wm_r (wm_i 20 rfl))))) (wm_l (wm_l (wm_l (wm_r (wm_i 21 rfl))))) (wm_l (wm_l (wm_l (wm_l (wm_l (wm_i 2 rfl)))))) ggL_law_X10_rings
theorem ggL_law_X11_rings : GoodIn wsL_law wsX11_rings := goodIn_s (fun _ h => (wm_r (wm_l (wm_r (wm_l (wm_r (wm_r (wm_r h)))))))) Gd_X11_rings
theorem gL_law_X11_rings : GoodIn wsL_law (wsV RL 65 RX11 yX11_rings wsX11_rings) := goodIn_V (own := RL) (idx := 65) (C := RX11) (y := yX11_rings) (wm_l (wm_l (wm_l (wm_r (wm_i 22 rfl))))) (wm_l (wm_l (wm_l (wm_r (wm_i 23 rfl))))) (wm_l (wm_l (wm_r (wm_l (wm_l (wm_i 0 rfl)))))) (wm_l (wm_l (wm_l (wm_l (wm_l (wm_i 5 rfl)))))) ggL_law_X11_rings
theorem ggL_law_X10_crate : GoodIn wsL_law wsX10_crate := goodIn_s (fun _ h => (wm_r (wm_l (wm_r (wm_r (wm_l (wm_l (wm_l (wm_l h))))))))) Gd_X10_crate
theorem gL_law_X10_crate : GoodIn wsL_law (wsV RL 66 RX10 yX10_crate wsX10_crate) := goodIn_V (own := RL) (idx := 66) (C := RX10) (y := yX10_crate) (wm_l (wm_l (wm_r (wm_l (wm_l (wm_i 1 rfl)))))) (wm_l (wm_l (wm_r (wm_l (wm_l (wm_i 2 rfl)))))) (wm_l (wm_l (wm_r (wm_l (wm_l (wm_i 3 rfl)))))) (wm_l (wm_l (wm_l (wm_l (wm_l (wm_i 2 rfl)))))) ggL_law_X10_crate
theorem ggL_law_X11_crate : GoodIn wsL_law wsX11_crate := goodIn_s (fun _ h => (wm_r (wm_l (wm_r (wm_r (wm_l (wm_l (wm_l (wm_r h))))))))) Gd_X11_crate
theorem gL_law_X11_crate : GoodIn wsL_law (wsV RL 69 RX11 yX11_crate wsX11_crate) := goodIn_V (own := RL) (idx := 69) (C := RX11) (y := yX11_crate) (wm_l (wm_l (wm_r (wm_l (wm_l (wm_i 4 rfl)))))) (wm_l (wm_l (wm_r (wm_l (wm_l (wm_i 5 rfl)))))) (wm_l (wm_l (wm_r (wm_l (wm_l (wm_i 6 rfl)))))) (wm_l (wm_l (wm_l (wm_l (wm_l (wm_i 5 rfl)))))) ggL_law_X11_crate
theorem ggL_law_X10_paper : GoodIn wsL_law wsX10_paper := goodIn_s (fun _ h => (wm_r (wm_l (wm_r (wm_r (wm_l (wm_l (wm_r h)))))))) Gd_X10_paper
theorem gL_law_X10_paper : GoodIn wsL_law (wsV RL 70 RX10 yX10_paper wsX10_paper) := goodIn_V (own := RL) (idx := 70) (C := RX10) (y := yX10_paper) (wm_l (wm_l (wm_r (wm_l (wm_l (wm_i 7 rfl)))))) (wm_l (wm_l (wm_r (wm_l (wm_l (wm_i 8 rfl)))))) (wm_l (wm_l (wm_r (wm_l (wm_l (wm_i 9 rfl)))))) (wm_l (wm_l (wm_l (wm_l (wm_l (wm_i 2 rfl)))))) ggL_law_X10_paper
theorem ggL_law_X11_paper : GoodIn wsL_law wsX11_paper := goodIn_s (fun _ h => (wm_r (wm_l (wm_r (wm_r (wm_l (wm_r (wm_l (wm_l h))))))))) Gd_X11_paper
theorem gL_law_X11_paper : GoodIn wsL_law (wsV RL 73 RX11 yX11_paper wsX11_paper) := goodIn_V (own := RL) (idx := 73) (C := RX11) (y := yX11_paper) (wm_l (wm_l (wm_r (wm_l (wm_l (wm_i 10 rfl)))))) (wm_l (wm_l (wm_r (wm_l (wm_l (wm_i 11 rfl)))))) (wm_l (wm_l (wm_r (wm_l (wm_l (wm_i 12 rfl)))))) (wm_l (wm_l (wm_l (wm_l (wm_l (wm_i 5 rfl)))))) ggL_law_X11_paper
theorem sB_24 : dqA cL_law 576 sL_24 := dq_next sB_23 24 rfl
theorem sB_25 : dqA cL_law 600 sL_25 := dq_next sB_24 24 rfl
theorem sB_26 : dqA cL_law 624 sL_26 := dq_next sB_25 24 rfl
theorem sB_27 : dqA cL_law 648 sL_27 := dq_next sB_26 24 rfl
theorem sB_28 : dqA cL_law 672 sL_28 := dq_next sB_27 24 rfl
theorem sB_29 : dqA cL_law 696 sL_29 := dq_next sB_28 24 rfl
theorem dL_law_562 : decode cL_law 562 = .ok (.aload_n 1, 1) := dL_law_all27.2.2.2.2.2.2.2.2.2.2.1
theorem dL_law_563 : decode cL_law 563 = .ok (.aload_n 0, 1) := dL_law_all27.2.2.2.2.2.2.2.2.2.2.2
theorem dL_law_all28 : decode cL_law 564 = .ok (.iload_n 3, 1) ∧ decode cL_law 565 = .ok (.iconst 1, 1) ∧ decode cL_law 566 = .ok (.iadd, 1) ∧ decode cL_law 567 = .ok (.iaload, 1) ∧ decode cL_law 568 = .ok (.aload_n 0, 1) ∧ decode cL_law 569 = .ok (.iload_n 3, 1) ∧ decode cL_law 570 = .ok (.iconst 2, 1) ∧ decode cL_law 571 = .ok (.iadd, 1) ∧ decode cL_law 572 = .ok (.iaload, 1) ∧ decode cL_law 573 = .ok (.invokevirtual 57, 3) ∧ decode cL_law 576 = .ok (.pop, 1) ∧ decode cL_law 577 = .ok (.aload_n 2, 1) := ⟨dq_29 sB_23 12 rfl, dq_4 sB_23 13 rfl, dq_96 sB_23 14 rfl, dq_46 sB_23 15 rfl, dq_42 sB_23 16 rfl, dq_29 sB_23 17 rfl, dq_5 sB_23 18 rfl, dq_96 sB_23 19 rfl, dq_46 sB_23 20 rfl, dq_182 sB_23 21 rfl 57 (by decide), dq_87 sB_24 0 rfl, dq_44 sB_24 1 rfl⟩
theorem dL_law_564 : decode cL_law 564 = .ok (.iload_n 3, 1) := dL_law_all28.1
theorem dL_law_565 : decode cL_law 565 = .ok (.iconst 1, 1) := dL_law_all28.2.1
theorem dL_law_566 : decode cL_law 566 = .ok (.iadd, 1) := dL_law_all28.2.2.1
theorem dL_law_567 : decode cL_law 567 = .ok (.iaload, 1) := dL_law_all28.2.2.2.1
theorem dL_law_568 : decode cL_law 568 = .ok (.aload_n 0, 1) := dL_law_all28.2.2.2.2.1
theorem dL_law_569 : decode cL_law 569 = .ok (.iload_n 3, 1) := dL_law_all28.2.2.2.2.2.1
theorem dL_law_570 : decode cL_law 570 = .ok (.iconst 2, 1) := dL_law_all28.2.2.2.2.2.2.1
theorem dL_law_571 : decode cL_law 571 = .ok (.iadd, 1) := dL_law_all28.2.2.2.2.2.2.2.1
theorem dL_law_572 : decode cL_law 572 = .ok (.iaload, 1) := dL_law_all28.2.2.2.2.2.2.2.2.1
theorem dL_law_573 : decode cL_law 573 = .ok (.invokevirtual 57, 3) := dL_law_all28.2.2.2.2.2.2.2.2.2.1
theorem dL_law_576 : decode cL_law 576 = .ok (.pop, 1) := dL_law_all28.2.2.2.2.2.2.2.2.2.2.1
theorem dL_law_577 : decode cL_law 577 = .ok (.aload_n 2, 1) := dL_law_all28.2.2.2.2.2.2.2.2.2.2.2
theorem dL_law_all29 : decode cL_law 578 = .ok (.aload_n 0, 1) ∧ decode cL_law 579 = .ok (.iload_n 3, 1) ∧ decode cL_law 580 = .ok (.iconst 1, 1) ∧ decode cL_law 581 = .ok (.iadd, 1) ∧ decode cL_law 582 = .ok (.iaload, 1) ∧ decode cL_law 583 = .ok (.aload_n 0, 1) ∧ decode cL_law 584 = .ok (.iload_n 3, 1) ∧ decode cL_law 585 = .ok (.iconst 2, 1) ∧ decode cL_law 586 = .ok (.iadd, 1) ∧ decode cL_law 587 = .ok (.iaload, 1) ∧ decode cL_law 588 = .ok (.invokevirtual 61, 3) ∧ decode cL_law 591 = .ok (.pop, 1) := ⟨dq_42 sB_24 2 rfl, dq_29 sB_24 3 rfl, dq_4 sB_24 4 rfl, dq_96 sB_24 5 rfl, dq_46 sB_24 6 rfl, dq_42 sB_24 7 rfl, dq_29 sB_24 8 rfl, dq_5 sB_24 9 rfl, dq_96 sB_24 10 rfl, dq_46 sB_24 11 rfl, dq_182 sB_24 12 rfl 61 (by decide), dq_87 sB_24 15 rfl⟩
theorem dL_law_578 : decode cL_law 578 = .ok (.aload_n 0, 1) := dL_law_all29.1
theorem dL_law_579 : decode cL_law 579 = .ok (.iload_n 3, 1) := dL_law_all29.2.1
theorem dL_law_580 : decode cL_law 580 = .ok (.iconst 1, 1) := dL_law_all29.2.2.1
theorem dL_law_581 : decode cL_law 581 = .ok (.iadd, 1) := dL_law_all29.2.2.2.1
theorem dL_law_582 : decode cL_law 582 = .ok (.iaload, 1) := dL_law_all29.2.2.2.2.1
theorem dL_law_583 : decode cL_law 583 = .ok (.aload_n 0, 1) := dL_law_all29.2.2.2.2.2.1
theorem dL_law_584 : decode cL_law 584 = .ok (.iload_n 3, 1) := dL_law_all29.2.2.2.2.2.2.1
theorem dL_law_585 : decode cL_law 585 = .ok (.iconst 2, 1) := dL_law_all29.2.2.2.2.2.2.2.1
theorem dL_law_586 : decode cL_law 586 = .ok (.iadd, 1) := dL_law_all29.2.2.2.2.2.2.2.2.1
theorem dL_law_587 : decode cL_law 587 = .ok (.iaload, 1) := dL_law_all29.2.2.2.2.2.2.2.2.2.1
theorem dL_law_588 : decode cL_law 588 = .ok (.invokevirtual 61, 3) := dL_law_all29.2.2.2.2.2.2.2.2.2.2.1
theorem dL_law_591 : decode cL_law 591 = .ok (.pop, 1) := dL_law_all29.2.2.2.2.2.2.2.2.2.2.2
theorem dL_law_all30 : decode cL_law 592 = .ok (.goto 1060, 3) ∧ decode cL_law 595 = .ok (.aload_n 1, 1) ∧ decode cL_law 596 = .ok (.aload_n 0, 1) ∧ decode cL_law 597 = .ok (.iload_n 3, 1) ∧ decode cL_law 598 = .ok (.iconst 1, 1) ∧ decode cL_law 599 = .ok (.iadd, 1) ∧ decode cL_law 600 = .ok (.iaload, 1) ∧ decode cL_law 601 = .ok (.invokevirtual 62, 3) ∧ decode cL_law 604 = .ok (.pop, 1) ∧ decode cL_law 605 = .ok (.aload_n 2, 1) ∧ decode cL_law 606 = .ok (.aload_n 0, 1) ∧ decode cL_law 607 = .ok (.iload_n 3, 1) := ⟨dq_167 sB_24 16 rfl 1060 (by decide), dq_43 sB_24 19 rfl, dq_42 sB_24 20 rfl, dq_29 sB_24 21 rfl, dq_4 sB_24 22 rfl, dq_96 sB_24 23 rfl, dq_46 sB_25 0 rfl, dq_182 sB_25 1 rfl 62 (by decide), dq_87 sB_25 4 rfl, dq_44 sB_25 5 rfl, dq_42 sB_25 6 rfl, dq_29 sB_25 7 rfl⟩
theorem dL_law_592 : decode cL_law 592 = .ok (.goto 1060, 3) := dL_law_all30.1
theorem dL_law_595 : decode cL_law 595 = .ok (.aload_n 1, 1) := dL_law_all30.2.1
theorem dL_law_596 : decode cL_law 596 = .ok (.aload_n 0, 1) := dL_law_all30.2.2.1
theorem dL_law_597 : decode cL_law 597 = .ok (.iload_n 3, 1) := dL_law_all30.2.2.2.1
theorem dL_law_598 : decode cL_law 598 = .ok (.iconst 1, 1) := dL_law_all30.2.2.2.2.1
theorem dL_law_599 : decode cL_law 599 = .ok (.iadd, 1) := dL_law_all30.2.2.2.2.2.1
theorem dL_law_600 : decode cL_law 600 = .ok (.iaload, 1) := dL_law_all30.2.2.2.2.2.2.1
theorem dL_law_601 : decode cL_law 601 = .ok (.invokevirtual 62, 3) := dL_law_all30.2.2.2.2.2.2.2.1
theorem dL_law_604 : decode cL_law 604 = .ok (.pop, 1) := dL_law_all30.2.2.2.2.2.2.2.2.1
theorem dL_law_605 : decode cL_law 605 = .ok (.aload_n 2, 1) := dL_law_all30.2.2.2.2.2.2.2.2.2.1
theorem dL_law_606 : decode cL_law 606 = .ok (.aload_n 0, 1) := dL_law_all30.2.2.2.2.2.2.2.2.2.2.1
theorem dL_law_607 : decode cL_law 607 = .ok (.iload_n 3, 1) := dL_law_all30.2.2.2.2.2.2.2.2.2.2.2
theorem dL_law_all31 : decode cL_law 608 = .ok (.iconst 1, 1) ∧ decode cL_law 609 = .ok (.iadd, 1) ∧ decode cL_law 610 = .ok (.iaload, 1) ∧ decode cL_law 611 = .ok (.invokevirtual 65, 3) ∧ decode cL_law 614 = .ok (.pop, 1) ∧ decode cL_law 615 = .ok (.goto 1037, 3) ∧ decode cL_law 618 = .ok (.aload_n 1, 1) ∧ decode cL_law 619 = .ok (.aload_n 0, 1) ∧ decode cL_law 620 = .ok (.iload_n 3, 1) ∧ decode cL_law 621 = .ok (.iconst 1, 1) ∧ decode cL_law 622 = .ok (.iadd, 1) ∧ decode cL_law 623 = .ok (.iaload, 1) := ⟨dq_4 sB_25 8 rfl, dq_96 sB_25 9 rfl, dq_46 sB_25 10 rfl, dq_182 sB_25 11 rfl 65 (by decide), dq_87 sB_25 14 rfl, dq_167 sB_25 15 rfl 1037 (by decide), dq_43 sB_25 18 rfl, dq_42 sB_25 19 rfl, dq_29 sB_25 20 rfl, dq_4 sB_25 21 rfl, dq_96 sB_25 22 rfl, dq_46 sB_25 23 rfl⟩
theorem dL_law_608 : decode cL_law 608 = .ok (.iconst 1, 1) := dL_law_all31.1
theorem dL_law_609 : decode cL_law 609 = .ok (.iadd, 1) := dL_law_all31.2.1
theorem dL_law_610 : decode cL_law 610 = .ok (.iaload, 1) := dL_law_all31.2.2.1
theorem dL_law_611 : decode cL_law 611 = .ok (.invokevirtual 65, 3) := dL_law_all31.2.2.2.1
theorem dL_law_614 : decode cL_law 614 = .ok (.pop, 1) := dL_law_all31.2.2.2.2.1
theorem dL_law_615 : decode cL_law 615 = .ok (.goto 1037, 3) := dL_law_all31.2.2.2.2.2.1
theorem dL_law_618 : decode cL_law 618 = .ok (.aload_n 1, 1) := dL_law_all31.2.2.2.2.2.2.1
theorem dL_law_619 : decode cL_law 619 = .ok (.aload_n 0, 1) := dL_law_all31.2.2.2.2.2.2.2.1
theorem dL_law_620 : decode cL_law 620 = .ok (.iload_n 3, 1) := dL_law_all31.2.2.2.2.2.2.2.2.1
theorem dL_law_621 : decode cL_law 621 = .ok (.iconst 1, 1) := dL_law_all31.2.2.2.2.2.2.2.2.2.1
theorem dL_law_622 : decode cL_law 622 = .ok (.iadd, 1) := dL_law_all31.2.2.2.2.2.2.2.2.2.2.1
theorem dL_law_623 : decode cL_law 623 = .ok (.iaload, 1) := dL_law_all31.2.2.2.2.2.2.2.2.2.2.2
theorem dL_law_all32 : decode cL_law 624 = .ok (.aload_n 0, 1) ∧ decode cL_law 625 = .ok (.iload_n 3, 1) ∧ decode cL_law 626 = .ok (.iconst 2, 1) ∧ decode cL_law 627 = .ok (.iadd, 1) ∧ decode cL_law 628 = .ok (.iaload, 1) ∧ decode cL_law 629 = .ok (.invokevirtual 66, 3) ∧ decode cL_law 632 = .ok (.pop, 1) ∧ decode cL_law 633 = .ok (.aload_n 2, 1) ∧ decode cL_law 634 = .ok (.aload_n 0, 1) ∧ decode cL_law 635 = .ok (.iload_n 3, 1) ∧ decode cL_law 636 = .ok (.iconst 1, 1) ∧ decode cL_law 637 = .ok (.iadd, 1) := ⟨dq_42 sB_26 0 rfl, dq_29 sB_26 1 rfl, dq_5 sB_26 2 rfl, dq_96 sB_26 3 rfl, dq_46 sB_26 4 rfl, dq_182 sB_26 5 rfl 66 (by decide), dq_87 sB_26 8 rfl, dq_44 sB_26 9 rfl, dq_42 sB_26 10 rfl, dq_29 sB_26 11 rfl, dq_4 sB_26 12 rfl, dq_96 sB_26 13 rfl⟩
theorem dL_law_624 : decode cL_law 624 = .ok (.aload_n 0, 1) := dL_law_all32.1
theorem dL_law_625 : decode cL_law 625 = .ok (.iload_n 3, 1) := dL_law_all32.2.1
theorem dL_law_626 : decode cL_law 626 = .ok (.iconst 2, 1) := dL_law_all32.2.2.1
theorem dL_law_627 : decode cL_law 627 = .ok (.iadd, 1) := dL_law_all32.2.2.2.1
theorem dL_law_628 : decode cL_law 628 = .ok (.iaload, 1) := dL_law_all32.2.2.2.2.1
theorem dL_law_629 : decode cL_law 629 = .ok (.invokevirtual 66, 3) := dL_law_all32.2.2.2.2.2.1
theorem dL_law_632 : decode cL_law 632 = .ok (.pop, 1) := dL_law_all32.2.2.2.2.2.2.1
theorem dL_law_633 : decode cL_law 633 = .ok (.aload_n 2, 1) := dL_law_all32.2.2.2.2.2.2.2.1
theorem dL_law_634 : decode cL_law 634 = .ok (.aload_n 0, 1) := dL_law_all32.2.2.2.2.2.2.2.2.1
theorem dL_law_635 : decode cL_law 635 = .ok (.iload_n 3, 1) := dL_law_all32.2.2.2.2.2.2.2.2.2.1
theorem dL_law_636 : decode cL_law 636 = .ok (.iconst 1, 1) := dL_law_all32.2.2.2.2.2.2.2.2.2.2.1
theorem dL_law_637 : decode cL_law 637 = .ok (.iadd, 1) := dL_law_all32.2.2.2.2.2.2.2.2.2.2.2
theorem dL_law_all33 : decode cL_law 638 = .ok (.iaload, 1) ∧ decode cL_law 639 = .ok (.aload_n 0, 1) ∧ decode cL_law 640 = .ok (.iload_n 3, 1) ∧ decode cL_law 641 = .ok (.iconst 2, 1) ∧ decode cL_law 642 = .ok (.iadd, 1) ∧ decode cL_law 643 = .ok (.iaload, 1) ∧ decode cL_law 644 = .ok (.invokevirtual 69, 3) ∧ decode cL_law 647 = .ok (.pop, 1) ∧ decode cL_law 648 = .ok (.goto 1004, 3) ∧ decode cL_law 651 = .ok (.aload_n 1, 1) ∧ decode cL_law 652 = .ok (.aload_n 0, 1) ∧ decode cL_law 653 = .ok (.iload_n 3, 1) := ⟨dq_46 sB_26 14 rfl, dq_42 sB_26 15 rfl, dq_29 sB_26 16 rfl, dq_5 sB_26 17 rfl, dq_96 sB_26 18 rfl, dq_46 sB_26 19 rfl, dq_182 sB_26 20 rfl 69 (by decide), dq_87 sB_26 23 rfl, dq_167 sB_27 0 rfl 1004 (by decide), dq_43 sB_27 3 rfl, dq_42 sB_27 4 rfl, dq_29 sB_27 5 rfl⟩
theorem dL_law_638 : decode cL_law 638 = .ok (.iaload, 1) := dL_law_all33.1
theorem dL_law_639 : decode cL_law 639 = .ok (.aload_n 0, 1) := dL_law_all33.2.1
theorem dL_law_640 : decode cL_law 640 = .ok (.iload_n 3, 1) := dL_law_all33.2.2.1
theorem dL_law_641 : decode cL_law 641 = .ok (.iconst 2, 1) := dL_law_all33.2.2.2.1
theorem dL_law_642 : decode cL_law 642 = .ok (.iadd, 1) := dL_law_all33.2.2.2.2.1
theorem dL_law_643 : decode cL_law 643 = .ok (.iaload, 1) := dL_law_all33.2.2.2.2.2.1
theorem dL_law_644 : decode cL_law 644 = .ok (.invokevirtual 69, 3) := dL_law_all33.2.2.2.2.2.2.1
theorem dL_law_647 : decode cL_law 647 = .ok (.pop, 1) := dL_law_all33.2.2.2.2.2.2.2.1
theorem dL_law_648 : decode cL_law 648 = .ok (.goto 1004, 3) := dL_law_all33.2.2.2.2.2.2.2.2.1
theorem dL_law_651 : decode cL_law 651 = .ok (.aload_n 1, 1) := dL_law_all33.2.2.2.2.2.2.2.2.2.1
theorem dL_law_652 : decode cL_law 652 = .ok (.aload_n 0, 1) := dL_law_all33.2.2.2.2.2.2.2.2.2.2.1
theorem dL_law_653 : decode cL_law 653 = .ok (.iload_n 3, 1) := dL_law_all33.2.2.2.2.2.2.2.2.2.2.2
theorem dL_law_all34 : decode cL_law 654 = .ok (.iconst 1, 1) ∧ decode cL_law 655 = .ok (.iadd, 1) ∧ decode cL_law 656 = .ok (.iaload, 1) ∧ decode cL_law 657 = .ok (.aload_n 0, 1) ∧ decode cL_law 658 = .ok (.iload_n 3, 1) ∧ decode cL_law 659 = .ok (.iconst 2, 1) ∧ decode cL_law 660 = .ok (.iadd, 1) ∧ decode cL_law 661 = .ok (.iaload, 1) ∧ decode cL_law 662 = .ok (.aload_n 0, 1) ∧ decode cL_law 663 = .ok (.iload_n 3, 1) ∧ decode cL_law 664 = .ok (.iconst 3, 1) ∧ decode cL_law 665 = .ok (.iadd, 1) := ⟨dq_4 sB_27 6 rfl, dq_96 sB_27 7 rfl, dq_46 sB_27 8 rfl, dq_42 sB_27 9 rfl, dq_29 sB_27 10 rfl, dq_5 sB_27 11 rfl, dq_96 sB_27 12 rfl, dq_46 sB_27 13 rfl, dq_42 sB_27 14 rfl, dq_29 sB_27 15 rfl, dq_6 sB_27 16 rfl, dq_96 sB_27 17 rfl⟩
theorem dL_law_654 : decode cL_law 654 = .ok (.iconst 1, 1) := dL_law_all34.1
theorem dL_law_655 : decode cL_law 655 = .ok (.iadd, 1) := dL_law_all34.2.1
theorem dL_law_656 : decode cL_law 656 = .ok (.iaload, 1) := dL_law_all34.2.2.1
theorem dL_law_657 : decode cL_law 657 = .ok (.aload_n 0, 1) := dL_law_all34.2.2.2.1
theorem dL_law_658 : decode cL_law 658 = .ok (.iload_n 3, 1) := dL_law_all34.2.2.2.2.1
theorem dL_law_659 : decode cL_law 659 = .ok (.iconst 2, 1) := dL_law_all34.2.2.2.2.2.1
theorem dL_law_660 : decode cL_law 660 = .ok (.iadd, 1) := dL_law_all34.2.2.2.2.2.2.1
theorem dL_law_661 : decode cL_law 661 = .ok (.iaload, 1) := dL_law_all34.2.2.2.2.2.2.2.1
theorem dL_law_662 : decode cL_law 662 = .ok (.aload_n 0, 1) := dL_law_all34.2.2.2.2.2.2.2.2.1
theorem dL_law_663 : decode cL_law 663 = .ok (.iload_n 3, 1) := dL_law_all34.2.2.2.2.2.2.2.2.2.1
theorem dL_law_664 : decode cL_law 664 = .ok (.iconst 3, 1) := dL_law_all34.2.2.2.2.2.2.2.2.2.2.1
theorem dL_law_665 : decode cL_law 665 = .ok (.iadd, 1) := dL_law_all34.2.2.2.2.2.2.2.2.2.2.2
theorem dL_law_all35 : decode cL_law 666 = .ok (.iaload, 1) ∧ decode cL_law 667 = .ok (.aload_n 0, 1) ∧ decode cL_law 668 = .ok (.iload_n 3, 1) ∧ decode cL_law 669 = .ok (.iconst 4, 1) ∧ decode cL_law 670 = .ok (.iadd, 1) ∧ decode cL_law 671 = .ok (.iaload, 1) ∧ decode cL_law 672 = .ok (.aload_n 0, 1) ∧ decode cL_law 673 = .ok (.iload_n 3, 1) ∧ decode cL_law 674 = .ok (.iconst 5, 1) ∧ decode cL_law 675 = .ok (.iadd, 1) ∧ decode cL_law 676 = .ok (.iaload, 1) ∧ decode cL_law 677 = .ok (.invokevirtual 70, 3) := ⟨dq_46 sB_27 18 rfl, dq_42 sB_27 19 rfl, dq_29 sB_27 20 rfl, dq_7 sB_27 21 rfl, dq_96 sB_27 22 rfl, dq_46 sB_27 23 rfl, dq_42 sB_28 0 rfl, dq_29 sB_28 1 rfl, dq_8 sB_28 2 rfl, dq_96 sB_28 3 rfl, dq_46 sB_28 4 rfl, dq_182 sB_28 5 rfl 70 (by decide)⟩
theorem dL_law_666 : decode cL_law 666 = .ok (.iaload, 1) := dL_law_all35.1
theorem dL_law_667 : decode cL_law 667 = .ok (.aload_n 0, 1) := dL_law_all35.2.1
theorem dL_law_668 : decode cL_law 668 = .ok (.iload_n 3, 1) := dL_law_all35.2.2.1
theorem dL_law_669 : decode cL_law 669 = .ok (.iconst 4, 1) := dL_law_all35.2.2.2.1
theorem dL_law_670 : decode cL_law 670 = .ok (.iadd, 1) := dL_law_all35.2.2.2.2.1
theorem dL_law_671 : decode cL_law 671 = .ok (.iaload, 1) := dL_law_all35.2.2.2.2.2.1
theorem dL_law_672 : decode cL_law 672 = .ok (.aload_n 0, 1) := dL_law_all35.2.2.2.2.2.2.1
theorem dL_law_673 : decode cL_law 673 = .ok (.iload_n 3, 1) := dL_law_all35.2.2.2.2.2.2.2.1
theorem dL_law_674 : decode cL_law 674 = .ok (.iconst 5, 1) := dL_law_all35.2.2.2.2.2.2.2.2.1
theorem dL_law_675 : decode cL_law 675 = .ok (.iadd, 1) := dL_law_all35.2.2.2.2.2.2.2.2.2.1
theorem dL_law_676 : decode cL_law 676 = .ok (.iaload, 1) := dL_law_all35.2.2.2.2.2.2.2.2.2.2.1
theorem dL_law_677 : decode cL_law 677 = .ok (.invokevirtual 70, 3) := dL_law_all35.2.2.2.2.2.2.2.2.2.2.2
theorem dL_law_all36 : decode cL_law 680 = .ok (.pop, 1) ∧ decode cL_law 681 = .ok (.aload_n 2, 1) ∧ decode cL_law 682 = .ok (.aload_n 0, 1) ∧ decode cL_law 683 = .ok (.iload_n 3, 1) ∧ decode cL_law 684 = .ok (.iconst 1, 1) ∧ decode cL_law 685 = .ok (.iadd, 1) ∧ decode cL_law 686 = .ok (.iaload, 1) ∧ decode cL_law 687 = .ok (.aload_n 0, 1) ∧ decode cL_law 688 = .ok (.iload_n 3, 1) ∧ decode cL_law 689 = .ok (.iconst 2, 1) ∧ decode cL_law 690 = .ok (.iadd, 1) ∧ decode cL_law 691 = .ok (.iaload, 1) := ⟨dq_87 sB_28 8 rfl, dq_44 sB_28 9 rfl, dq_42 sB_28 10 rfl, dq_29 sB_28 11 rfl, dq_4 sB_28 12 rfl, dq_96 sB_28 13 rfl, dq_46 sB_28 14 rfl, dq_42 sB_28 15 rfl, dq_29 sB_28 16 rfl, dq_5 sB_28 17 rfl, dq_96 sB_28 18 rfl, dq_46 sB_28 19 rfl⟩
theorem dL_law_680 : decode cL_law 680 = .ok (.pop, 1) := dL_law_all36.1
theorem dL_law_681 : decode cL_law 681 = .ok (.aload_n 2, 1) := dL_law_all36.2.1
theorem dL_law_682 : decode cL_law 682 = .ok (.aload_n 0, 1) := dL_law_all36.2.2.1
theorem dL_law_683 : decode cL_law 683 = .ok (.iload_n 3, 1) := dL_law_all36.2.2.2.1
theorem dL_law_684 : decode cL_law 684 = .ok (.iconst 1, 1) := dL_law_all36.2.2.2.2.1
theorem dL_law_685 : decode cL_law 685 = .ok (.iadd, 1) := dL_law_all36.2.2.2.2.2.1
theorem dL_law_686 : decode cL_law 686 = .ok (.iaload, 1) := dL_law_all36.2.2.2.2.2.2.1
theorem dL_law_687 : decode cL_law 687 = .ok (.aload_n 0, 1) := dL_law_all36.2.2.2.2.2.2.2.1
theorem dL_law_688 : decode cL_law 688 = .ok (.iload_n 3, 1) := dL_law_all36.2.2.2.2.2.2.2.2.1
theorem dL_law_689 : decode cL_law 689 = .ok (.iconst 2, 1) := dL_law_all36.2.2.2.2.2.2.2.2.2.1
theorem dL_law_690 : decode cL_law 690 = .ok (.iadd, 1) := dL_law_all36.2.2.2.2.2.2.2.2.2.2.1
theorem dL_law_691 : decode cL_law 691 = .ok (.iaload, 1) := dL_law_all36.2.2.2.2.2.2.2.2.2.2.2
theorem dL_law_all37 : decode cL_law 692 = .ok (.aload_n 0, 1) ∧ decode cL_law 693 = .ok (.iload_n 3, 1) ∧ decode cL_law 694 = .ok (.iconst 3, 1) ∧ decode cL_law 695 = .ok (.iadd, 1) ∧ decode cL_law 696 = .ok (.iaload, 1) ∧ decode cL_law 697 = .ok (.aload_n 0, 1) ∧ decode cL_law 698 = .ok (.iload_n 3, 1) ∧ decode cL_law 699 = .ok (.iconst 4, 1) ∧ decode cL_law 700 = .ok (.iadd, 1) ∧ decode cL_law 701 = .ok (.iaload, 1) ∧ decode cL_law 702 = .ok (.aload_n 0, 1) ∧ decode cL_law 703 = .ok (.iload_n 3, 1) := ⟨dq_42 sB_28 20 rfl, dq_29 sB_28 21 rfl, dq_6 sB_28 22 rfl, dq_96 sB_28 23 rfl, dq_46 sB_29 0 rfl, dq_42 sB_29 1 rfl, dq_29 sB_29 2 rfl, dq_7 sB_29 3 rfl, dq_96 sB_29 4 rfl, dq_46 sB_29 5 rfl, dq_42 sB_29 6 rfl, dq_29 sB_29 7 rfl⟩
theorem dL_law_692 : decode cL_law 692 = .ok (.aload_n 0, 1) := dL_law_all37.1
theorem dL_law_693 : decode cL_law 693 = .ok (.iload_n 3, 1) := dL_law_all37.2.1
theorem dL_law_694 : decode cL_law 694 = .ok (.iconst 3, 1) := dL_law_all37.2.2.1
theorem dL_law_695 : decode cL_law 695 = .ok (.iadd, 1) := dL_law_all37.2.2.2.1
theorem dL_law_696 : decode cL_law 696 = .ok (.iaload, 1) := dL_law_all37.2.2.2.2.1
theorem dL_law_697 : decode cL_law 697 = .ok (.aload_n 0, 1) := dL_law_all37.2.2.2.2.2.1
theorem dL_law_698 : decode cL_law 698 = .ok (.iload_n 3, 1) := dL_law_all37.2.2.2.2.2.2.1
theorem dL_law_699 : decode cL_law 699 = .ok (.iconst 4, 1) := dL_law_all37.2.2.2.2.2.2.2.1
theorem dL_law_700 : decode cL_law 700 = .ok (.iadd, 1) := dL_law_all37.2.2.2.2.2.2.2.2.1
theorem dL_law_701 : decode cL_law 701 = .ok (.iaload, 1) := dL_law_all37.2.2.2.2.2.2.2.2.2.1
theorem dL_law_702 : decode cL_law 702 = .ok (.aload_n 0, 1) := dL_law_all37.2.2.2.2.2.2.2.2.2.2.1
theorem dL_law_703 : decode cL_law 703 = .ok (.iload_n 3, 1) := dL_law_all37.2.2.2.2.2.2.2.2.2.2.2
theorem dL_law_all38 : decode cL_law 704 = .ok (.iconst 5, 1) ∧ decode cL_law 705 = .ok (.iadd, 1) ∧ decode cL_law 706 = .ok (.iaload, 1) ∧ decode cL_law 707 = .ok (.invokevirtual 73, 3) ∧ decode cL_law 710 = .ok (.pop, 1) ∧ decode cL_law 711 = .ok (.goto 941, 3) ∧ decode cL_law 714 = .ok (.aload_n 1, 1) ∧ decode cL_law 715 = .ok (.aload_n 0, 1) ∧ decode cL_law 716 = .ok (.iload_n 3, 1) ∧ decode cL_law 717 = .ok (.iconst 1, 1) ∧ decode cL_law 718 = .ok (.iadd, 1) ∧ decode cL_law 719 = .ok (.iaload, 1) := ⟨dq_8 sB_29 8 rfl, dq_96 sB_29 9 rfl, dq_46 sB_29 10 rfl, dq_182 sB_29 11 rfl 73 (by decide), dq_87 sB_29 14 rfl, dq_167 sB_29 15 rfl 941 (by decide), dq_43 sB_29 18 rfl, dq_42 sB_29 19 rfl, dq_29 sB_29 20 rfl, dq_4 sB_29 21 rfl, dq_96 sB_29 22 rfl, dq_46 sB_29 23 rfl⟩
theorem dL_law_704 : decode cL_law 704 = .ok (.iconst 5, 1) := dL_law_all38.1
theorem dL_law_705 : decode cL_law 705 = .ok (.iadd, 1) := dL_law_all38.2.1
theorem dL_law_706 : decode cL_law 706 = .ok (.iaload, 1) := dL_law_all38.2.2.1
theorem dL_law_707 : decode cL_law 707 = .ok (.invokevirtual 73, 3) := dL_law_all38.2.2.2.1
theorem dL_law_710 : decode cL_law 710 = .ok (.pop, 1) := dL_law_all38.2.2.2.2.1
theorem dL_law_711 : decode cL_law 711 = .ok (.goto 941, 3) := dL_law_all38.2.2.2.2.2.1
set_option maxHeartbeats 4000000 in
set_option maxRecDepth 100000 in
theorem law_case_8 {p : Program} {l : Launch} {e : Env} {s : State} {m : MethodId} {below : List Frame} {meth : Method} {c : Code} {D : va_G} {cI cY cJ cQ : ClassId} {b L aK aV : Nat} {xs : Nat → Int32} {ad rw md : Nat → Nat} {sd i : Int32} {nx : Nat → Int32} {fx rs : Nat → Nat → Int32} {lo : Nat → Int64} {ny : Nat → Int32} {fy : Nat → Nat → Int32} {fl : Nat → Int64} {H : Heap} {locs : List Loc} {ls : Array Slot} (C0 : lawC p s m meth c b L xs D cI cY cJ cQ aK aV) (I : inv nx fx rs ny fy) (hP : va_P D vwCl (wX ad rw sd cI cY cJ cQ nx fx rs lo ++ wM md sd cI cY cJ cQ ny fy fl) H) (hD : va_D (fun q : Nat => s.heap.size ≤ q) (wX ad rw sd cI cY cJ cQ nx fx rs lo ++ wM md sd cI cY cJ cQ ny fy fl)) (hS : va_S (fun q : Nat => s.heap.size ≤ q) s.heap H locs) (hl : lv_has ls 4 [(0, .ref b), (1, .ref (ad 0)), (2, .ref (md 64)), (3, .int i)]) (hi1 : 1 ≤ i.toInt) (hi2 : i.toInt + 5 < L) (kk : ∀ (nx : Nat → Int32) (fx rs : Nat → Nat → Int32) (lo : Nat → Int64) (ny : Nat → Int32) (fy : Nat → Nat → Int32) (fl : Nat → Int64) (H : Heap) (locs : List Loc) (ls : Array Slot), inv nx fx rs ny fy → va_P D vwCl (wX ad rw sd cI cY cJ cQ nx fx rs lo ++ wM md sd cI cY cJ cQ ny fy fl) H → va_D (fun q : Nat => s.heap.size ≤ q) (wX ad rw sd cI cY cJ cQ nx fx rs lo ++ wM md sd cI cY cJ cQ ny fy fl) → va_S (fun q : Nat => s.heap.size ≤ q) s.heap H locs → lv_has ls 4 [(0, .ref b), (1, .ref (ad 0)), (2, .ref (md 64)), (3, .int i)] → W p l e room_1 s m #[Value.ref b] below meth c H locs 107 4890 (lw_Z below #[Value.ref b] s) (F0 m 1652 ls [])) : W p l e room_1 s m #[Value.ref b] below meth c H locs 107 4890 (lw_Z below #[Value.ref b] s) (F0 m 562 ls []) := by
  obtain ⟨C1, hK, hN, hT, hL⟩ := C0
  obtain ⟨hx, hb, hr, hml, hown, hts0, hX, hbl, hlocks, hgv⟩ := C1
  have hA : ∀ q : Nat, s.heap.size ≤ q → (fun q : Nat => s.heap.size ≤ q) q := fun _ h => h
  have hbA : ¬ (fun q : Nat => s.heap.size ≤ q) b := Nat.not_le.mpr hbl
  have hts : ∀ w ∈ wsL_law, w.before #[Value.ref b] s = true := fun w h => hts0 w (wsL_law_in w h)
  replace hown : s.vm.findClass RL = some m.cls := hown
  replace hb : c.code = cL_law := hb
  have hak1 : vp_in (i + 1) L := law_in hi1 hi2 hL (by decide)
  obtain ⟨xk1, exk1⟩ : ∃ y : Int32, y = xs (i + 1).toNatClampNeg := ⟨_, rfl⟩
  have hak2 : vp_in (i + 2) L := law_in hi1 hi2 hL (by decide)
  obtain ⟨xk2, exk2⟩ : ∃ y : Int32, y = xs (i + 2).toNatClampNeg := ⟨_, rfl⟩
  refine inv_el I ?_
  intro Xhna Xhnb XH XD XV XN Xcna Xcnb XF Xpna Xpnb XG XO XW Xgna Xgnb XJ Xlna Xlnb Xdla Xdlb Xana Xanb Xuna Xunb XU Xlca Xlcb Xtna Xtnb XS Mhna Mhnb MH MS Mmlna Mmlnb Mmtna Mmtnb Chn Cho Chc Chp Chs Ccn Cfo Cwo Cpn Cpk Cpf Cpo Cpd Cpe Cgn Cgk Cgs Cgd Cge Can Cak Cah Cay Caz Cun Cuk Cuy Cuw Cum Clc Clp Cla Clb Caw Ciw Cln Ctd Cro Cmtn Cmtr Cmst Csh
  have Tcn := i_eq Ccn
  have Tpn := i_eq Cpn
  have Tgn := i_eq Cgn
  have Tan := i_eq Can
  have Tun := i_eq Cun
  have Tlc := i_eq Clc
  have Tln := i_eq Cln
  have Thn := i_eq Chn
  have MXV : okV (ny 2) (fy 5) := by rw [Chn, Chp]; exact XV
  have MXF : okF (ny 3) (fy 10) := by rw [Ccn, Cfo]; exact XF
  have MXG : okG (ny 4) (fy 14) := by rw [Cpn, Cpo]; exact XG
  refine lv_aload_n hx hb dL_law_562 rfl (lv_at hl 1 rfl) ?_
  refine law_arg (v := 1) hx hb hX hbl hbA hS (lv_at hl 0 rfl) (lv_at hl 3 rfl) (by decide) hak1 exk1 dL_law_563 dL_law_564 dL_law_565 dL_law_566 dL_law_567 ?_
  refine law_arg (v := 2) hx hb hX hbl hbA hS (lv_at hl 0 rfl) (lv_at hl 3 rfl) (by decide) hak2 exk2 dL_law_568 dL_law_569 dL_law_570 dL_law_571 dL_law_572 ?_
  refine st_iU (va_runV (C := RX10) (As := [.int xk1, .int xk2]) (rest := []) ⟨hx, hb, hml, hown, hts⟩ (ct_X10_truly l D cI cY cJ cQ _ ad (nx 0) (nx 1) (nx 2) (nx 3) (fx 3) (fx 4) (fx 5) (fx 6) (fx 7) (fx 8) (fx 9) (fx 10) xk1 xk2 Xhna Xhnb XH XV) (cwV 2 hts gL_law_X10_truly rfl rfl rfl ⟨rfl, cdX10_truly⟩ ⟨Nat.le_of_ble_eq_true rfl, Nat.le_of_ble_eq_true rfl⟩) (cPreV (hP.sub [0, 14, 15, 16, 17, 18, 19, 20, 21, 22] rfl) hK (hD.sub [0, 14, 15, 16, 17, 18, 19, 20, 21, 22] (by decide +kernel) rfl) hN (ci := 10) (q0 := 0) rfl rfl) rfl rfl hl.1 rfl (lv_room (Nat.le_of_ble_eq_true rfl)) dL_law_573 ⟨Nat.le_of_ble_eq_true rfl, Nat.le_of_ble_eq_true rfl⟩) hP hD hS hA [0, 14, 15, 16, 17, 18, 19, 20, 21, 22] rfl (fun _ => rfl) (fun r3 u1 H locs hw2 => ?_)
  clear hP hS
  intro hP hS
  obtain ⟨pt_4, ps_5, ha_6, re_7⟩ := u1
  replace hw2 : r3.toInt = sp_truly (nx 3) (fx 3) (fx 4) (fx 5) (fx 6) xk1 xk2 := hw2
  refine lv_pop hx hb dL_law_576 rfl ?_
  have hPx : va_P D vwCl (wX ad rw sd cI cY cJ cQ nx (upR (upR (upR (upR fx 7 pt_4) 8 ps_5) 9 ha_6) 10 re_7) rs lo ++ wM md sd cI cY cJ cQ ny fy fl) H := hP
  have hDx : va_D (fun q : Nat => s.heap.size ≤ q) (wX ad rw sd cI cY cJ cQ nx (upR (upR (upR (upR fx 7 pt_4) 8 ps_5) 9 ha_6) 10 re_7) rs lo ++ wM md sd cI cY cJ cQ ny fy fl) := wXM_D hD
  have hP := hPx.comm
  have hD := hDx.comm
  refine lv_aload_n hx hb dL_law_577 rfl (lv_at hl 2 rfl) ?_
  refine law_arg (v := 1) hx hb hX hbl hbA hS (lv_at hl 0 rfl) (lv_at hl 3 rfl) (by decide) hak1 exk1 dL_law_578 dL_law_579 dL_law_580 dL_law_581 dL_law_582 ?_
  refine law_arg (v := 2) hx hb hX hbl hbA hS (lv_at hl 0 rfl) (lv_at hl 3 rfl) (by decide) hak2 exk2 dL_law_583 dL_law_584 dL_law_585 dL_law_586 dL_law_587 ?_
  refine st_iU (va_runV (C := RX11) (As := [.int xk1, .int xk2]) (rest := []) ⟨hx, hb, hml, hown, hts⟩ (ct_X11_truly l D cI cY cJ cQ _ md sd (ny 0) (ny 1) (ny 2) (ny 3) (ny 4) (ny 5) (ny 6) (ny 7) (ny 8) (ny 9) (ny 10) (ny 11) (ny 12) (ny 13) (ny 14) (ny 15) (ny 16) (ny 17) (ny 18) (ny 19) (ny 20) (ny 21) (ny 22) (fy 3) (fy 4) (fy 5) (fy 6) (fy 7) (fy 8) (fy 9) fl xk1 xk2 Mhna Mhnb (by assumption)) (cwV 2 hts gL_law_X11_truly rfl rfl rfl ⟨rfl, cdX11_truly⟩ ⟨Nat.le_of_ble_eq_true rfl, Nat.le_of_ble_eq_true rfl⟩) (cPreV (hP.sub [0, 4, 5, 6, 7, 8, 9, 10, 11] rfl) hK (hD.sub [0, 4, 5, 6, 7, 8, 9, 10, 11] (by decide +kernel) rfl) hN (ci := 11) (q0 := 0) rfl rfl) rfl rfl hl.1 rfl (lv_room (Nat.le_of_ble_eq_true rfl)) dL_law_588 ⟨Nat.le_of_ble_eq_true rfl, Nat.le_of_ble_eq_true rfl⟩) hP hD hS hA [0, 4, 5, 6, 7, 8, 9, 10, 11] rfl (fun _ => rfl) (fun r10 u8 H locs hw9 => ?_)
  clear hP hS
  intro hP hS
  obtain ⟨mh_11, mp_12, mt_13, mf_14⟩ := u8
  replace hw9 : r10.toInt = sm_truly (ny 2) (fy 3) (fy 4) (fy 5) (fy 6) xk1 xk2 := hw9
  rw [Chn, Cho, Chc, Chp, Chs, ← truly_eq (by omega) (by omega) XD XN XV] at hw9
  have e90 := i_of (hw2.trans hw9.symm)
  refine lv_pop hx hb dL_law_591 rfl ?_
  refine lv_goto (tgt := 1652) hx hb dL_law_592 (by decide) ?_
  have hPm : va_P D vwCl (wM md sd cI cY cJ cQ (upd ny 0 0) (upR (upR (upR fy 7 mh_11) 8 mp_12) 9 mt_13) mf_14 ++ wX ad rw sd cI cY cJ cQ nx (upR (upR (upR (upR fx 7 pt_4) 8 ps_5) 9 ha_6) 10 re_7) rs lo) H := hP
  have hDm : va_D (fun q : Nat => s.heap.size ≤ q) (wM md sd cI cY cJ cQ (upd ny 0 0) (upR (upR (upR fy 7 mh_11) 8 mp_12) 9 mt_13) mf_14 ++ wX ad rw sd cI cY cJ cQ nx (upR (upR (upR (upR fx 7 pt_4) 8 ps_5) 9 ha_6) 10 re_7) rs lo) := wMX_D hD
  exact kk nx (upR (upR (upR (upR fx 7 pt_4) 8 ps_5) 9 ha_6) 10 re_7) rs lo (upd ny 0 0) (upR (upR (upR fy 7 mh_11) 8 mp_12) 9 mt_13) mf_14 H locs ls ⟨Xhna, Xhnb, XH, XD, XV, XN, Xcna, Xcnb, XF, Xpna, Xpnb, XG, XO, XW, Xgna, Xgnb, XJ, Xlna, Xlnb, Xdla, Xdlb, Xana, Xanb, Xuna, Xunb, XU, Xlca, Xlcb, Xtna, Xtnb, XS, Mhna, Mhnb, MH, MS, Mmlna, Mmlnb, Mmtna, Mmtnb, Chn, Cho, Chc, Chp, Chs, Ccn, Cfo, Cwo, Cpn, Cpk, Cpf, Cpo, Cpd, Cpe, Cgn, Cgk, Cgs, Cgd, Cge, Can, Cak, Cah, Cay, Caz, Cun, Cuk, Cuy, Cuw, Cum, Clc, Clp, Cla, Clb, Caw, Ciw, Cln, Ctd, Cro, Cmtn, Cmtr, Cmst, Csh⟩ hPm.comm hDm.comm hS hl

set_option maxHeartbeats 4000000 in
set_option maxRecDepth 100000 in
theorem law_case_9 {p : Program} {l : Launch} {e : Env} {s : State} {m : MethodId} {below : List Frame} {meth : Method} {c : Code} {D : va_G} {cI cY cJ cQ : ClassId} {b L aK aV : Nat} {xs : Nat → Int32} {ad rw md : Nat → Nat} {sd i : Int32} {nx : Nat → Int32} {fx rs : Nat → Nat → Int32} {lo : Nat → Int64} {ny : Nat → Int32} {fy : Nat → Nat → Int32} {fl : Nat → Int64} {H : Heap} {locs : List Loc} {ls : Array Slot} (C0 : lawC p s m meth c b L xs D cI cY cJ cQ aK aV) (I : inv nx fx rs ny fy) (hP : va_P D vwCl (wX ad rw sd cI cY cJ cQ nx fx rs lo ++ wM md sd cI cY cJ cQ ny fy fl) H) (hD : va_D (fun q : Nat => s.heap.size ≤ q) (wX ad rw sd cI cY cJ cQ nx fx rs lo ++ wM md sd cI cY cJ cQ ny fy fl)) (hS : va_S (fun q : Nat => s.heap.size ≤ q) s.heap H locs) (hl : lv_has ls 4 [(0, .ref b), (1, .ref (ad 0)), (2, .ref (md 64)), (3, .int i)]) (hi1 : 1 ≤ i.toInt) (hi2 : i.toInt + 5 < L) (kk : ∀ (nx : Nat → Int32) (fx rs : Nat → Nat → Int32) (lo : Nat → Int64) (ny : Nat → Int32) (fy : Nat → Nat → Int32) (fl : Nat → Int64) (H : Heap) (locs : List Loc) (ls : Array Slot), inv nx fx rs ny fy → va_P D vwCl (wX ad rw sd cI cY cJ cQ nx fx rs lo ++ wM md sd cI cY cJ cQ ny fy fl) H → va_D (fun q : Nat => s.heap.size ≤ q) (wX ad rw sd cI cY cJ cQ nx fx rs lo ++ wM md sd cI cY cJ cQ ny fy fl) → va_S (fun q : Nat => s.heap.size ≤ q) s.heap H locs → lv_has ls 4 [(0, .ref b), (1, .ref (ad 0)), (2, .ref (md 64)), (3, .int i)] → W p l e room_1 s m #[Value.ref b] below meth c H locs 107 4890 (lw_Z below #[Value.ref b] s) (F0 m 1652 ls [])) : W p l e room_1 s m #[Value.ref b] below meth c H locs 107 4890 (lw_Z below #[Value.ref b] s) (F0 m 595 ls []) := by
  obtain ⟨C1, hK, hN, hT, hL⟩ := C0
  obtain ⟨hx, hb, hr, hml, hown, hts0, hX, hbl, hlocks, hgv⟩ := C1
  have hA : ∀ q : Nat, s.heap.size ≤ q → (fun q : Nat => s.heap.size ≤ q) q := fun _ h => h
  have hbA : ¬ (fun q : Nat => s.heap.size ≤ q) b := Nat.not_le.mpr hbl
  have hts : ∀ w ∈ wsL_law, w.before #[Value.ref b] s = true := fun w h => hts0 w (wsL_law_in w h)
  replace hown : s.vm.findClass RL = some m.cls := hown
  replace hb : c.code = cL_law := hb
  have hak1 : vp_in (i + 1) L := law_in hi1 hi2 hL (by decide)
  obtain ⟨xk1, exk1⟩ : ∃ y : Int32, y = xs (i + 1).toNatClampNeg := ⟨_, rfl⟩
  refine inv_el I ?_
  intro Xhna Xhnb XH XD XV XN Xcna Xcnb XF Xpna Xpnb XG XO XW Xgna Xgnb XJ Xlna Xlnb Xdla Xdlb Xana Xanb Xuna Xunb XU Xlca Xlcb Xtna Xtnb XS Mhna Mhnb MH MS Mmlna Mmlnb Mmtna Mmtnb Chn Cho Chc Chp Chs Ccn Cfo Cwo Cpn Cpk Cpf Cpo Cpd Cpe Cgn Cgk Cgs Cgd Cge Can Cak Cah Cay Caz Cun Cuk Cuy Cuw Cum Clc Clp Cla Clb Caw Ciw Cln Ctd Cro Cmtn Cmtr Cmst Csh
  have Tcn := i_eq Ccn
  have Tpn := i_eq Cpn
  have Tgn := i_eq Cgn
  have Tan := i_eq Can
  have Tun := i_eq Cun
  have Tlc := i_eq Clc
  have Tln := i_eq Cln
  have Thn := i_eq Chn
  have MXV : okV (ny 2) (fy 5) := by rw [Chn, Chp]; exact XV
  have MXF : okF (ny 3) (fy 10) := by rw [Ccn, Cfo]; exact XF
  have MXG : okG (ny 4) (fy 14) := by rw [Cpn, Cpo]; exact XG
  refine lv_aload_n hx hb dL_law_595 rfl (lv_at hl 1 rfl) ?_
  refine law_arg (v := 1) hx hb hX hbl hbA hS (lv_at hl 0 rfl) (lv_at hl 3 rfl) (by decide) hak1 exk1 dL_law_596 dL_law_597 dL_law_598 dL_law_599 dL_law_600 ?_
  refine st_iU (va_runV (C := RX10) (As := [.int xk1]) (rest := []) ⟨hx, hb, hml, hown, hts⟩ (ct_X10_rings l D cI cY cJ cQ _ ad (nx 0) (nx 1) (nx 2) (nx 3) (fx 3) (fx 4) (fx 5) (fx 6) (fx 7) (fx 8) (fx 9) (fx 10) xk1 Xhna Xhnb XH XV) (cwV 1 hts gL_law_X10_rings rfl rfl rfl ⟨rfl, cdX10_rings⟩ ⟨Nat.le_of_ble_eq_true rfl, Nat.le_of_ble_eq_true rfl⟩) (cPreV (hP.sub [0, 14, 15, 16, 17, 18, 19, 20, 21, 22] rfl) hK (hD.sub [0, 14, 15, 16, 17, 18, 19, 20, 21, 22] (by decide +kernel) rfl) hN (ci := 10) (q0 := 0) rfl rfl) rfl rfl hl.1 rfl (lv_room (Nat.le_of_ble_eq_true rfl)) dL_law_601 ⟨Nat.le_of_ble_eq_true rfl, Nat.le_of_ble_eq_true rfl⟩) hP hD hS hA [0, 14, 15, 16, 17, 18, 19, 20, 21, 22] rfl (fun _ => rfl) (fun r3 u1 H locs hw2 => ?_)
  clear hP hS
  intro hP hS
  obtain ⟨pt_4, ps_5, ha_6, re_7⟩ := u1
  replace hw2 : sp_rings (nx 3) (fx 3) (fx 4) (fx 5) (fx 6) xk1 r3 := hw2
  refine lv_pop hx hb dL_law_604 rfl ?_
  have hPx : va_P D vwCl (wX ad rw sd cI cY cJ cQ nx (upR (upR (upR (upR fx 7 pt_4) 8 ps_5) 9 ha_6) 10 re_7) rs lo ++ wM md sd cI cY cJ cQ ny fy fl) H := hP
  have hDx : va_D (fun q : Nat => s.heap.size ≤ q) (wX ad rw sd cI cY cJ cQ nx (upR (upR (upR (upR fx 7 pt_4) 8 ps_5) 9 ha_6) 10 re_7) rs lo ++ wM md sd cI cY cJ cQ ny fy fl) := wXM_D hD
  have hP := hPx.comm
  have hD := hDx.comm
  refine lv_aload_n hx hb dL_law_605 rfl (lv_at hl 2 rfl) ?_
  refine law_arg (v := 1) hx hb hX hbl hbA hS (lv_at hl 0 rfl) (lv_at hl 3 rfl) (by decide) hak1 exk1 dL_law_606 dL_law_607 dL_law_608 dL_law_609 dL_law_610 ?_
  refine st_iU (va_runV (C := RX11) (As := [.int xk1]) (rest := []) ⟨hx, hb, hml, hown, hts⟩ (ct_X11_rings l D cI cY cJ cQ _ md sd (ny 0) (ny 1) (ny 2) (ny 3) (ny 4) (ny 5) (ny 6) (ny 7) (ny 8) (ny 9) (ny 10) (ny 11) (ny 12) (ny 13) (ny 14) (ny 15) (ny 16) (ny 17) (ny 18) (ny 19) (ny 20) (ny 21) (ny 22) (fy 3) (fy 4) (fy 5) (fy 6) (fy 7) xk1 Mhna Mhnb (by assumption)) (cwV 1 hts gL_law_X11_rings rfl rfl rfl ⟨rfl, cdX11_rings⟩ ⟨Nat.le_of_ble_eq_true rfl, Nat.le_of_ble_eq_true rfl⟩) (cPreV (hP.sub [0, 4, 5, 6, 7, 8] rfl) hK (hD.sub [0, 4, 5, 6, 7, 8] (by decide +kernel) rfl) hN (ci := 11) (q0 := 0) rfl rfl) rfl rfl hl.1 rfl (lv_room (Nat.le_of_ble_eq_true rfl)) dL_law_611 ⟨Nat.le_of_ble_eq_true rfl, Nat.le_of_ble_eq_true rfl⟩) hP hD hS hA [0, 4, 5, 6, 7, 8] rfl (fun _ => rfl) (fun r10 u8 H locs hw9 => ?_)
  clear hP hS
  intro hP hS
  replace hw9 : sm_rings (ny 2) (fy 3) (fy 4) (fy 5) (fy 6) xk1 r10 := hw9
  rw [Chn, Cho, Chc, Chp, Chs] at hw9
  have e90 := rings_eq (by omega) (by omega) XD XN XV hw2 hw9
  refine lv_pop hx hb dL_law_614 rfl ?_
  refine lv_goto (tgt := 1652) hx hb dL_law_615 (by decide) ?_
  have hPm : va_P D vwCl (wM md sd cI cY cJ cQ (upd ny 0 0) (upR fy 7 u8) fl ++ wX ad rw sd cI cY cJ cQ nx (upR (upR (upR (upR fx 7 pt_4) 8 ps_5) 9 ha_6) 10 re_7) rs lo) H := hP
  have hDm : va_D (fun q : Nat => s.heap.size ≤ q) (wM md sd cI cY cJ cQ (upd ny 0 0) (upR fy 7 u8) fl ++ wX ad rw sd cI cY cJ cQ nx (upR (upR (upR (upR fx 7 pt_4) 8 ps_5) 9 ha_6) 10 re_7) rs lo) := wMX_D hD
  exact kk nx (upR (upR (upR (upR fx 7 pt_4) 8 ps_5) 9 ha_6) 10 re_7) rs lo (upd ny 0 0) (upR fy 7 u8) fl H locs ls ⟨Xhna, Xhnb, XH, XD, XV, XN, Xcna, Xcnb, XF, Xpna, Xpnb, XG, XO, XW, Xgna, Xgnb, XJ, Xlna, Xlnb, Xdla, Xdlb, Xana, Xanb, Xuna, Xunb, XU, Xlca, Xlcb, Xtna, Xtnb, XS, Mhna, Mhnb, MH, MS, Mmlna, Mmlnb, Mmtna, Mmtnb, Chn, Cho, Chc, Chp, Chs, Ccn, Cfo, Cwo, Cpn, Cpk, Cpf, Cpo, Cpd, Cpe, Cgn, Cgk, Cgs, Cgd, Cge, Can, Cak, Cah, Cay, Caz, Cun, Cuk, Cuy, Cuw, Cum, Clc, Clp, Cla, Clb, Caw, Ciw, Cln, Ctd, Cro, Cmtn, Cmtr, Cmst, Csh⟩ hPm.comm hDm.comm hS hl

set_option maxHeartbeats 4000000 in
set_option maxRecDepth 100000 in
theorem law_case_10 {p : Program} {l : Launch} {e : Env} {s : State} {m : MethodId} {below : List Frame} {meth : Method} {c : Code} {D : va_G} {cI cY cJ cQ : ClassId} {b L aK aV : Nat} {xs : Nat → Int32} {ad rw md : Nat → Nat} {sd i : Int32} {nx : Nat → Int32} {fx rs : Nat → Nat → Int32} {lo : Nat → Int64} {ny : Nat → Int32} {fy : Nat → Nat → Int32} {fl : Nat → Int64} {H : Heap} {locs : List Loc} {ls : Array Slot} (C0 : lawC p s m meth c b L xs D cI cY cJ cQ aK aV) (I : inv nx fx rs ny fy) (hP : va_P D vwCl (wX ad rw sd cI cY cJ cQ nx fx rs lo ++ wM md sd cI cY cJ cQ ny fy fl) H) (hD : va_D (fun q : Nat => s.heap.size ≤ q) (wX ad rw sd cI cY cJ cQ nx fx rs lo ++ wM md sd cI cY cJ cQ ny fy fl)) (hS : va_S (fun q : Nat => s.heap.size ≤ q) s.heap H locs) (hl : lv_has ls 4 [(0, .ref b), (1, .ref (ad 0)), (2, .ref (md 64)), (3, .int i)]) (hi1 : 1 ≤ i.toInt) (hi2 : i.toInt + 5 < L) (kk : ∀ (nx : Nat → Int32) (fx rs : Nat → Nat → Int32) (lo : Nat → Int64) (ny : Nat → Int32) (fy : Nat → Nat → Int32) (fl : Nat → Int64) (H : Heap) (locs : List Loc) (ls : Array Slot), inv nx fx rs ny fy → va_P D vwCl (wX ad rw sd cI cY cJ cQ nx fx rs lo ++ wM md sd cI cY cJ cQ ny fy fl) H → va_D (fun q : Nat => s.heap.size ≤ q) (wX ad rw sd cI cY cJ cQ nx fx rs lo ++ wM md sd cI cY cJ cQ ny fy fl) → va_S (fun q : Nat => s.heap.size ≤ q) s.heap H locs → lv_has ls 4 [(0, .ref b), (1, .ref (ad 0)), (2, .ref (md 64)), (3, .int i)] → W p l e room_1 s m #[Value.ref b] below meth c H locs 107 4890 (lw_Z below #[Value.ref b] s) (F0 m 1652 ls [])) : W p l e room_1 s m #[Value.ref b] below meth c H locs 107 4890 (lw_Z below #[Value.ref b] s) (F0 m 618 ls []) := by
  obtain ⟨C1, hK, hN, hT, hL⟩ := C0
  obtain ⟨hx, hb, hr, hml, hown, hts0, hX, hbl, hlocks, hgv⟩ := C1
  have hA : ∀ q : Nat, s.heap.size ≤ q → (fun q : Nat => s.heap.size ≤ q) q := fun _ h => h
  have hbA : ¬ (fun q : Nat => s.heap.size ≤ q) b := Nat.not_le.mpr hbl
  have hts : ∀ w ∈ wsL_law, w.before #[Value.ref b] s = true := fun w h => hts0 w (wsL_law_in w h)
  replace hown : s.vm.findClass RL = some m.cls := hown
  replace hb : c.code = cL_law := hb
  have hak1 : vp_in (i + 1) L := law_in hi1 hi2 hL (by decide)
  obtain ⟨xk1, exk1⟩ : ∃ y : Int32, y = xs (i + 1).toNatClampNeg := ⟨_, rfl⟩
  have hak2 : vp_in (i + 2) L := law_in hi1 hi2 hL (by decide)
  obtain ⟨xk2, exk2⟩ : ∃ y : Int32, y = xs (i + 2).toNatClampNeg := ⟨_, rfl⟩
  refine inv_el I ?_
  intro Xhna Xhnb XH XD XV XN Xcna Xcnb XF Xpna Xpnb XG XO XW Xgna Xgnb XJ Xlna Xlnb Xdla Xdlb Xana Xanb Xuna Xunb XU Xlca Xlcb Xtna Xtnb XS Mhna Mhnb MH MS Mmlna Mmlnb Mmtna Mmtnb Chn Cho Chc Chp Chs Ccn Cfo Cwo Cpn Cpk Cpf Cpo Cpd Cpe Cgn Cgk Cgs Cgd Cge Can Cak Cah Cay Caz Cun Cuk Cuy Cuw Cum Clc Clp Cla Clb Caw Ciw Cln Ctd Cro Cmtn Cmtr Cmst Csh
  have Tcn := i_eq Ccn
  have Tpn := i_eq Cpn
  have Tgn := i_eq Cgn
  have Tan := i_eq Can
  have Tun := i_eq Cun
  have Tlc := i_eq Clc
  have Tln := i_eq Cln
  refine lv_aload_n hx hb dL_law_618 rfl (lv_at hl 1 rfl) ?_
  refine law_arg (v := 1) hx hb hX hbl hbA hS (lv_at hl 0 rfl) (lv_at hl 3 rfl) (by decide) hak1 exk1 dL_law_619 dL_law_620 dL_law_621 dL_law_622 dL_law_623 ?_
  refine law_arg (v := 2) hx hb hX hbl hbA hS (lv_at hl 0 rfl) (lv_at hl 3 rfl) (by decide) hak2 exk2 dL_law_624 dL_law_625 dL_law_626 dL_law_627 dL_law_628 ?_
  refine st_iU (va_runV (C := RX10) (As := [.int xk1, .int xk2]) (rest := []) ⟨hx, hb, hml, hown, hts⟩ (ct_X10_crate l D cI cY cJ cQ _ ad (nx 0) (nx 1) (nx 2) (nx 4) (fx 11) (fx 12) xk1 xk2 Xcna Xcnb) (cwV 2 hts gL_law_X10_crate rfl rfl rfl ⟨rfl, cdX10_crate⟩ ⟨Nat.le_of_ble_eq_true rfl, Nat.le_of_ble_eq_true rfl⟩) (cPreV (hP.sub [0, 23, 24, 25] rfl) hK (hD.sub [0, 23, 24, 25] (by decide +kernel) rfl) hN (ci := 10) (q0 := 0) rfl rfl) rfl rfl hl.1 rfl (lv_room (Nat.le_of_ble_eq_true rfl)) dL_law_629 ⟨Nat.le_of_ble_eq_true rfl, Nat.le_of_ble_eq_true rfl⟩) hP hD hS hA [0, 23, 24, 25] rfl (fun _ => rfl) (fun r3 u1 H locs hw2 => ?_)
  clear hP hS
  intro hP hS
  obtain ⟨cn_4, fo_5, wo_6⟩ := u1
  replace hw2 : (r3, (cn_4, fo_5, wo_6)) = sp_crate (nx 4) (fx 11) (fx 12) xk1 xk2 := hw2
  obtain ⟨hw2a, hw2b⟩ := sp_crate_ok hw2 (by omega) (by omega)
  have hw2f := sp_crate_okF hw2 (by omega) (by omega) XF
  refine lv_pop hx hb dL_law_632 rfl ?_
  have hPx : va_P D vwCl (wX ad rw sd cI cY cJ cQ (upd nx 4 cn_4) (upR (upR fx 11 fo_5) 12 wo_6) rs lo ++ wM md sd cI cY cJ cQ ny fy fl) H := hP
  have hDx : va_D (fun q : Nat => s.heap.size ≤ q) (wX ad rw sd cI cY cJ cQ (upd nx 4 cn_4) (upR (upR fx 11 fo_5) 12 wo_6) rs lo ++ wM md sd cI cY cJ cQ ny fy fl) := wXM_D hD
  have hP := hPx.comm
  have hD := hDx.comm
  refine lv_aload_n hx hb dL_law_633 rfl (lv_at hl 2 rfl) ?_
  refine law_arg (v := 1) hx hb hX hbl hbA hS (lv_at hl 0 rfl) (lv_at hl 3 rfl) (by decide) hak1 exk1 dL_law_634 dL_law_635 dL_law_636 dL_law_637 dL_law_638 ?_
  refine law_arg (v := 2) hx hb hX hbl hbA hS (lv_at hl 0 rfl) (lv_at hl 3 rfl) (by decide) hak2 exk2 dL_law_639 dL_law_640 dL_law_641 dL_law_642 dL_law_643 ?_
  refine st_iU (va_runV (C := RX11) (As := [.int xk1, .int xk2]) (rest := []) ⟨hx, hb, hml, hown, hts⟩ (ct_X11_crate l D cI cY cJ cQ _ md sd (ny 0) (ny 1) (ny 2) (ny 3) (ny 4) (ny 5) (ny 6) (ny 7) (ny 8) (ny 9) (ny 10) (ny 11) (ny 12) (ny 13) (ny 14) (ny 15) (ny 16) (ny 17) (ny 18) (ny 19) (ny 20) (ny 21) (ny 22) (fy 10) (fy 11) xk1 xk2 (by omega) (by omega)) (cwV 2 hts gL_law_X11_crate rfl rfl rfl ⟨rfl, cdX11_crate⟩ ⟨Nat.le_of_ble_eq_true rfl, Nat.le_of_ble_eq_true rfl⟩) (cPreV (hP.sub [0, 12, 13] rfl) hK (hD.sub [0, 12, 13] (by decide +kernel) rfl) hN (ci := 11) (q0 := 0) rfl rfl) rfl rfl hl.1 rfl (lv_room (Nat.le_of_ble_eq_true rfl)) dL_law_644 ⟨Nat.le_of_ble_eq_true rfl, Nat.le_of_ble_eq_true rfl⟩) hP hD hS hA [0, 12, 13] rfl (fun _ => rfl) (fun r9 u7 H locs hw8 => ?_)
  clear hP hS
  intro hP hS
  obtain ⟨cn_10, fo_11, wo_12⟩ := u7
  replace hw8 : (r9, (cn_10, fo_11, wo_12)) = sp_crate (ny 3) (fy 10) (fy 11) xk1 xk2 := hw8
  rw [Ccn, Cfo, Cwo] at hw8
  have e9 := hw2.trans hw8.symm
  simp only [Prod.mk.injEq] at e9
  obtain ⟨e90, e9cn, e9fo, e9wo⟩ := e9
  refine lv_pop hx hb dL_law_647 rfl ?_
  refine lv_goto (tgt := 1652) hx hb dL_law_648 (by decide) ?_
  have hPm : va_P D vwCl (wM md sd cI cY cJ cQ (upd (upd ny 0 0) 3 cn_10) (upR (upR fy 10 fo_11) 11 wo_12) fl ++ wX ad rw sd cI cY cJ cQ (upd nx 4 cn_4) (upR (upR fx 11 fo_5) 12 wo_6) rs lo) H := hP
  have hDm : va_D (fun q : Nat => s.heap.size ≤ q) (wM md sd cI cY cJ cQ (upd (upd ny 0 0) 3 cn_10) (upR (upR fy 10 fo_11) 11 wo_12) fl ++ wX ad rw sd cI cY cJ cQ (upd nx 4 cn_4) (upR (upR fx 11 fo_5) 12 wo_6) rs lo) := wMX_D hD
  exact kk (upd nx 4 cn_4) (upR (upR fx 11 fo_5) 12 wo_6) rs lo (upd (upd ny 0 0) 3 cn_10) (upR (upR fy 10 fo_11) 11 wo_12) fl H locs ls ⟨Xhna, Xhnb, XH, XD, XV, XN, (by show 0 ≤ (cn_4).toInt; omega), (by show (cn_4).toInt ≤ 12; omega), (show okF (cn_4) (fo_5) by assumption), Xpna, Xpnb, XG, XO, XW, Xgna, Xgnb, XJ, Xlna, Xlnb, Xdla, Xdlb, Xana, Xanb, Xuna, Xunb, XU, Xlca, Xlcb, Xtna, Xtnb, XS, Mhna, Mhnb, MH, MS, Mmlna, Mmlnb, Mmtna, Mmtnb, Chn, Cho, Chc, Chp, Chs, (show (cn_10) = (cn_4) from e9cn.symm), (show (fo_11) = (fo_5) from e9fo.symm), (show (wo_12) = (wo_6) from e9wo.symm), Cpn, Cpk, Cpf, Cpo, Cpd, Cpe, Cgn, Cgk, Cgs, Cgd, Cge, Can, Cak, Cah, Cay, Caz, Cun, Cuk, Cuy, Cuw, Cum, Clc, Clp, Cla, Clb, Caw, Ciw, Cln, Ctd, Cro, Cmtn, Cmtr, Cmst, Csh⟩ hPm.comm hDm.comm hS hl

set_option maxHeartbeats 4000000 in
set_option maxRecDepth 100000 in
theorem law_case_11 {p : Program} {l : Launch} {e : Env} {s : State} {m : MethodId} {below : List Frame} {meth : Method} {c : Code} {D : va_G} {cI cY cJ cQ : ClassId} {b L aK aV : Nat} {xs : Nat → Int32} {ad rw md : Nat → Nat} {sd i : Int32} {nx : Nat → Int32} {fx rs : Nat → Nat → Int32} {lo : Nat → Int64} {ny : Nat → Int32} {fy : Nat → Nat → Int32} {fl : Nat → Int64} {H : Heap} {locs : List Loc} {ls : Array Slot} (C0 : lawC p s m meth c b L xs D cI cY cJ cQ aK aV) (I : inv nx fx rs ny fy) (hP : va_P D vwCl (wX ad rw sd cI cY cJ cQ nx fx rs lo ++ wM md sd cI cY cJ cQ ny fy fl) H) (hD : va_D (fun q : Nat => s.heap.size ≤ q) (wX ad rw sd cI cY cJ cQ nx fx rs lo ++ wM md sd cI cY cJ cQ ny fy fl)) (hS : va_S (fun q : Nat => s.heap.size ≤ q) s.heap H locs) (hl : lv_has ls 4 [(0, .ref b), (1, .ref (ad 0)), (2, .ref (md 64)), (3, .int i)]) (hi1 : 1 ≤ i.toInt) (hi2 : i.toInt + 5 < L) (kk : ∀ (nx : Nat → Int32) (fx rs : Nat → Nat → Int32) (lo : Nat → Int64) (ny : Nat → Int32) (fy : Nat → Nat → Int32) (fl : Nat → Int64) (H : Heap) (locs : List Loc) (ls : Array Slot), inv nx fx rs ny fy → va_P D vwCl (wX ad rw sd cI cY cJ cQ nx fx rs lo ++ wM md sd cI cY cJ cQ ny fy fl) H → va_D (fun q : Nat => s.heap.size ≤ q) (wX ad rw sd cI cY cJ cQ nx fx rs lo ++ wM md sd cI cY cJ cQ ny fy fl) → va_S (fun q : Nat => s.heap.size ≤ q) s.heap H locs → lv_has ls 4 [(0, .ref b), (1, .ref (ad 0)), (2, .ref (md 64)), (3, .int i)] → W p l e room_1 s m #[Value.ref b] below meth c H locs 107 4890 (lw_Z below #[Value.ref b] s) (F0 m 1652 ls [])) : W p l e room_1 s m #[Value.ref b] below meth c H locs 107 4890 (lw_Z below #[Value.ref b] s) (F0 m 651 ls []) := by
  obtain ⟨C1, hK, hN, hT, hL⟩ := C0
  obtain ⟨hx, hb, hr, hml, hown, hts0, hX, hbl, hlocks, hgv⟩ := C1
  have hA : ∀ q : Nat, s.heap.size ≤ q → (fun q : Nat => s.heap.size ≤ q) q := fun _ h => h
  have hbA : ¬ (fun q : Nat => s.heap.size ≤ q) b := Nat.not_le.mpr hbl
  have hts : ∀ w ∈ wsL_law, w.before #[Value.ref b] s = true := fun w h => hts0 w (wsL_law_in w h)
  replace hown : s.vm.findClass RL = some m.cls := hown
  replace hb : c.code = cL_law := hb
  have hak1 : vp_in (i + 1) L := law_in hi1 hi2 hL (by decide)
  obtain ⟨xk1, exk1⟩ : ∃ y : Int32, y = xs (i + 1).toNatClampNeg := ⟨_, rfl⟩
  have hak2 : vp_in (i + 2) L := law_in hi1 hi2 hL (by decide)
  obtain ⟨xk2, exk2⟩ : ∃ y : Int32, y = xs (i + 2).toNatClampNeg := ⟨_, rfl⟩
  have hak3 : vp_in (i + 3) L := law_in hi1 hi2 hL (by decide)
  obtain ⟨xk3, exk3⟩ : ∃ y : Int32, y = xs (i + 3).toNatClampNeg := ⟨_, rfl⟩
  have hak4 : vp_in (i + 4) L := law_in hi1 hi2 hL (by decide)
  obtain ⟨xk4, exk4⟩ : ∃ y : Int32, y = xs (i + 4).toNatClampNeg := ⟨_, rfl⟩
  have hak5 : vp_in (i + 5) L := law_in hi1 hi2 hL (by decide)
  obtain ⟨xk5, exk5⟩ : ∃ y : Int32, y = xs (i + 5).toNatClampNeg := ⟨_, rfl⟩
  refine inv_el I ?_
  intro Xhna Xhnb XH XD XV XN Xcna Xcnb XF Xpna Xpnb XG XO XW Xgna Xgnb XJ Xlna Xlnb Xdla Xdlb Xana Xanb Xuna Xunb XU Xlca Xlcb Xtna Xtnb XS Mhna Mhnb MH MS Mmlna Mmlnb Mmtna Mmtnb Chn Cho Chc Chp Chs Ccn Cfo Cwo Cpn Cpk Cpf Cpo Cpd Cpe Cgn Cgk Cgs Cgd Cge Can Cak Cah Cay Caz Cun Cuk Cuy Cuw Cum Clc Clp Cla Clb Caw Ciw Cln Ctd Cro Cmtn Cmtr Cmst Csh
  have Tcn := i_eq Ccn
  have Tpn := i_eq Cpn
  have Tgn := i_eq Cgn
  have Tan := i_eq Can
  have Tun := i_eq Cun
  have Tlc := i_eq Clc
  have Tln := i_eq Cln
  refine lv_aload_n hx hb dL_law_651 rfl (lv_at hl 1 rfl) ?_
  refine law_arg (v := 1) hx hb hX hbl hbA hS (lv_at hl 0 rfl) (lv_at hl 3 rfl) (by decide) hak1 exk1 dL_law_652 dL_law_653 dL_law_654 dL_law_655 dL_law_656 ?_
  refine law_arg (v := 2) hx hb hX hbl hbA hS (lv_at hl 0 rfl) (lv_at hl 3 rfl) (by decide) hak2 exk2 dL_law_657 dL_law_658 dL_law_659 dL_law_660 dL_law_661 ?_
  refine law_arg (v := 3) hx hb hX hbl hbA hS (lv_at hl 0 rfl) (lv_at hl 3 rfl) (by decide) hak3 exk3 dL_law_662 dL_law_663 dL_law_664 dL_law_665 dL_law_666 ?_
  refine law_arg (v := 4) hx hb hX hbl hbA hS (lv_at hl 0 rfl) (lv_at hl 3 rfl) (by decide) hak4 exk4 dL_law_667 dL_law_668 dL_law_669 dL_law_670 dL_law_671 ?_
  refine law_arg (v := 5) hx hb hX hbl hbA hS (lv_at hl 0 rfl) (lv_at hl 3 rfl) (by decide) hak5 exk5 dL_law_672 dL_law_673 dL_law_674 dL_law_675 dL_law_676 ?_
  refine st_iU (va_runV (C := RX10) (As := [.int xk1, .int xk2, .int xk3, .int xk4, .int xk5]) (rest := []) ⟨hx, hb, hml, hown, hts⟩ (ct_X10_paper l D cI cY cJ cQ _ ad (nx 0) (nx 1) (nx 2) (nx 4) (nx 5) (fx 16) (fx 17) (fx 18) (fx 19) (fx 20) (fx 21) xk1 xk2 xk3 xk4 xk5 Xpna Xpnb XO) (cwV 5 hts gL_law_X10_paper rfl rfl rfl ⟨rfl, cdX10_paper⟩ ⟨Nat.le_of_ble_eq_true rfl, Nat.le_of_ble_eq_true rfl⟩) (cPreV (hP.sub [0, 23, 29, 30, 31, 32, 33, 34, 35] rfl) hK (hD.sub [0, 23, 29, 30, 31, 32, 33, 34, 35] (by decide +kernel) rfl) hN (ci := 10) (q0 := 0) rfl rfl) rfl rfl hl.1 rfl (lv_room (Nat.le_of_ble_eq_true rfl)) dL_law_677 ⟨Nat.le_of_ble_eq_true rfl, Nat.le_of_ble_eq_true rfl⟩) hP hD hS hA [0, 23, 29, 30, 31, 32, 33, 34, 35] rfl (fun _ => rfl) (fun r3 u1 H locs hw2 => ?_)
  clear hP hS
  intro hP hS
  obtain ⟨pn_4, pk_5, pf_6, po_7, pd_8, pe_9, pr_10⟩ := u1
  replace hw2 : (r3, pn_4, pk_5, pf_6, po_7, pd_8, pe_9) = sp_paper (nx 5) (fx 16) (fx 17) (fx 18) (fx 19) (fx 20) (nx 4) xk1 xk2 xk3 xk4 xk5 ∧ okO pn_4 pr_10 ∧ (okW (nx 5) (fx 21) (fx 19) (fx 20) → okW pn_4 pr_10 pd_8 pe_9) := hw2
  obtain ⟨hw2, hw2o, hw2q⟩ := hw2
  replace hw2q := hw2q XW
  obtain ⟨hw2a, hw2b⟩ := sp_paper_ok hw2 (by omega) (by omega)
  have hw2f := sp_paper_okG hw2 (by omega) (by omega) XG
  refine lv_pop hx hb dL_law_680 rfl ?_
  have hPx : va_P D vwCl (wX ad rw sd cI cY cJ cQ (upd nx 5 pn_4) (upR (upR (upR (upR (upR (upR fx 16 pk_5) 17 pf_6) 18 po_7) 19 pd_8) 20 pe_9) 21 pr_10) rs lo ++ wM md sd cI cY cJ cQ ny fy fl) H := hP
  have hDx : va_D (fun q : Nat => s.heap.size ≤ q) (wX ad rw sd cI cY cJ cQ (upd nx 5 pn_4) (upR (upR (upR (upR (upR (upR fx 16 pk_5) 17 pf_6) 18 po_7) 19 pd_8) 20 pe_9) 21 pr_10) rs lo ++ wM md sd cI cY cJ cQ ny fy fl) := wXM_D hD
  have hP := hPx.comm
  have hD := hDx.comm
  refine lv_aload_n hx hb dL_law_681 rfl (lv_at hl 2 rfl) ?_
  refine law_arg (v := 1) hx hb hX hbl hbA hS (lv_at hl 0 rfl) (lv_at hl 3 rfl) (by decide) hak1 exk1 dL_law_682 dL_law_683 dL_law_684 dL_law_685 dL_law_686 ?_
  refine law_arg (v := 2) hx hb hX hbl hbA hS (lv_at hl 0 rfl) (lv_at hl 3 rfl) (by decide) hak2 exk2 dL_law_687 dL_law_688 dL_law_689 dL_law_690 dL_law_691 ?_
  refine law_arg (v := 3) hx hb hX hbl hbA hS (lv_at hl 0 rfl) (lv_at hl 3 rfl) (by decide) hak3 exk3 dL_law_692 dL_law_693 dL_law_694 dL_law_695 dL_law_696 ?_
  refine law_arg (v := 4) hx hb hX hbl hbA hS (lv_at hl 0 rfl) (lv_at hl 3 rfl) (by decide) hak4 exk4 dL_law_697 dL_law_698 dL_law_699 dL_law_700 dL_law_701 ?_
  refine law_arg (v := 5) hx hb hX hbl hbA hS (lv_at hl 0 rfl) (lv_at hl 3 rfl) (by decide) hak5 exk5 dL_law_702 dL_law_703 dL_law_704 dL_law_705 dL_law_706 ?_
  refine st_iU (va_runV (C := RX11) (As := [.int xk1, .int xk2, .int xk3, .int xk4, .int xk5]) (rest := []) ⟨hx, hb, hml, hown, hts⟩ (ct_X11_paper l D cI cY cJ cQ _ md sd (ny 0) (ny 1) (ny 2) (ny 3) (ny 4) (ny 5) (ny 6) (ny 7) (ny 8) (ny 9) (ny 10) (ny 11) (ny 12) (ny 13) (ny 14) (ny 15) (ny 16) (ny 17) (ny 18) (ny 19) (ny 20) (ny 21) (ny 22) (fy 12) (fy 13) (fy 14) (fy 15) (fy 16) xk1 xk2 xk3 xk4 xk5 (by omega) (by omega) (by omega) (by omega)) (cwV 5 hts gL_law_X11_paper rfl rfl rfl ⟨rfl, cdX11_paper⟩ ⟨Nat.le_of_ble_eq_true rfl, Nat.le_of_ble_eq_true rfl⟩) (cPreV (hP.sub [0, 14, 15, 16, 17, 18] rfl) hK (hD.sub [0, 14, 15, 16, 17, 18] (by decide +kernel) rfl) hN (ci := 11) (q0 := 0) rfl rfl) rfl rfl hl.1 rfl (lv_room (Nat.le_of_ble_eq_true rfl)) dL_law_707 ⟨Nat.le_of_ble_eq_true rfl, Nat.le_of_ble_eq_true rfl⟩) hP hD hS hA [0, 14, 15, 16, 17, 18] rfl (fun _ => rfl) (fun r13 u11 H locs hw12 => ?_)
  clear hP hS
  intro hP hS
  obtain ⟨pn_14, pk_15, pf_16, po_17, pd_18, pe_19⟩ := u11
  replace hw12 : (r13, (pn_14, pk_15, pf_16, po_17, pd_18, pe_19)) = sp_paper (ny 4) (fy 12) (fy 13) (fy 14) (fy 15) (fy 16) (ny 3) xk1 xk2 xk3 xk4 xk5 := hw12
  rw [Cpn, Cpk, Cpf, Cpo, Cpd, Cpe, Ccn] at hw12
  have e9 := hw2.trans hw12.symm
  simp only [Prod.mk.injEq] at e9
  obtain ⟨e90, e9pn, e9pk, e9pf, e9po, e9pd, e9pe⟩ := e9
  refine lv_pop hx hb dL_law_710 rfl ?_
  refine lv_goto (tgt := 1652) hx hb dL_law_711 (by decide) ?_
  have hPm : va_P D vwCl (wM md sd cI cY cJ cQ (upd (upd ny 0 0) 4 pn_14) (upR (upR (upR (upR (upR fy 12 pk_15) 13 pf_16) 14 po_17) 15 pd_18) 16 pe_19) fl ++ wX ad rw sd cI cY cJ cQ (upd nx 5 pn_4) (upR (upR (upR (upR (upR (upR fx 16 pk_5) 17 pf_6) 18 po_7) 19 pd_8) 20 pe_9) 21 pr_10) rs lo) H := hP
  have hDm : va_D (fun q : Nat => s.heap.size ≤ q) (wM md sd cI cY cJ cQ (upd (upd ny 0 0) 4 pn_14) (upR (upR (upR (upR (upR fy 12 pk_15) 13 pf_16) 14 po_17) 15 pd_18) 16 pe_19) fl ++ wX ad rw sd cI cY cJ cQ (upd nx 5 pn_4) (upR (upR (upR (upR (upR (upR fx 16 pk_5) 17 pf_6) 18 po_7) 19 pd_8) 20 pe_9) 21 pr_10) rs lo) := wMX_D hD
  exact kk (upd nx 5 pn_4) (upR (upR (upR (upR (upR (upR fx 16 pk_5) 17 pf_6) 18 po_7) 19 pd_8) 20 pe_9) 21 pr_10) rs lo (upd (upd ny 0 0) 4 pn_14) (upR (upR (upR (upR (upR fy 12 pk_15) 13 pf_16) 14 po_17) 15 pd_18) 16 pe_19) fl H locs ls ⟨Xhna, Xhnb, XH, XD, XV, XN, Xcna, Xcnb, XF, (by show 0 ≤ (pn_4).toInt; omega), (by show (pn_4).toInt ≤ 40; omega), (show okG (pn_4) (po_7) by assumption), (show okO (pn_4) (pr_10) by assumption), (show okW (pn_4) (pr_10) (pd_8) (pe_9) by assumption), Xgna, Xgnb, XJ, Xlna, Xlnb, Xdla, Xdlb, Xana, Xanb, Xuna, Xunb, XU, Xlca, Xlcb, Xtna, Xtnb, XS, Mhna, Mhnb, MH, MS, Mmlna, Mmlnb, Mmtna, Mmtnb, Chn, Cho, Chc, Chp, Chs, Ccn, Cfo, Cwo, (show (pn_14) = (pn_4) from e9pn.symm), (show (pk_15) = (pk_5) from e9pk.symm), (show (pf_16) = (pf_6) from e9pf.symm), (show (po_17) = (po_7) from e9po.symm), (show (pd_18) = (pd_8) from e9pd.symm), (show (pe_19) = (pe_9) from e9pe.symm), Cgn, Cgk, Cgs, Cgd, Cge, Can, Cak, Cah, Cay, Caz, Cun, Cuk, Cuy, Cuw, Cum, Clc, Clp, Cla, Clb, Caw, Ciw, Cln, Ctd, Cro, Cmtn, Cmtr, Cmst, Csh⟩ hPm.comm hDm.comm hS hl
