section
theorem cdX10_owner : yX10_owner.cls ≠ "java/lang/invoke/MethodHandle" ∧ yX10_owner.cls ≠ "java/lang/invoke/VarHandle" ∧ (parseMethodDescriptor yX10_owner.desc).map (fun d => d.parameters.length) = some 3 := by decide +kernel
theorem cdX10_quarrels : yX10_quarrels.cls ≠ "java/lang/invoke/MethodHandle" ∧ yX10_quarrels.cls ≠ "java/lang/invoke/VarHandle" ∧ (parseMethodDescriptor yX10_quarrels.desc).map (fun d => d.parameters.length) = some 2 := by decide +kernel
theorem cdX10_pledge : yX10_pledge.cls ≠ "java/lang/invoke/MethodHandle" ∧ yX10_pledge.cls ≠ "java/lang/invoke/VarHandle" ∧ (parseMethodDescriptor yX10_pledge.desc).map (fun d => d.parameters.length) = some 5 := by decide +kernel
theorem cdX10_rank : yX10_rank.cls ≠ "java/lang/invoke/MethodHandle" ∧ yX10_rank.cls ≠ "java/lang/invoke/VarHandle" ∧ (parseMethodDescriptor yX10_rank.desc).map (fun d => d.parameters.length) = some 5 := by decide +kernel
theorem cdX11_owner : yX11_owner.cls ≠ "java/lang/invoke/MethodHandle" ∧ yX11_owner.cls ≠ "java/lang/invoke/VarHandle" ∧ (parseMethodDescriptor yX11_owner.desc).map (fun d => d.parameters.length) = some 3 := by decide +kernel
theorem cdX11_quarrels : yX11_quarrels.cls ≠ "java/lang/invoke/MethodHandle" ∧ yX11_quarrels.cls ≠ "java/lang/invoke/VarHandle" ∧ (parseMethodDescriptor yX11_quarrels.desc).map (fun d => d.parameters.length) = some 2 := by decide +kernel
theorem cdX11_pledge : yX11_pledge.cls ≠ "java/lang/invoke/MethodHandle" ∧ yX11_pledge.cls ≠ "java/lang/invoke/VarHandle" ∧ (parseMethodDescriptor yX11_pledge.desc).map (fun d => d.parameters.length) = some 5 := by decide +kernel
theorem cdX11_rank : yX11_rank.cls ≠ "java/lang/invoke/MethodHandle" ∧ yX11_rank.cls ≠ "java/lang/invoke/VarHandle" ∧ (parseMethodDescriptor yX11_rank.desc).map (fun d => d.parameters.length) = some 5 := by decide +kernel
theorem Gd_X10_owner : gdA wsX10_owner := gd_cons (by decide +kernel) (gd_app (gd_all (ws := wsX10_owner_o1) (by decide +kernel)) (gd_app (gd_app (gd_app Gd_X100 Gd_X10) Gd_X70) (gd_app (gd_app Gd_X10_isCrate Gd_X10_isDay) Gd_X7_ownerOf)))
theorem Gd_X10_quarrels : gdA wsX10_quarrels := gd_cons (by decide +kernel) (gd_app (gd_all (ws := wsX10_quarrels_o1) (by decide +kernel)) (gd_app (gd_app (gd_app Gd_X100 Gd_X10) Gd_X70) (gd_app (gd_app Gd_X10_isCrate Gd_X10_isDay) Gd_X7_notGood)))
theorem Gd_X10_pledge : gdA wsX10_pledge := gd_cons (by decide +kernel) (gd_app (gd_all (ws := wsX10_pledge_o1) (by decide +kernel)) (gd_app (gd_app (gd_app Gd_X100 Gd_X80) (gd_app Gd_X10 Gd_X10_isCrate)) (gd_app (gd_app Gd_X10_isPerson Gd_X10_isFrom) (gd_app Gd_X10_areDays Gd_X8_tell))))
theorem Gd_X10_rank : gdA wsX10_rank := gd_cons (by decide +kernel) (gd_app (gd_all (ws := wsX10_rank_o1) (by decide +kernel)) (gd_app (gd_app (gd_app Gd_X100 Gd_X80) (gd_app Gd_X10 Gd_X10_isCrate)) (gd_app (gd_app Gd_X10_isDay Gd_X10_isBelow) (gd_app Gd_X8_putInOrder Gd_X8_paidTo))))
theorem Gd_X11_owner : gdA wsX11_owner := gd_cons (by decide +kernel) (gd_app (gd_all (ws := wsX11_owner_o1) (by decide +kernel)) (gd_app (gd_app Gd_X110 Gd_X11_isCrate) (gd_app Gd_X11_isDay Gd_X11_ownerOf)))
theorem Gd_X11_quarrels : gdA wsX11_quarrels := gd_cons (by decide +kernel) (gd_app (gd_all (ws := wsX11_quarrels_o1) (by decide +kernel)) (gd_app (gd_app Gd_X110 Gd_X11_isCrate) (gd_app Gd_X11_isDay Gd_X11_ownerOf)))
theorem Gd_X11_pledge : gdA wsX11_pledge := gd_cons (by decide +kernel) (gd_app (gd_all (ws := wsX11_pledge_o1) (by decide +kernel)) (gd_app (gd_app (gd_app Gd_X110 Gd_X11_isCrate) Gd_X11_isPerson) (gd_app Gd_X11_in Gd_X11_isDay)))
theorem Gd_X11_rank : gdA wsX11_rank := gd_cons (by decide +kernel) (gd_app (gd_all (ws := wsX11_rank_o1) (by decide +kernel)) (gd_app (gd_app (gd_app Gd_X110 Gd_X11_isCrate) Gd_X11_isDay) (gd_app Gd_X11_in Gd_X11_keyOf)))
theorem ggL_law_X10_owner : GoodIn wsL_law wsX10_owner := goodIn_s (fun _ h => (wm_r (wm_l (wm_r (wm_r (wm_l (wm_r (wm_l (wm_r h))))))))) Gd_X10_owner
theorem gL_law_X10_owner : GoodIn wsL_law (wsV RL 74 RX10 yX10_owner wsX10_owner) := goodIn_V (own := RL) (idx := 74) (C := RX10) (y := yX10_owner) (wm_l (wm_l (wm_r (wm_l (wm_l (wm_i 13 rfl)))))) (wm_l (wm_l (wm_r (wm_l (wm_l (wm_i 14 rfl)))))) (wm_l (wm_l (wm_r (wm_l (wm_l (wm_i 15 rfl)))))) (wm_l (wm_l (wm_l (wm_l (wm_l (wm_i 2 rfl)))))) ggL_law_X10_owner
theorem ggL_law_X11_owner : GoodIn wsL_law wsX11_owner := goodIn_s (fun _ h => (wm_r (wm_l (wm_r (wm_r (wm_l (wm_r (wm_r h)))))))) Gd_X11_owner
theorem gL_law_X11_owner : GoodIn wsL_law (wsV RL 77 RX11 yX11_owner wsX11_owner) := goodIn_V (own := RL) (idx := 77) (C := RX11) (y := yX11_owner) (wm_l (wm_l (wm_r (wm_l (wm_l (wm_i 16 rfl)))))) (wm_l (wm_l (wm_r (wm_l (wm_l (wm_i 17 rfl)))))) (wm_l (wm_l (wm_r (wm_l (wm_l (wm_i 18 rfl)))))) (wm_l (wm_l (wm_l (wm_l (wm_l (wm_i 5 rfl)))))) ggL_law_X11_owner
theorem ggL_law_X10_quarrels : GoodIn wsL_law wsX10_quarrels := goodIn_s (fun _ h => (wm_r (wm_l (wm_r (wm_r (wm_r (wm_l (wm_l (wm_l h))))))))) Gd_X10_quarrels
theorem gL_law_X10_quarrels : GoodIn wsL_law (wsV RL 78 RX10 yX10_quarrels wsX10_quarrels) := goodIn_V (own := RL) (idx := 78) (C := RX10) (y := yX10_quarrels) (wm_l (wm_l (wm_r (wm_l (wm_l (wm_i 19 rfl)))))) (wm_l (wm_l (wm_r (wm_l (wm_l (wm_i 20 rfl)))))) (wm_l (wm_l (wm_r (wm_l (wm_l (wm_i 21 rfl)))))) (wm_l (wm_l (wm_l (wm_l (wm_l (wm_i 2 rfl)))))) ggL_law_X10_quarrels
theorem ggL_law_X11_quarrels : GoodIn wsL_law wsX11_quarrels := goodIn_s (fun _ h => (wm_r (wm_l (wm_r (wm_r (wm_r (wm_l (wm_l (wm_r h))))))))) Gd_X11_quarrels
theorem gL_law_X11_quarrels : GoodIn wsL_law (wsV RL 81 RX11 yX11_quarrels wsX11_quarrels) := goodIn_V (own := RL) (idx := 81) (C := RX11) (y := yX11_quarrels) (wm_l (wm_l (wm_r (wm_l (wm_l (wm_i 22 rfl)))))) (wm_l (wm_l (wm_r (wm_l (wm_l (wm_i 23 rfl)))))) (wm_l (wm_l (wm_r (wm_l (wm_r (wm_i 0 rfl)))))) (wm_l (wm_l (wm_l (wm_l (wm_l (wm_i 5 rfl)))))) ggL_law_X11_quarrels
theorem ggL_law_X10_pledge : GoodIn wsL_law wsX10_pledge := goodIn_s (fun _ h => (wm_r (wm_l (wm_r (wm_r (wm_r (wm_l (wm_r h)))))))) Gd_X10_pledge
theorem gL_law_X10_pledge : GoodIn wsL_law (wsV RL 82 RX10 yX10_pledge wsX10_pledge) := goodIn_V (own := RL) (idx := 82) (C := RX10) (y := yX10_pledge) (wm_l (wm_l (wm_r (wm_l (wm_r (wm_i 1 rfl)))))) (wm_l (wm_l (wm_r (wm_l (wm_r (wm_i 2 rfl)))))) (wm_l (wm_l (wm_r (wm_l (wm_r (wm_i 3 rfl)))))) (wm_l (wm_l (wm_l (wm_l (wm_l (wm_i 2 rfl)))))) ggL_law_X10_pledge
theorem ggL_law_X11_pledge : GoodIn wsL_law wsX11_pledge := goodIn_s (fun _ h => (wm_r (wm_l (wm_r (wm_r (wm_r (wm_r (wm_l h)))))))) Gd_X11_pledge
theorem gL_law_X11_pledge : GoodIn wsL_law (wsV RL 85 RX11 yX11_pledge wsX11_pledge) := goodIn_V (own := RL) (idx := 85) (C := RX11) (y := yX11_pledge) (wm_l (wm_l (wm_r (wm_l (wm_r (wm_i 4 rfl)))))) (wm_l (wm_l (wm_r (wm_l (wm_r (wm_i 5 rfl)))))) (wm_l (wm_l (wm_r (wm_l (wm_r (wm_i 6 rfl)))))) (wm_l (wm_l (wm_l (wm_l (wm_l (wm_i 5 rfl)))))) ggL_law_X11_pledge
theorem ggL_law_X10_rank : GoodIn wsL_law wsX10_rank := goodIn_s (fun _ h => (wm_r (wm_l (wm_r (wm_r (wm_r (wm_r (wm_r h)))))))) Gd_X10_rank
theorem gL_law_X10_rank : GoodIn wsL_law (wsV RL 86 RX10 yX10_rank wsX10_rank) := goodIn_V (own := RL) (idx := 86) (C := RX10) (y := yX10_rank) (wm_l (wm_l (wm_r (wm_l (wm_r (wm_i 7 rfl)))))) (wm_l (wm_l (wm_r (wm_l (wm_r (wm_i 8 rfl)))))) (wm_l (wm_l (wm_r (wm_l (wm_r (wm_i 9 rfl)))))) (wm_l (wm_l (wm_l (wm_l (wm_l (wm_i 2 rfl)))))) ggL_law_X10_rank
theorem ggL_law_X11_rank : GoodIn wsL_law wsX11_rank := goodIn_s (fun _ h => (wm_r (wm_r (wm_l (wm_l (wm_l (wm_l (wm_l (wm_l h))))))))) Gd_X11_rank
theorem gL_law_X11_rank : GoodIn wsL_law (wsV RL 89 RX11 yX11_rank wsX11_rank) := goodIn_V (own := RL) (idx := 89) (C := RX11) (y := yX11_rank) (wm_l (wm_l (wm_r (wm_l (wm_r (wm_i 10 rfl)))))) (wm_l (wm_l (wm_r (wm_l (wm_r (wm_i 11 rfl)))))) (wm_l (wm_l (wm_r (wm_l (wm_r (wm_i 12 rfl)))))) (wm_l (wm_l (wm_l (wm_l (wm_l (wm_i 5 rfl)))))) ggL_law_X11_rank
theorem sB_30 : dqA cL_law 720 sL_30 := dq_next sB_29 24 rfl
theorem sB_31 : dqA cL_law 744 sL_31 := dq_next sB_30 24 rfl
theorem sB_32 : dqA cL_law 768 sL_32 := dq_next sB_31 24 rfl
theorem sB_33 : dqA cL_law 792 sL_33 := dq_next sB_32 24 rfl
theorem sB_34 : dqA cL_law 816 sL_34 := dq_next sB_33 24 rfl
theorem sB_35 : dqA cL_law 840 sL_35 := dq_next sB_34 24 rfl
theorem sB_36 : dqA cL_law 864 sL_36 := dq_next sB_35 24 rfl
theorem sB_37 : dqA cL_law 888 sL_37 := dq_next sB_36 24 rfl
theorem sB_38 : dqA cL_law 912 sL_38 := dq_next sB_37 24 rfl
theorem dL_law_714 : decode cL_law 714 = .ok (.aload_n 1, 1) := dL_law_all38.2.2.2.2.2.2.1
theorem dL_law_715 : decode cL_law 715 = .ok (.aload_n 0, 1) := dL_law_all38.2.2.2.2.2.2.2.1
theorem dL_law_716 : decode cL_law 716 = .ok (.iload_n 3, 1) := dL_law_all38.2.2.2.2.2.2.2.2.1
theorem dL_law_717 : decode cL_law 717 = .ok (.iconst 1, 1) := dL_law_all38.2.2.2.2.2.2.2.2.2.1
theorem dL_law_718 : decode cL_law 718 = .ok (.iadd, 1) := dL_law_all38.2.2.2.2.2.2.2.2.2.2.1
theorem dL_law_719 : decode cL_law 719 = .ok (.iaload, 1) := dL_law_all38.2.2.2.2.2.2.2.2.2.2.2
theorem dL_law_all39 : decode cL_law 720 = .ok (.aload_n 0, 1) ∧ decode cL_law 721 = .ok (.iload_n 3, 1) ∧ decode cL_law 722 = .ok (.iconst 2, 1) ∧ decode cL_law 723 = .ok (.iadd, 1) ∧ decode cL_law 724 = .ok (.iaload, 1) ∧ decode cL_law 725 = .ok (.aload_n 0, 1) ∧ decode cL_law 726 = .ok (.iload_n 3, 1) ∧ decode cL_law 727 = .ok (.iconst 3, 1) ∧ decode cL_law 728 = .ok (.iadd, 1) ∧ decode cL_law 729 = .ok (.iaload, 1) ∧ decode cL_law 730 = .ok (.invokevirtual 74, 3) ∧ decode cL_law 733 = .ok (.pop, 1) := ⟨dq_42 sB_30 0 rfl, dq_29 sB_30 1 rfl, dq_5 sB_30 2 rfl, dq_96 sB_30 3 rfl, dq_46 sB_30 4 rfl, dq_42 sB_30 5 rfl, dq_29 sB_30 6 rfl, dq_6 sB_30 7 rfl, dq_96 sB_30 8 rfl, dq_46 sB_30 9 rfl, dq_182 sB_30 10 rfl 74 (by decide), dq_87 sB_30 13 rfl⟩
theorem dL_law_720 : decode cL_law 720 = .ok (.aload_n 0, 1) := dL_law_all39.1
theorem dL_law_721 : decode cL_law 721 = .ok (.iload_n 3, 1) := dL_law_all39.2.1
theorem dL_law_722 : decode cL_law 722 = .ok (.iconst 2, 1) := dL_law_all39.2.2.1
theorem dL_law_723 : decode cL_law 723 = .ok (.iadd, 1) := dL_law_all39.2.2.2.1
theorem dL_law_724 : decode cL_law 724 = .ok (.iaload, 1) := dL_law_all39.2.2.2.2.1
theorem dL_law_725 : decode cL_law 725 = .ok (.aload_n 0, 1) := dL_law_all39.2.2.2.2.2.1
theorem dL_law_726 : decode cL_law 726 = .ok (.iload_n 3, 1) := dL_law_all39.2.2.2.2.2.2.1
theorem dL_law_727 : decode cL_law 727 = .ok (.iconst 3, 1) := dL_law_all39.2.2.2.2.2.2.2.1
theorem dL_law_728 : decode cL_law 728 = .ok (.iadd, 1) := dL_law_all39.2.2.2.2.2.2.2.2.1
theorem dL_law_729 : decode cL_law 729 = .ok (.iaload, 1) := dL_law_all39.2.2.2.2.2.2.2.2.2.1
theorem dL_law_730 : decode cL_law 730 = .ok (.invokevirtual 74, 3) := dL_law_all39.2.2.2.2.2.2.2.2.2.2.1
theorem dL_law_733 : decode cL_law 733 = .ok (.pop, 1) := dL_law_all39.2.2.2.2.2.2.2.2.2.2.2
theorem dL_law_all40 : decode cL_law 734 = .ok (.aload_n 2, 1) ∧ decode cL_law 735 = .ok (.aload_n 0, 1) ∧ decode cL_law 736 = .ok (.iload_n 3, 1) ∧ decode cL_law 737 = .ok (.iconst 1, 1) ∧ decode cL_law 738 = .ok (.iadd, 1) ∧ decode cL_law 739 = .ok (.iaload, 1) ∧ decode cL_law 740 = .ok (.aload_n 0, 1) ∧ decode cL_law 741 = .ok (.iload_n 3, 1) ∧ decode cL_law 742 = .ok (.iconst 2, 1) ∧ decode cL_law 743 = .ok (.iadd, 1) ∧ decode cL_law 744 = .ok (.iaload, 1) ∧ decode cL_law 745 = .ok (.aload_n 0, 1) := ⟨dq_44 sB_30 14 rfl, dq_42 sB_30 15 rfl, dq_29 sB_30 16 rfl, dq_4 sB_30 17 rfl, dq_96 sB_30 18 rfl, dq_46 sB_30 19 rfl, dq_42 sB_30 20 rfl, dq_29 sB_30 21 rfl, dq_5 sB_30 22 rfl, dq_96 sB_30 23 rfl, dq_46 sB_31 0 rfl, dq_42 sB_31 1 rfl⟩
theorem dL_law_734 : decode cL_law 734 = .ok (.aload_n 2, 1) := dL_law_all40.1
theorem dL_law_735 : decode cL_law 735 = .ok (.aload_n 0, 1) := dL_law_all40.2.1
theorem dL_law_736 : decode cL_law 736 = .ok (.iload_n 3, 1) := dL_law_all40.2.2.1
theorem dL_law_737 : decode cL_law 737 = .ok (.iconst 1, 1) := dL_law_all40.2.2.2.1
theorem dL_law_738 : decode cL_law 738 = .ok (.iadd, 1) := dL_law_all40.2.2.2.2.1
theorem dL_law_739 : decode cL_law 739 = .ok (.iaload, 1) := dL_law_all40.2.2.2.2.2.1
theorem dL_law_740 : decode cL_law 740 = .ok (.aload_n 0, 1) := dL_law_all40.2.2.2.2.2.2.1
theorem dL_law_741 : decode cL_law 741 = .ok (.iload_n 3, 1) := dL_law_all40.2.2.2.2.2.2.2.1
theorem dL_law_742 : decode cL_law 742 = .ok (.iconst 2, 1) := dL_law_all40.2.2.2.2.2.2.2.2.1
theorem dL_law_743 : decode cL_law 743 = .ok (.iadd, 1) := dL_law_all40.2.2.2.2.2.2.2.2.2.1
theorem dL_law_744 : decode cL_law 744 = .ok (.iaload, 1) := dL_law_all40.2.2.2.2.2.2.2.2.2.2.1
theorem dL_law_745 : decode cL_law 745 = .ok (.aload_n 0, 1) := dL_law_all40.2.2.2.2.2.2.2.2.2.2.2
theorem dL_law_all41 : decode cL_law 746 = .ok (.iload_n 3, 1) ∧ decode cL_law 747 = .ok (.iconst 3, 1) ∧ decode cL_law 748 = .ok (.iadd, 1) ∧ decode cL_law 749 = .ok (.iaload, 1) ∧ decode cL_law 750 = .ok (.invokevirtual 77, 3) ∧ decode cL_law 753 = .ok (.pop, 1) ∧ decode cL_law 754 = .ok (.goto 898, 3) ∧ decode cL_law 757 = .ok (.aload_n 1, 1) ∧ decode cL_law 758 = .ok (.aload_n 0, 1) ∧ decode cL_law 759 = .ok (.iload_n 3, 1) ∧ decode cL_law 760 = .ok (.iconst 1, 1) ∧ decode cL_law 761 = .ok (.iadd, 1) := ⟨dq_29 sB_31 2 rfl, dq_6 sB_31 3 rfl, dq_96 sB_31 4 rfl, dq_46 sB_31 5 rfl, dq_182 sB_31 6 rfl 77 (by decide), dq_87 sB_31 9 rfl, dq_167 sB_31 10 rfl 898 (by decide), dq_43 sB_31 13 rfl, dq_42 sB_31 14 rfl, dq_29 sB_31 15 rfl, dq_4 sB_31 16 rfl, dq_96 sB_31 17 rfl⟩
theorem dL_law_746 : decode cL_law 746 = .ok (.iload_n 3, 1) := dL_law_all41.1
theorem dL_law_747 : decode cL_law 747 = .ok (.iconst 3, 1) := dL_law_all41.2.1
theorem dL_law_748 : decode cL_law 748 = .ok (.iadd, 1) := dL_law_all41.2.2.1
theorem dL_law_749 : decode cL_law 749 = .ok (.iaload, 1) := dL_law_all41.2.2.2.1
theorem dL_law_750 : decode cL_law 750 = .ok (.invokevirtual 77, 3) := dL_law_all41.2.2.2.2.1
theorem dL_law_753 : decode cL_law 753 = .ok (.pop, 1) := dL_law_all41.2.2.2.2.2.1
theorem dL_law_754 : decode cL_law 754 = .ok (.goto 898, 3) := dL_law_all41.2.2.2.2.2.2.1
theorem dL_law_757 : decode cL_law 757 = .ok (.aload_n 1, 1) := dL_law_all41.2.2.2.2.2.2.2.1
theorem dL_law_758 : decode cL_law 758 = .ok (.aload_n 0, 1) := dL_law_all41.2.2.2.2.2.2.2.2.1
theorem dL_law_759 : decode cL_law 759 = .ok (.iload_n 3, 1) := dL_law_all41.2.2.2.2.2.2.2.2.2.1
theorem dL_law_760 : decode cL_law 760 = .ok (.iconst 1, 1) := dL_law_all41.2.2.2.2.2.2.2.2.2.2.1
theorem dL_law_761 : decode cL_law 761 = .ok (.iadd, 1) := dL_law_all41.2.2.2.2.2.2.2.2.2.2.2
theorem dL_law_all42 : decode cL_law 762 = .ok (.iaload, 1) ∧ decode cL_law 763 = .ok (.aload_n 0, 1) ∧ decode cL_law 764 = .ok (.iload_n 3, 1) ∧ decode cL_law 765 = .ok (.iconst 2, 1) ∧ decode cL_law 766 = .ok (.iadd, 1) ∧ decode cL_law 767 = .ok (.iaload, 1) ∧ decode cL_law 768 = .ok (.invokevirtual 78, 3) ∧ decode cL_law 771 = .ok (.pop, 1) ∧ decode cL_law 772 = .ok (.aload_n 2, 1) ∧ decode cL_law 773 = .ok (.aload_n 0, 1) ∧ decode cL_law 774 = .ok (.iload_n 3, 1) ∧ decode cL_law 775 = .ok (.iconst 1, 1) := ⟨dq_46 sB_31 18 rfl, dq_42 sB_31 19 rfl, dq_29 sB_31 20 rfl, dq_5 sB_31 21 rfl, dq_96 sB_31 22 rfl, dq_46 sB_31 23 rfl, dq_182 sB_32 0 rfl 78 (by decide), dq_87 sB_32 3 rfl, dq_44 sB_32 4 rfl, dq_42 sB_32 5 rfl, dq_29 sB_32 6 rfl, dq_4 sB_32 7 rfl⟩
theorem dL_law_762 : decode cL_law 762 = .ok (.iaload, 1) := dL_law_all42.1
theorem dL_law_763 : decode cL_law 763 = .ok (.aload_n 0, 1) := dL_law_all42.2.1
theorem dL_law_764 : decode cL_law 764 = .ok (.iload_n 3, 1) := dL_law_all42.2.2.1
theorem dL_law_765 : decode cL_law 765 = .ok (.iconst 2, 1) := dL_law_all42.2.2.2.1
theorem dL_law_766 : decode cL_law 766 = .ok (.iadd, 1) := dL_law_all42.2.2.2.2.1
theorem dL_law_767 : decode cL_law 767 = .ok (.iaload, 1) := dL_law_all42.2.2.2.2.2.1
theorem dL_law_768 : decode cL_law 768 = .ok (.invokevirtual 78, 3) := dL_law_all42.2.2.2.2.2.2.1
theorem dL_law_771 : decode cL_law 771 = .ok (.pop, 1) := dL_law_all42.2.2.2.2.2.2.2.1
theorem dL_law_772 : decode cL_law 772 = .ok (.aload_n 2, 1) := dL_law_all42.2.2.2.2.2.2.2.2.1
theorem dL_law_773 : decode cL_law 773 = .ok (.aload_n 0, 1) := dL_law_all42.2.2.2.2.2.2.2.2.2.1
theorem dL_law_774 : decode cL_law 774 = .ok (.iload_n 3, 1) := dL_law_all42.2.2.2.2.2.2.2.2.2.2.1
theorem dL_law_775 : decode cL_law 775 = .ok (.iconst 1, 1) := dL_law_all42.2.2.2.2.2.2.2.2.2.2.2
theorem dL_law_all43 : decode cL_law 776 = .ok (.iadd, 1) ∧ decode cL_law 777 = .ok (.iaload, 1) ∧ decode cL_law 778 = .ok (.aload_n 0, 1) ∧ decode cL_law 779 = .ok (.iload_n 3, 1) ∧ decode cL_law 780 = .ok (.iconst 2, 1) ∧ decode cL_law 781 = .ok (.iadd, 1) ∧ decode cL_law 782 = .ok (.iaload, 1) ∧ decode cL_law 783 = .ok (.invokevirtual 81, 3) ∧ decode cL_law 786 = .ok (.pop, 1) ∧ decode cL_law 787 = .ok (.goto 865, 3) ∧ decode cL_law 790 = .ok (.aload_n 1, 1) ∧ decode cL_law 791 = .ok (.aload_n 0, 1) := ⟨dq_96 sB_32 8 rfl, dq_46 sB_32 9 rfl, dq_42 sB_32 10 rfl, dq_29 sB_32 11 rfl, dq_5 sB_32 12 rfl, dq_96 sB_32 13 rfl, dq_46 sB_32 14 rfl, dq_182 sB_32 15 rfl 81 (by decide), dq_87 sB_32 18 rfl, dq_167 sB_32 19 rfl 865 (by decide), dq_43 sB_32 22 rfl, dq_42 sB_32 23 rfl⟩
theorem dL_law_776 : decode cL_law 776 = .ok (.iadd, 1) := dL_law_all43.1
theorem dL_law_777 : decode cL_law 777 = .ok (.iaload, 1) := dL_law_all43.2.1
theorem dL_law_778 : decode cL_law 778 = .ok (.aload_n 0, 1) := dL_law_all43.2.2.1
theorem dL_law_779 : decode cL_law 779 = .ok (.iload_n 3, 1) := dL_law_all43.2.2.2.1
theorem dL_law_780 : decode cL_law 780 = .ok (.iconst 2, 1) := dL_law_all43.2.2.2.2.1
theorem dL_law_781 : decode cL_law 781 = .ok (.iadd, 1) := dL_law_all43.2.2.2.2.2.1
theorem dL_law_782 : decode cL_law 782 = .ok (.iaload, 1) := dL_law_all43.2.2.2.2.2.2.1
theorem dL_law_783 : decode cL_law 783 = .ok (.invokevirtual 81, 3) := dL_law_all43.2.2.2.2.2.2.2.1
theorem dL_law_786 : decode cL_law 786 = .ok (.pop, 1) := dL_law_all43.2.2.2.2.2.2.2.2.1
theorem dL_law_787 : decode cL_law 787 = .ok (.goto 865, 3) := dL_law_all43.2.2.2.2.2.2.2.2.2.1
theorem dL_law_790 : decode cL_law 790 = .ok (.aload_n 1, 1) := dL_law_all43.2.2.2.2.2.2.2.2.2.2.1
theorem dL_law_791 : decode cL_law 791 = .ok (.aload_n 0, 1) := dL_law_all43.2.2.2.2.2.2.2.2.2.2.2
theorem dL_law_all44 : decode cL_law 792 = .ok (.iload_n 3, 1) ∧ decode cL_law 793 = .ok (.iconst 1, 1) ∧ decode cL_law 794 = .ok (.iadd, 1) ∧ decode cL_law 795 = .ok (.iaload, 1) ∧ decode cL_law 796 = .ok (.aload_n 0, 1) ∧ decode cL_law 797 = .ok (.iload_n 3, 1) ∧ decode cL_law 798 = .ok (.iconst 2, 1) ∧ decode cL_law 799 = .ok (.iadd, 1) ∧ decode cL_law 800 = .ok (.iaload, 1) ∧ decode cL_law 801 = .ok (.aload_n 0, 1) ∧ decode cL_law 802 = .ok (.iload_n 3, 1) ∧ decode cL_law 803 = .ok (.iconst 3, 1) := ⟨dq_29 sB_33 0 rfl, dq_4 sB_33 1 rfl, dq_96 sB_33 2 rfl, dq_46 sB_33 3 rfl, dq_42 sB_33 4 rfl, dq_29 sB_33 5 rfl, dq_5 sB_33 6 rfl, dq_96 sB_33 7 rfl, dq_46 sB_33 8 rfl, dq_42 sB_33 9 rfl, dq_29 sB_33 10 rfl, dq_6 sB_33 11 rfl⟩
theorem dL_law_792 : decode cL_law 792 = .ok (.iload_n 3, 1) := dL_law_all44.1
theorem dL_law_793 : decode cL_law 793 = .ok (.iconst 1, 1) := dL_law_all44.2.1
theorem dL_law_794 : decode cL_law 794 = .ok (.iadd, 1) := dL_law_all44.2.2.1
theorem dL_law_795 : decode cL_law 795 = .ok (.iaload, 1) := dL_law_all44.2.2.2.1
theorem dL_law_796 : decode cL_law 796 = .ok (.aload_n 0, 1) := dL_law_all44.2.2.2.2.1
theorem dL_law_797 : decode cL_law 797 = .ok (.iload_n 3, 1) := dL_law_all44.2.2.2.2.2.1
theorem dL_law_798 : decode cL_law 798 = .ok (.iconst 2, 1) := dL_law_all44.2.2.2.2.2.2.1
theorem dL_law_799 : decode cL_law 799 = .ok (.iadd, 1) := dL_law_all44.2.2.2.2.2.2.2.1
theorem dL_law_800 : decode cL_law 800 = .ok (.iaload, 1) := dL_law_all44.2.2.2.2.2.2.2.2.1
theorem dL_law_801 : decode cL_law 801 = .ok (.aload_n 0, 1) := dL_law_all44.2.2.2.2.2.2.2.2.2.1
theorem dL_law_802 : decode cL_law 802 = .ok (.iload_n 3, 1) := dL_law_all44.2.2.2.2.2.2.2.2.2.2.1
theorem dL_law_803 : decode cL_law 803 = .ok (.iconst 3, 1) := dL_law_all44.2.2.2.2.2.2.2.2.2.2.2
theorem dL_law_all45 : decode cL_law 804 = .ok (.iadd, 1) ∧ decode cL_law 805 = .ok (.iaload, 1) ∧ decode cL_law 806 = .ok (.aload_n 0, 1) ∧ decode cL_law 807 = .ok (.iload_n 3, 1) ∧ decode cL_law 808 = .ok (.iconst 4, 1) ∧ decode cL_law 809 = .ok (.iadd, 1) ∧ decode cL_law 810 = .ok (.iaload, 1) ∧ decode cL_law 811 = .ok (.aload_n 0, 1) ∧ decode cL_law 812 = .ok (.iload_n 3, 1) ∧ decode cL_law 813 = .ok (.iconst 5, 1) ∧ decode cL_law 814 = .ok (.iadd, 1) ∧ decode cL_law 815 = .ok (.iaload, 1) := ⟨dq_96 sB_33 12 rfl, dq_46 sB_33 13 rfl, dq_42 sB_33 14 rfl, dq_29 sB_33 15 rfl, dq_7 sB_33 16 rfl, dq_96 sB_33 17 rfl, dq_46 sB_33 18 rfl, dq_42 sB_33 19 rfl, dq_29 sB_33 20 rfl, dq_8 sB_33 21 rfl, dq_96 sB_33 22 rfl, dq_46 sB_33 23 rfl⟩
theorem dL_law_804 : decode cL_law 804 = .ok (.iadd, 1) := dL_law_all45.1
theorem dL_law_805 : decode cL_law 805 = .ok (.iaload, 1) := dL_law_all45.2.1
theorem dL_law_806 : decode cL_law 806 = .ok (.aload_n 0, 1) := dL_law_all45.2.2.1
theorem dL_law_807 : decode cL_law 807 = .ok (.iload_n 3, 1) := dL_law_all45.2.2.2.1
theorem dL_law_808 : decode cL_law 808 = .ok (.iconst 4, 1) := dL_law_all45.2.2.2.2.1
theorem dL_law_809 : decode cL_law 809 = .ok (.iadd, 1) := dL_law_all45.2.2.2.2.2.1
theorem dL_law_810 : decode cL_law 810 = .ok (.iaload, 1) := dL_law_all45.2.2.2.2.2.2.1
theorem dL_law_811 : decode cL_law 811 = .ok (.aload_n 0, 1) := dL_law_all45.2.2.2.2.2.2.2.1
theorem dL_law_812 : decode cL_law 812 = .ok (.iload_n 3, 1) := dL_law_all45.2.2.2.2.2.2.2.2.1
theorem dL_law_813 : decode cL_law 813 = .ok (.iconst 5, 1) := dL_law_all45.2.2.2.2.2.2.2.2.2.1
theorem dL_law_814 : decode cL_law 814 = .ok (.iadd, 1) := dL_law_all45.2.2.2.2.2.2.2.2.2.2.1
theorem dL_law_815 : decode cL_law 815 = .ok (.iaload, 1) := dL_law_all45.2.2.2.2.2.2.2.2.2.2.2
theorem dL_law_all46 : decode cL_law 816 = .ok (.invokevirtual 82, 3) ∧ decode cL_law 819 = .ok (.pop, 1) ∧ decode cL_law 820 = .ok (.aload_n 2, 1) ∧ decode cL_law 821 = .ok (.aload_n 0, 1) ∧ decode cL_law 822 = .ok (.iload_n 3, 1) ∧ decode cL_law 823 = .ok (.iconst 1, 1) ∧ decode cL_law 824 = .ok (.iadd, 1) ∧ decode cL_law 825 = .ok (.iaload, 1) ∧ decode cL_law 826 = .ok (.aload_n 0, 1) ∧ decode cL_law 827 = .ok (.iload_n 3, 1) ∧ decode cL_law 828 = .ok (.iconst 2, 1) ∧ decode cL_law 829 = .ok (.iadd, 1) := ⟨dq_182 sB_34 0 rfl 82 (by decide), dq_87 sB_34 3 rfl, dq_44 sB_34 4 rfl, dq_42 sB_34 5 rfl, dq_29 sB_34 6 rfl, dq_4 sB_34 7 rfl, dq_96 sB_34 8 rfl, dq_46 sB_34 9 rfl, dq_42 sB_34 10 rfl, dq_29 sB_34 11 rfl, dq_5 sB_34 12 rfl, dq_96 sB_34 13 rfl⟩
theorem dL_law_816 : decode cL_law 816 = .ok (.invokevirtual 82, 3) := dL_law_all46.1
theorem dL_law_819 : decode cL_law 819 = .ok (.pop, 1) := dL_law_all46.2.1
theorem dL_law_820 : decode cL_law 820 = .ok (.aload_n 2, 1) := dL_law_all46.2.2.1
theorem dL_law_821 : decode cL_law 821 = .ok (.aload_n 0, 1) := dL_law_all46.2.2.2.1
theorem dL_law_822 : decode cL_law 822 = .ok (.iload_n 3, 1) := dL_law_all46.2.2.2.2.1
theorem dL_law_823 : decode cL_law 823 = .ok (.iconst 1, 1) := dL_law_all46.2.2.2.2.2.1
theorem dL_law_824 : decode cL_law 824 = .ok (.iadd, 1) := dL_law_all46.2.2.2.2.2.2.1
theorem dL_law_825 : decode cL_law 825 = .ok (.iaload, 1) := dL_law_all46.2.2.2.2.2.2.2.1
theorem dL_law_826 : decode cL_law 826 = .ok (.aload_n 0, 1) := dL_law_all46.2.2.2.2.2.2.2.2.1
theorem dL_law_827 : decode cL_law 827 = .ok (.iload_n 3, 1) := dL_law_all46.2.2.2.2.2.2.2.2.2.1
theorem dL_law_828 : decode cL_law 828 = .ok (.iconst 2, 1) := dL_law_all46.2.2.2.2.2.2.2.2.2.2.1
theorem dL_law_829 : decode cL_law 829 = .ok (.iadd, 1) := dL_law_all46.2.2.2.2.2.2.2.2.2.2.2
theorem dL_law_all47 : decode cL_law 830 = .ok (.iaload, 1) ∧ decode cL_law 831 = .ok (.aload_n 0, 1) ∧ decode cL_law 832 = .ok (.iload_n 3, 1) ∧ decode cL_law 833 = .ok (.iconst 3, 1) ∧ decode cL_law 834 = .ok (.iadd, 1) ∧ decode cL_law 835 = .ok (.iaload, 1) ∧ decode cL_law 836 = .ok (.aload_n 0, 1) ∧ decode cL_law 837 = .ok (.iload_n 3, 1) ∧ decode cL_law 838 = .ok (.iconst 4, 1) ∧ decode cL_law 839 = .ok (.iadd, 1) ∧ decode cL_law 840 = .ok (.iaload, 1) ∧ decode cL_law 841 = .ok (.aload_n 0, 1) := ⟨dq_46 sB_34 14 rfl, dq_42 sB_34 15 rfl, dq_29 sB_34 16 rfl, dq_6 sB_34 17 rfl, dq_96 sB_34 18 rfl, dq_46 sB_34 19 rfl, dq_42 sB_34 20 rfl, dq_29 sB_34 21 rfl, dq_7 sB_34 22 rfl, dq_96 sB_34 23 rfl, dq_46 sB_35 0 rfl, dq_42 sB_35 1 rfl⟩
theorem dL_law_830 : decode cL_law 830 = .ok (.iaload, 1) := dL_law_all47.1
theorem dL_law_831 : decode cL_law 831 = .ok (.aload_n 0, 1) := dL_law_all47.2.1
theorem dL_law_832 : decode cL_law 832 = .ok (.iload_n 3, 1) := dL_law_all47.2.2.1
theorem dL_law_833 : decode cL_law 833 = .ok (.iconst 3, 1) := dL_law_all47.2.2.2.1
theorem dL_law_834 : decode cL_law 834 = .ok (.iadd, 1) := dL_law_all47.2.2.2.2.1
theorem dL_law_835 : decode cL_law 835 = .ok (.iaload, 1) := dL_law_all47.2.2.2.2.2.1
theorem dL_law_836 : decode cL_law 836 = .ok (.aload_n 0, 1) := dL_law_all47.2.2.2.2.2.2.1
theorem dL_law_837 : decode cL_law 837 = .ok (.iload_n 3, 1) := dL_law_all47.2.2.2.2.2.2.2.1
theorem dL_law_838 : decode cL_law 838 = .ok (.iconst 4, 1) := dL_law_all47.2.2.2.2.2.2.2.2.1
theorem dL_law_839 : decode cL_law 839 = .ok (.iadd, 1) := dL_law_all47.2.2.2.2.2.2.2.2.2.1
theorem dL_law_840 : decode cL_law 840 = .ok (.iaload, 1) := dL_law_all47.2.2.2.2.2.2.2.2.2.2.1
theorem dL_law_841 : decode cL_law 841 = .ok (.aload_n 0, 1) := dL_law_all47.2.2.2.2.2.2.2.2.2.2.2
theorem dL_law_all48 : decode cL_law 842 = .ok (.iload_n 3, 1) ∧ decode cL_law 843 = .ok (.iconst 5, 1) ∧ decode cL_law 844 = .ok (.iadd, 1) ∧ decode cL_law 845 = .ok (.iaload, 1) ∧ decode cL_law 846 = .ok (.invokevirtual 85, 3) ∧ decode cL_law 849 = .ok (.pop, 1) ∧ decode cL_law 850 = .ok (.goto 802, 3) ∧ decode cL_law 853 = .ok (.aload_n 1, 1) ∧ decode cL_law 854 = .ok (.aload_n 0, 1) ∧ decode cL_law 855 = .ok (.iload_n 3, 1) ∧ decode cL_law 856 = .ok (.iconst 1, 1) ∧ decode cL_law 857 = .ok (.iadd, 1) := ⟨dq_29 sB_35 2 rfl, dq_8 sB_35 3 rfl, dq_96 sB_35 4 rfl, dq_46 sB_35 5 rfl, dq_182 sB_35 6 rfl 85 (by decide), dq_87 sB_35 9 rfl, dq_167 sB_35 10 rfl 802 (by decide), dq_43 sB_35 13 rfl, dq_42 sB_35 14 rfl, dq_29 sB_35 15 rfl, dq_4 sB_35 16 rfl, dq_96 sB_35 17 rfl⟩
theorem dL_law_842 : decode cL_law 842 = .ok (.iload_n 3, 1) := dL_law_all48.1
theorem dL_law_843 : decode cL_law 843 = .ok (.iconst 5, 1) := dL_law_all48.2.1
theorem dL_law_844 : decode cL_law 844 = .ok (.iadd, 1) := dL_law_all48.2.2.1
theorem dL_law_845 : decode cL_law 845 = .ok (.iaload, 1) := dL_law_all48.2.2.2.1
theorem dL_law_846 : decode cL_law 846 = .ok (.invokevirtual 85, 3) := dL_law_all48.2.2.2.2.1
theorem dL_law_849 : decode cL_law 849 = .ok (.pop, 1) := dL_law_all48.2.2.2.2.2.1
theorem dL_law_850 : decode cL_law 850 = .ok (.goto 802, 3) := dL_law_all48.2.2.2.2.2.2.1
theorem dL_law_853 : decode cL_law 853 = .ok (.aload_n 1, 1) := dL_law_all48.2.2.2.2.2.2.2.1
theorem dL_law_854 : decode cL_law 854 = .ok (.aload_n 0, 1) := dL_law_all48.2.2.2.2.2.2.2.2.1
theorem dL_law_855 : decode cL_law 855 = .ok (.iload_n 3, 1) := dL_law_all48.2.2.2.2.2.2.2.2.2.1
theorem dL_law_856 : decode cL_law 856 = .ok (.iconst 1, 1) := dL_law_all48.2.2.2.2.2.2.2.2.2.2.1
theorem dL_law_857 : decode cL_law 857 = .ok (.iadd, 1) := dL_law_all48.2.2.2.2.2.2.2.2.2.2.2
theorem dL_law_all49 : decode cL_law 858 = .ok (.iaload, 1) ∧ decode cL_law 859 = .ok (.aload_n 0, 1) ∧ decode cL_law 860 = .ok (.iload_n 3, 1) ∧ decode cL_law 861 = .ok (.iconst 2, 1) ∧ decode cL_law 862 = .ok (.iadd, 1) ∧ decode cL_law 863 = .ok (.iaload, 1) ∧ decode cL_law 864 = .ok (.aload_n 0, 1) ∧ decode cL_law 865 = .ok (.iload_n 3, 1) ∧ decode cL_law 866 = .ok (.iconst 3, 1) ∧ decode cL_law 867 = .ok (.iadd, 1) ∧ decode cL_law 868 = .ok (.iaload, 1) ∧ decode cL_law 869 = .ok (.aload_n 0, 1) := ⟨dq_46 sB_35 18 rfl, dq_42 sB_35 19 rfl, dq_29 sB_35 20 rfl, dq_5 sB_35 21 rfl, dq_96 sB_35 22 rfl, dq_46 sB_35 23 rfl, dq_42 sB_36 0 rfl, dq_29 sB_36 1 rfl, dq_6 sB_36 2 rfl, dq_96 sB_36 3 rfl, dq_46 sB_36 4 rfl, dq_42 sB_36 5 rfl⟩
theorem dL_law_858 : decode cL_law 858 = .ok (.iaload, 1) := dL_law_all49.1
theorem dL_law_859 : decode cL_law 859 = .ok (.aload_n 0, 1) := dL_law_all49.2.1
theorem dL_law_860 : decode cL_law 860 = .ok (.iload_n 3, 1) := dL_law_all49.2.2.1
theorem dL_law_861 : decode cL_law 861 = .ok (.iconst 2, 1) := dL_law_all49.2.2.2.1
theorem dL_law_862 : decode cL_law 862 = .ok (.iadd, 1) := dL_law_all49.2.2.2.2.1
theorem dL_law_863 : decode cL_law 863 = .ok (.iaload, 1) := dL_law_all49.2.2.2.2.2.1
theorem dL_law_864 : decode cL_law 864 = .ok (.aload_n 0, 1) := dL_law_all49.2.2.2.2.2.2.1
theorem dL_law_865 : decode cL_law 865 = .ok (.iload_n 3, 1) := dL_law_all49.2.2.2.2.2.2.2.1
theorem dL_law_866 : decode cL_law 866 = .ok (.iconst 3, 1) := dL_law_all49.2.2.2.2.2.2.2.2.1
theorem dL_law_867 : decode cL_law 867 = .ok (.iadd, 1) := dL_law_all49.2.2.2.2.2.2.2.2.2.1
theorem dL_law_868 : decode cL_law 868 = .ok (.iaload, 1) := dL_law_all49.2.2.2.2.2.2.2.2.2.2.1
theorem dL_law_869 : decode cL_law 869 = .ok (.aload_n 0, 1) := dL_law_all49.2.2.2.2.2.2.2.2.2.2.2
theorem dL_law_all50 : decode cL_law 870 = .ok (.iload_n 3, 1) ∧ decode cL_law 871 = .ok (.iconst 4, 1) ∧ decode cL_law 872 = .ok (.iadd, 1) ∧ decode cL_law 873 = .ok (.iaload, 1) ∧ decode cL_law 874 = .ok (.aload_n 0, 1) ∧ decode cL_law 875 = .ok (.iload_n 3, 1) ∧ decode cL_law 876 = .ok (.iconst 5, 1) ∧ decode cL_law 877 = .ok (.iadd, 1) ∧ decode cL_law 878 = .ok (.iaload, 1) ∧ decode cL_law 879 = .ok (.invokevirtual 86, 3) ∧ decode cL_law 882 = .ok (.pop, 1) ∧ decode cL_law 883 = .ok (.aload_n 2, 1) := ⟨dq_29 sB_36 6 rfl, dq_7 sB_36 7 rfl, dq_96 sB_36 8 rfl, dq_46 sB_36 9 rfl, dq_42 sB_36 10 rfl, dq_29 sB_36 11 rfl, dq_8 sB_36 12 rfl, dq_96 sB_36 13 rfl, dq_46 sB_36 14 rfl, dq_182 sB_36 15 rfl 86 (by decide), dq_87 sB_36 18 rfl, dq_44 sB_36 19 rfl⟩
theorem dL_law_870 : decode cL_law 870 = .ok (.iload_n 3, 1) := dL_law_all50.1
theorem dL_law_871 : decode cL_law 871 = .ok (.iconst 4, 1) := dL_law_all50.2.1
theorem dL_law_872 : decode cL_law 872 = .ok (.iadd, 1) := dL_law_all50.2.2.1
theorem dL_law_873 : decode cL_law 873 = .ok (.iaload, 1) := dL_law_all50.2.2.2.1
theorem dL_law_874 : decode cL_law 874 = .ok (.aload_n 0, 1) := dL_law_all50.2.2.2.2.1
theorem dL_law_875 : decode cL_law 875 = .ok (.iload_n 3, 1) := dL_law_all50.2.2.2.2.2.1
theorem dL_law_876 : decode cL_law 876 = .ok (.iconst 5, 1) := dL_law_all50.2.2.2.2.2.2.1
theorem dL_law_877 : decode cL_law 877 = .ok (.iadd, 1) := dL_law_all50.2.2.2.2.2.2.2.1
theorem dL_law_878 : decode cL_law 878 = .ok (.iaload, 1) := dL_law_all50.2.2.2.2.2.2.2.2.1
theorem dL_law_879 : decode cL_law 879 = .ok (.invokevirtual 86, 3) := dL_law_all50.2.2.2.2.2.2.2.2.2.1
theorem dL_law_882 : decode cL_law 882 = .ok (.pop, 1) := dL_law_all50.2.2.2.2.2.2.2.2.2.2.1
theorem dL_law_883 : decode cL_law 883 = .ok (.aload_n 2, 1) := dL_law_all50.2.2.2.2.2.2.2.2.2.2.2
theorem dL_law_all51 : decode cL_law 884 = .ok (.aload_n 0, 1) ∧ decode cL_law 885 = .ok (.iload_n 3, 1) ∧ decode cL_law 886 = .ok (.iconst 1, 1) ∧ decode cL_law 887 = .ok (.iadd, 1) ∧ decode cL_law 888 = .ok (.iaload, 1) ∧ decode cL_law 889 = .ok (.aload_n 0, 1) ∧ decode cL_law 890 = .ok (.iload_n 3, 1) ∧ decode cL_law 891 = .ok (.iconst 2, 1) ∧ decode cL_law 892 = .ok (.iadd, 1) ∧ decode cL_law 893 = .ok (.iaload, 1) ∧ decode cL_law 894 = .ok (.aload_n 0, 1) ∧ decode cL_law 895 = .ok (.iload_n 3, 1) := ⟨dq_42 sB_36 20 rfl, dq_29 sB_36 21 rfl, dq_4 sB_36 22 rfl, dq_96 sB_36 23 rfl, dq_46 sB_37 0 rfl, dq_42 sB_37 1 rfl, dq_29 sB_37 2 rfl, dq_5 sB_37 3 rfl, dq_96 sB_37 4 rfl, dq_46 sB_37 5 rfl, dq_42 sB_37 6 rfl, dq_29 sB_37 7 rfl⟩
theorem dL_law_884 : decode cL_law 884 = .ok (.aload_n 0, 1) := dL_law_all51.1
theorem dL_law_885 : decode cL_law 885 = .ok (.iload_n 3, 1) := dL_law_all51.2.1
theorem dL_law_886 : decode cL_law 886 = .ok (.iconst 1, 1) := dL_law_all51.2.2.1
theorem dL_law_887 : decode cL_law 887 = .ok (.iadd, 1) := dL_law_all51.2.2.2.1
theorem dL_law_888 : decode cL_law 888 = .ok (.iaload, 1) := dL_law_all51.2.2.2.2.1
theorem dL_law_889 : decode cL_law 889 = .ok (.aload_n 0, 1) := dL_law_all51.2.2.2.2.2.1
theorem dL_law_890 : decode cL_law 890 = .ok (.iload_n 3, 1) := dL_law_all51.2.2.2.2.2.2.1
theorem dL_law_891 : decode cL_law 891 = .ok (.iconst 2, 1) := dL_law_all51.2.2.2.2.2.2.2.1
theorem dL_law_892 : decode cL_law 892 = .ok (.iadd, 1) := dL_law_all51.2.2.2.2.2.2.2.2.1
theorem dL_law_893 : decode cL_law 893 = .ok (.iaload, 1) := dL_law_all51.2.2.2.2.2.2.2.2.2.1
theorem dL_law_894 : decode cL_law 894 = .ok (.aload_n 0, 1) := dL_law_all51.2.2.2.2.2.2.2.2.2.2.1
theorem dL_law_895 : decode cL_law 895 = .ok (.iload_n 3, 1) := dL_law_all51.2.2.2.2.2.2.2.2.2.2.2
theorem dL_law_all52 : decode cL_law 896 = .ok (.iconst 3, 1) ∧ decode cL_law 897 = .ok (.iadd, 1) ∧ decode cL_law 898 = .ok (.iaload, 1) ∧ decode cL_law 899 = .ok (.aload_n 0, 1) ∧ decode cL_law 900 = .ok (.iload_n 3, 1) ∧ decode cL_law 901 = .ok (.iconst 4, 1) ∧ decode cL_law 902 = .ok (.iadd, 1) ∧ decode cL_law 903 = .ok (.iaload, 1) ∧ decode cL_law 904 = .ok (.aload_n 0, 1) ∧ decode cL_law 905 = .ok (.iload_n 3, 1) ∧ decode cL_law 906 = .ok (.iconst 5, 1) ∧ decode cL_law 907 = .ok (.iadd, 1) := ⟨dq_6 sB_37 8 rfl, dq_96 sB_37 9 rfl, dq_46 sB_37 10 rfl, dq_42 sB_37 11 rfl, dq_29 sB_37 12 rfl, dq_7 sB_37 13 rfl, dq_96 sB_37 14 rfl, dq_46 sB_37 15 rfl, dq_42 sB_37 16 rfl, dq_29 sB_37 17 rfl, dq_8 sB_37 18 rfl, dq_96 sB_37 19 rfl⟩
theorem dL_law_896 : decode cL_law 896 = .ok (.iconst 3, 1) := dL_law_all52.1
theorem dL_law_897 : decode cL_law 897 = .ok (.iadd, 1) := dL_law_all52.2.1
theorem dL_law_898 : decode cL_law 898 = .ok (.iaload, 1) := dL_law_all52.2.2.1
theorem dL_law_899 : decode cL_law 899 = .ok (.aload_n 0, 1) := dL_law_all52.2.2.2.1
theorem dL_law_900 : decode cL_law 900 = .ok (.iload_n 3, 1) := dL_law_all52.2.2.2.2.1
theorem dL_law_901 : decode cL_law 901 = .ok (.iconst 4, 1) := dL_law_all52.2.2.2.2.2.1
theorem dL_law_902 : decode cL_law 902 = .ok (.iadd, 1) := dL_law_all52.2.2.2.2.2.2.1
theorem dL_law_903 : decode cL_law 903 = .ok (.iaload, 1) := dL_law_all52.2.2.2.2.2.2.2.1
theorem dL_law_904 : decode cL_law 904 = .ok (.aload_n 0, 1) := dL_law_all52.2.2.2.2.2.2.2.2.1
theorem dL_law_905 : decode cL_law 905 = .ok (.iload_n 3, 1) := dL_law_all52.2.2.2.2.2.2.2.2.2.1
theorem dL_law_906 : decode cL_law 906 = .ok (.iconst 5, 1) := dL_law_all52.2.2.2.2.2.2.2.2.2.2.1
theorem dL_law_907 : decode cL_law 907 = .ok (.iadd, 1) := dL_law_all52.2.2.2.2.2.2.2.2.2.2.2
theorem dL_law_all53 : decode cL_law 908 = .ok (.iaload, 1) ∧ decode cL_law 909 = .ok (.invokevirtual 89, 3) ∧ decode cL_law 912 = .ok (.pop, 1) ∧ decode cL_law 913 = .ok (.goto 739, 3) ∧ decode cL_law 916 = .ok (.aload_n 1, 1) ∧ decode cL_law 917 = .ok (.aload_n 0, 1) ∧ decode cL_law 918 = .ok (.iload_n 3, 1) ∧ decode cL_law 919 = .ok (.iconst 1, 1) ∧ decode cL_law 920 = .ok (.iadd, 1) ∧ decode cL_law 921 = .ok (.iaload, 1) ∧ decode cL_law 922 = .ok (.i2l, 1) ∧ decode cL_law 923 = .ok (.bipush 32, 2) := ⟨dq_46 sB_37 20 rfl, dq_182 sB_37 21 rfl 89 (by decide), dq_87 sB_38 0 rfl, dq_167 sB_38 1 rfl 739 (by decide), dq_43 sB_38 4 rfl, dq_42 sB_38 5 rfl, dq_29 sB_38 6 rfl, dq_4 sB_38 7 rfl, dq_96 sB_38 8 rfl, dq_46 sB_38 9 rfl, by decide +kernel, by decide +kernel⟩
theorem dL_law_908 : decode cL_law 908 = .ok (.iaload, 1) := dL_law_all53.1
theorem dL_law_909 : decode cL_law 909 = .ok (.invokevirtual 89, 3) := dL_law_all53.2.1
theorem dL_law_912 : decode cL_law 912 = .ok (.pop, 1) := dL_law_all53.2.2.1
theorem dL_law_913 : decode cL_law 913 = .ok (.goto 739, 3) := dL_law_all53.2.2.2.1
set_option maxHeartbeats 4000000 in
set_option maxRecDepth 100000 in
theorem law_case_12 {p : Program} {l : Launch} {e : Env} {s : State} {m : MethodId} {below : List Frame} {meth : Method} {c : Code} {D : va_G} {cI cY cJ cQ : ClassId} {b L aK aV : Nat} {xs : Nat → Int32} {ad rw md : Nat → Nat} {sd i : Int32} {nx : Nat → Int32} {fx rs : Nat → Nat → Int32} {lo : Nat → Int64} {ny : Nat → Int32} {fy : Nat → Nat → Int32} {fl : Nat → Int64} {H : Heap} {locs : List Loc} {ls : Array Slot} (C0 : lawC p s m meth c b L xs D cI cY cJ cQ aK aV) (I : inv nx fx rs ny fy) (hP : va_P D vwCl (wX ad rw sd cI cY cJ cQ nx fx rs lo ++ wM md sd cI cY cJ cQ ny fy fl) H) (hD : va_D (fun q : Nat => s.heap.size ≤ q) (wX ad rw sd cI cY cJ cQ nx fx rs lo ++ wM md sd cI cY cJ cQ ny fy fl)) (hS : va_S (fun q : Nat => s.heap.size ≤ q) s.heap H locs) (hl : lv_has ls 4 [(0, .ref b), (1, .ref (ad 0)), (2, .ref (md 64)), (3, .int i)]) (hi1 : 1 ≤ i.toInt) (hi2 : i.toInt + 5 < L) (kk : ∀ (nx : Nat → Int32) (fx rs : Nat → Nat → Int32) (lo : Nat → Int64) (ny : Nat → Int32) (fy : Nat → Nat → Int32) (fl : Nat → Int64) (H : Heap) (locs : List Loc) (ls : Array Slot), inv nx fx rs ny fy → va_P D vwCl (wX ad rw sd cI cY cJ cQ nx fx rs lo ++ wM md sd cI cY cJ cQ ny fy fl) H → va_D (fun q : Nat => s.heap.size ≤ q) (wX ad rw sd cI cY cJ cQ nx fx rs lo ++ wM md sd cI cY cJ cQ ny fy fl) → va_S (fun q : Nat => s.heap.size ≤ q) s.heap H locs → lv_has ls 4 [(0, .ref b), (1, .ref (ad 0)), (2, .ref (md 64)), (3, .int i)] → W p l e room_1 s m #[Value.ref b] below meth c H locs 107 4890 (lw_Z below #[Value.ref b] s) (F0 m 1652 ls [])) : W p l e room_1 s m #[Value.ref b] below meth c H locs 107 4890 (lw_Z below #[Value.ref b] s) (F0 m 714 ls []) := by
  obtain ⟨C1, hK, hN, hT, hL⟩ := C0
  obtain ⟨hx, hb, hr, hml, hown, hts0, hX, hbl, hlocks, hgv⟩ := C1
  have hA : ∀ q : Nat, s.heap.size ≤ q → (fun q : Nat => s.heap.size ≤ q) q := fun _ h => h
  have hbA : ¬ (fun q : Nat => s.heap.size ≤ q) b := Nat.not_le.mpr hbl
  have hts : ∀ w ∈ wsL_law, w.before #[Value.ref b] s = true := fun w h => hts0 w (wsL_law_in w h)
  replace hown : s.vm.findClass RL = some m.cls := hown
  replace hb : c.code = cL_law := hb
  have hak1 : vp_in (i + 1) L := law_in hi1 hi2 hL (by decide)
  obtain ⟨xk1, exk1⟩ : ∃ y : Int32, y = xs (i + 1).toNatClampNeg := ⟨_, rfl⟩
  have hak2 : vp_in (i + 2) L := law_in hi1 hi2 hL (by decide)
  obtain ⟨xk2, exk2⟩ : ∃ y : Int32, y = xs (i + 2).toNatClampNeg := ⟨_, rfl⟩
  have hak3 : vp_in (i + 3) L := law_in hi1 hi2 hL (by decide)
  obtain ⟨xk3, exk3⟩ : ∃ y : Int32, y = xs (i + 3).toNatClampNeg := ⟨_, rfl⟩
  refine inv_el I ?_
  intro Xhna Xhnb XH XD XV XN Xcna Xcnb XF Xpna Xpnb XG XO XW Xgna Xgnb XJ Xlna Xlnb Xdla Xdlb Xana Xanb Xuna Xunb XU Xlca Xlcb Xtna Xtnb XS Mhna Mhnb MH MS Mmlna Mmlnb Mmtna Mmtnb Chn Cho Chc Chp Chs Ccn Cfo Cwo Cpn Cpk Cpf Cpo Cpd Cpe Cgn Cgk Cgs Cgd Cge Can Cak Cah Cay Caz Cun Cuk Cuy Cuw Cum Clc Clp Cla Clb Caw Ciw Cln Ctd Cro Cmtn Cmtr Cmst Csh
  have Tcn := i_eq Ccn
  have Tpn := i_eq Cpn
  have Tgn := i_eq Cgn
  have Tan := i_eq Can
  have Tun := i_eq Cun
  have Tlc := i_eq Clc
  have Tln := i_eq Cln
  refine lv_aload_n hx hb dL_law_714 rfl (lv_at hl 1 rfl) ?_
  refine law_arg (v := 1) hx hb hX hbl hbA hS (lv_at hl 0 rfl) (lv_at hl 3 rfl) (by decide) hak1 exk1 dL_law_715 dL_law_716 dL_law_717 dL_law_718 dL_law_719 ?_
  refine law_arg (v := 2) hx hb hX hbl hbA hS (lv_at hl 0 rfl) (lv_at hl 3 rfl) (by decide) hak2 exk2 dL_law_720 dL_law_721 dL_law_722 dL_law_723 dL_law_724 ?_
  refine law_arg (v := 3) hx hb hX hbl hbA hS (lv_at hl 0 rfl) (lv_at hl 3 rfl) (by decide) hak3 exk3 dL_law_725 dL_law_726 dL_law_727 dL_law_728 dL_law_729 ?_
  refine st_iU (va_runV (C := RX10) (As := [.int xk1, .int xk2, .int xk3]) (rest := []) ⟨hx, hb, hml, hown, hts⟩ (ct_X10_owner l D cI cY cJ cQ _ ad (nx 0) (nx 1) (nx 2) (nx 4) (nx 5) (fx 11) (fx 16) (fx 17) (fx 18) (fx 19) (fx 20) (fx 21) xk1 xk2 xk3 Xcna Xcnb Xpna Xpnb XO) (cwV 3 hts gL_law_X10_owner rfl rfl rfl ⟨rfl, cdX10_owner⟩ ⟨Nat.le_of_ble_eq_true rfl, Nat.le_of_ble_eq_true rfl⟩) (cPreV (hP.sub [0, 23, 24, 29, 30, 31, 32, 33, 34, 35] rfl) hK (hD.sub [0, 23, 24, 29, 30, 31, 32, 33, 34, 35] (by decide +kernel) rfl) hN (ci := 10) (q0 := 0) rfl rfl) rfl rfl hl.1 rfl (lv_room (Nat.le_of_ble_eq_true rfl)) dL_law_730 ⟨Nat.le_of_ble_eq_true rfl, Nat.le_of_ble_eq_true rfl⟩) hP hD hS hA [0, 23, 24, 29, 30, 31, 32, 33, 34, 35] rfl (fun _ => rfl) (fun r3 u1 H locs hw2 => ?_)
  clear hP hS
  intro hP hS
  replace hw2 : r3 = sp_owner (nx 4) (nx 5) (fx 11) (fx 16) (fx 17) (fx 18) (fx 19) (fx 20) (fx 21) xk1 xk2 xk3 := hw2
  refine lv_pop hx hb dL_law_733 rfl ?_
  have hPx : va_P D vwCl (wX ad rw sd cI cY cJ cQ nx fx rs lo ++ wM md sd cI cY cJ cQ ny fy fl) H := hP
  have hDx : va_D (fun q : Nat => s.heap.size ≤ q) (wX ad rw sd cI cY cJ cQ nx fx rs lo ++ wM md sd cI cY cJ cQ ny fy fl) := wXM_D hD
  have hP := hPx.comm
  have hD := hDx.comm
  refine lv_aload_n hx hb dL_law_734 rfl (lv_at hl 2 rfl) ?_
  refine law_arg (v := 1) hx hb hX hbl hbA hS (lv_at hl 0 rfl) (lv_at hl 3 rfl) (by decide) hak1 exk1 dL_law_735 dL_law_736 dL_law_737 dL_law_738 dL_law_739 ?_
  refine law_arg (v := 2) hx hb hX hbl hbA hS (lv_at hl 0 rfl) (lv_at hl 3 rfl) (by decide) hak2 exk2 dL_law_740 dL_law_741 dL_law_742 dL_law_743 dL_law_744 ?_
  refine law_arg (v := 3) hx hb hX hbl hbA hS (lv_at hl 0 rfl) (lv_at hl 3 rfl) (by decide) hak3 exk3 dL_law_745 dL_law_746 dL_law_747 dL_law_748 dL_law_749 ?_
  refine st_iU (va_runV (C := RX11) (As := [.int xk1, .int xk2, .int xk3]) (rest := []) ⟨hx, hb, hml, hown, hts⟩ (ct_X11_owner l D cI cY cJ cQ _ md sd (ny 0) (ny 1) (ny 2) (ny 3) (ny 4) (ny 5) (ny 6) (ny 7) (ny 8) (ny 9) (ny 10) (ny 11) (ny 12) (ny 13) (ny 14) (ny 15) (ny 16) (ny 17) (ny 18) (ny 19) (ny 20) (ny 21) (ny 22) (fy 10) (fy 12) (fy 13) (fy 14) (fy 15) (fy 16) xk1 xk2 xk3 (by omega) (by omega) (by omega) (by omega)) (cwV 3 hts gL_law_X11_owner rfl rfl rfl ⟨rfl, cdX11_owner⟩ ⟨Nat.le_of_ble_eq_true rfl, Nat.le_of_ble_eq_true rfl⟩) (cPreV (hP.sub [0, 12, 14, 15, 16, 17, 18] rfl) hK (hD.sub [0, 12, 14, 15, 16, 17, 18] (by decide +kernel) rfl) hN (ci := 11) (q0 := 0) rfl rfl) rfl rfl hl.1 rfl (lv_room (Nat.le_of_ble_eq_true rfl)) dL_law_750 ⟨Nat.le_of_ble_eq_true rfl, Nat.le_of_ble_eq_true rfl⟩) hP hD hS hA [0, 12, 14, 15, 16, 17, 18] rfl (fun _ => rfl) (fun r6 u4 H locs hw5 => ?_)
  clear hP hS
  intro hP hS
  replace hw5 : r6 = sm_owner (ny 3) (ny 4) (fy 10) (fy 12) (fy 13) (fy 14) (fy 15) (fy 16) xk1 xk2 xk3 := hw5
  rw [Ccn, Cpn, Cfo, Cpk, Cpf, Cpo, Cpd, Cpe, ← owner_eq (by omega) (by omega) XO XW] at hw5
  have e90 := hw2.trans hw5.symm
  refine lv_pop hx hb dL_law_753 rfl ?_
  refine lv_goto (tgt := 1652) hx hb dL_law_754 (by decide) ?_
  have hPm : va_P D vwCl (wM md sd cI cY cJ cQ (upd (upd ny 0 0) 5 u4) fy fl ++ wX ad rw sd cI cY cJ cQ nx fx rs lo) H := hP
  have hDm : va_D (fun q : Nat => s.heap.size ≤ q) (wM md sd cI cY cJ cQ (upd (upd ny 0 0) 5 u4) fy fl ++ wX ad rw sd cI cY cJ cQ nx fx rs lo) := wMX_D hD
  exact kk nx fx rs lo (upd (upd ny 0 0) 5 u4) fy fl H locs ls ⟨Xhna, Xhnb, XH, XD, XV, XN, Xcna, Xcnb, XF, Xpna, Xpnb, XG, XO, XW, Xgna, Xgnb, XJ, Xlna, Xlnb, Xdla, Xdlb, Xana, Xanb, Xuna, Xunb, XU, Xlca, Xlcb, Xtna, Xtnb, XS, Mhna, Mhnb, MH, MS, Mmlna, Mmlnb, Mmtna, Mmtnb, Chn, Cho, Chc, Chp, Chs, Ccn, Cfo, Cwo, Cpn, Cpk, Cpf, Cpo, Cpd, Cpe, Cgn, Cgk, Cgs, Cgd, Cge, Can, Cak, Cah, Cay, Caz, Cun, Cuk, Cuy, Cuw, Cum, Clc, Clp, Cla, Clb, Caw, Ciw, Cln, Ctd, Cro, Cmtn, Cmtr, Cmst, Csh⟩ hPm.comm hDm.comm hS hl

set_option maxHeartbeats 4000000 in
set_option maxRecDepth 100000 in
theorem law_case_13 {p : Program} {l : Launch} {e : Env} {s : State} {m : MethodId} {below : List Frame} {meth : Method} {c : Code} {D : va_G} {cI cY cJ cQ : ClassId} {b L aK aV : Nat} {xs : Nat → Int32} {ad rw md : Nat → Nat} {sd i : Int32} {nx : Nat → Int32} {fx rs : Nat → Nat → Int32} {lo : Nat → Int64} {ny : Nat → Int32} {fy : Nat → Nat → Int32} {fl : Nat → Int64} {H : Heap} {locs : List Loc} {ls : Array Slot} (C0 : lawC p s m meth c b L xs D cI cY cJ cQ aK aV) (I : inv nx fx rs ny fy) (hP : va_P D vwCl (wX ad rw sd cI cY cJ cQ nx fx rs lo ++ wM md sd cI cY cJ cQ ny fy fl) H) (hD : va_D (fun q : Nat => s.heap.size ≤ q) (wX ad rw sd cI cY cJ cQ nx fx rs lo ++ wM md sd cI cY cJ cQ ny fy fl)) (hS : va_S (fun q : Nat => s.heap.size ≤ q) s.heap H locs) (hl : lv_has ls 4 [(0, .ref b), (1, .ref (ad 0)), (2, .ref (md 64)), (3, .int i)]) (hi1 : 1 ≤ i.toInt) (hi2 : i.toInt + 5 < L) (kk : ∀ (nx : Nat → Int32) (fx rs : Nat → Nat → Int32) (lo : Nat → Int64) (ny : Nat → Int32) (fy : Nat → Nat → Int32) (fl : Nat → Int64) (H : Heap) (locs : List Loc) (ls : Array Slot), inv nx fx rs ny fy → va_P D vwCl (wX ad rw sd cI cY cJ cQ nx fx rs lo ++ wM md sd cI cY cJ cQ ny fy fl) H → va_D (fun q : Nat => s.heap.size ≤ q) (wX ad rw sd cI cY cJ cQ nx fx rs lo ++ wM md sd cI cY cJ cQ ny fy fl) → va_S (fun q : Nat => s.heap.size ≤ q) s.heap H locs → lv_has ls 4 [(0, .ref b), (1, .ref (ad 0)), (2, .ref (md 64)), (3, .int i)] → W p l e room_1 s m #[Value.ref b] below meth c H locs 107 4890 (lw_Z below #[Value.ref b] s) (F0 m 1652 ls [])) : W p l e room_1 s m #[Value.ref b] below meth c H locs 107 4890 (lw_Z below #[Value.ref b] s) (F0 m 757 ls []) := by
  obtain ⟨C1, hK, hN, hT, hL⟩ := C0
  obtain ⟨hx, hb, hr, hml, hown, hts0, hX, hbl, hlocks, hgv⟩ := C1
  have hA : ∀ q : Nat, s.heap.size ≤ q → (fun q : Nat => s.heap.size ≤ q) q := fun _ h => h
  have hbA : ¬ (fun q : Nat => s.heap.size ≤ q) b := Nat.not_le.mpr hbl
  have hts : ∀ w ∈ wsL_law, w.before #[Value.ref b] s = true := fun w h => hts0 w (wsL_law_in w h)
  replace hown : s.vm.findClass RL = some m.cls := hown
  replace hb : c.code = cL_law := hb
  have hak1 : vp_in (i + 1) L := law_in hi1 hi2 hL (by decide)
  obtain ⟨xk1, exk1⟩ : ∃ y : Int32, y = xs (i + 1).toNatClampNeg := ⟨_, rfl⟩
  have hak2 : vp_in (i + 2) L := law_in hi1 hi2 hL (by decide)
  obtain ⟨xk2, exk2⟩ : ∃ y : Int32, y = xs (i + 2).toNatClampNeg := ⟨_, rfl⟩
  refine inv_el I ?_
  intro Xhna Xhnb XH XD XV XN Xcna Xcnb XF Xpna Xpnb XG XO XW Xgna Xgnb XJ Xlna Xlnb Xdla Xdlb Xana Xanb Xuna Xunb XU Xlca Xlcb Xtna Xtnb XS Mhna Mhnb MH MS Mmlna Mmlnb Mmtna Mmtnb Chn Cho Chc Chp Chs Ccn Cfo Cwo Cpn Cpk Cpf Cpo Cpd Cpe Cgn Cgk Cgs Cgd Cge Can Cak Cah Cay Caz Cun Cuk Cuy Cuw Cum Clc Clp Cla Clb Caw Ciw Cln Ctd Cro Cmtn Cmtr Cmst Csh
  have Tcn := i_eq Ccn
  have Tpn := i_eq Cpn
  have Tgn := i_eq Cgn
  have Tan := i_eq Can
  have Tun := i_eq Cun
  have Tlc := i_eq Clc
  have Tln := i_eq Cln
  refine lv_aload_n hx hb dL_law_757 rfl (lv_at hl 1 rfl) ?_
  refine law_arg (v := 1) hx hb hX hbl hbA hS (lv_at hl 0 rfl) (lv_at hl 3 rfl) (by decide) hak1 exk1 dL_law_758 dL_law_759 dL_law_760 dL_law_761 dL_law_762 ?_
  refine law_arg (v := 2) hx hb hX hbl hbA hS (lv_at hl 0 rfl) (lv_at hl 3 rfl) (by decide) hak2 exk2 dL_law_763 dL_law_764 dL_law_765 dL_law_766 dL_law_767 ?_
  refine st_iU (va_runV (C := RX10) (As := [.int xk1, .int xk2]) (rest := []) ⟨hx, hb, hml, hown, hts⟩ (ct_X10_quarrels l D cI cY cJ cQ _ ad (nx 0) (nx 1) (nx 2) (nx 4) (nx 5) (fx 11) (fx 16) (fx 17) (fx 18) (fx 19) (fx 20) (fx 21) xk1 xk2 Xcna Xcnb Xpna Xpnb XO) (cwV 2 hts gL_law_X10_quarrels rfl rfl rfl ⟨rfl, cdX10_quarrels⟩ ⟨Nat.le_of_ble_eq_true rfl, Nat.le_of_ble_eq_true rfl⟩) (cPreV (hP.sub [0, 23, 24, 29, 30, 31, 32, 33, 34, 35] rfl) hK (hD.sub [0, 23, 24, 29, 30, 31, 32, 33, 34, 35] (by decide +kernel) rfl) hN (ci := 10) (q0 := 0) rfl rfl) rfl rfl hl.1 rfl (lv_room (Nat.le_of_ble_eq_true rfl)) dL_law_768 ⟨Nat.le_of_ble_eq_true rfl, Nat.le_of_ble_eq_true rfl⟩) hP hD hS hA [0, 23, 24, 29, 30, 31, 32, 33, 34, 35] rfl (fun _ => rfl) (fun r3 u1 H locs hw2 => ?_)
  clear hP hS
  intro hP hS
  replace hw2 : r3 = sp_quarrels (nx 4) (nx 5) (fx 11) (fx 16) (fx 17) (fx 18) (fx 20) (fx 21) xk1 xk2 := hw2
  refine lv_pop hx hb dL_law_771 rfl ?_
  have hPx : va_P D vwCl (wX ad rw sd cI cY cJ cQ nx fx rs lo ++ wM md sd cI cY cJ cQ ny fy fl) H := hP
  have hDx : va_D (fun q : Nat => s.heap.size ≤ q) (wX ad rw sd cI cY cJ cQ nx fx rs lo ++ wM md sd cI cY cJ cQ ny fy fl) := wXM_D hD
  have hP := hPx.comm
  have hD := hDx.comm
  refine lv_aload_n hx hb dL_law_772 rfl (lv_at hl 2 rfl) ?_
  refine law_arg (v := 1) hx hb hX hbl hbA hS (lv_at hl 0 rfl) (lv_at hl 3 rfl) (by decide) hak1 exk1 dL_law_773 dL_law_774 dL_law_775 dL_law_776 dL_law_777 ?_
  refine law_arg (v := 2) hx hb hX hbl hbA hS (lv_at hl 0 rfl) (lv_at hl 3 rfl) (by decide) hak2 exk2 dL_law_778 dL_law_779 dL_law_780 dL_law_781 dL_law_782 ?_
  refine st_iU (va_runV (C := RX11) (As := [.int xk1, .int xk2]) (rest := []) ⟨hx, hb, hml, hown, hts⟩ (ct_X11_quarrels l D cI cY cJ cQ _ md sd (ny 0) (ny 1) (ny 2) (ny 3) (ny 4) (ny 5) (ny 6) (ny 7) (ny 8) (ny 9) (ny 10) (ny 11) (ny 12) (ny 13) (ny 14) (ny 15) (ny 16) (ny 17) (ny 18) (ny 19) (ny 20) (ny 21) (ny 22) (fy 10) (fy 12) (fy 13) (fy 14) (fy 15) (fy 16) xk1 xk2 (by omega) (by omega) (by omega) (by omega)) (cwV 2 hts gL_law_X11_quarrels rfl rfl rfl ⟨rfl, cdX11_quarrels⟩ ⟨Nat.le_of_ble_eq_true rfl, Nat.le_of_ble_eq_true rfl⟩) (cPreV (hP.sub [0, 12, 14, 15, 16, 17, 18] rfl) hK (hD.sub [0, 12, 14, 15, 16, 17, 18] (by decide +kernel) rfl) hN (ci := 11) (q0 := 0) rfl rfl) rfl rfl hl.1 rfl (lv_room (Nat.le_of_ble_eq_true rfl)) dL_law_783 ⟨Nat.le_of_ble_eq_true rfl, Nat.le_of_ble_eq_true rfl⟩) hP hD hS hA [0, 12, 14, 15, 16, 17, 18] rfl (fun _ => rfl) (fun r6 u4 H locs hw5 => ?_)
  clear hP hS
  intro hP hS
  replace hw5 : r6 = sm_quarrels (ny 3) (ny 4) (fy 10) (fy 12) (fy 13) (fy 14) (fy 15) (fy 16) xk1 xk2 := hw5
  rw [Ccn, Cpn, Cfo, Cpk, Cpf, Cpo, Cpd, Cpe, ← quarrels_eq (by omega) (by omega) XO XW] at hw5
  have e90 := hw2.trans hw5.symm
  refine lv_pop hx hb dL_law_786 rfl ?_
  refine lv_goto (tgt := 1652) hx hb dL_law_787 (by decide) ?_
  have hPm : va_P D vwCl (wM md sd cI cY cJ cQ (upd (upd ny 0 0) 5 u4) fy fl ++ wX ad rw sd cI cY cJ cQ nx fx rs lo) H := hP
  have hDm : va_D (fun q : Nat => s.heap.size ≤ q) (wM md sd cI cY cJ cQ (upd (upd ny 0 0) 5 u4) fy fl ++ wX ad rw sd cI cY cJ cQ nx fx rs lo) := wMX_D hD
  exact kk nx fx rs lo (upd (upd ny 0 0) 5 u4) fy fl H locs ls ⟨Xhna, Xhnb, XH, XD, XV, XN, Xcna, Xcnb, XF, Xpna, Xpnb, XG, XO, XW, Xgna, Xgnb, XJ, Xlna, Xlnb, Xdla, Xdlb, Xana, Xanb, Xuna, Xunb, XU, Xlca, Xlcb, Xtna, Xtnb, XS, Mhna, Mhnb, MH, MS, Mmlna, Mmlnb, Mmtna, Mmtnb, Chn, Cho, Chc, Chp, Chs, Ccn, Cfo, Cwo, Cpn, Cpk, Cpf, Cpo, Cpd, Cpe, Cgn, Cgk, Cgs, Cgd, Cge, Can, Cak, Cah, Cay, Caz, Cun, Cuk, Cuy, Cuw, Cum, Clc, Clp, Cla, Clb, Caw, Ciw, Cln, Ctd, Cro, Cmtn, Cmtr, Cmst, Csh⟩ hPm.comm hDm.comm hS hl

set_option maxHeartbeats 4000000 in
set_option maxRecDepth 100000 in
theorem law_case_14 {p : Program} {l : Launch} {e : Env} {s : State} {m : MethodId} {below : List Frame} {meth : Method} {c : Code} {D : va_G} {cI cY cJ cQ : ClassId} {b L aK aV : Nat} {xs : Nat → Int32} {ad rw md : Nat → Nat} {sd i : Int32} {nx : Nat → Int32} {fx rs : Nat → Nat → Int32} {lo : Nat → Int64} {ny : Nat → Int32} {fy : Nat → Nat → Int32} {fl : Nat → Int64} {H : Heap} {locs : List Loc} {ls : Array Slot} (C0 : lawC p s m meth c b L xs D cI cY cJ cQ aK aV) (I : inv nx fx rs ny fy) (hP : va_P D vwCl (wX ad rw sd cI cY cJ cQ nx fx rs lo ++ wM md sd cI cY cJ cQ ny fy fl) H) (hD : va_D (fun q : Nat => s.heap.size ≤ q) (wX ad rw sd cI cY cJ cQ nx fx rs lo ++ wM md sd cI cY cJ cQ ny fy fl)) (hS : va_S (fun q : Nat => s.heap.size ≤ q) s.heap H locs) (hl : lv_has ls 4 [(0, .ref b), (1, .ref (ad 0)), (2, .ref (md 64)), (3, .int i)]) (hi1 : 1 ≤ i.toInt) (hi2 : i.toInt + 5 < L) (kk : ∀ (nx : Nat → Int32) (fx rs : Nat → Nat → Int32) (lo : Nat → Int64) (ny : Nat → Int32) (fy : Nat → Nat → Int32) (fl : Nat → Int64) (H : Heap) (locs : List Loc) (ls : Array Slot), inv nx fx rs ny fy → va_P D vwCl (wX ad rw sd cI cY cJ cQ nx fx rs lo ++ wM md sd cI cY cJ cQ ny fy fl) H → va_D (fun q : Nat => s.heap.size ≤ q) (wX ad rw sd cI cY cJ cQ nx fx rs lo ++ wM md sd cI cY cJ cQ ny fy fl) → va_S (fun q : Nat => s.heap.size ≤ q) s.heap H locs → lv_has ls 4 [(0, .ref b), (1, .ref (ad 0)), (2, .ref (md 64)), (3, .int i)] → W p l e room_1 s m #[Value.ref b] below meth c H locs 107 4890 (lw_Z below #[Value.ref b] s) (F0 m 1652 ls [])) : W p l e room_1 s m #[Value.ref b] below meth c H locs 107 4890 (lw_Z below #[Value.ref b] s) (F0 m 790 ls []) := by
  obtain ⟨C1, hK, hN, hT, hL⟩ := C0
  obtain ⟨hx, hb, hr, hml, hown, hts0, hX, hbl, hlocks, hgv⟩ := C1
  have hA : ∀ q : Nat, s.heap.size ≤ q → (fun q : Nat => s.heap.size ≤ q) q := fun _ h => h
  have hbA : ¬ (fun q : Nat => s.heap.size ≤ q) b := Nat.not_le.mpr hbl
  have hts : ∀ w ∈ wsL_law, w.before #[Value.ref b] s = true := fun w h => hts0 w (wsL_law_in w h)
  replace hown : s.vm.findClass RL = some m.cls := hown
  replace hb : c.code = cL_law := hb
  have hak1 : vp_in (i + 1) L := law_in hi1 hi2 hL (by decide)
  obtain ⟨xk1, exk1⟩ : ∃ y : Int32, y = xs (i + 1).toNatClampNeg := ⟨_, rfl⟩
  have hak2 : vp_in (i + 2) L := law_in hi1 hi2 hL (by decide)
  obtain ⟨xk2, exk2⟩ : ∃ y : Int32, y = xs (i + 2).toNatClampNeg := ⟨_, rfl⟩
  have hak3 : vp_in (i + 3) L := law_in hi1 hi2 hL (by decide)
  obtain ⟨xk3, exk3⟩ : ∃ y : Int32, y = xs (i + 3).toNatClampNeg := ⟨_, rfl⟩
  have hak4 : vp_in (i + 4) L := law_in hi1 hi2 hL (by decide)
  obtain ⟨xk4, exk4⟩ : ∃ y : Int32, y = xs (i + 4).toNatClampNeg := ⟨_, rfl⟩
  have hak5 : vp_in (i + 5) L := law_in hi1 hi2 hL (by decide)
  obtain ⟨xk5, exk5⟩ : ∃ y : Int32, y = xs (i + 5).toNatClampNeg := ⟨_, rfl⟩
  refine inv_el I ?_
  intro Xhna Xhnb XH XD XV XN Xcna Xcnb XF Xpna Xpnb XG XO XW Xgna Xgnb XJ Xlna Xlnb Xdla Xdlb Xana Xanb Xuna Xunb XU Xlca Xlcb Xtna Xtnb XS Mhna Mhnb MH MS Mmlna Mmlnb Mmtna Mmtnb Chn Cho Chc Chp Chs Ccn Cfo Cwo Cpn Cpk Cpf Cpo Cpd Cpe Cgn Cgk Cgs Cgd Cge Can Cak Cah Cay Caz Cun Cuk Cuy Cuw Cum Clc Clp Cla Clb Caw Ciw Cln Ctd Cro Cmtn Cmtr Cmst Csh
  have Tcn := i_eq Ccn
  have Tpn := i_eq Cpn
  have Tgn := i_eq Cgn
  have Tan := i_eq Can
  have Tun := i_eq Cun
  have Tlc := i_eq Clc
  have Tln := i_eq Cln
  refine lv_aload_n hx hb dL_law_790 rfl (lv_at hl 1 rfl) ?_
  refine law_arg (v := 1) hx hb hX hbl hbA hS (lv_at hl 0 rfl) (lv_at hl 3 rfl) (by decide) hak1 exk1 dL_law_791 dL_law_792 dL_law_793 dL_law_794 dL_law_795 ?_
  refine law_arg (v := 2) hx hb hX hbl hbA hS (lv_at hl 0 rfl) (lv_at hl 3 rfl) (by decide) hak2 exk2 dL_law_796 dL_law_797 dL_law_798 dL_law_799 dL_law_800 ?_
  refine law_arg (v := 3) hx hb hX hbl hbA hS (lv_at hl 0 rfl) (lv_at hl 3 rfl) (by decide) hak3 exk3 dL_law_801 dL_law_802 dL_law_803 dL_law_804 dL_law_805 ?_
  refine law_arg (v := 4) hx hb hX hbl hbA hS (lv_at hl 0 rfl) (lv_at hl 3 rfl) (by decide) hak4 exk4 dL_law_806 dL_law_807 dL_law_808 dL_law_809 dL_law_810 ?_
  refine law_arg (v := 5) hx hb hX hbl hbA hS (lv_at hl 0 rfl) (lv_at hl 3 rfl) (by decide) hak5 exk5 dL_law_811 dL_law_812 dL_law_813 dL_law_814 dL_law_815 ?_
  refine st_iU (va_runV (C := RX10) (As := [.int xk1, .int xk2, .int xk3, .int xk4, .int xk5]) (rest := []) ⟨hx, hb, hml, hown, hts⟩ (ct_X10_pledge l D cI cY cJ cQ _ ad (nx 0) (nx 1) (nx 2) (nx 4) (nx 6) (fx 22) (fx 23) (fx 24) (fx 25) xk1 xk2 xk3 xk4 xk5 Xgna Xgnb) (cwV 5 hts gL_law_X10_pledge rfl rfl rfl ⟨rfl, cdX10_pledge⟩ ⟨Nat.le_of_ble_eq_true rfl, Nat.le_of_ble_eq_true rfl⟩) (cPreV (hP.sub [0, 23, 36, 37, 38, 39, 40] rfl) hK (hD.sub [0, 23, 36, 37, 38, 39, 40] (by decide +kernel) rfl) hN (ci := 10) (q0 := 0) rfl rfl) rfl rfl hl.1 rfl (lv_room (Nat.le_of_ble_eq_true rfl)) dL_law_816 ⟨Nat.le_of_ble_eq_true rfl, Nat.le_of_ble_eq_true rfl⟩) hP hD hS hA [0, 23, 36, 37, 38, 39, 40] rfl (fun _ => rfl) (fun r3 u1 H locs hw2 => ?_)
  clear hP hS
  intro hP hS
  obtain ⟨gn_4, gk_5, gs_6, gd_7, ge_8⟩ := u1
  replace hw2 : (r3, (gn_4, gk_5, gs_6, gd_7, ge_8)) = sp_pledge (nx 6) (fx 22) (fx 23) (fx 24) (fx 25) (nx 4) xk1 xk2 xk3 xk4 xk5 := hw2
  obtain ⟨hw2a, hw2b⟩ := sp_pledge_ok hw2 (by omega) (by omega)
  have hw2f := sp_pledge_okJ hw2 (by omega) (by omega) XJ
  refine lv_pop hx hb dL_law_819 rfl ?_
  have hPx : va_P D vwCl (wX ad rw sd cI cY cJ cQ (upd nx 6 gn_4) (upR (upR (upR (upR fx 22 gk_5) 23 gs_6) 24 gd_7) 25 ge_8) rs lo ++ wM md sd cI cY cJ cQ ny fy fl) H := hP
  have hDx : va_D (fun q : Nat => s.heap.size ≤ q) (wX ad rw sd cI cY cJ cQ (upd nx 6 gn_4) (upR (upR (upR (upR fx 22 gk_5) 23 gs_6) 24 gd_7) 25 ge_8) rs lo ++ wM md sd cI cY cJ cQ ny fy fl) := wXM_D hD
  have hP := hPx.comm
  have hD := hDx.comm
  refine lv_aload_n hx hb dL_law_820 rfl (lv_at hl 2 rfl) ?_
  refine law_arg (v := 1) hx hb hX hbl hbA hS (lv_at hl 0 rfl) (lv_at hl 3 rfl) (by decide) hak1 exk1 dL_law_821 dL_law_822 dL_law_823 dL_law_824 dL_law_825 ?_
  refine law_arg (v := 2) hx hb hX hbl hbA hS (lv_at hl 0 rfl) (lv_at hl 3 rfl) (by decide) hak2 exk2 dL_law_826 dL_law_827 dL_law_828 dL_law_829 dL_law_830 ?_
  refine law_arg (v := 3) hx hb hX hbl hbA hS (lv_at hl 0 rfl) (lv_at hl 3 rfl) (by decide) hak3 exk3 dL_law_831 dL_law_832 dL_law_833 dL_law_834 dL_law_835 ?_
  refine law_arg (v := 4) hx hb hX hbl hbA hS (lv_at hl 0 rfl) (lv_at hl 3 rfl) (by decide) hak4 exk4 dL_law_836 dL_law_837 dL_law_838 dL_law_839 dL_law_840 ?_
  refine law_arg (v := 5) hx hb hX hbl hbA hS (lv_at hl 0 rfl) (lv_at hl 3 rfl) (by decide) hak5 exk5 dL_law_841 dL_law_842 dL_law_843 dL_law_844 dL_law_845 ?_
  refine st_iU (va_runV (C := RX11) (As := [.int xk1, .int xk2, .int xk3, .int xk4, .int xk5]) (rest := []) ⟨hx, hb, hml, hown, hts⟩ (ct_X11_pledge l D cI cY cJ cQ _ md sd (ny 0) (ny 1) (ny 2) (ny 3) (ny 4) (ny 5) (ny 6) (ny 7) (ny 8) (ny 9) (ny 10) (ny 11) (ny 12) (ny 13) (ny 14) (ny 15) (ny 16) (ny 17) (ny 18) (ny 19) (ny 20) (ny 21) (ny 22) (fy 17) (fy 18) (fy 19) (fy 20) xk1 xk2 xk3 xk4 xk5 (by omega) (by omega) (by omega) (by omega)) (cwV 5 hts gL_law_X11_pledge rfl rfl rfl ⟨rfl, cdX11_pledge⟩ ⟨Nat.le_of_ble_eq_true rfl, Nat.le_of_ble_eq_true rfl⟩) (cPreV (hP.sub [0, 19, 20, 21, 22] rfl) hK (hD.sub [0, 19, 20, 21, 22] (by decide +kernel) rfl) hN (ci := 11) (q0 := 0) rfl rfl) rfl rfl hl.1 rfl (lv_room (Nat.le_of_ble_eq_true rfl)) dL_law_846 ⟨Nat.le_of_ble_eq_true rfl, Nat.le_of_ble_eq_true rfl⟩) hP hD hS hA [0, 19, 20, 21, 22] rfl (fun _ => rfl) (fun r11 u9 H locs hw10 => ?_)
  clear hP hS
  intro hP hS
  obtain ⟨gn_12, gk_13, gs_14, gd_15, ge_16⟩ := u9
  replace hw10 : (r11, (gn_12, gk_13, gs_14, gd_15, ge_16)) = sp_pledge (ny 6) (fy 17) (fy 18) (fy 19) (fy 20) (ny 3) xk1 xk2 xk3 xk4 xk5 := hw10
  rw [Cgn, Cgk, Cgs, Cgd, Cge, Ccn] at hw10
  have e9 := hw2.trans hw10.symm
  simp only [Prod.mk.injEq] at e9
  obtain ⟨e90, e9gn, e9gk, e9gs, e9gd, e9ge⟩ := e9
  refine lv_pop hx hb dL_law_849 rfl ?_
  refine lv_goto (tgt := 1652) hx hb dL_law_850 (by decide) ?_
  have hPm : va_P D vwCl (wM md sd cI cY cJ cQ (upd (upd ny 0 0) 6 gn_12) (upR (upR (upR (upR fy 17 gk_13) 18 gs_14) 19 gd_15) 20 ge_16) fl ++ wX ad rw sd cI cY cJ cQ (upd nx 6 gn_4) (upR (upR (upR (upR fx 22 gk_5) 23 gs_6) 24 gd_7) 25 ge_8) rs lo) H := hP
  have hDm : va_D (fun q : Nat => s.heap.size ≤ q) (wM md sd cI cY cJ cQ (upd (upd ny 0 0) 6 gn_12) (upR (upR (upR (upR fy 17 gk_13) 18 gs_14) 19 gd_15) 20 ge_16) fl ++ wX ad rw sd cI cY cJ cQ (upd nx 6 gn_4) (upR (upR (upR (upR fx 22 gk_5) 23 gs_6) 24 gd_7) 25 ge_8) rs lo) := wMX_D hD
  exact kk (upd nx 6 gn_4) (upR (upR (upR (upR fx 22 gk_5) 23 gs_6) 24 gd_7) 25 ge_8) rs lo (upd (upd ny 0 0) 6 gn_12) (upR (upR (upR (upR fy 17 gk_13) 18 gs_14) 19 gd_15) 20 ge_16) fl H locs ls ⟨Xhna, Xhnb, XH, XD, XV, XN, Xcna, Xcnb, XF, Xpna, Xpnb, XG, XO, XW, (by show 0 ≤ (gn_4).toInt; omega), (by show (gn_4).toInt ≤ 40; omega), (show okJ (gn_4) (gs_6) by assumption), Xlna, Xlnb, Xdla, Xdlb, Xana, Xanb, Xuna, Xunb, XU, Xlca, Xlcb, Xtna, Xtnb, XS, Mhna, Mhnb, MH, MS, Mmlna, Mmlnb, Mmtna, Mmtnb, Chn, Cho, Chc, Chp, Chs, Ccn, Cfo, Cwo, Cpn, Cpk, Cpf, Cpo, Cpd, Cpe, (show (gn_12) = (gn_4) from e9gn.symm), (show (gk_13) = (gk_5) from e9gk.symm), (show (gs_14) = (gs_6) from e9gs.symm), (show (gd_15) = (gd_7) from e9gd.symm), (show (ge_16) = (ge_8) from e9ge.symm), Can, Cak, Cah, Cay, Caz, Cun, Cuk, Cuy, Cuw, Cum, Clc, Clp, Cla, Clb, Caw, Ciw, Cln, Ctd, Cro, Cmtn, Cmtr, Cmst, Csh⟩ hPm.comm hDm.comm hS hl

set_option maxHeartbeats 4000000 in
set_option maxRecDepth 100000 in
theorem law_case_15 {p : Program} {l : Launch} {e : Env} {s : State} {m : MethodId} {below : List Frame} {meth : Method} {c : Code} {D : va_G} {cI cY cJ cQ : ClassId} {b L aK aV : Nat} {xs : Nat → Int32} {ad rw md : Nat → Nat} {sd i : Int32} {nx : Nat → Int32} {fx rs : Nat → Nat → Int32} {lo : Nat → Int64} {ny : Nat → Int32} {fy : Nat → Nat → Int32} {fl : Nat → Int64} {H : Heap} {locs : List Loc} {ls : Array Slot} (C0 : lawC p s m meth c b L xs D cI cY cJ cQ aK aV) (I : inv nx fx rs ny fy) (hP : va_P D vwCl (wX ad rw sd cI cY cJ cQ nx fx rs lo ++ wM md sd cI cY cJ cQ ny fy fl) H) (hD : va_D (fun q : Nat => s.heap.size ≤ q) (wX ad rw sd cI cY cJ cQ nx fx rs lo ++ wM md sd cI cY cJ cQ ny fy fl)) (hS : va_S (fun q : Nat => s.heap.size ≤ q) s.heap H locs) (hl : lv_has ls 4 [(0, .ref b), (1, .ref (ad 0)), (2, .ref (md 64)), (3, .int i)]) (hi1 : 1 ≤ i.toInt) (hi2 : i.toInt + 5 < L) (kk : ∀ (nx : Nat → Int32) (fx rs : Nat → Nat → Int32) (lo : Nat → Int64) (ny : Nat → Int32) (fy : Nat → Nat → Int32) (fl : Nat → Int64) (H : Heap) (locs : List Loc) (ls : Array Slot), inv nx fx rs ny fy → va_P D vwCl (wX ad rw sd cI cY cJ cQ nx fx rs lo ++ wM md sd cI cY cJ cQ ny fy fl) H → va_D (fun q : Nat => s.heap.size ≤ q) (wX ad rw sd cI cY cJ cQ nx fx rs lo ++ wM md sd cI cY cJ cQ ny fy fl) → va_S (fun q : Nat => s.heap.size ≤ q) s.heap H locs → lv_has ls 4 [(0, .ref b), (1, .ref (ad 0)), (2, .ref (md 64)), (3, .int i)] → W p l e room_1 s m #[Value.ref b] below meth c H locs 107 4890 (lw_Z below #[Value.ref b] s) (F0 m 1652 ls [])) : W p l e room_1 s m #[Value.ref b] below meth c H locs 107 4890 (lw_Z below #[Value.ref b] s) (F0 m 853 ls []) := by
  obtain ⟨C1, hK, hN, hT, hL⟩ := C0
  obtain ⟨hx, hb, hr, hml, hown, hts0, hX, hbl, hlocks, hgv⟩ := C1
  have hA : ∀ q : Nat, s.heap.size ≤ q → (fun q : Nat => s.heap.size ≤ q) q := fun _ h => h
  have hbA : ¬ (fun q : Nat => s.heap.size ≤ q) b := Nat.not_le.mpr hbl
  have hts : ∀ w ∈ wsL_law, w.before #[Value.ref b] s = true := fun w h => hts0 w (wsL_law_in w h)
  replace hown : s.vm.findClass RL = some m.cls := hown
  replace hb : c.code = cL_law := hb
  have hak1 : vp_in (i + 1) L := law_in hi1 hi2 hL (by decide)
  obtain ⟨xk1, exk1⟩ : ∃ y : Int32, y = xs (i + 1).toNatClampNeg := ⟨_, rfl⟩
  have hak2 : vp_in (i + 2) L := law_in hi1 hi2 hL (by decide)
  obtain ⟨xk2, exk2⟩ : ∃ y : Int32, y = xs (i + 2).toNatClampNeg := ⟨_, rfl⟩
  have hak3 : vp_in (i + 3) L := law_in hi1 hi2 hL (by decide)
  obtain ⟨xk3, exk3⟩ : ∃ y : Int32, y = xs (i + 3).toNatClampNeg := ⟨_, rfl⟩
  have hak4 : vp_in (i + 4) L := law_in hi1 hi2 hL (by decide)
  obtain ⟨xk4, exk4⟩ : ∃ y : Int32, y = xs (i + 4).toNatClampNeg := ⟨_, rfl⟩
  have hak5 : vp_in (i + 5) L := law_in hi1 hi2 hL (by decide)
  obtain ⟨xk5, exk5⟩ : ∃ y : Int32, y = xs (i + 5).toNatClampNeg := ⟨_, rfl⟩
  refine inv_el I ?_
  intro Xhna Xhnb XH XD XV XN Xcna Xcnb XF Xpna Xpnb XG XO XW Xgna Xgnb XJ Xlna Xlnb Xdla Xdlb Xana Xanb Xuna Xunb XU Xlca Xlcb Xtna Xtnb XS Mhna Mhnb MH MS Mmlna Mmlnb Mmtna Mmtnb Chn Cho Chc Chp Chs Ccn Cfo Cwo Cpn Cpk Cpf Cpo Cpd Cpe Cgn Cgk Cgs Cgd Cge Can Cak Cah Cay Caz Cun Cuk Cuy Cuw Cum Clc Clp Cla Clb Caw Ciw Cln Ctd Cro Cmtn Cmtr Cmst Csh
  have Tcn := i_eq Ccn
  have Tpn := i_eq Cpn
  have Tgn := i_eq Cgn
  have Tan := i_eq Can
  have Tun := i_eq Cun
  have Tlc := i_eq Clc
  have Tln := i_eq Cln
  refine lv_aload_n hx hb dL_law_853 rfl (lv_at hl 1 rfl) ?_
  refine law_arg (v := 1) hx hb hX hbl hbA hS (lv_at hl 0 rfl) (lv_at hl 3 rfl) (by decide) hak1 exk1 dL_law_854 dL_law_855 dL_law_856 dL_law_857 dL_law_858 ?_
  refine law_arg (v := 2) hx hb hX hbl hbA hS (lv_at hl 0 rfl) (lv_at hl 3 rfl) (by decide) hak2 exk2 dL_law_859 dL_law_860 dL_law_861 dL_law_862 dL_law_863 ?_
  refine law_arg (v := 3) hx hb hX hbl hbA hS (lv_at hl 0 rfl) (lv_at hl 3 rfl) (by decide) hak3 exk3 dL_law_864 dL_law_865 dL_law_866 dL_law_867 dL_law_868 ?_
  refine law_arg (v := 4) hx hb hX hbl hbA hS (lv_at hl 0 rfl) (lv_at hl 3 rfl) (by decide) hak4 exk4 dL_law_869 dL_law_870 dL_law_871 dL_law_872 dL_law_873 ?_
  refine law_arg (v := 5) hx hb hX hbl hbA hS (lv_at hl 0 rfl) (lv_at hl 3 rfl) (by decide) hak5 exk5 dL_law_874 dL_law_875 dL_law_876 dL_law_877 dL_law_878 ?_
  refine st_iU (va_runV (C := RX10) (As := [.int xk1, .int xk2, .int xk3, .int xk4, .int xk5]) (rest := []) ⟨hx, hb, hml, hown, hts⟩ (ct_X10_rank l D cI cY cJ cQ _ ad (nx 0) (nx 1) (nx 2) (nx 4) (nx 6) (fx 12) (fx 22) (fx 23) (fx 24) (fx 25) (fx 26) xk1 xk2 xk3 xk4 xk5 Xcna Xcnb Xgna Xgnb) (cwV 5 hts gL_law_X10_rank rfl rfl rfl ⟨rfl, cdX10_rank⟩ ⟨Nat.le_of_ble_eq_true rfl, Nat.le_of_ble_eq_true rfl⟩) (cPreV (hP.sub [0, 23, 25, 36, 37, 38, 39, 40, 41] rfl) hK (hD.sub [0, 23, 25, 36, 37, 38, 39, 40, 41] (by decide +kernel) rfl) hN (ci := 10) (q0 := 0) rfl rfl) rfl rfl hl.1 rfl (lv_room (Nat.le_of_ble_eq_true rfl)) dL_law_879 ⟨Nat.le_of_ble_eq_true rfl, Nat.le_of_ble_eq_true rfl⟩) hP hD hS hA [0, 23, 25, 36, 37, 38, 39, 40, 41] rfl (fun _ => rfl) (fun r3 u1 H locs hw2 => ?_)
  clear hP hS
  intro hP hS
  replace hw2 : True := hw2
  refine lv_pop hx hb dL_law_882 rfl ?_
  have hPx : va_P D vwCl (wX ad rw sd cI cY cJ cQ nx (upR fx 26 u1) rs lo ++ wM md sd cI cY cJ cQ ny fy fl) H := hP
  have hDx : va_D (fun q : Nat => s.heap.size ≤ q) (wX ad rw sd cI cY cJ cQ nx (upR fx 26 u1) rs lo ++ wM md sd cI cY cJ cQ ny fy fl) := wXM_D hD
  have hP := hPx.comm
  have hD := hDx.comm
  refine lv_aload_n hx hb dL_law_883 rfl (lv_at hl 2 rfl) ?_
  refine law_arg (v := 1) hx hb hX hbl hbA hS (lv_at hl 0 rfl) (lv_at hl 3 rfl) (by decide) hak1 exk1 dL_law_884 dL_law_885 dL_law_886 dL_law_887 dL_law_888 ?_
  refine law_arg (v := 2) hx hb hX hbl hbA hS (lv_at hl 0 rfl) (lv_at hl 3 rfl) (by decide) hak2 exk2 dL_law_889 dL_law_890 dL_law_891 dL_law_892 dL_law_893 ?_
  refine law_arg (v := 3) hx hb hX hbl hbA hS (lv_at hl 0 rfl) (lv_at hl 3 rfl) (by decide) hak3 exk3 dL_law_894 dL_law_895 dL_law_896 dL_law_897 dL_law_898 ?_
  refine law_arg (v := 4) hx hb hX hbl hbA hS (lv_at hl 0 rfl) (lv_at hl 3 rfl) (by decide) hak4 exk4 dL_law_899 dL_law_900 dL_law_901 dL_law_902 dL_law_903 ?_
  refine law_arg (v := 5) hx hb hX hbl hbA hS (lv_at hl 0 rfl) (lv_at hl 3 rfl) (by decide) hak5 exk5 dL_law_904 dL_law_905 dL_law_906 dL_law_907 dL_law_908 ?_
  refine st_iU (va_runV (C := RX11) (As := [.int xk1, .int xk2, .int xk3, .int xk4, .int xk5]) (rest := []) ⟨hx, hb, hml, hown, hts⟩ (ct_X11_rank l D cI cY cJ cQ _ md sd (ny 0) (ny 1) (ny 2) (ny 3) (ny 4) (ny 5) (ny 6) (ny 7) (ny 8) (ny 9) (ny 10) (ny 11) (ny 12) (ny 13) (ny 14) (ny 15) (ny 16) (ny 17) (ny 18) (ny 19) (ny 20) (ny 21) (ny 22) (fy 11) (fy 17) (fy 18) (fy 19) (fy 20) xk1 xk2 xk3 xk4 xk5 (by omega) (by omega) (by omega) (by omega)) (cwV 5 hts gL_law_X11_rank rfl rfl rfl ⟨rfl, cdX11_rank⟩ ⟨Nat.le_of_ble_eq_true rfl, Nat.le_of_ble_eq_true rfl⟩) (cPreV (hP.sub [0, 13, 19, 20, 21, 22] rfl) hK (hD.sub [0, 13, 19, 20, 21, 22] (by decide +kernel) rfl) hN (ci := 11) (q0 := 0) rfl rfl) rfl rfl hl.1 rfl (lv_room (Nat.le_of_ble_eq_true rfl)) dL_law_909 ⟨Nat.le_of_ble_eq_true rfl, Nat.le_of_ble_eq_true rfl⟩) hP hD hS hA [0, 13, 19, 20, 21, 22] rfl (fun _ => rfl) (fun r6 u4 H locs hw5 => ?_)
  clear hP hS
  intro hP hS
  replace hw5 : True := hw5
  refine lv_pop hx hb dL_law_912 rfl ?_
  refine lv_goto (tgt := 1652) hx hb dL_law_913 (by decide) ?_
  have hPm : va_P D vwCl (wM md sd cI cY cJ cQ (upd ny 0 0) fy fl ++ wX ad rw sd cI cY cJ cQ nx (upR fx 26 u1) rs lo) H := hP
  have hDm : va_D (fun q : Nat => s.heap.size ≤ q) (wM md sd cI cY cJ cQ (upd ny 0 0) fy fl ++ wX ad rw sd cI cY cJ cQ nx (upR fx 26 u1) rs lo) := wMX_D hD
  exact kk nx (upR fx 26 u1) rs lo (upd ny 0 0) fy fl H locs ls ⟨Xhna, Xhnb, XH, XD, XV, XN, Xcna, Xcnb, XF, Xpna, Xpnb, XG, XO, XW, Xgna, Xgnb, XJ, Xlna, Xlnb, Xdla, Xdlb, Xana, Xanb, Xuna, Xunb, XU, Xlca, Xlcb, Xtna, Xtnb, XS, Mhna, Mhnb, MH, MS, Mmlna, Mmlnb, Mmtna, Mmtnb, Chn, Cho, Chc, Chp, Chs, Ccn, Cfo, Cwo, Cpn, Cpk, Cpf, Cpo, Cpd, Cpe, Cgn, Cgk, Cgs, Cgd, Cge, Can, Cak, Cah, Cay, Caz, Cun, Cuk, Cuy, Cuw, Cum, Clc, Clp, Cla, Clb, Caw, Ciw, Cln, Ctd, Cro, Cmtn, Cmtr, Cmst, Csh⟩ hPm.comm hDm.comm hS hl
end

section
theorem cdX10_feed : yX10_feed.cls ≠ "java/lang/invoke/MethodHandle" ∧ yX10_feed.cls ≠ "java/lang/invoke/VarHandle" ∧ (parseMethodDescriptor yX10_feed.desc).map (fun d => d.parameters.length) = some 2 := by decide +kernel
theorem cdX10_duties : yX10_duties.cls ≠ "java/lang/invoke/MethodHandle" ∧ yX10_duties.cls ≠ "java/lang/invoke/VarHandle" ∧ (parseMethodDescriptor yX10_duties.desc).map (fun d => d.parameters.length) = some 0 := by decide +kernel
theorem cdX10_fault : yX10_fault.cls ≠ "java/lang/invoke/MethodHandle" ∧ yX10_fault.cls ≠ "java/lang/invoke/VarHandle" ∧ (parseMethodDescriptor yX10_fault.desc).map (fun d => d.parameters.length) = some 0 := by decide +kernel
theorem cdX10_act : yX10_act.cls ≠ "java/lang/invoke/MethodHandle" ∧ yX10_act.cls ≠ "java/lang/invoke/VarHandle" ∧ (parseMethodDescriptor yX10_act.desc).map (fun d => d.parameters.length) = some 4 := by decide +kernel
theorem cdX11_feed : yX11_feed.cls ≠ "java/lang/invoke/MethodHandle" ∧ yX11_feed.cls ≠ "java/lang/invoke/VarHandle" ∧ (parseMethodDescriptor yX11_feed.desc).map (fun d => d.parameters.length) = some 2 := by decide +kernel
theorem cdX11_duties : yX11_duties.cls ≠ "java/lang/invoke/MethodHandle" ∧ yX11_duties.cls ≠ "java/lang/invoke/VarHandle" ∧ (parseMethodDescriptor yX11_duties.desc).map (fun d => d.parameters.length) = some 0 := by decide +kernel
theorem cdX11_fault : yX11_fault.cls ≠ "java/lang/invoke/MethodHandle" ∧ yX11_fault.cls ≠ "java/lang/invoke/VarHandle" ∧ (parseMethodDescriptor yX11_fault.desc).map (fun d => d.parameters.length) = some 0 := by decide +kernel
theorem cdX11_act : yX11_act.cls ≠ "java/lang/invoke/MethodHandle" ∧ yX11_act.cls ≠ "java/lang/invoke/VarHandle" ∧ (parseMethodDescriptor yX11_act.desc).map (fun d => d.parameters.length) = some 4 := by decide +kernel
theorem Gd_X10_feed : gdA wsX10_feed := gd_cons (by decide +kernel) (gd_app (gd_all (ws := wsX10_feed_o1) (by decide +kernel)) (gd_app (gd_app Gd_X100 Gd_X20) (gd_app Gd_X10_isFrom Gd_X2_take)))
theorem Gd_X10_duties : gdA wsX10_duties := gd_cons (by decide +kernel) (gd_app (gd_all (ws := wsX10_duties_o1) (by decide +kernel)) (gd_app (gd_app Gd_X100 Gd_X20) Gd_X2_read))
theorem Gd_X10_fault : gdA wsX10_fault := gd_cons (by decide +kernel) (gd_app (gd_all (ws := wsX10_fault_o1) (by decide +kernel)) (gd_app Gd_X100 Gd_X20))
theorem Gd_X10_act : gdA wsX10_act := gd_cons (by decide +kernel) (gd_app (gd_all (ws := wsX10_act_o1) (by decide +kernel)) (gd_app (gd_app (gd_app Gd_X100 Gd_X00) (gd_app Gd_X10 Gd_X10_isCrate)) (gd_app (gd_app Gd_X10_isBelow Gd_X10_isDay) (gd_app Gd_X10_isFrom Gd_X0_tell))))
theorem Gd_X11_feed : gdA wsX11_feed := gd_cons (by decide +kernel) (gd_app (gd_all (ws := wsX11_feed_o1) (by decide +kernel)) (gd_app Gd_X110 Gd_X11_in))
theorem Gd_X11_duties : gdA wsX11_duties := gd_cons (by decide +kernel) (gd_app (gd_app (gd_all (ws := wsX11_duties_o1) (by decide +kernel)) (gd_all (ws := wsX11_duties_o2) (by decide +kernel))) (gd_app (gd_app (gd_app Gd_X110 Gd_X11_step) (gd_app Gd_X11_word Gd_X11_bad)) (gd_app (gd_app Gd_X11_need Gd_X11_is) Gd_X11_numberUpTo)))
theorem Gd_X11_fault : gdA wsX11_fault := gd_cons (by decide +kernel) (gd_app (gd_all (ws := wsX11_fault_o1) (by decide +kernel)) Gd_X110)
theorem Gd_X11_act : gdA wsX11_act := gd_cons (by decide +kernel) (gd_app (gd_all (ws := wsX11_act_o1) (by decide +kernel)) (gd_app (gd_app Gd_X110 Gd_X11_isCrate) (gd_app Gd_X11_in Gd_X11_isDay)))
theorem ggL_law_X10_feed : GoodIn wsL_law wsX10_feed := goodIn_s (fun _ h => (wm_r (wm_r (wm_l (wm_l (wm_l (wm_l (wm_l (wm_r h))))))))) Gd_X10_feed
theorem gL_law_X10_feed : GoodIn wsL_law (wsV RL 92 RX10 yX10_feed wsX10_feed) := goodIn_V (own := RL) (idx := 92) (C := RX10) (y := yX10_feed) (wm_l (wm_l (wm_r (wm_l (wm_r (wm_i 13 rfl)))))) (wm_l (wm_l (wm_r (wm_l (wm_r (wm_i 14 rfl)))))) (wm_l (wm_l (wm_r (wm_l (wm_r (wm_i 15 rfl)))))) (wm_l (wm_l (wm_l (wm_l (wm_l (wm_i 2 rfl)))))) ggL_law_X10_feed
theorem ggL_law_X11_feed : GoodIn wsL_law wsX11_feed := goodIn_s (fun _ h => (wm_r (wm_r (wm_l (wm_l (wm_l (wm_l (wm_r h)))))))) Gd_X11_feed
theorem gL_law_X11_feed : GoodIn wsL_law (wsV RL 96 RX11 yX11_feed wsX11_feed) := goodIn_V (own := RL) (idx := 96) (C := RX11) (y := yX11_feed) (wm_l (wm_l (wm_r (wm_l (wm_r (wm_i 16 rfl)))))) (wm_l (wm_l (wm_r (wm_l (wm_r (wm_i 17 rfl)))))) (wm_l (wm_l (wm_r (wm_l (wm_r (wm_i 18 rfl)))))) (wm_l (wm_l (wm_l (wm_l (wm_l (wm_i 5 rfl)))))) ggL_law_X11_feed
theorem ggL_law_X10_duties : GoodIn wsL_law wsX10_duties := goodIn_s (fun _ h => (wm_r (wm_r (wm_l (wm_l (wm_l (wm_r (wm_l (wm_l h))))))))) Gd_X10_duties
theorem gL_law_X10_duties : GoodIn wsL_law (wsV RL 97 RX10 yX10_duties wsX10_duties) := goodIn_V (own := RL) (idx := 97) (C := RX10) (y := yX10_duties) (wm_l (wm_l (wm_r (wm_l (wm_r (wm_i 19 rfl)))))) (wm_l (wm_l (wm_r (wm_l (wm_r (wm_i 20 rfl)))))) (wm_l (wm_l (wm_r (wm_l (wm_r (wm_i 21 rfl)))))) (wm_l (wm_l (wm_l (wm_l (wm_l (wm_i 2 rfl)))))) ggL_law_X10_duties
theorem ggL_law_X11_duties : GoodIn wsL_law wsX11_duties := goodIn_s (fun _ h => (wm_r (wm_r (wm_l (wm_l (wm_l (wm_r (wm_l (wm_r h))))))))) Gd_X11_duties
theorem gL_law_X11_duties : GoodIn wsL_law (wsV RL 101 RX11 yX11_duties wsX11_duties) := goodIn_V (own := RL) (idx := 101) (C := RX11) (y := yX11_duties) (wm_l (wm_l (wm_r (wm_l (wm_r (wm_i 22 rfl)))))) (wm_l (wm_l (wm_r (wm_l (wm_r (wm_i 23 rfl)))))) (wm_l (wm_l (wm_r (wm_r (wm_i 0 rfl))))) (wm_l (wm_l (wm_l (wm_l (wm_l (wm_i 5 rfl)))))) ggL_law_X11_duties
theorem ggL_law_X10_fault : GoodIn wsL_law wsX10_fault := goodIn_s (fun _ h => (wm_r (wm_r (wm_l (wm_l (wm_l (wm_r (wm_r h)))))))) Gd_X10_fault
theorem gL_law_X10_fault : GoodIn wsL_law (wsV RL 102 RX10 yX10_fault wsX10_fault) := goodIn_V (own := RL) (idx := 102) (C := RX10) (y := yX10_fault) (wm_l (wm_l (wm_r (wm_r (wm_i 1 rfl))))) (wm_l (wm_l (wm_r (wm_r (wm_i 2 rfl))))) (wm_l (wm_l (wm_r (wm_r (wm_i 3 rfl))))) (wm_l (wm_l (wm_l (wm_l (wm_l (wm_i 2 rfl)))))) ggL_law_X10_fault
theorem ggL_law_X11_fault : GoodIn wsL_law wsX11_fault := goodIn_s (fun _ h => (wm_r (wm_r (wm_l (wm_l (wm_r (wm_l (wm_l (wm_l h))))))))) Gd_X11_fault
theorem gL_law_X11_fault : GoodIn wsL_law (wsV RL 105 RX11 yX11_fault wsX11_fault) := goodIn_V (own := RL) (idx := 105) (C := RX11) (y := yX11_fault) (wm_l (wm_l (wm_r (wm_r (wm_i 4 rfl))))) (wm_l (wm_l (wm_r (wm_r (wm_i 5 rfl))))) (wm_l (wm_l (wm_r (wm_r (wm_i 6 rfl))))) (wm_l (wm_l (wm_l (wm_l (wm_l (wm_i 5 rfl)))))) ggL_law_X11_fault
theorem ggL_law_X10_act : GoodIn wsL_law wsX10_act := goodIn_s (fun _ h => (wm_r (wm_r (wm_l (wm_l (wm_r (wm_l (wm_l (wm_r h))))))))) Gd_X10_act
theorem gL_law_X10_act : GoodIn wsL_law (wsV RL 106 RX10 yX10_act wsX10_act) := goodIn_V (own := RL) (idx := 106) (C := RX10) (y := yX10_act) (wm_l (wm_l (wm_r (wm_r (wm_i 7 rfl))))) (wm_l (wm_l (wm_r (wm_r (wm_i 8 rfl))))) (wm_l (wm_l (wm_r (wm_r (wm_i 9 rfl))))) (wm_l (wm_l (wm_l (wm_l (wm_l (wm_i 2 rfl)))))) ggL_law_X10_act
theorem ggL_law_X11_act : GoodIn wsL_law wsX11_act := goodIn_s (fun _ h => (wm_r (wm_r (wm_l (wm_l (wm_r (wm_l (wm_r h)))))))) Gd_X11_act
theorem gL_law_X11_act : GoodIn wsL_law (wsV RL 109 RX11 yX11_act wsX11_act) := goodIn_V (own := RL) (idx := 109) (C := RX11) (y := yX11_act) (wm_l (wm_l (wm_r (wm_r (wm_i 10 rfl))))) (wm_l (wm_l (wm_r (wm_r (wm_i 11 rfl))))) (wm_l (wm_l (wm_r (wm_r (wm_i 12 rfl))))) (wm_l (wm_l (wm_l (wm_l (wm_l (wm_i 5 rfl)))))) ggL_law_X11_act
theorem sB_39 : dqA cL_law 936 sL_39 := dq_next sB_38 24 rfl
theorem sB_40 : dqA cL_law 960 sL_40 := dq_next sB_39 24 rfl
theorem sB_41 : dqA cL_law 984 sL_41 := dq_next sB_40 24 rfl
theorem sB_42 : dqA cL_law 1008 sL_42 := dq_next sB_41 24 rfl
theorem sB_43 : dqA cL_law 1032 sL_43 := dq_next sB_42 24 rfl
theorem sB_44 : dqA cL_law 1056 sL_44 := dq_next sB_43 24 rfl
theorem dL_law_916 : decode cL_law 916 = .ok (.aload_n 1, 1) := dL_law_all53.2.2.2.2.1
theorem dL_law_917 : decode cL_law 917 = .ok (.aload_n 0, 1) := dL_law_all53.2.2.2.2.2.1
theorem dL_law_918 : decode cL_law 918 = .ok (.iload_n 3, 1) := dL_law_all53.2.2.2.2.2.2.1
theorem dL_law_919 : decode cL_law 919 = .ok (.iconst 1, 1) := dL_law_all53.2.2.2.2.2.2.2.1
theorem dL_law_920 : decode cL_law 920 = .ok (.iadd, 1) := dL_law_all53.2.2.2.2.2.2.2.2.1
theorem dL_law_921 : decode cL_law 921 = .ok (.iaload, 1) := dL_law_all53.2.2.2.2.2.2.2.2.2.1
theorem dL_law_922 : decode cL_law 922 = .ok (.i2l, 1) := dL_law_all53.2.2.2.2.2.2.2.2.2.2.1
theorem dL_law_923 : decode cL_law 923 = .ok (.bipush 32, 2) := dL_law_all53.2.2.2.2.2.2.2.2.2.2.2
theorem dL_law_all54 : decode cL_law 925 = .ok (.lshl, 1) ∧ decode cL_law 926 = .ok (.aload_n 0, 1) ∧ decode cL_law 927 = .ok (.iload_n 3, 1) ∧ decode cL_law 928 = .ok (.iconst 2, 1) ∧ decode cL_law 929 = .ok (.iadd, 1) ∧ decode cL_law 930 = .ok (.iaload, 1) ∧ decode cL_law 931 = .ok (.i2l, 1) ∧ decode cL_law 932 = .ok (.ldc2_w 90, 3) ∧ decode cL_law 935 = .ok (.land, 1) ∧ decode cL_law 936 = .ok (.lor, 1) ∧ decode cL_law 937 = .ok (.aload_n 0, 1) ∧ decode cL_law 938 = .ok (.iload_n 3, 1) := ⟨by decide +kernel, dq_42 sB_38 14 rfl, dq_29 sB_38 15 rfl, dq_5 sB_38 16 rfl, dq_96 sB_38 17 rfl, dq_46 sB_38 18 rfl, by decide +kernel, by decide +kernel, by decide +kernel, by decide +kernel, dq_42 sB_39 1 rfl, dq_29 sB_39 2 rfl⟩
theorem dL_law_925 : decode cL_law 925 = .ok (.lshl, 1) := dL_law_all54.1
theorem dL_law_926 : decode cL_law 926 = .ok (.aload_n 0, 1) := dL_law_all54.2.1
theorem dL_law_927 : decode cL_law 927 = .ok (.iload_n 3, 1) := dL_law_all54.2.2.1
theorem dL_law_928 : decode cL_law 928 = .ok (.iconst 2, 1) := dL_law_all54.2.2.2.1
theorem dL_law_929 : decode cL_law 929 = .ok (.iadd, 1) := dL_law_all54.2.2.2.2.1
theorem dL_law_930 : decode cL_law 930 = .ok (.iaload, 1) := dL_law_all54.2.2.2.2.2.1
theorem dL_law_931 : decode cL_law 931 = .ok (.i2l, 1) := dL_law_all54.2.2.2.2.2.2.1
theorem dL_law_932 : decode cL_law 932 = .ok (.ldc2_w 90, 3) := dL_law_all54.2.2.2.2.2.2.2.1
theorem dL_law_935 : decode cL_law 935 = .ok (.land, 1) := dL_law_all54.2.2.2.2.2.2.2.2.1
theorem dL_law_936 : decode cL_law 936 = .ok (.lor, 1) := dL_law_all54.2.2.2.2.2.2.2.2.2.1
theorem dL_law_937 : decode cL_law 937 = .ok (.aload_n 0, 1) := dL_law_all54.2.2.2.2.2.2.2.2.2.2.1
theorem dL_law_938 : decode cL_law 938 = .ok (.iload_n 3, 1) := dL_law_all54.2.2.2.2.2.2.2.2.2.2.2
theorem dL_law_all55 : decode cL_law 939 = .ok (.iconst 3, 1) ∧ decode cL_law 940 = .ok (.iadd, 1) ∧ decode cL_law 941 = .ok (.iaload, 1) ∧ decode cL_law 942 = .ok (.invokevirtual 92, 3) ∧ decode cL_law 945 = .ok (.pop, 1) ∧ decode cL_law 946 = .ok (.aload_n 2, 1) ∧ decode cL_law 947 = .ok (.aload_n 0, 1) ∧ decode cL_law 948 = .ok (.iload_n 3, 1) ∧ decode cL_law 949 = .ok (.iconst 1, 1) ∧ decode cL_law 950 = .ok (.iadd, 1) ∧ decode cL_law 951 = .ok (.iaload, 1) ∧ decode cL_law 952 = .ok (.i2l, 1) := ⟨dq_6 sB_39 3 rfl, dq_96 sB_39 4 rfl, dq_46 sB_39 5 rfl, dq_182 sB_39 6 rfl 92 (by decide), dq_87 sB_39 9 rfl, dq_44 sB_39 10 rfl, dq_42 sB_39 11 rfl, dq_29 sB_39 12 rfl, dq_4 sB_39 13 rfl, dq_96 sB_39 14 rfl, dq_46 sB_39 15 rfl, by decide +kernel⟩
theorem dL_law_939 : decode cL_law 939 = .ok (.iconst 3, 1) := dL_law_all55.1
theorem dL_law_940 : decode cL_law 940 = .ok (.iadd, 1) := dL_law_all55.2.1
theorem dL_law_941 : decode cL_law 941 = .ok (.iaload, 1) := dL_law_all55.2.2.1
theorem dL_law_942 : decode cL_law 942 = .ok (.invokevirtual 92, 3) := dL_law_all55.2.2.2.1
theorem dL_law_945 : decode cL_law 945 = .ok (.pop, 1) := dL_law_all55.2.2.2.2.1
theorem dL_law_946 : decode cL_law 946 = .ok (.aload_n 2, 1) := dL_law_all55.2.2.2.2.2.1
theorem dL_law_947 : decode cL_law 947 = .ok (.aload_n 0, 1) := dL_law_all55.2.2.2.2.2.2.1
theorem dL_law_948 : decode cL_law 948 = .ok (.iload_n 3, 1) := dL_law_all55.2.2.2.2.2.2.2.1
theorem dL_law_949 : decode cL_law 949 = .ok (.iconst 1, 1) := dL_law_all55.2.2.2.2.2.2.2.2.1
theorem dL_law_950 : decode cL_law 950 = .ok (.iadd, 1) := dL_law_all55.2.2.2.2.2.2.2.2.2.1
theorem dL_law_951 : decode cL_law 951 = .ok (.iaload, 1) := dL_law_all55.2.2.2.2.2.2.2.2.2.2.1
theorem dL_law_952 : decode cL_law 952 = .ok (.i2l, 1) := dL_law_all55.2.2.2.2.2.2.2.2.2.2.2
theorem dL_law_all56 : decode cL_law 953 = .ok (.bipush 32, 2) ∧ decode cL_law 955 = .ok (.lshl, 1) ∧ decode cL_law 956 = .ok (.aload_n 0, 1) ∧ decode cL_law 957 = .ok (.iload_n 3, 1) ∧ decode cL_law 958 = .ok (.iconst 2, 1) ∧ decode cL_law 959 = .ok (.iadd, 1) ∧ decode cL_law 960 = .ok (.iaload, 1) ∧ decode cL_law 961 = .ok (.i2l, 1) ∧ decode cL_law 962 = .ok (.ldc2_w 90, 3) ∧ decode cL_law 965 = .ok (.land, 1) ∧ decode cL_law 966 = .ok (.lor, 1) ∧ decode cL_law 967 = .ok (.aload_n 0, 1) := ⟨by decide +kernel, by decide +kernel, dq_42 sB_39 20 rfl, dq_29 sB_39 21 rfl, dq_5 sB_39 22 rfl, dq_96 sB_39 23 rfl, dq_46 sB_40 0 rfl, by decide +kernel, by decide +kernel, by decide +kernel, by decide +kernel, dq_42 sB_40 7 rfl⟩
theorem dL_law_953 : decode cL_law 953 = .ok (.bipush 32, 2) := dL_law_all56.1
theorem dL_law_955 : decode cL_law 955 = .ok (.lshl, 1) := dL_law_all56.2.1
theorem dL_law_956 : decode cL_law 956 = .ok (.aload_n 0, 1) := dL_law_all56.2.2.1
theorem dL_law_957 : decode cL_law 957 = .ok (.iload_n 3, 1) := dL_law_all56.2.2.2.1
theorem dL_law_958 : decode cL_law 958 = .ok (.iconst 2, 1) := dL_law_all56.2.2.2.2.1
theorem dL_law_959 : decode cL_law 959 = .ok (.iadd, 1) := dL_law_all56.2.2.2.2.2.1
theorem dL_law_960 : decode cL_law 960 = .ok (.iaload, 1) := dL_law_all56.2.2.2.2.2.2.1
theorem dL_law_961 : decode cL_law 961 = .ok (.i2l, 1) := dL_law_all56.2.2.2.2.2.2.2.1
theorem dL_law_962 : decode cL_law 962 = .ok (.ldc2_w 90, 3) := dL_law_all56.2.2.2.2.2.2.2.2.1
theorem dL_law_965 : decode cL_law 965 = .ok (.land, 1) := dL_law_all56.2.2.2.2.2.2.2.2.2.1
theorem dL_law_966 : decode cL_law 966 = .ok (.lor, 1) := dL_law_all56.2.2.2.2.2.2.2.2.2.2.1
theorem dL_law_967 : decode cL_law 967 = .ok (.aload_n 0, 1) := dL_law_all56.2.2.2.2.2.2.2.2.2.2.2
theorem dL_law_all57 : decode cL_law 968 = .ok (.iload_n 3, 1) ∧ decode cL_law 969 = .ok (.iconst 3, 1) ∧ decode cL_law 970 = .ok (.iadd, 1) ∧ decode cL_law 971 = .ok (.iaload, 1) ∧ decode cL_law 972 = .ok (.invokevirtual 96, 3) ∧ decode cL_law 975 = .ok (.pop, 1) ∧ decode cL_law 976 = .ok (.goto 676, 3) ∧ decode cL_law 979 = .ok (.aload_n 1, 1) ∧ decode cL_law 980 = .ok (.invokevirtual 97, 3) ∧ decode cL_law 983 = .ok (.pop, 1) ∧ decode cL_law 984 = .ok (.aload_n 2, 1) ∧ decode cL_law 985 = .ok (.invokevirtual 101, 3) := ⟨dq_29 sB_40 8 rfl, dq_6 sB_40 9 rfl, dq_96 sB_40 10 rfl, dq_46 sB_40 11 rfl, dq_182 sB_40 12 rfl 96 (by decide), dq_87 sB_40 15 rfl, dq_167 sB_40 16 rfl 676 (by decide), dq_43 sB_40 19 rfl, dq_182 sB_40 20 rfl 97 (by decide), dq_87 sB_40 23 rfl, dq_44 sB_41 0 rfl, dq_182 sB_41 1 rfl 101 (by decide)⟩
theorem dL_law_968 : decode cL_law 968 = .ok (.iload_n 3, 1) := dL_law_all57.1
theorem dL_law_969 : decode cL_law 969 = .ok (.iconst 3, 1) := dL_law_all57.2.1
theorem dL_law_970 : decode cL_law 970 = .ok (.iadd, 1) := dL_law_all57.2.2.1
theorem dL_law_971 : decode cL_law 971 = .ok (.iaload, 1) := dL_law_all57.2.2.2.1
theorem dL_law_972 : decode cL_law 972 = .ok (.invokevirtual 96, 3) := dL_law_all57.2.2.2.2.1
theorem dL_law_975 : decode cL_law 975 = .ok (.pop, 1) := dL_law_all57.2.2.2.2.2.1
theorem dL_law_976 : decode cL_law 976 = .ok (.goto 676, 3) := dL_law_all57.2.2.2.2.2.2.1
theorem dL_law_979 : decode cL_law 979 = .ok (.aload_n 1, 1) := dL_law_all57.2.2.2.2.2.2.2.1
theorem dL_law_980 : decode cL_law 980 = .ok (.invokevirtual 97, 3) := dL_law_all57.2.2.2.2.2.2.2.2.1
theorem dL_law_983 : decode cL_law 983 = .ok (.pop, 1) := dL_law_all57.2.2.2.2.2.2.2.2.2.1
theorem dL_law_984 : decode cL_law 984 = .ok (.aload_n 2, 1) := dL_law_all57.2.2.2.2.2.2.2.2.2.2.1
theorem dL_law_985 : decode cL_law 985 = .ok (.invokevirtual 101, 3) := dL_law_all57.2.2.2.2.2.2.2.2.2.2.2
theorem dL_law_all58 : decode cL_law 988 = .ok (.pop, 1) ∧ decode cL_law 989 = .ok (.goto 663, 3) ∧ decode cL_law 992 = .ok (.aload_n 1, 1) ∧ decode cL_law 993 = .ok (.invokevirtual 102, 3) ∧ decode cL_law 996 = .ok (.pop, 1) ∧ decode cL_law 997 = .ok (.aload_n 2, 1) ∧ decode cL_law 998 = .ok (.invokevirtual 105, 3) ∧ decode cL_law 1001 = .ok (.pop, 1) ∧ decode cL_law 1002 = .ok (.goto 650, 3) ∧ decode cL_law 1005 = .ok (.aload_n 1, 1) ∧ decode cL_law 1006 = .ok (.aload_n 0, 1) ∧ decode cL_law 1007 = .ok (.iload_n 3, 1) := ⟨dq_87 sB_41 4 rfl, dq_167 sB_41 5 rfl 663 (by decide), dq_43 sB_41 8 rfl, dq_182 sB_41 9 rfl 102 (by decide), dq_87 sB_41 12 rfl, dq_44 sB_41 13 rfl, dq_182 sB_41 14 rfl 105 (by decide), dq_87 sB_41 17 rfl, dq_167 sB_41 18 rfl 650 (by decide), dq_43 sB_41 21 rfl, dq_42 sB_41 22 rfl, dq_29 sB_41 23 rfl⟩
theorem dL_law_988 : decode cL_law 988 = .ok (.pop, 1) := dL_law_all58.1
theorem dL_law_989 : decode cL_law 989 = .ok (.goto 663, 3) := dL_law_all58.2.1
theorem dL_law_992 : decode cL_law 992 = .ok (.aload_n 1, 1) := dL_law_all58.2.2.1
theorem dL_law_993 : decode cL_law 993 = .ok (.invokevirtual 102, 3) := dL_law_all58.2.2.2.1
theorem dL_law_996 : decode cL_law 996 = .ok (.pop, 1) := dL_law_all58.2.2.2.2.1
theorem dL_law_997 : decode cL_law 997 = .ok (.aload_n 2, 1) := dL_law_all58.2.2.2.2.2.1
theorem dL_law_998 : decode cL_law 998 = .ok (.invokevirtual 105, 3) := dL_law_all58.2.2.2.2.2.2.1
theorem dL_law_1001 : decode cL_law 1001 = .ok (.pop, 1) := dL_law_all58.2.2.2.2.2.2.2.1
theorem dL_law_1002 : decode cL_law 1002 = .ok (.goto 650, 3) := dL_law_all58.2.2.2.2.2.2.2.2.1
theorem dL_law_1005 : decode cL_law 1005 = .ok (.aload_n 1, 1) := dL_law_all58.2.2.2.2.2.2.2.2.2.1
theorem dL_law_1006 : decode cL_law 1006 = .ok (.aload_n 0, 1) := dL_law_all58.2.2.2.2.2.2.2.2.2.2.1
theorem dL_law_1007 : decode cL_law 1007 = .ok (.iload_n 3, 1) := dL_law_all58.2.2.2.2.2.2.2.2.2.2.2
theorem dL_law_all59 : decode cL_law 1008 = .ok (.iconst 1, 1) ∧ decode cL_law 1009 = .ok (.iadd, 1) ∧ decode cL_law 1010 = .ok (.iaload, 1) ∧ decode cL_law 1011 = .ok (.aload_n 0, 1) ∧ decode cL_law 1012 = .ok (.iload_n 3, 1) ∧ decode cL_law 1013 = .ok (.iconst 2, 1) ∧ decode cL_law 1014 = .ok (.iadd, 1) ∧ decode cL_law 1015 = .ok (.iaload, 1) ∧ decode cL_law 1016 = .ok (.aload_n 0, 1) ∧ decode cL_law 1017 = .ok (.iload_n 3, 1) ∧ decode cL_law 1018 = .ok (.iconst 3, 1) ∧ decode cL_law 1019 = .ok (.iadd, 1) := ⟨dq_4 sB_42 0 rfl, dq_96 sB_42 1 rfl, dq_46 sB_42 2 rfl, dq_42 sB_42 3 rfl, dq_29 sB_42 4 rfl, dq_5 sB_42 5 rfl, dq_96 sB_42 6 rfl, dq_46 sB_42 7 rfl, dq_42 sB_42 8 rfl, dq_29 sB_42 9 rfl, dq_6 sB_42 10 rfl, dq_96 sB_42 11 rfl⟩
theorem dL_law_1008 : decode cL_law 1008 = .ok (.iconst 1, 1) := dL_law_all59.1
theorem dL_law_1009 : decode cL_law 1009 = .ok (.iadd, 1) := dL_law_all59.2.1
theorem dL_law_1010 : decode cL_law 1010 = .ok (.iaload, 1) := dL_law_all59.2.2.1
theorem dL_law_1011 : decode cL_law 1011 = .ok (.aload_n 0, 1) := dL_law_all59.2.2.2.1
theorem dL_law_1012 : decode cL_law 1012 = .ok (.iload_n 3, 1) := dL_law_all59.2.2.2.2.1
theorem dL_law_1013 : decode cL_law 1013 = .ok (.iconst 2, 1) := dL_law_all59.2.2.2.2.2.1
theorem dL_law_1014 : decode cL_law 1014 = .ok (.iadd, 1) := dL_law_all59.2.2.2.2.2.2.1
theorem dL_law_1015 : decode cL_law 1015 = .ok (.iaload, 1) := dL_law_all59.2.2.2.2.2.2.2.1
theorem dL_law_1016 : decode cL_law 1016 = .ok (.aload_n 0, 1) := dL_law_all59.2.2.2.2.2.2.2.2.1
theorem dL_law_1017 : decode cL_law 1017 = .ok (.iload_n 3, 1) := dL_law_all59.2.2.2.2.2.2.2.2.2.1
theorem dL_law_1018 : decode cL_law 1018 = .ok (.iconst 3, 1) := dL_law_all59.2.2.2.2.2.2.2.2.2.2.1
theorem dL_law_1019 : decode cL_law 1019 = .ok (.iadd, 1) := dL_law_all59.2.2.2.2.2.2.2.2.2.2.2
theorem dL_law_all60 : decode cL_law 1020 = .ok (.iaload, 1) ∧ decode cL_law 1021 = .ok (.aload_n 0, 1) ∧ decode cL_law 1022 = .ok (.iload_n 3, 1) ∧ decode cL_law 1023 = .ok (.iconst 4, 1) ∧ decode cL_law 1024 = .ok (.iadd, 1) ∧ decode cL_law 1025 = .ok (.iaload, 1) ∧ decode cL_law 1026 = .ok (.invokevirtual 106, 3) ∧ decode cL_law 1029 = .ok (.pop, 1) ∧ decode cL_law 1030 = .ok (.aload_n 2, 1) ∧ decode cL_law 1031 = .ok (.aload_n 0, 1) ∧ decode cL_law 1032 = .ok (.iload_n 3, 1) ∧ decode cL_law 1033 = .ok (.iconst 1, 1) := ⟨dq_46 sB_42 12 rfl, dq_42 sB_42 13 rfl, dq_29 sB_42 14 rfl, dq_7 sB_42 15 rfl, dq_96 sB_42 16 rfl, dq_46 sB_42 17 rfl, dq_182 sB_42 18 rfl 106 (by decide), dq_87 sB_42 21 rfl, dq_44 sB_42 22 rfl, dq_42 sB_42 23 rfl, dq_29 sB_43 0 rfl, dq_4 sB_43 1 rfl⟩
theorem dL_law_1020 : decode cL_law 1020 = .ok (.iaload, 1) := dL_law_all60.1
theorem dL_law_1021 : decode cL_law 1021 = .ok (.aload_n 0, 1) := dL_law_all60.2.1
theorem dL_law_1022 : decode cL_law 1022 = .ok (.iload_n 3, 1) := dL_law_all60.2.2.1
theorem dL_law_1023 : decode cL_law 1023 = .ok (.iconst 4, 1) := dL_law_all60.2.2.2.1
theorem dL_law_1024 : decode cL_law 1024 = .ok (.iadd, 1) := dL_law_all60.2.2.2.2.1
theorem dL_law_1025 : decode cL_law 1025 = .ok (.iaload, 1) := dL_law_all60.2.2.2.2.2.1
theorem dL_law_1026 : decode cL_law 1026 = .ok (.invokevirtual 106, 3) := dL_law_all60.2.2.2.2.2.2.1
theorem dL_law_1029 : decode cL_law 1029 = .ok (.pop, 1) := dL_law_all60.2.2.2.2.2.2.2.1
theorem dL_law_1030 : decode cL_law 1030 = .ok (.aload_n 2, 1) := dL_law_all60.2.2.2.2.2.2.2.2.1
theorem dL_law_1031 : decode cL_law 1031 = .ok (.aload_n 0, 1) := dL_law_all60.2.2.2.2.2.2.2.2.2.1
theorem dL_law_1032 : decode cL_law 1032 = .ok (.iload_n 3, 1) := dL_law_all60.2.2.2.2.2.2.2.2.2.2.1
theorem dL_law_1033 : decode cL_law 1033 = .ok (.iconst 1, 1) := dL_law_all60.2.2.2.2.2.2.2.2.2.2.2
theorem dL_law_all61 : decode cL_law 1034 = .ok (.iadd, 1) ∧ decode cL_law 1035 = .ok (.iaload, 1) ∧ decode cL_law 1036 = .ok (.aload_n 0, 1) ∧ decode cL_law 1037 = .ok (.iload_n 3, 1) ∧ decode cL_law 1038 = .ok (.iconst 2, 1) ∧ decode cL_law 1039 = .ok (.iadd, 1) ∧ decode cL_law 1040 = .ok (.iaload, 1) ∧ decode cL_law 1041 = .ok (.aload_n 0, 1) ∧ decode cL_law 1042 = .ok (.iload_n 3, 1) ∧ decode cL_law 1043 = .ok (.iconst 3, 1) ∧ decode cL_law 1044 = .ok (.iadd, 1) ∧ decode cL_law 1045 = .ok (.iaload, 1) := ⟨dq_96 sB_43 2 rfl, dq_46 sB_43 3 rfl, dq_42 sB_43 4 rfl, dq_29 sB_43 5 rfl, dq_5 sB_43 6 rfl, dq_96 sB_43 7 rfl, dq_46 sB_43 8 rfl, dq_42 sB_43 9 rfl, dq_29 sB_43 10 rfl, dq_6 sB_43 11 rfl, dq_96 sB_43 12 rfl, dq_46 sB_43 13 rfl⟩
theorem dL_law_1034 : decode cL_law 1034 = .ok (.iadd, 1) := dL_law_all61.1
theorem dL_law_1035 : decode cL_law 1035 = .ok (.iaload, 1) := dL_law_all61.2.1
theorem dL_law_1036 : decode cL_law 1036 = .ok (.aload_n 0, 1) := dL_law_all61.2.2.1
theorem dL_law_1037 : decode cL_law 1037 = .ok (.iload_n 3, 1) := dL_law_all61.2.2.2.1
theorem dL_law_1038 : decode cL_law 1038 = .ok (.iconst 2, 1) := dL_law_all61.2.2.2.2.1
theorem dL_law_1039 : decode cL_law 1039 = .ok (.iadd, 1) := dL_law_all61.2.2.2.2.2.1
theorem dL_law_1040 : decode cL_law 1040 = .ok (.iaload, 1) := dL_law_all61.2.2.2.2.2.2.1
theorem dL_law_1041 : decode cL_law 1041 = .ok (.aload_n 0, 1) := dL_law_all61.2.2.2.2.2.2.2.1
theorem dL_law_1042 : decode cL_law 1042 = .ok (.iload_n 3, 1) := dL_law_all61.2.2.2.2.2.2.2.2.1
theorem dL_law_1043 : decode cL_law 1043 = .ok (.iconst 3, 1) := dL_law_all61.2.2.2.2.2.2.2.2.2.1
theorem dL_law_1044 : decode cL_law 1044 = .ok (.iadd, 1) := dL_law_all61.2.2.2.2.2.2.2.2.2.2.1
theorem dL_law_1045 : decode cL_law 1045 = .ok (.iaload, 1) := dL_law_all61.2.2.2.2.2.2.2.2.2.2.2
theorem dL_law_all62 : decode cL_law 1046 = .ok (.aload_n 0, 1) ∧ decode cL_law 1047 = .ok (.iload_n 3, 1) ∧ decode cL_law 1048 = .ok (.iconst 4, 1) ∧ decode cL_law 1049 = .ok (.iadd, 1) ∧ decode cL_law 1050 = .ok (.iaload, 1) ∧ decode cL_law 1051 = .ok (.invokevirtual 109, 3) ∧ decode cL_law 1054 = .ok (.pop, 1) ∧ decode cL_law 1055 = .ok (.goto 597, 3) ∧ decode cL_law 1058 = .ok (.aload_n 1, 1) ∧ decode cL_law 1059 = .ok (.aload_n 0, 1) ∧ decode cL_law 1060 = .ok (.iload_n 3, 1) ∧ decode cL_law 1061 = .ok (.iconst 1, 1) := ⟨dq_42 sB_43 14 rfl, dq_29 sB_43 15 rfl, dq_7 sB_43 16 rfl, dq_96 sB_43 17 rfl, dq_46 sB_43 18 rfl, dq_182 sB_43 19 rfl 109 (by decide), dq_87 sB_43 22 rfl, dq_167 sB_43 23 rfl 597 (by decide), dq_43 sB_44 2 rfl, dq_42 sB_44 3 rfl, dq_29 sB_44 4 rfl, dq_4 sB_44 5 rfl⟩
theorem dL_law_1046 : decode cL_law 1046 = .ok (.aload_n 0, 1) := dL_law_all62.1
theorem dL_law_1047 : decode cL_law 1047 = .ok (.iload_n 3, 1) := dL_law_all62.2.1
theorem dL_law_1048 : decode cL_law 1048 = .ok (.iconst 4, 1) := dL_law_all62.2.2.1
theorem dL_law_1049 : decode cL_law 1049 = .ok (.iadd, 1) := dL_law_all62.2.2.2.1
theorem dL_law_1050 : decode cL_law 1050 = .ok (.iaload, 1) := dL_law_all62.2.2.2.2.1
theorem dL_law_1051 : decode cL_law 1051 = .ok (.invokevirtual 109, 3) := dL_law_all62.2.2.2.2.2.1
theorem dL_law_1054 : decode cL_law 1054 = .ok (.pop, 1) := dL_law_all62.2.2.2.2.2.2.1
theorem dL_law_1055 : decode cL_law 1055 = .ok (.goto 597, 3) := dL_law_all62.2.2.2.2.2.2.2.1
set_option maxHeartbeats 4000000 in
set_option maxRecDepth 100000 in
theorem law_case_16 {p : Program} {l : Launch} {e : Env} {s : State} {m : MethodId} {below : List Frame} {meth : Method} {c : Code} {D : va_G} {cI cY cJ cQ : ClassId} {b L aK aV : Nat} {xs : Nat → Int32} {ad rw md : Nat → Nat} {sd i : Int32} {nx : Nat → Int32} {fx rs : Nat → Nat → Int32} {lo : Nat → Int64} {ny : Nat → Int32} {fy : Nat → Nat → Int32} {fl : Nat → Int64} {H : Heap} {locs : List Loc} {ls : Array Slot} (C0 : lawC p s m meth c b L xs D cI cY cJ cQ aK aV) (I : inv nx fx rs ny fy) (hP : va_P D vwCl (wX ad rw sd cI cY cJ cQ nx fx rs lo ++ wM md sd cI cY cJ cQ ny fy fl) H) (hD : va_D (fun q : Nat => s.heap.size ≤ q) (wX ad rw sd cI cY cJ cQ nx fx rs lo ++ wM md sd cI cY cJ cQ ny fy fl)) (hS : va_S (fun q : Nat => s.heap.size ≤ q) s.heap H locs) (hl : lv_has ls 4 [(0, .ref b), (1, .ref (ad 0)), (2, .ref (md 64)), (3, .int i)]) (hi1 : 1 ≤ i.toInt) (hi2 : i.toInt + 5 < L) (kk : ∀ (nx : Nat → Int32) (fx rs : Nat → Nat → Int32) (lo : Nat → Int64) (ny : Nat → Int32) (fy : Nat → Nat → Int32) (fl : Nat → Int64) (H : Heap) (locs : List Loc) (ls : Array Slot), inv nx fx rs ny fy → va_P D vwCl (wX ad rw sd cI cY cJ cQ nx fx rs lo ++ wM md sd cI cY cJ cQ ny fy fl) H → va_D (fun q : Nat => s.heap.size ≤ q) (wX ad rw sd cI cY cJ cQ nx fx rs lo ++ wM md sd cI cY cJ cQ ny fy fl) → va_S (fun q : Nat => s.heap.size ≤ q) s.heap H locs → lv_has ls 4 [(0, .ref b), (1, .ref (ad 0)), (2, .ref (md 64)), (3, .int i)] → W p l e room_1 s m #[Value.ref b] below meth c H locs 107 4890 (lw_Z below #[Value.ref b] s) (F0 m 1652 ls [])) : W p l e room_1 s m #[Value.ref b] below meth c H locs 107 4890 (lw_Z below #[Value.ref b] s) (F0 m 916 ls []) := by
  obtain ⟨C1, hK, hN, hT, hL⟩ := C0
  obtain ⟨hx, hb, hr, hml, hown, hts0, hX, hbl, hlocks, hgv⟩ := C1
  have hA : ∀ q : Nat, s.heap.size ≤ q → (fun q : Nat => s.heap.size ≤ q) q := fun _ h => h
  have hbA : ¬ (fun q : Nat => s.heap.size ≤ q) b := Nat.not_le.mpr hbl
  have hts : ∀ w ∈ wsL_law, w.before #[Value.ref b] s = true := fun w h => hts0 w (wsL_law_in w h)
  replace hown : s.vm.findClass RL = some m.cls := hown
  replace hb : c.code = cL_law := hb
  have hak1 : vp_in (i + 1) L := law_in hi1 hi2 hL (by decide)
  obtain ⟨xk1, exk1⟩ : ∃ y : Int32, y = xs (i + 1).toNatClampNeg := ⟨_, rfl⟩
  have hak2 : vp_in (i + 2) L := law_in hi1 hi2 hL (by decide)
  obtain ⟨xk2, exk2⟩ : ∃ y : Int32, y = xs (i + 2).toNatClampNeg := ⟨_, rfl⟩
  have hak3 : vp_in (i + 3) L := law_in hi1 hi2 hL (by decide)
  obtain ⟨xk3, exk3⟩ : ∃ y : Int32, y = xs (i + 3).toNatClampNeg := ⟨_, rfl⟩
  refine inv_el I ?_
  intro Xhna Xhnb XH XD XV XN Xcna Xcnb XF Xpna Xpnb XG XO XW Xgna Xgnb XJ Xlna Xlnb Xdla Xdlb Xana Xanb Xuna Xunb XU Xlca Xlcb Xtna Xtnb XS Mhna Mhnb MH MS Mmlna Mmlnb Mmtna Mmtnb Chn Cho Chc Chp Chs Ccn Cfo Cwo Cpn Cpk Cpf Cpo Cpd Cpe Cgn Cgk Cgs Cgd Cge Can Cak Cah Cay Caz Cun Cuk Cuy Cuw Cum Clc Clp Cla Clb Caw Ciw Cln Ctd Cro Cmtn Cmtr Cmst Csh
  have Tcn := i_eq Ccn
  have Tpn := i_eq Cpn
  have Tgn := i_eq Cgn
  have Tan := i_eq Can
  have Tun := i_eq Cun
  have Tlc := i_eq Clc
  have Tln := i_eq Cln
  refine lv_aload_n hx hb dL_law_916 rfl (lv_at hl 1 rfl) ?_
  refine law_arg (v := 1) hx hb hX hbl hbA hS (lv_at hl 0 rfl) (lv_at hl 3 rfl) (by decide) hak1 exk1 dL_law_917 dL_law_918 dL_law_919 dL_law_920 dL_law_921 ?_
  refine lv_i2l hx hb dL_law_922 rfl ?_
  refine lv_bipush (v := 32) hx hb dL_law_923 (by decide) ?_
  refine lv_lshl hx hb dL_law_925 rfl ?_
  refine lv_topl (fun z1 ez1 => ?_)
  refine law_arg (v := 2) hx hb hX hbl hbA hS (lv_at hl 0 rfl) (lv_at hl 3 rfl) (by decide) hak2 exk2 dL_law_926 dL_law_927 dL_law_928 dL_law_929 dL_law_930 ?_
  refine lv_i2l hx hb dL_law_931 rfl ?_
  refine lv_ldc2 hx hb hown (hts (Cond.constantLong RL 90 (4294967295)) (wm_l (wm_l (wm_l (wm_l (wm_l (wm_i 6 rfl))))))) dL_law_932 ?_
  refine lv_land hx hb dL_law_935 ?_
  refine lv_topl (fun z2 ez2 => ?_)
  refine lv_lor hx hb dL_law_936 ?_
  refine lv_topl (fun z3 ez3 => ?_)
  refine law_arg (v := 3) hx hb hX hbl hbA hS (lv_at hl 0 rfl) (lv_at hl 3 rfl) (by decide) hak3 exk3 dL_law_937 dL_law_938 dL_law_939 dL_law_940 dL_law_941 ?_
  refine st_iU (va_runV (C := RX10) (As := [.long z3, .int xk3]) (rest := []) ⟨hx, hb, hml, hown, hts⟩ (ct_X10_feed l D cI cY cJ cQ _ ad (nx 0) (nx 1) (nx 2) (nx 7) (nx 8) (nx 9) (nx 10) (nx 11) (nx 12) (nx 13) (nx 14) (fx 27) z3 xk3 Xlna Xlnb) (cwV 2 hts gL_law_X10_feed rfl rfl rfl ⟨rfl, cdX10_feed⟩ ⟨Nat.le_of_ble_eq_true rfl, Nat.le_of_ble_eq_true rfl⟩) (cPreV (hP.sub [0, 42, 43] rfl) hK (hD.sub [0, 42, 43] (by decide +kernel) rfl) hN (ci := 10) (q0 := 0) rfl rfl) rfl rfl hl.1 rfl (lv_room (Nat.le_of_ble_eq_true rfl)) dL_law_942 ⟨Nat.le_of_ble_eq_true rfl, Nat.le_of_ble_eq_true rfl⟩) hP hD hS hA [0, 42, 43] rfl (fun _ => rfl) (fun r6 u4 H locs hw5 => ?_)
  clear hP hS
  intro hP hS
  obtain ⟨ln_7, tp_8⟩ := u4
  replace hw5 : r6 = sp_feed (nx 7) xk3 ∧ ln_7 = sq_feed (nx 7) xk3 := hw5
  obtain ⟨hw5r, hw5n⟩ := hw5
  have hw5k := sq_feed_ok (n := xk3) Xlna Xlnb
  rw [← hw5n] at hw5k
  refine lv_pop hx hb dL_law_945 rfl ?_
  have hPx : va_P D vwCl (wX ad rw sd cI cY cJ cQ (upd nx 7 ln_7) (upR fx 27 tp_8) rs lo ++ wM md sd cI cY cJ cQ ny fy fl) H := hP
  have hDx : va_D (fun q : Nat => s.heap.size ≤ q) (wX ad rw sd cI cY cJ cQ (upd nx 7 ln_7) (upR fx 27 tp_8) rs lo ++ wM md sd cI cY cJ cQ ny fy fl) := wXM_D hD
  have hP := hPx.comm
  have hD := hDx.comm
  refine lv_aload_n hx hb dL_law_946 rfl (lv_at hl 2 rfl) ?_
  refine law_arg (v := 1) hx hb hX hbl hbA hS (lv_at hl 0 rfl) (lv_at hl 3 rfl) (by decide) hak1 exk1 dL_law_947 dL_law_948 dL_law_949 dL_law_950 dL_law_951 ?_
  refine lv_i2l hx hb dL_law_952 rfl ?_
  refine lv_bipush (v := 32) hx hb dL_law_953 (by decide) ?_
  refine lv_lshl hx hb dL_law_955 rfl ?_
  refine lv_topl (fun z9 ez9 => ?_)
  refine law_arg (v := 2) hx hb hX hbl hbA hS (lv_at hl 0 rfl) (lv_at hl 3 rfl) (by decide) hak2 exk2 dL_law_956 dL_law_957 dL_law_958 dL_law_959 dL_law_960 ?_
  refine lv_i2l hx hb dL_law_961 rfl ?_
  refine lv_ldc2 hx hb hown (hts (Cond.constantLong RL 90 (4294967295)) (wm_l (wm_l (wm_l (wm_l (wm_l (wm_i 6 rfl))))))) dL_law_962 ?_
  refine lv_land hx hb dL_law_965 ?_
  refine lv_topl (fun z10 ez10 => ?_)
  refine lv_lor hx hb dL_law_966 ?_
  refine lv_topl (fun z11 ez11 => ?_)
  refine law_arg (v := 3) hx hb hX hbl hbA hS (lv_at hl 0 rfl) (lv_at hl 3 rfl) (by decide) hak3 exk3 dL_law_967 dL_law_968 dL_law_969 dL_law_970 dL_law_971 ?_
  refine st_iU (va_runV (C := RX11) (As := [.long z11, .int xk3]) (rest := []) ⟨hx, hb, hml, hown, hts⟩ (ct_X11_feed l D cI cY cJ cQ _ md sd (ny 0) (ny 1) (ny 2) (ny 3) (ny 4) (ny 5) (ny 6) (ny 7) (ny 8) (ny 9) (ny 10) (ny 11) (ny 12) (ny 13) (ny 14) (ny 15) (ny 16) (ny 17) (ny 18) (ny 19) (ny 20) (ny 21) (ny 22) (fy 23) z11 xk3 (by omega) (by omega)) (cwV 2 hts gL_law_X11_feed rfl rfl rfl ⟨rfl, cdX11_feed⟩ ⟨Nat.le_of_ble_eq_true rfl, Nat.le_of_ble_eq_true rfl⟩) (cPreV (hP.sub [0, 25] rfl) hK (hD.sub [0, 25] (by decide +kernel) rfl) hN (ci := 11) (q0 := 0) rfl rfl) rfl rfl hl.1 rfl (lv_room (Nat.le_of_ble_eq_true rfl)) dL_law_972 ⟨Nat.le_of_ble_eq_true rfl, Nat.le_of_ble_eq_true rfl⟩) hP hD hS hA [0, 25] rfl (fun _ => rfl) (fun r14 u12 H locs hw13 => ?_)
  clear hP hS
  intro hP hS
  obtain ⟨ln_15, mtp_16⟩ := u12
  replace hw13 : r14 = sp_feed (ny 9) xk3 ∧ ln_15 = sq_feed (ny 9) xk3 := hw13
  rw [Cln] at hw13
  obtain ⟨hw13r, hw13n⟩ := hw13
  have e90 := hw5r.trans hw13r.symm
  refine lv_pop hx hb dL_law_975 rfl ?_
  refine lv_goto (tgt := 1652) hx hb dL_law_976 (by decide) ?_
  have hPm : va_P D vwCl (wM md sd cI cY cJ cQ (upd (upd ny 0 0) 9 ln_15) (upR fy 23 mtp_16) fl ++ wX ad rw sd cI cY cJ cQ (upd nx 7 ln_7) (upR fx 27 tp_8) rs lo) H := hP
  have hDm : va_D (fun q : Nat => s.heap.size ≤ q) (wM md sd cI cY cJ cQ (upd (upd ny 0 0) 9 ln_15) (upR fy 23 mtp_16) fl ++ wX ad rw sd cI cY cJ cQ (upd nx 7 ln_7) (upR fx 27 tp_8) rs lo) := wMX_D hD
  exact kk (upd nx 7 ln_7) (upR fx 27 tp_8) rs lo (upd (upd ny 0 0) 9 ln_15) (upR fy 23 mtp_16) fl H locs ls ⟨Xhna, Xhnb, XH, XD, XV, XN, Xcna, Xcnb, XF, Xpna, Xpnb, XG, XO, XW, Xgna, Xgnb, XJ, (by show 0 ≤ (ln_7).toInt; omega), (by show (ln_7).toInt ≤ 300; omega), Xdla, Xdlb, Xana, Xanb, Xuna, Xunb, XU, Xlca, Xlcb, Xtna, Xtnb, XS, Mhna, Mhnb, MH, MS, Mmlna, Mmlnb, Mmtna, Mmtnb, Chn, Cho, Chc, Chp, Chs, Ccn, Cfo, Cwo, Cpn, Cpk, Cpf, Cpo, Cpd, Cpe, Cgn, Cgk, Cgs, Cgd, Cge, Can, Cak, Cah, Cay, Caz, Cun, Cuk, Cuy, Cuw, Cum, Clc, Clp, Cla, Clb, Caw, Ciw, (show (ln_15) = (ln_7) from hw13n.trans hw5n.symm), Ctd, Cro, Cmtn, Cmtr, Cmst, Csh⟩ hPm.comm hDm.comm hS hl

set_option maxHeartbeats 4000000 in
set_option maxRecDepth 100000 in
theorem law_case_17 {p : Program} {l : Launch} {e : Env} {s : State} {m : MethodId} {below : List Frame} {meth : Method} {c : Code} {D : va_G} {cI cY cJ cQ : ClassId} {b L aK aV : Nat} {xs : Nat → Int32} {ad rw md : Nat → Nat} {sd i : Int32} {nx : Nat → Int32} {fx rs : Nat → Nat → Int32} {lo : Nat → Int64} {ny : Nat → Int32} {fy : Nat → Nat → Int32} {fl : Nat → Int64} {H : Heap} {locs : List Loc} {ls : Array Slot} (C0 : lawC p s m meth c b L xs D cI cY cJ cQ aK aV) (I : inv nx fx rs ny fy) (hP : va_P D vwCl (wX ad rw sd cI cY cJ cQ nx fx rs lo ++ wM md sd cI cY cJ cQ ny fy fl) H) (hD : va_D (fun q : Nat => s.heap.size ≤ q) (wX ad rw sd cI cY cJ cQ nx fx rs lo ++ wM md sd cI cY cJ cQ ny fy fl)) (hS : va_S (fun q : Nat => s.heap.size ≤ q) s.heap H locs) (hl : lv_has ls 4 [(0, .ref b), (1, .ref (ad 0)), (2, .ref (md 64)), (3, .int i)]) (hi1 : 1 ≤ i.toInt) (hi2 : i.toInt + 5 < L) (kk : ∀ (nx : Nat → Int32) (fx rs : Nat → Nat → Int32) (lo : Nat → Int64) (ny : Nat → Int32) (fy : Nat → Nat → Int32) (fl : Nat → Int64) (H : Heap) (locs : List Loc) (ls : Array Slot), inv nx fx rs ny fy → va_P D vwCl (wX ad rw sd cI cY cJ cQ nx fx rs lo ++ wM md sd cI cY cJ cQ ny fy fl) H → va_D (fun q : Nat => s.heap.size ≤ q) (wX ad rw sd cI cY cJ cQ nx fx rs lo ++ wM md sd cI cY cJ cQ ny fy fl) → va_S (fun q : Nat => s.heap.size ≤ q) s.heap H locs → lv_has ls 4 [(0, .ref b), (1, .ref (ad 0)), (2, .ref (md 64)), (3, .int i)] → W p l e room_1 s m #[Value.ref b] below meth c H locs 107 4890 (lw_Z below #[Value.ref b] s) (F0 m 1652 ls [])) : W p l e room_1 s m #[Value.ref b] below meth c H locs 107 4890 (lw_Z below #[Value.ref b] s) (F0 m 979 ls []) := by
  obtain ⟨C1, hK, hN, hT, hL⟩ := C0
  obtain ⟨hx, hb, hr, hml, hown, hts0, hX, hbl, hlocks, hgv⟩ := C1
  have hA : ∀ q : Nat, s.heap.size ≤ q → (fun q : Nat => s.heap.size ≤ q) q := fun _ h => h
  have hbA : ¬ (fun q : Nat => s.heap.size ≤ q) b := Nat.not_le.mpr hbl
  have hts : ∀ w ∈ wsL_law, w.before #[Value.ref b] s = true := fun w h => hts0 w (wsL_law_in w h)
  replace hown : s.vm.findClass RL = some m.cls := hown
  replace hb : c.code = cL_law := hb
  refine inv_el I ?_
  intro Xhna Xhnb XH XD XV XN Xcna Xcnb XF Xpna Xpnb XG XO XW Xgna Xgnb XJ Xlna Xlnb Xdla Xdlb Xana Xanb Xuna Xunb XU Xlca Xlcb Xtna Xtnb XS Mhna Mhnb MH MS Mmlna Mmlnb Mmtna Mmtnb Chn Cho Chc Chp Chs Ccn Cfo Cwo Cpn Cpk Cpf Cpo Cpd Cpe Cgn Cgk Cgs Cgd Cge Can Cak Cah Cay Caz Cun Cuk Cuy Cuw Cum Clc Clp Cla Clb Caw Ciw Cln Ctd Cro Cmtn Cmtr Cmst Csh
  have Tcn := i_eq Ccn
  have Tpn := i_eq Cpn
  have Tgn := i_eq Cgn
  have Tan := i_eq Can
  have Tun := i_eq Cun
  have Tlc := i_eq Clc
  have Tln := i_eq Cln
  have k0 : (0 : Int32).toInt = 0 := by decide
  refine lv_aload_n hx hb dL_law_979 rfl (lv_at hl 1 rfl) ?_
  refine st_iU (va_runV (C := RX10) (As := []) (rest := []) ⟨hx, hb, hml, hown, hts⟩ (ct_X10_duties l D cI cY cJ cQ _ aK aV ad (nx 0) (nx 1) (nx 2) (nx 7) (nx 8) (nx 9) (nx 10) (nx 11) (nx 12) (nx 13) (nx 14) (fx 27) (fx 28) (fx 29) (fx 30) (fx 31) (fx 32) (fx 33) Xlna Xlnb Xdla Xdlb) (cwV 0 hts gL_law_X10_duties rfl rfl rfl ⟨rfl, cdX10_duties⟩ ⟨Nat.le_of_ble_eq_true rfl, Nat.le_of_ble_eq_true rfl⟩) (cPreTV (hP.sub [0, 42, 43, 44, 45, 46, 47, 48, 49] rfl) hK (hD.sub [0, 42, 43, 44, 45, 46, 47, 48, 49] (by decide +kernel) rfl) hN hS (va_free hD hS hA [0, 42, 43, 44, 45, 46, 47, 48, 49] rfl) hT (ci := 10) (q0 := 0) rfl rfl) rfl rfl hl.1 rfl (lv_room (Nat.le_of_ble_eq_true rfl)) dL_law_980 ⟨Nat.le_of_ble_eq_true rfl, Nat.le_of_ble_eq_true rfl⟩) hP hD hS hA [0, 42, 43, 44, 45, 46, 47, 48, 49] rfl (fun _ => rfl) (fun r3 u1 H locs hw2 => ?_)
  clear hP hS
  intro hP hS
  obtain ⟨lfa_4, dl_5, dw_6, dd_7, dp_8, xw_9, xd_10, xp_11, dr_12, bs_13, be_14, tk_15, nb_16⟩ := u1
  replace hw2 : 0 ≤ dl_5.toInt ∧ dl_5.toInt ≤ 12 ∧ duP (fx 27) (nx 7).toNatClampNeg r3 (nx 8) (nx 9) lfa_4 dl_5 (fx 28) (fx 29) (fx 30) dw_6 dd_7 dp_8 := hw2
  refine lv_pop hx hb dL_law_983 rfl ?_
  have hPx : va_P D vwCl (wX ad rw sd cI cY cJ cQ (upd (upd (upd (upd (upd (upd (upd (upd nx 7 0) 8 lfa_4) 9 dl_5) 10 dr_12) 11 bs_13) 12 be_14) 13 tk_15) 14 nb_16) (upR (upR (upR (upR (upR (upR fx 28 dw_6) 29 dd_7) 30 dp_8) 31 xw_9) 32 xd_10) 33 xp_11) rs lo ++ wM md sd cI cY cJ cQ ny fy fl) H := hP
  have hDx : va_D (fun q : Nat => s.heap.size ≤ q) (wX ad rw sd cI cY cJ cQ (upd (upd (upd (upd (upd (upd (upd (upd nx 7 0) 8 lfa_4) 9 dl_5) 10 dr_12) 11 bs_13) 12 be_14) 13 tk_15) 14 nb_16) (upR (upR (upR (upR (upR (upR fx 28 dw_6) 29 dd_7) 30 dp_8) 31 xw_9) 32 xd_10) 33 xp_11) rs lo ++ wM md sd cI cY cJ cQ ny fy fl) := wXM_D hD
  have hP := hPx.comm
  have hD := hDx.comm
  refine lv_aload_n hx hb dL_law_984 rfl (lv_at hl 2 rfl) ?_
  refine st_iU (va_runV (C := RX11) (As := []) (rest := []) ⟨hx, hb, hml, hown, hts⟩ (ct_X11_duties l D cI cY cJ cQ _ md sd (ny 0) (ny 1) (ny 2) (ny 3) (ny 4) (ny 5) (ny 6) (ny 7) (ny 8) (ny 9) (ny 10) (ny 11) (ny 12) (ny 13) (ny 14) (ny 15) (ny 16) (ny 17) (ny 18) (ny 19) (ny 20) (ny 21) (ny 22) (fy 21) (fy 22) (fy 23) (by omega) (by omega) Mmlna Mmlnb) (cwV 0 hts gL_law_X11_duties rfl rfl rfl ⟨rfl, cdX11_duties⟩ ⟨Nat.le_of_ble_eq_true rfl, Nat.le_of_ble_eq_true rfl⟩) (cPreV (hP.sub [0, 23, 24, 25] rfl) hK (hD.sub [0, 23, 24, 25] (by decide +kernel) rfl) hN (ci := 11) (q0 := 0) rfl rfl) rfl rfl hl.1 rfl (lv_room (Nat.le_of_ble_eq_true rfl)) dL_law_985 ⟨Nat.le_of_ble_eq_true rfl, Nat.le_of_ble_eq_true rfl⟩) hP hD hS hA [0, 23, 24, 25] rfl (fun _ => rfl) (fun r19 u17 H locs hw18 => ?_)
  clear hP hS
  intro hP hS
  obtain ⟨mln_20, mli_21, mnn_22, mnl_23, mlt_24, msz_25, mcu_26, mtk_27, mfr_28, mti_29, mfa_30, mfb_31⟩ := u17
  replace hw18 : 0 ≤ mln_20.toInt ∧ mln_20.toInt ≤ 12 := hw18
  refine lv_pop hx hb dL_law_988 rfl ?_
  refine lv_goto (tgt := 1652) hx hb dL_law_989 (by decide) ?_
  have hPm : va_P D vwCl (wM md sd cI cY cJ cQ (upd (upd (upd (upd (upd (upd (upd (upd (upd (upd (upd (upd ny 0 0) 7 mln_20) 8 mnn_22) 9 0) 10 mlt_24) 11 msz_25) 12 mcu_26) 13 mtk_27) 14 mfr_28) 15 mti_29) 16 mfa_30) 17 mfb_31) (upR (upR fy 21 mli_21) 22 mnl_23) fl ++ wX ad rw sd cI cY cJ cQ (upd (upd (upd (upd (upd (upd (upd (upd nx 7 0) 8 lfa_4) 9 dl_5) 10 dr_12) 11 bs_13) 12 be_14) 13 tk_15) 14 nb_16) (upR (upR (upR (upR (upR (upR fx 28 dw_6) 29 dd_7) 30 dp_8) 31 xw_9) 32 xd_10) 33 xp_11) rs lo) H := hP
  have hDm : va_D (fun q : Nat => s.heap.size ≤ q) (wM md sd cI cY cJ cQ (upd (upd (upd (upd (upd (upd (upd (upd (upd (upd (upd (upd ny 0 0) 7 mln_20) 8 mnn_22) 9 0) 10 mlt_24) 11 msz_25) 12 mcu_26) 13 mtk_27) 14 mfr_28) 15 mti_29) 16 mfa_30) 17 mfb_31) (upR (upR fy 21 mli_21) 22 mnl_23) fl ++ wX ad rw sd cI cY cJ cQ (upd (upd (upd (upd (upd (upd (upd (upd nx 7 0) 8 lfa_4) 9 dl_5) 10 dr_12) 11 bs_13) 12 be_14) 13 tk_15) 14 nb_16) (upR (upR (upR (upR (upR (upR fx 28 dw_6) 29 dd_7) 30 dp_8) 31 xw_9) 32 xd_10) 33 xp_11) rs lo) := wMX_D hD
  exact kk (upd (upd (upd (upd (upd (upd (upd (upd nx 7 0) 8 lfa_4) 9 dl_5) 10 dr_12) 11 bs_13) 12 be_14) 13 tk_15) 14 nb_16) (upR (upR (upR (upR (upR (upR fx 28 dw_6) 29 dd_7) 30 dp_8) 31 xw_9) 32 xd_10) 33 xp_11) rs lo (upd (upd (upd (upd (upd (upd (upd (upd (upd (upd (upd (upd ny 0 0) 7 mln_20) 8 mnn_22) 9 0) 10 mlt_24) 11 msz_25) 12 mcu_26) 13 mtk_27) 14 mfr_28) 15 mti_29) 16 mfa_30) 17 mfb_31) (upR (upR fy 21 mli_21) 22 mnl_23) fl H locs ls ⟨Xhna, Xhnb, XH, XD, XV, XN, Xcna, Xcnb, XF, Xpna, Xpnb, XG, XO, XW, Xgna, Xgnb, XJ, (by show 0 ≤ (0 : Int32).toInt; omega), (by show (0 : Int32).toInt ≤ 300; omega), (by show 0 ≤ (dl_5).toInt; omega), (by show (dl_5).toInt ≤ 12; omega), Xana, Xanb, Xuna, Xunb, XU, Xlca, Xlcb, Xtna, Xtnb, XS, Mhna, Mhnb, MH, MS, (by show 0 ≤ (mln_20).toInt; omega), (by show (mln_20).toInt ≤ 12; omega), Mmtna, Mmtnb, Chn, Cho, Chc, Chp, Chs, Ccn, Cfo, Cwo, Cpn, Cpk, Cpf, Cpo, Cpd, Cpe, Cgn, Cgk, Cgs, Cgd, Cge, Can, Cak, Cah, Cay, Caz, Cun, Cuk, Cuy, Cuw, Cum, Clc, Clp, Cla, Clb, Caw, Ciw, (show (0 : Int32) = (0 : Int32) from rfl), Ctd, Cro, Cmtn, Cmtr, Cmst, Csh⟩ hPm.comm hDm.comm hS hl

set_option maxHeartbeats 4000000 in
set_option maxRecDepth 100000 in
theorem law_case_18 {p : Program} {l : Launch} {e : Env} {s : State} {m : MethodId} {below : List Frame} {meth : Method} {c : Code} {D : va_G} {cI cY cJ cQ : ClassId} {b L aK aV : Nat} {xs : Nat → Int32} {ad rw md : Nat → Nat} {sd i : Int32} {nx : Nat → Int32} {fx rs : Nat → Nat → Int32} {lo : Nat → Int64} {ny : Nat → Int32} {fy : Nat → Nat → Int32} {fl : Nat → Int64} {H : Heap} {locs : List Loc} {ls : Array Slot} (C0 : lawC p s m meth c b L xs D cI cY cJ cQ aK aV) (I : inv nx fx rs ny fy) (hP : va_P D vwCl (wX ad rw sd cI cY cJ cQ nx fx rs lo ++ wM md sd cI cY cJ cQ ny fy fl) H) (hD : va_D (fun q : Nat => s.heap.size ≤ q) (wX ad rw sd cI cY cJ cQ nx fx rs lo ++ wM md sd cI cY cJ cQ ny fy fl)) (hS : va_S (fun q : Nat => s.heap.size ≤ q) s.heap H locs) (hl : lv_has ls 4 [(0, .ref b), (1, .ref (ad 0)), (2, .ref (md 64)), (3, .int i)]) (hi1 : 1 ≤ i.toInt) (hi2 : i.toInt + 5 < L) (kk : ∀ (nx : Nat → Int32) (fx rs : Nat → Nat → Int32) (lo : Nat → Int64) (ny : Nat → Int32) (fy : Nat → Nat → Int32) (fl : Nat → Int64) (H : Heap) (locs : List Loc) (ls : Array Slot), inv nx fx rs ny fy → va_P D vwCl (wX ad rw sd cI cY cJ cQ nx fx rs lo ++ wM md sd cI cY cJ cQ ny fy fl) H → va_D (fun q : Nat => s.heap.size ≤ q) (wX ad rw sd cI cY cJ cQ nx fx rs lo ++ wM md sd cI cY cJ cQ ny fy fl) → va_S (fun q : Nat => s.heap.size ≤ q) s.heap H locs → lv_has ls 4 [(0, .ref b), (1, .ref (ad 0)), (2, .ref (md 64)), (3, .int i)] → W p l e room_1 s m #[Value.ref b] below meth c H locs 107 4890 (lw_Z below #[Value.ref b] s) (F0 m 1652 ls [])) : W p l e room_1 s m #[Value.ref b] below meth c H locs 107 4890 (lw_Z below #[Value.ref b] s) (F0 m 992 ls []) := by
  obtain ⟨C1, hK, hN, hT, hL⟩ := C0
  obtain ⟨hx, hb, hr, hml, hown, hts0, hX, hbl, hlocks, hgv⟩ := C1
  have hA : ∀ q : Nat, s.heap.size ≤ q → (fun q : Nat => s.heap.size ≤ q) q := fun _ h => h
  have hbA : ¬ (fun q : Nat => s.heap.size ≤ q) b := Nat.not_le.mpr hbl
  have hts : ∀ w ∈ wsL_law, w.before #[Value.ref b] s = true := fun w h => hts0 w (wsL_law_in w h)
  replace hown : s.vm.findClass RL = some m.cls := hown
  replace hb : c.code = cL_law := hb
  refine inv_el I ?_
  intro Xhna Xhnb XH XD XV XN Xcna Xcnb XF Xpna Xpnb XG XO XW Xgna Xgnb XJ Xlna Xlnb Xdla Xdlb Xana Xanb Xuna Xunb XU Xlca Xlcb Xtna Xtnb XS Mhna Mhnb MH MS Mmlna Mmlnb Mmtna Mmtnb Chn Cho Chc Chp Chs Ccn Cfo Cwo Cpn Cpk Cpf Cpo Cpd Cpe Cgn Cgk Cgs Cgd Cge Can Cak Cah Cay Caz Cun Cuk Cuy Cuw Cum Clc Clp Cla Clb Caw Ciw Cln Ctd Cro Cmtn Cmtr Cmst Csh
  have Tcn := i_eq Ccn
  have Tpn := i_eq Cpn
  have Tgn := i_eq Cgn
  have Tan := i_eq Can
  have Tun := i_eq Cun
  have Tlc := i_eq Clc
  have Tln := i_eq Cln
  refine lv_aload_n hx hb dL_law_992 rfl (lv_at hl 1 rfl) ?_
  refine st_iU (va_runV (C := RX10) (As := []) (rest := []) ⟨hx, hb, hml, hown, hts⟩ (ct_X10_fault l D cI cY cJ cQ _ ad (nx 0) (nx 1) (nx 2) (nx 7) (nx 8) (nx 9) (nx 10) (nx 11) (nx 12) (nx 13) (nx 14)) (cwV 0 hts gL_law_X10_fault rfl rfl rfl ⟨rfl, cdX10_fault⟩ ⟨Nat.le_of_ble_eq_true rfl, Nat.le_of_ble_eq_true rfl⟩) (cPreV (hP.sub [0, 42] rfl) hK (hD.sub [0, 42] (by decide +kernel) rfl) hN (ci := 10) (q0 := 0) rfl rfl) rfl rfl hl.1 rfl (lv_room (Nat.le_of_ble_eq_true rfl)) dL_law_993 ⟨Nat.le_of_ble_eq_true rfl, Nat.le_of_ble_eq_true rfl⟩) hP hD hS hA [0, 42] rfl (fun _ => rfl) (fun r3 u1 H locs hw2 => ?_)
  clear hP hS
  intro hP hS
  replace hw2 : r3 = (nx 8) := hw2
  refine lv_pop hx hb dL_law_996 rfl ?_
  have hPx : va_P D vwCl (wX ad rw sd cI cY cJ cQ nx fx rs lo ++ wM md sd cI cY cJ cQ ny fy fl) H := hP
  have hDx : va_D (fun q : Nat => s.heap.size ≤ q) (wX ad rw sd cI cY cJ cQ nx fx rs lo ++ wM md sd cI cY cJ cQ ny fy fl) := wXM_D hD
  have hP := hPx.comm
  have hD := hDx.comm
  refine lv_aload_n hx hb dL_law_997 rfl (lv_at hl 2 rfl) ?_
  refine st_iU (va_runV (C := RX11) (As := []) (rest := []) ⟨hx, hb, hml, hown, hts⟩ (ct_X11_fault l D cI cY cJ cQ _ md sd (ny 0) (ny 1) (ny 2) (ny 3) (ny 4) (ny 5) (ny 6) (ny 7) (ny 8) (ny 9) (ny 10) (ny 11) (ny 12) (ny 13) (ny 14) (ny 15) (ny 16) (ny 17) (ny 18) (ny 19) (ny 20) (ny 21) (ny 22)) (cwV 0 hts gL_law_X11_fault rfl rfl rfl ⟨rfl, cdX11_fault⟩ ⟨Nat.le_of_ble_eq_true rfl, Nat.le_of_ble_eq_true rfl⟩) (cPreV (hP.sub [0] rfl) hK (hD.sub [0] (by decide +kernel) rfl) hN (ci := 11) (q0 := 0) rfl rfl) rfl rfl hl.1 rfl (lv_room (Nat.le_of_ble_eq_true rfl)) dL_law_998 ⟨Nat.le_of_ble_eq_true rfl, Nat.le_of_ble_eq_true rfl⟩) hP hD hS hA [0] rfl (fun _ => rfl) (fun r6 u4 H locs hw5 => ?_)
  clear hP hS
  intro hP hS
  replace hw5 : r6 = (ny 10) := hw5
  refine lv_pop hx hb dL_law_1001 rfl ?_
  refine lv_goto (tgt := 1652) hx hb dL_law_1002 (by decide) ?_
  have hPm : va_P D vwCl (wM md sd cI cY cJ cQ (upd ny 0 0) fy fl ++ wX ad rw sd cI cY cJ cQ nx fx rs lo) H := hP
  have hDm : va_D (fun q : Nat => s.heap.size ≤ q) (wM md sd cI cY cJ cQ (upd ny 0 0) fy fl ++ wX ad rw sd cI cY cJ cQ nx fx rs lo) := wMX_D hD
  exact kk nx fx rs lo (upd ny 0 0) fy fl H locs ls ⟨Xhna, Xhnb, XH, XD, XV, XN, Xcna, Xcnb, XF, Xpna, Xpnb, XG, XO, XW, Xgna, Xgnb, XJ, Xlna, Xlnb, Xdla, Xdlb, Xana, Xanb, Xuna, Xunb, XU, Xlca, Xlcb, Xtna, Xtnb, XS, Mhna, Mhnb, MH, MS, Mmlna, Mmlnb, Mmtna, Mmtnb, Chn, Cho, Chc, Chp, Chs, Ccn, Cfo, Cwo, Cpn, Cpk, Cpf, Cpo, Cpd, Cpe, Cgn, Cgk, Cgs, Cgd, Cge, Can, Cak, Cah, Cay, Caz, Cun, Cuk, Cuy, Cuw, Cum, Clc, Clp, Cla, Clb, Caw, Ciw, Cln, Ctd, Cro, Cmtn, Cmtr, Cmst, Csh⟩ hPm.comm hDm.comm hS hl

set_option maxHeartbeats 4000000 in
set_option maxRecDepth 100000 in
theorem law_case_19 {p : Program} {l : Launch} {e : Env} {s : State} {m : MethodId} {below : List Frame} {meth : Method} {c : Code} {D : va_G} {cI cY cJ cQ : ClassId} {b L aK aV : Nat} {xs : Nat → Int32} {ad rw md : Nat → Nat} {sd i : Int32} {nx : Nat → Int32} {fx rs : Nat → Nat → Int32} {lo : Nat → Int64} {ny : Nat → Int32} {fy : Nat → Nat → Int32} {fl : Nat → Int64} {H : Heap} {locs : List Loc} {ls : Array Slot} (C0 : lawC p s m meth c b L xs D cI cY cJ cQ aK aV) (I : inv nx fx rs ny fy) (hP : va_P D vwCl (wX ad rw sd cI cY cJ cQ nx fx rs lo ++ wM md sd cI cY cJ cQ ny fy fl) H) (hD : va_D (fun q : Nat => s.heap.size ≤ q) (wX ad rw sd cI cY cJ cQ nx fx rs lo ++ wM md sd cI cY cJ cQ ny fy fl)) (hS : va_S (fun q : Nat => s.heap.size ≤ q) s.heap H locs) (hl : lv_has ls 4 [(0, .ref b), (1, .ref (ad 0)), (2, .ref (md 64)), (3, .int i)]) (hi1 : 1 ≤ i.toInt) (hi2 : i.toInt + 5 < L) (kk : ∀ (nx : Nat → Int32) (fx rs : Nat → Nat → Int32) (lo : Nat → Int64) (ny : Nat → Int32) (fy : Nat → Nat → Int32) (fl : Nat → Int64) (H : Heap) (locs : List Loc) (ls : Array Slot), inv nx fx rs ny fy → va_P D vwCl (wX ad rw sd cI cY cJ cQ nx fx rs lo ++ wM md sd cI cY cJ cQ ny fy fl) H → va_D (fun q : Nat => s.heap.size ≤ q) (wX ad rw sd cI cY cJ cQ nx fx rs lo ++ wM md sd cI cY cJ cQ ny fy fl) → va_S (fun q : Nat => s.heap.size ≤ q) s.heap H locs → lv_has ls 4 [(0, .ref b), (1, .ref (ad 0)), (2, .ref (md 64)), (3, .int i)] → W p l e room_1 s m #[Value.ref b] below meth c H locs 107 4890 (lw_Z below #[Value.ref b] s) (F0 m 1652 ls [])) : W p l e room_1 s m #[Value.ref b] below meth c H locs 107 4890 (lw_Z below #[Value.ref b] s) (F0 m 1005 ls []) := by
  obtain ⟨C1, hK, hN, hT, hL⟩ := C0
  obtain ⟨hx, hb, hr, hml, hown, hts0, hX, hbl, hlocks, hgv⟩ := C1
  have hA : ∀ q : Nat, s.heap.size ≤ q → (fun q : Nat => s.heap.size ≤ q) q := fun _ h => h
  have hbA : ¬ (fun q : Nat => s.heap.size ≤ q) b := Nat.not_le.mpr hbl
  have hts : ∀ w ∈ wsL_law, w.before #[Value.ref b] s = true := fun w h => hts0 w (wsL_law_in w h)
  replace hown : s.vm.findClass RL = some m.cls := hown
  replace hb : c.code = cL_law := hb
  have hak1 : vp_in (i + 1) L := law_in hi1 hi2 hL (by decide)
  obtain ⟨xk1, exk1⟩ : ∃ y : Int32, y = xs (i + 1).toNatClampNeg := ⟨_, rfl⟩
  have hak2 : vp_in (i + 2) L := law_in hi1 hi2 hL (by decide)
  obtain ⟨xk2, exk2⟩ : ∃ y : Int32, y = xs (i + 2).toNatClampNeg := ⟨_, rfl⟩
  have hak3 : vp_in (i + 3) L := law_in hi1 hi2 hL (by decide)
  obtain ⟨xk3, exk3⟩ : ∃ y : Int32, y = xs (i + 3).toNatClampNeg := ⟨_, rfl⟩
  have hak4 : vp_in (i + 4) L := law_in hi1 hi2 hL (by decide)
  obtain ⟨xk4, exk4⟩ : ∃ y : Int32, y = xs (i + 4).toNatClampNeg := ⟨_, rfl⟩
  refine inv_el I ?_
  intro Xhna Xhnb XH XD XV XN Xcna Xcnb XF Xpna Xpnb XG XO XW Xgna Xgnb XJ Xlna Xlnb Xdla Xdlb Xana Xanb Xuna Xunb XU Xlca Xlcb Xtna Xtnb XS Mhna Mhnb MH MS Mmlna Mmlnb Mmtna Mmtnb Chn Cho Chc Chp Chs Ccn Cfo Cwo Cpn Cpk Cpf Cpo Cpd Cpe Cgn Cgk Cgs Cgd Cge Can Cak Cah Cay Caz Cun Cuk Cuy Cuw Cum Clc Clp Cla Clb Caw Ciw Cln Ctd Cro Cmtn Cmtr Cmst Csh
  have Tcn := i_eq Ccn
  have Tpn := i_eq Cpn
  have Tgn := i_eq Cgn
  have Tan := i_eq Can
  have Tun := i_eq Cun
  have Tlc := i_eq Clc
  have Tln := i_eq Cln
  refine lv_aload_n hx hb dL_law_1005 rfl (lv_at hl 1 rfl) ?_
  refine law_arg (v := 1) hx hb hX hbl hbA hS (lv_at hl 0 rfl) (lv_at hl 3 rfl) (by decide) hak1 exk1 dL_law_1006 dL_law_1007 dL_law_1008 dL_law_1009 dL_law_1010 ?_
  refine law_arg (v := 2) hx hb hX hbl hbA hS (lv_at hl 0 rfl) (lv_at hl 3 rfl) (by decide) hak2 exk2 dL_law_1011 dL_law_1012 dL_law_1013 dL_law_1014 dL_law_1015 ?_
  refine law_arg (v := 3) hx hb hX hbl hbA hS (lv_at hl 0 rfl) (lv_at hl 3 rfl) (by decide) hak3 exk3 dL_law_1016 dL_law_1017 dL_law_1018 dL_law_1019 dL_law_1020 ?_
  refine law_arg (v := 4) hx hb hX hbl hbA hS (lv_at hl 0 rfl) (lv_at hl 3 rfl) (by decide) hak4 exk4 dL_law_1021 dL_law_1022 dL_law_1023 dL_law_1024 dL_law_1025 ?_
  refine st_iU (va_runV (C := RX10) (As := [.int xk1, .int xk2, .int xk3, .int xk4]) (rest := []) ⟨hx, hb, hml, hown, hts⟩ (ct_X10_act l D cI cY cJ cQ _ ad (nx 0) (nx 1) (nx 2) (nx 4) (nx 15) (fx 34) (fx 35) (fx 36) (fx 37) xk1 xk2 xk3 xk4 Xana Xanb) (cwV 4 hts gL_law_X10_act rfl rfl rfl ⟨rfl, cdX10_act⟩ ⟨Nat.le_of_ble_eq_true rfl, Nat.le_of_ble_eq_true rfl⟩) (cPreV (hP.sub [0, 23, 50, 51, 52, 53, 54] rfl) hK (hD.sub [0, 23, 50, 51, 52, 53, 54] (by decide +kernel) rfl) hN (ci := 10) (q0 := 0) rfl rfl) rfl rfl hl.1 rfl (lv_room (Nat.le_of_ble_eq_true rfl)) dL_law_1026 ⟨Nat.le_of_ble_eq_true rfl, Nat.le_of_ble_eq_true rfl⟩) hP hD hS hA [0, 23, 50, 51, 52, 53, 54] rfl (fun _ => rfl) (fun r3 u1 H locs hw2 => ?_)
  clear hP hS
  intro hP hS
  obtain ⟨an_4, ak_5, ah_6, ay_7, az_8⟩ := u1
  replace hw2 : (r3, (an_4, ak_5, ah_6, ay_7, az_8)) = sp_act (nx 15) (fx 34) (fx 35) (fx 36) (fx 37) (nx 4) xk1 xk2 xk3 xk4 := hw2
  obtain ⟨hw2a, hw2b⟩ := sp_act_ok hw2 (by omega) (by omega)
  refine lv_pop hx hb dL_law_1029 rfl ?_
  have hPx : va_P D vwCl (wX ad rw sd cI cY cJ cQ (upd nx 15 an_4) (upR (upR (upR (upR fx 34 ak_5) 35 ah_6) 36 ay_7) 37 az_8) rs lo ++ wM md sd cI cY cJ cQ ny fy fl) H := hP
  have hDx : va_D (fun q : Nat => s.heap.size ≤ q) (wX ad rw sd cI cY cJ cQ (upd nx 15 an_4) (upR (upR (upR (upR fx 34 ak_5) 35 ah_6) 36 ay_7) 37 az_8) rs lo ++ wM md sd cI cY cJ cQ ny fy fl) := wXM_D hD
  have hP := hPx.comm
  have hD := hDx.comm
  refine lv_aload_n hx hb dL_law_1030 rfl (lv_at hl 2 rfl) ?_
  refine law_arg (v := 1) hx hb hX hbl hbA hS (lv_at hl 0 rfl) (lv_at hl 3 rfl) (by decide) hak1 exk1 dL_law_1031 dL_law_1032 dL_law_1033 dL_law_1034 dL_law_1035 ?_
  refine law_arg (v := 2) hx hb hX hbl hbA hS (lv_at hl 0 rfl) (lv_at hl 3 rfl) (by decide) hak2 exk2 dL_law_1036 dL_law_1037 dL_law_1038 dL_law_1039 dL_law_1040 ?_
  refine law_arg (v := 3) hx hb hX hbl hbA hS (lv_at hl 0 rfl) (lv_at hl 3 rfl) (by decide) hak3 exk3 dL_law_1041 dL_law_1042 dL_law_1043 dL_law_1044 dL_law_1045 ?_
  refine law_arg (v := 4) hx hb hX hbl hbA hS (lv_at hl 0 rfl) (lv_at hl 3 rfl) (by decide) hak4 exk4 dL_law_1046 dL_law_1047 dL_law_1048 dL_law_1049 dL_law_1050 ?_
  refine st_iU (va_runV (C := RX11) (As := [.int xk1, .int xk2, .int xk3, .int xk4]) (rest := []) ⟨hx, hb, hml, hown, hts⟩ (ct_X11_act l D cI cY cJ cQ _ md sd (ny 0) (ny 1) (ny 2) (ny 3) (ny 4) (ny 5) (ny 6) (ny 7) (ny 8) (ny 9) (ny 10) (ny 11) (ny 12) (ny 13) (ny 14) (ny 15) (ny 16) (ny 17) (ny 18) (ny 19) (ny 20) (ny 21) (ny 22) (fy 24) (fy 25) (fy 26) (fy 27) xk1 xk2 xk3 xk4 (by omega) (by omega) (by omega) (by omega)) (cwV 4 hts gL_law_X11_act rfl rfl rfl ⟨rfl, cdX11_act⟩ ⟨Nat.le_of_ble_eq_true rfl, Nat.le_of_ble_eq_true rfl⟩) (cPreV (hP.sub [0, 26, 27, 28, 29] rfl) hK (hD.sub [0, 26, 27, 28, 29] (by decide +kernel) rfl) hN (ci := 11) (q0 := 0) rfl rfl) rfl rfl hl.1 rfl (lv_room (Nat.le_of_ble_eq_true rfl)) dL_law_1051 ⟨Nat.le_of_ble_eq_true rfl, Nat.le_of_ble_eq_true rfl⟩) hP hD hS hA [0, 26, 27, 28, 29] rfl (fun _ => rfl) (fun r11 u9 H locs hw10 => ?_)
  clear hP hS
  intro hP hS
  obtain ⟨an_12, ak_13, ah_14, ay_15, az_16⟩ := u9
  replace hw10 : (r11, (an_12, ak_13, ah_14, ay_15, az_16)) = sp_act (ny 18) (fy 24) (fy 25) (fy 26) (fy 27) (ny 3) xk1 xk2 xk3 xk4 := hw10
  rw [Can, Cak, Cah, Cay, Caz, Ccn] at hw10
  have e9 := hw2.trans hw10.symm
  simp only [Prod.mk.injEq] at e9
  obtain ⟨e90, e9an, e9ak, e9ah, e9ay, e9az⟩ := e9
  refine lv_pop hx hb dL_law_1054 rfl ?_
  refine lv_goto (tgt := 1652) hx hb dL_law_1055 (by decide) ?_
  have hPm : va_P D vwCl (wM md sd cI cY cJ cQ (upd (upd ny 0 0) 18 an_12) (upR (upR (upR (upR fy 24 ak_13) 25 ah_14) 26 ay_15) 27 az_16) fl ++ wX ad rw sd cI cY cJ cQ (upd nx 15 an_4) (upR (upR (upR (upR fx 34 ak_5) 35 ah_6) 36 ay_7) 37 az_8) rs lo) H := hP
  have hDm : va_D (fun q : Nat => s.heap.size ≤ q) (wM md sd cI cY cJ cQ (upd (upd ny 0 0) 18 an_12) (upR (upR (upR (upR fy 24 ak_13) 25 ah_14) 26 ay_15) 27 az_16) fl ++ wX ad rw sd cI cY cJ cQ (upd nx 15 an_4) (upR (upR (upR (upR fx 34 ak_5) 35 ah_6) 36 ay_7) 37 az_8) rs lo) := wMX_D hD
  exact kk (upd nx 15 an_4) (upR (upR (upR (upR fx 34 ak_5) 35 ah_6) 36 ay_7) 37 az_8) rs lo (upd (upd ny 0 0) 18 an_12) (upR (upR (upR (upR fy 24 ak_13) 25 ah_14) 26 ay_15) 27 az_16) fl H locs ls ⟨Xhna, Xhnb, XH, XD, XV, XN, Xcna, Xcnb, XF, Xpna, Xpnb, XG, XO, XW, Xgna, Xgnb, XJ, Xlna, Xlnb, Xdla, Xdlb, (by show 0 ≤ (an_4).toInt; omega), (by show (an_4).toInt ≤ 60; omega), Xuna, Xunb, XU, Xlca, Xlcb, Xtna, Xtnb, XS, Mhna, Mhnb, MH, MS, Mmlna, Mmlnb, Mmtna, Mmtnb, Chn, Cho, Chc, Chp, Chs, Ccn, Cfo, Cwo, Cpn, Cpk, Cpf, Cpo, Cpd, Cpe, Cgn, Cgk, Cgs, Cgd, Cge, (show (an_12) = (an_4) from e9an.symm), (show (ak_13) = (ak_5) from e9ak.symm), (show (ah_14) = (ah_6) from e9ah.symm), (show (ay_15) = (ay_7) from e9ay.symm), (show (az_16) = (az_8) from e9az.symm), Cun, Cuk, Cuy, Cuw, Cum, Clc, Clp, Cla, Clb, Caw, Ciw, Cln, Ctd, Cro, Cmtn, Cmtr, Cmst, Csh⟩ hPm.comm hDm.comm hS hl
end

section
theorem cdX10_duty : yX10_duty.cls ≠ "java/lang/invoke/MethodHandle" ∧ yX10_duty.cls ≠ "java/lang/invoke/VarHandle" ∧ (parseMethodDescriptor yX10_duty.desc).map (fun d => d.parameters.length) = some 2 := by decide +kernel
theorem cdX10_room : yX10_room.cls ≠ "java/lang/invoke/MethodHandle" ∧ yX10_room.cls ≠ "java/lang/invoke/VarHandle" ∧ (parseMethodDescriptor yX10_room.desc).map (fun d => d.parameters.length) = some 3 := by decide +kernel
theorem cdX10_move : yX10_move.cls ≠ "java/lang/invoke/MethodHandle" ∧ yX10_move.cls ≠ "java/lang/invoke/VarHandle" ∧ (parseMethodDescriptor yX10_move.desc).map (fun d => d.parameters.length) = some 2 := by decide +kernel
theorem cdX10_inside : yX10_inside.cls ≠ "java/lang/invoke/MethodHandle" ∧ yX10_inside.cls ≠ "java/lang/invoke/VarHandle" ∧ (parseMethodDescriptor yX10_inside.desc).map (fun d => d.parameters.length) = some 2 := by decide +kernel
theorem cdX11_duty : yX11_duty.cls ≠ "java/lang/invoke/MethodHandle" ∧ yX11_duty.cls ≠ "java/lang/invoke/VarHandle" ∧ (parseMethodDescriptor yX11_duty.desc).map (fun d => d.parameters.length) = some 2 := by decide +kernel
theorem cdX11_room : yX11_room.cls ≠ "java/lang/invoke/MethodHandle" ∧ yX11_room.cls ≠ "java/lang/invoke/VarHandle" ∧ (parseMethodDescriptor yX11_room.desc).map (fun d => d.parameters.length) = some 3 := by decide +kernel
theorem cdX11_move : yX11_move.cls ≠ "java/lang/invoke/MethodHandle" ∧ yX11_move.cls ≠ "java/lang/invoke/VarHandle" ∧ (parseMethodDescriptor yX11_move.desc).map (fun d => d.parameters.length) = some 2 := by decide +kernel
theorem cdX11_inside : yX11_inside.cls ≠ "java/lang/invoke/MethodHandle" ∧ yX11_inside.cls ≠ "java/lang/invoke/VarHandle" ∧ (parseMethodDescriptor yX11_inside.desc).map (fun d => d.parameters.length) = some 2 := by decide +kernel
theorem Gd_X10_duty : gdA wsX10_duty := gd_cons (by decide +kernel) (gd_app (gd_all (ws := wsX10_duty_o1) (by decide +kernel)) (gd_app (gd_app (gd_app Gd_X100 Gd_X00) (gd_app Gd_X10 Gd_X20)) (gd_app (gd_app Gd_X10_isCrate Gd_X10_isBelow) (gd_app Gd_X0_firstWaking Gd_X2_lineFor))))
theorem Gd_X10_room : gdA wsX10_room := gd_cons (by decide +kernel) (gd_app (gd_all (ws := wsX10_room_o1) (by decide +kernel)) (gd_app (gd_app Gd_X100 Gd_X10) (gd_app Gd_X10_isBelow Gd_X10_isFrom)))
theorem Gd_X10_move : gdA wsX10_move := gd_cons (by decide +kernel) (gd_app (gd_all (ws := wsX10_move_o1) (by decide +kernel)) (gd_app (gd_app (gd_app Gd_X100 Gd_X10) Gd_X10_isCrate) (gd_app Gd_X10_isBelow Gd_X1_fits)))
theorem Gd_X10_inside : gdA wsX10_inside := gd_cons (by decide +kernel) (gd_app (gd_all (ws := wsX10_inside_o1) (by decide +kernel)) (gd_app (gd_app (gd_app Gd_X100 Gd_X10) Gd_X10_isBelow) (gd_app (gd_app Gd_X1_setIn Gd_J6_bitCount_0f7a4) Gd_X1_worthsOf)))
theorem Gd_X11_duty : gdA wsX11_duty := gd_cons (by decide +kernel) (gd_app (gd_all (ws := wsX11_duty_o1) (by decide +kernel)) (gd_app (gd_app Gd_X110 Gd_X11_isCrate) (gd_app Gd_X11_in Gd_X11_wakes)))
theorem Gd_X11_room : gdA wsX11_room := gd_cons (by decide +kernel) (gd_app (gd_all (ws := wsX11_room_o1) (by decide +kernel)) (gd_app (gd_app Gd_X110 Gd_X11_isRoom) Gd_X11_in))
theorem Gd_X11_move : gdA wsX11_move := gd_cons (by decide +kernel) (gd_app (gd_all (ws := wsX11_move_o1) (by decide +kernel)) (gd_app (gd_app Gd_X110 Gd_X11_isCrate) (gd_app Gd_X11_isRoom Gd_X11_insideOf)))
theorem Gd_X11_inside : gdA wsX11_inside := gd_cons (by decide +kernel) (gd_app (gd_all (ws := wsX11_inside_o1) (by decide +kernel)) (gd_app (gd_app Gd_X110 Gd_X11_isRoom) (gd_app Gd_X11_in Gd_X11_insideOf)))
theorem ggL_law_X10_duty : GoodIn wsL_law wsX10_duty := goodIn_s (fun _ h => (wm_r (wm_r (wm_l (wm_l (wm_r (wm_r (wm_l (wm_l h))))))))) Gd_X10_duty
theorem gL_law_X10_duty : GoodIn wsL_law (wsV RL 110 RX10 yX10_duty wsX10_duty) := goodIn_V (own := RL) (idx := 110) (C := RX10) (y := yX10_duty) (wm_l (wm_l (wm_r (wm_r (wm_i 13 rfl))))) (wm_l (wm_l (wm_r (wm_r (wm_i 14 rfl))))) (wm_l (wm_l (wm_r (wm_r (wm_i 15 rfl))))) (wm_l (wm_l (wm_l (wm_l (wm_l (wm_i 2 rfl)))))) ggL_law_X10_duty
theorem ggL_law_X11_duty : GoodIn wsL_law wsX11_duty := goodIn_s (fun _ h => (wm_r (wm_r (wm_l (wm_l (wm_r (wm_r (wm_l (wm_r h))))))))) Gd_X11_duty
theorem gL_law_X11_duty : GoodIn wsL_law (wsV RL 113 RX11 yX11_duty wsX11_duty) := goodIn_V (own := RL) (idx := 113) (C := RX11) (y := yX11_duty) (wm_l (wm_l (wm_r (wm_r (wm_i 16 rfl))))) (wm_l (wm_l (wm_r (wm_r (wm_i 17 rfl))))) (wm_l (wm_l (wm_r (wm_r (wm_i 18 rfl))))) (wm_l (wm_l (wm_l (wm_l (wm_l (wm_i 5 rfl)))))) ggL_law_X11_duty
theorem ggL_law_X10_room : GoodIn wsL_law wsX10_room := goodIn_s (fun _ h => (wm_r (wm_r (wm_l (wm_l (wm_r (wm_r (wm_r h)))))))) Gd_X10_room
theorem gL_law_X10_room : GoodIn wsL_law (wsV RL 114 RX10 yX10_room wsX10_room) := goodIn_V (own := RL) (idx := 114) (C := RX10) (y := yX10_room) (wm_l (wm_l (wm_r (wm_r (wm_i 19 rfl))))) (wm_l (wm_l (wm_r (wm_r (wm_i 20 rfl))))) (wm_l (wm_l (wm_r (wm_r (wm_i 21 rfl))))) (wm_l (wm_l (wm_l (wm_l (wm_l (wm_i 2 rfl)))))) ggL_law_X10_room
theorem ggL_law_X11_room : GoodIn wsL_law wsX11_room := goodIn_s (fun _ h => (wm_r (wm_r (wm_l (wm_r (wm_l (wm_l (wm_l (wm_l h))))))))) Gd_X11_room
theorem gL_law_X11_room : GoodIn wsL_law (wsV RL 117 RX11 yX11_room wsX11_room) := goodIn_V (own := RL) (idx := 117) (C := RX11) (y := yX11_room) (wm_l (wm_l (wm_r (wm_r (wm_i 22 rfl))))) (wm_l (wm_l (wm_r (wm_r (wm_i 23 rfl))))) (wm_l (wm_r (wm_l (wm_l (wm_l (wm_i 0 rfl)))))) (wm_l (wm_l (wm_l (wm_l (wm_l (wm_i 5 rfl)))))) ggL_law_X11_room
theorem ggL_law_X10_move : GoodIn wsL_law wsX10_move := goodIn_s (fun _ h => (wm_r (wm_r (wm_l (wm_r (wm_l (wm_l (wm_l (wm_r h))))))))) Gd_X10_move
theorem gL_law_X10_move : GoodIn wsL_law (wsV RL 118 RX10 yX10_move wsX10_move) := goodIn_V (own := RL) (idx := 118) (C := RX10) (y := yX10_move) (wm_l (wm_r (wm_l (wm_l (wm_l (wm_i 1 rfl)))))) (wm_l (wm_r (wm_l (wm_l (wm_l (wm_i 2 rfl)))))) (wm_l (wm_r (wm_l (wm_l (wm_l (wm_i 3 rfl)))))) (wm_l (wm_l (wm_l (wm_l (wm_l (wm_i 2 rfl)))))) ggL_law_X10_move
theorem ggL_law_X11_move : GoodIn wsL_law wsX11_move := goodIn_s (fun _ h => (wm_r (wm_r (wm_l (wm_r (wm_l (wm_l (wm_r h)))))))) Gd_X11_move
theorem gL_law_X11_move : GoodIn wsL_law (wsV RL 121 RX11 yX11_move wsX11_move) := goodIn_V (own := RL) (idx := 121) (C := RX11) (y := yX11_move) (wm_l (wm_r (wm_l (wm_l (wm_l (wm_i 4 rfl)))))) (wm_l (wm_r (wm_l (wm_l (wm_l (wm_i 5 rfl)))))) (wm_l (wm_r (wm_l (wm_l (wm_l (wm_i 6 rfl)))))) (wm_l (wm_l (wm_l (wm_l (wm_l (wm_i 5 rfl)))))) ggL_law_X11_move
theorem ggL_law_X10_inside : GoodIn wsL_law wsX10_inside := goodIn_s (fun _ h => (wm_r (wm_r (wm_l (wm_r (wm_l (wm_r (wm_l (wm_l h))))))))) Gd_X10_inside
theorem gL_law_X10_inside : GoodIn wsL_law (wsV RL 122 RX10 yX10_inside wsX10_inside) := goodIn_V (own := RL) (idx := 122) (C := RX10) (y := yX10_inside) (wm_l (wm_r (wm_l (wm_l (wm_l (wm_i 7 rfl)))))) (wm_l (wm_r (wm_l (wm_l (wm_l (wm_i 8 rfl)))))) (wm_l (wm_r (wm_l (wm_l (wm_l (wm_i 9 rfl)))))) (wm_l (wm_l (wm_l (wm_l (wm_l (wm_i 2 rfl)))))) ggL_law_X10_inside
theorem ggL_law_X11_inside : GoodIn wsL_law wsX11_inside := goodIn_s (fun _ h => (wm_r (wm_r (wm_l (wm_r (wm_l (wm_r (wm_l (wm_r h))))))))) Gd_X11_inside
theorem gL_law_X11_inside : GoodIn wsL_law (wsV RL 125 RX11 yX11_inside wsX11_inside) := goodIn_V (own := RL) (idx := 125) (C := RX11) (y := yX11_inside) (wm_l (wm_r (wm_l (wm_l (wm_l (wm_i 10 rfl)))))) (wm_l (wm_r (wm_l (wm_l (wm_l (wm_i 11 rfl)))))) (wm_l (wm_r (wm_l (wm_l (wm_l (wm_i 12 rfl)))))) (wm_l (wm_l (wm_l (wm_l (wm_l (wm_i 5 rfl)))))) ggL_law_X11_inside
theorem sB_45 : dqA cL_law 1080 sL_45 := dq_next sB_44 24 rfl
theorem sB_46 : dqA cL_law 1104 sL_46 := dq_next sB_45 24 rfl
theorem sB_47 : dqA cL_law 1128 sL_47 := dq_next sB_46 24 rfl
theorem sB_48 : dqA cL_law 1152 sL_48 := dq_next sB_47 24 rfl
theorem sB_49 : dqA cL_law 1176 sL_49 := dq_next sB_48 24 rfl
theorem sB_50 : dqA cL_law 1200 sL_50 := dq_next sB_49 24 rfl
theorem dL_law_1058 : decode cL_law 1058 = .ok (.aload_n 1, 1) := dL_law_all62.2.2.2.2.2.2.2.2.1
theorem dL_law_1059 : decode cL_law 1059 = .ok (.aload_n 0, 1) := dL_law_all62.2.2.2.2.2.2.2.2.2.1
theorem dL_law_1060 : decode cL_law 1060 = .ok (.iload_n 3, 1) := dL_law_all62.2.2.2.2.2.2.2.2.2.2.1
theorem dL_law_1061 : decode cL_law 1061 = .ok (.iconst 1, 1) := dL_law_all62.2.2.2.2.2.2.2.2.2.2.2
theorem dL_law_all63 : decode cL_law 1062 = .ok (.iadd, 1) ∧ decode cL_law 1063 = .ok (.iaload, 1) ∧ decode cL_law 1064 = .ok (.aload_n 0, 1) ∧ decode cL_law 1065 = .ok (.iload_n 3, 1) ∧ decode cL_law 1066 = .ok (.iconst 2, 1) ∧ decode cL_law 1067 = .ok (.iadd, 1) ∧ decode cL_law 1068 = .ok (.iaload, 1) ∧ decode cL_law 1069 = .ok (.invokevirtual 110, 3) ∧ decode cL_law 1072 = .ok (.pop, 1) ∧ decode cL_law 1073 = .ok (.aload_n 2, 1) ∧ decode cL_law 1074 = .ok (.aload_n 0, 1) ∧ decode cL_law 1075 = .ok (.iload_n 3, 1) := ⟨dq_96 sB_44 6 rfl, dq_46 sB_44 7 rfl, dq_42 sB_44 8 rfl, dq_29 sB_44 9 rfl, dq_5 sB_44 10 rfl, dq_96 sB_44 11 rfl, dq_46 sB_44 12 rfl, dq_182 sB_44 13 rfl 110 (by decide), dq_87 sB_44 16 rfl, dq_44 sB_44 17 rfl, dq_42 sB_44 18 rfl, dq_29 sB_44 19 rfl⟩
theorem dL_law_1062 : decode cL_law 1062 = .ok (.iadd, 1) := dL_law_all63.1
theorem dL_law_1063 : decode cL_law 1063 = .ok (.iaload, 1) := dL_law_all63.2.1
theorem dL_law_1064 : decode cL_law 1064 = .ok (.aload_n 0, 1) := dL_law_all63.2.2.1
theorem dL_law_1065 : decode cL_law 1065 = .ok (.iload_n 3, 1) := dL_law_all63.2.2.2.1
theorem dL_law_1066 : decode cL_law 1066 = .ok (.iconst 2, 1) := dL_law_all63.2.2.2.2.1
theorem dL_law_1067 : decode cL_law 1067 = .ok (.iadd, 1) := dL_law_all63.2.2.2.2.2.1
theorem dL_law_1068 : decode cL_law 1068 = .ok (.iaload, 1) := dL_law_all63.2.2.2.2.2.2.1
theorem dL_law_1069 : decode cL_law 1069 = .ok (.invokevirtual 110, 3) := dL_law_all63.2.2.2.2.2.2.2.1
theorem dL_law_1072 : decode cL_law 1072 = .ok (.pop, 1) := dL_law_all63.2.2.2.2.2.2.2.2.1
theorem dL_law_1073 : decode cL_law 1073 = .ok (.aload_n 2, 1) := dL_law_all63.2.2.2.2.2.2.2.2.2.1
theorem dL_law_1074 : decode cL_law 1074 = .ok (.aload_n 0, 1) := dL_law_all63.2.2.2.2.2.2.2.2.2.2.1
theorem dL_law_1075 : decode cL_law 1075 = .ok (.iload_n 3, 1) := dL_law_all63.2.2.2.2.2.2.2.2.2.2.2
theorem dL_law_all64 : decode cL_law 1076 = .ok (.iconst 1, 1) ∧ decode cL_law 1077 = .ok (.iadd, 1) ∧ decode cL_law 1078 = .ok (.iaload, 1) ∧ decode cL_law 1079 = .ok (.aload_n 0, 1) ∧ decode cL_law 1080 = .ok (.iload_n 3, 1) ∧ decode cL_law 1081 = .ok (.iconst 2, 1) ∧ decode cL_law 1082 = .ok (.iadd, 1) ∧ decode cL_law 1083 = .ok (.iaload, 1) ∧ decode cL_law 1084 = .ok (.invokevirtual 113, 3) ∧ decode cL_law 1087 = .ok (.pop, 1) ∧ decode cL_law 1088 = .ok (.goto 564, 3) ∧ decode cL_law 1091 = .ok (.aload_n 1, 1) := ⟨dq_4 sB_44 20 rfl, dq_96 sB_44 21 rfl, dq_46 sB_44 22 rfl, dq_42 sB_44 23 rfl, dq_29 sB_45 0 rfl, dq_5 sB_45 1 rfl, dq_96 sB_45 2 rfl, dq_46 sB_45 3 rfl, dq_182 sB_45 4 rfl 113 (by decide), dq_87 sB_45 7 rfl, dq_167 sB_45 8 rfl 564 (by decide), dq_43 sB_45 11 rfl⟩
theorem dL_law_1076 : decode cL_law 1076 = .ok (.iconst 1, 1) := dL_law_all64.1
theorem dL_law_1077 : decode cL_law 1077 = .ok (.iadd, 1) := dL_law_all64.2.1
theorem dL_law_1078 : decode cL_law 1078 = .ok (.iaload, 1) := dL_law_all64.2.2.1
theorem dL_law_1079 : decode cL_law 1079 = .ok (.aload_n 0, 1) := dL_law_all64.2.2.2.1
theorem dL_law_1080 : decode cL_law 1080 = .ok (.iload_n 3, 1) := dL_law_all64.2.2.2.2.1
theorem dL_law_1081 : decode cL_law 1081 = .ok (.iconst 2, 1) := dL_law_all64.2.2.2.2.2.1
theorem dL_law_1082 : decode cL_law 1082 = .ok (.iadd, 1) := dL_law_all64.2.2.2.2.2.2.1
theorem dL_law_1083 : decode cL_law 1083 = .ok (.iaload, 1) := dL_law_all64.2.2.2.2.2.2.2.1
theorem dL_law_1084 : decode cL_law 1084 = .ok (.invokevirtual 113, 3) := dL_law_all64.2.2.2.2.2.2.2.2.1
theorem dL_law_1087 : decode cL_law 1087 = .ok (.pop, 1) := dL_law_all64.2.2.2.2.2.2.2.2.2.1
theorem dL_law_1088 : decode cL_law 1088 = .ok (.goto 564, 3) := dL_law_all64.2.2.2.2.2.2.2.2.2.2.1
theorem dL_law_1091 : decode cL_law 1091 = .ok (.aload_n 1, 1) := dL_law_all64.2.2.2.2.2.2.2.2.2.2.2
theorem dL_law_all65 : decode cL_law 1092 = .ok (.aload_n 0, 1) ∧ decode cL_law 1093 = .ok (.iload_n 3, 1) ∧ decode cL_law 1094 = .ok (.iconst 1, 1) ∧ decode cL_law 1095 = .ok (.iadd, 1) ∧ decode cL_law 1096 = .ok (.iaload, 1) ∧ decode cL_law 1097 = .ok (.aload_n 0, 1) ∧ decode cL_law 1098 = .ok (.iload_n 3, 1) ∧ decode cL_law 1099 = .ok (.iconst 2, 1) ∧ decode cL_law 1100 = .ok (.iadd, 1) ∧ decode cL_law 1101 = .ok (.iaload, 1) ∧ decode cL_law 1102 = .ok (.aload_n 0, 1) ∧ decode cL_law 1103 = .ok (.iload_n 3, 1) := ⟨dq_42 sB_45 12 rfl, dq_29 sB_45 13 rfl, dq_4 sB_45 14 rfl, dq_96 sB_45 15 rfl, dq_46 sB_45 16 rfl, dq_42 sB_45 17 rfl, dq_29 sB_45 18 rfl, dq_5 sB_45 19 rfl, dq_96 sB_45 20 rfl, dq_46 sB_45 21 rfl, dq_42 sB_45 22 rfl, dq_29 sB_45 23 rfl⟩
theorem dL_law_1092 : decode cL_law 1092 = .ok (.aload_n 0, 1) := dL_law_all65.1
theorem dL_law_1093 : decode cL_law 1093 = .ok (.iload_n 3, 1) := dL_law_all65.2.1
theorem dL_law_1094 : decode cL_law 1094 = .ok (.iconst 1, 1) := dL_law_all65.2.2.1
theorem dL_law_1095 : decode cL_law 1095 = .ok (.iadd, 1) := dL_law_all65.2.2.2.1
theorem dL_law_1096 : decode cL_law 1096 = .ok (.iaload, 1) := dL_law_all65.2.2.2.2.1
theorem dL_law_1097 : decode cL_law 1097 = .ok (.aload_n 0, 1) := dL_law_all65.2.2.2.2.2.1
theorem dL_law_1098 : decode cL_law 1098 = .ok (.iload_n 3, 1) := dL_law_all65.2.2.2.2.2.2.1
theorem dL_law_1099 : decode cL_law 1099 = .ok (.iconst 2, 1) := dL_law_all65.2.2.2.2.2.2.2.1
theorem dL_law_1100 : decode cL_law 1100 = .ok (.iadd, 1) := dL_law_all65.2.2.2.2.2.2.2.2.1
theorem dL_law_1101 : decode cL_law 1101 = .ok (.iaload, 1) := dL_law_all65.2.2.2.2.2.2.2.2.2.1
theorem dL_law_1102 : decode cL_law 1102 = .ok (.aload_n 0, 1) := dL_law_all65.2.2.2.2.2.2.2.2.2.2.1
theorem dL_law_1103 : decode cL_law 1103 = .ok (.iload_n 3, 1) := dL_law_all65.2.2.2.2.2.2.2.2.2.2.2
theorem dL_law_all66 : decode cL_law 1104 = .ok (.iconst 3, 1) ∧ decode cL_law 1105 = .ok (.iadd, 1) ∧ decode cL_law 1106 = .ok (.iaload, 1) ∧ decode cL_law 1107 = .ok (.invokevirtual 114, 3) ∧ decode cL_law 1110 = .ok (.pop, 1) ∧ decode cL_law 1111 = .ok (.aload_n 2, 1) ∧ decode cL_law 1112 = .ok (.aload_n 0, 1) ∧ decode cL_law 1113 = .ok (.iload_n 3, 1) ∧ decode cL_law 1114 = .ok (.iconst 1, 1) ∧ decode cL_law 1115 = .ok (.iadd, 1) ∧ decode cL_law 1116 = .ok (.iaload, 1) ∧ decode cL_law 1117 = .ok (.aload_n 0, 1) := ⟨dq_6 sB_46 0 rfl, dq_96 sB_46 1 rfl, dq_46 sB_46 2 rfl, dq_182 sB_46 3 rfl 114 (by decide), dq_87 sB_46 6 rfl, dq_44 sB_46 7 rfl, dq_42 sB_46 8 rfl, dq_29 sB_46 9 rfl, dq_4 sB_46 10 rfl, dq_96 sB_46 11 rfl, dq_46 sB_46 12 rfl, dq_42 sB_46 13 rfl⟩
theorem dL_law_1104 : decode cL_law 1104 = .ok (.iconst 3, 1) := dL_law_all66.1
theorem dL_law_1105 : decode cL_law 1105 = .ok (.iadd, 1) := dL_law_all66.2.1
theorem dL_law_1106 : decode cL_law 1106 = .ok (.iaload, 1) := dL_law_all66.2.2.1
theorem dL_law_1107 : decode cL_law 1107 = .ok (.invokevirtual 114, 3) := dL_law_all66.2.2.2.1
theorem dL_law_1110 : decode cL_law 1110 = .ok (.pop, 1) := dL_law_all66.2.2.2.2.1
theorem dL_law_1111 : decode cL_law 1111 = .ok (.aload_n 2, 1) := dL_law_all66.2.2.2.2.2.1
theorem dL_law_1112 : decode cL_law 1112 = .ok (.aload_n 0, 1) := dL_law_all66.2.2.2.2.2.2.1
theorem dL_law_1113 : decode cL_law 1113 = .ok (.iload_n 3, 1) := dL_law_all66.2.2.2.2.2.2.2.1
theorem dL_law_1114 : decode cL_law 1114 = .ok (.iconst 1, 1) := dL_law_all66.2.2.2.2.2.2.2.2.1
theorem dL_law_1115 : decode cL_law 1115 = .ok (.iadd, 1) := dL_law_all66.2.2.2.2.2.2.2.2.2.1
theorem dL_law_1116 : decode cL_law 1116 = .ok (.iaload, 1) := dL_law_all66.2.2.2.2.2.2.2.2.2.2.1
theorem dL_law_1117 : decode cL_law 1117 = .ok (.aload_n 0, 1) := dL_law_all66.2.2.2.2.2.2.2.2.2.2.2
theorem dL_law_all67 : decode cL_law 1118 = .ok (.iload_n 3, 1) ∧ decode cL_law 1119 = .ok (.iconst 2, 1) ∧ decode cL_law 1120 = .ok (.iadd, 1) ∧ decode cL_law 1121 = .ok (.iaload, 1) ∧ decode cL_law 1122 = .ok (.aload_n 0, 1) ∧ decode cL_law 1123 = .ok (.iload_n 3, 1) ∧ decode cL_law 1124 = .ok (.iconst 3, 1) ∧ decode cL_law 1125 = .ok (.iadd, 1) ∧ decode cL_law 1126 = .ok (.iaload, 1) ∧ decode cL_law 1127 = .ok (.invokevirtual 117, 3) ∧ decode cL_law 1130 = .ok (.pop, 1) ∧ decode cL_law 1131 = .ok (.goto 521, 3) := ⟨dq_29 sB_46 14 rfl, dq_5 sB_46 15 rfl, dq_96 sB_46 16 rfl, dq_46 sB_46 17 rfl, dq_42 sB_46 18 rfl, dq_29 sB_46 19 rfl, dq_6 sB_46 20 rfl, dq_96 sB_46 21 rfl, dq_46 sB_46 22 rfl, dq_182 sB_46 23 rfl 117 (by decide), dq_87 sB_47 2 rfl, dq_167 sB_47 3 rfl 521 (by decide)⟩
theorem dL_law_1118 : decode cL_law 1118 = .ok (.iload_n 3, 1) := dL_law_all67.1
theorem dL_law_1119 : decode cL_law 1119 = .ok (.iconst 2, 1) := dL_law_all67.2.1
theorem dL_law_1120 : decode cL_law 1120 = .ok (.iadd, 1) := dL_law_all67.2.2.1
theorem dL_law_1121 : decode cL_law 1121 = .ok (.iaload, 1) := dL_law_all67.2.2.2.1
theorem dL_law_1122 : decode cL_law 1122 = .ok (.aload_n 0, 1) := dL_law_all67.2.2.2.2.1
theorem dL_law_1123 : decode cL_law 1123 = .ok (.iload_n 3, 1) := dL_law_all67.2.2.2.2.2.1
theorem dL_law_1124 : decode cL_law 1124 = .ok (.iconst 3, 1) := dL_law_all67.2.2.2.2.2.2.1
theorem dL_law_1125 : decode cL_law 1125 = .ok (.iadd, 1) := dL_law_all67.2.2.2.2.2.2.2.1
theorem dL_law_1126 : decode cL_law 1126 = .ok (.iaload, 1) := dL_law_all67.2.2.2.2.2.2.2.2.1
theorem dL_law_1127 : decode cL_law 1127 = .ok (.invokevirtual 117, 3) := dL_law_all67.2.2.2.2.2.2.2.2.2.1
theorem dL_law_1130 : decode cL_law 1130 = .ok (.pop, 1) := dL_law_all67.2.2.2.2.2.2.2.2.2.2.1
theorem dL_law_1131 : decode cL_law 1131 = .ok (.goto 521, 3) := dL_law_all67.2.2.2.2.2.2.2.2.2.2.2
theorem dL_law_all68 : decode cL_law 1134 = .ok (.aload_n 1, 1) ∧ decode cL_law 1135 = .ok (.aload_n 0, 1) ∧ decode cL_law 1136 = .ok (.iload_n 3, 1) ∧ decode cL_law 1137 = .ok (.iconst 1, 1) ∧ decode cL_law 1138 = .ok (.iadd, 1) ∧ decode cL_law 1139 = .ok (.iaload, 1) ∧ decode cL_law 1140 = .ok (.aload_n 0, 1) ∧ decode cL_law 1141 = .ok (.iload_n 3, 1) ∧ decode cL_law 1142 = .ok (.iconst 2, 1) ∧ decode cL_law 1143 = .ok (.iadd, 1) ∧ decode cL_law 1144 = .ok (.iaload, 1) ∧ decode cL_law 1145 = .ok (.invokevirtual 118, 3) := ⟨dq_43 sB_47 6 rfl, dq_42 sB_47 7 rfl, dq_29 sB_47 8 rfl, dq_4 sB_47 9 rfl, dq_96 sB_47 10 rfl, dq_46 sB_47 11 rfl, dq_42 sB_47 12 rfl, dq_29 sB_47 13 rfl, dq_5 sB_47 14 rfl, dq_96 sB_47 15 rfl, dq_46 sB_47 16 rfl, dq_182 sB_47 17 rfl 118 (by decide)⟩
theorem dL_law_1134 : decode cL_law 1134 = .ok (.aload_n 1, 1) := dL_law_all68.1
theorem dL_law_1135 : decode cL_law 1135 = .ok (.aload_n 0, 1) := dL_law_all68.2.1
theorem dL_law_1136 : decode cL_law 1136 = .ok (.iload_n 3, 1) := dL_law_all68.2.2.1
theorem dL_law_1137 : decode cL_law 1137 = .ok (.iconst 1, 1) := dL_law_all68.2.2.2.1
theorem dL_law_1138 : decode cL_law 1138 = .ok (.iadd, 1) := dL_law_all68.2.2.2.2.1
theorem dL_law_1139 : decode cL_law 1139 = .ok (.iaload, 1) := dL_law_all68.2.2.2.2.2.1
theorem dL_law_1140 : decode cL_law 1140 = .ok (.aload_n 0, 1) := dL_law_all68.2.2.2.2.2.2.1
theorem dL_law_1141 : decode cL_law 1141 = .ok (.iload_n 3, 1) := dL_law_all68.2.2.2.2.2.2.2.1
theorem dL_law_1142 : decode cL_law 1142 = .ok (.iconst 2, 1) := dL_law_all68.2.2.2.2.2.2.2.2.1
theorem dL_law_1143 : decode cL_law 1143 = .ok (.iadd, 1) := dL_law_all68.2.2.2.2.2.2.2.2.2.1
theorem dL_law_1144 : decode cL_law 1144 = .ok (.iaload, 1) := dL_law_all68.2.2.2.2.2.2.2.2.2.2.1
theorem dL_law_1145 : decode cL_law 1145 = .ok (.invokevirtual 118, 3) := dL_law_all68.2.2.2.2.2.2.2.2.2.2.2
theorem dL_law_all69 : decode cL_law 1148 = .ok (.pop, 1) ∧ decode cL_law 1149 = .ok (.aload_n 2, 1) ∧ decode cL_law 1150 = .ok (.aload_n 0, 1) ∧ decode cL_law 1151 = .ok (.iload_n 3, 1) ∧ decode cL_law 1152 = .ok (.iconst 1, 1) ∧ decode cL_law 1153 = .ok (.iadd, 1) ∧ decode cL_law 1154 = .ok (.iaload, 1) ∧ decode cL_law 1155 = .ok (.aload_n 0, 1) ∧ decode cL_law 1156 = .ok (.iload_n 3, 1) ∧ decode cL_law 1157 = .ok (.iconst 2, 1) ∧ decode cL_law 1158 = .ok (.iadd, 1) ∧ decode cL_law 1159 = .ok (.iaload, 1) := ⟨dq_87 sB_47 20 rfl, dq_44 sB_47 21 rfl, dq_42 sB_47 22 rfl, dq_29 sB_47 23 rfl, dq_4 sB_48 0 rfl, dq_96 sB_48 1 rfl, dq_46 sB_48 2 rfl, dq_42 sB_48 3 rfl, dq_29 sB_48 4 rfl, dq_5 sB_48 5 rfl, dq_96 sB_48 6 rfl, dq_46 sB_48 7 rfl⟩
theorem dL_law_1148 : decode cL_law 1148 = .ok (.pop, 1) := dL_law_all69.1
theorem dL_law_1149 : decode cL_law 1149 = .ok (.aload_n 2, 1) := dL_law_all69.2.1
theorem dL_law_1150 : decode cL_law 1150 = .ok (.aload_n 0, 1) := dL_law_all69.2.2.1
theorem dL_law_1151 : decode cL_law 1151 = .ok (.iload_n 3, 1) := dL_law_all69.2.2.2.1
theorem dL_law_1152 : decode cL_law 1152 = .ok (.iconst 1, 1) := dL_law_all69.2.2.2.2.1
theorem dL_law_1153 : decode cL_law 1153 = .ok (.iadd, 1) := dL_law_all69.2.2.2.2.2.1
theorem dL_law_1154 : decode cL_law 1154 = .ok (.iaload, 1) := dL_law_all69.2.2.2.2.2.2.1
theorem dL_law_1155 : decode cL_law 1155 = .ok (.aload_n 0, 1) := dL_law_all69.2.2.2.2.2.2.2.1
theorem dL_law_1156 : decode cL_law 1156 = .ok (.iload_n 3, 1) := dL_law_all69.2.2.2.2.2.2.2.2.1
theorem dL_law_1157 : decode cL_law 1157 = .ok (.iconst 2, 1) := dL_law_all69.2.2.2.2.2.2.2.2.2.1
theorem dL_law_1158 : decode cL_law 1158 = .ok (.iadd, 1) := dL_law_all69.2.2.2.2.2.2.2.2.2.2.1
theorem dL_law_1159 : decode cL_law 1159 = .ok (.iaload, 1) := dL_law_all69.2.2.2.2.2.2.2.2.2.2.2
theorem dL_law_all70 : decode cL_law 1160 = .ok (.invokevirtual 121, 3) ∧ decode cL_law 1163 = .ok (.pop, 1) ∧ decode cL_law 1164 = .ok (.goto 488, 3) ∧ decode cL_law 1167 = .ok (.aload_n 1, 1) ∧ decode cL_law 1168 = .ok (.aload_n 0, 1) ∧ decode cL_law 1169 = .ok (.iload_n 3, 1) ∧ decode cL_law 1170 = .ok (.iconst 1, 1) ∧ decode cL_law 1171 = .ok (.iadd, 1) ∧ decode cL_law 1172 = .ok (.iaload, 1) ∧ decode cL_law 1173 = .ok (.aload_n 0, 1) ∧ decode cL_law 1174 = .ok (.iload_n 3, 1) ∧ decode cL_law 1175 = .ok (.iconst 2, 1) := ⟨dq_182 sB_48 8 rfl 121 (by decide), dq_87 sB_48 11 rfl, dq_167 sB_48 12 rfl 488 (by decide), dq_43 sB_48 15 rfl, dq_42 sB_48 16 rfl, dq_29 sB_48 17 rfl, dq_4 sB_48 18 rfl, dq_96 sB_48 19 rfl, dq_46 sB_48 20 rfl, dq_42 sB_48 21 rfl, dq_29 sB_48 22 rfl, dq_5 sB_48 23 rfl⟩
theorem dL_law_1160 : decode cL_law 1160 = .ok (.invokevirtual 121, 3) := dL_law_all70.1
theorem dL_law_1163 : decode cL_law 1163 = .ok (.pop, 1) := dL_law_all70.2.1
theorem dL_law_1164 : decode cL_law 1164 = .ok (.goto 488, 3) := dL_law_all70.2.2.1
theorem dL_law_1167 : decode cL_law 1167 = .ok (.aload_n 1, 1) := dL_law_all70.2.2.2.1
theorem dL_law_1168 : decode cL_law 1168 = .ok (.aload_n 0, 1) := dL_law_all70.2.2.2.2.1
theorem dL_law_1169 : decode cL_law 1169 = .ok (.iload_n 3, 1) := dL_law_all70.2.2.2.2.2.1
theorem dL_law_1170 : decode cL_law 1170 = .ok (.iconst 1, 1) := dL_law_all70.2.2.2.2.2.2.1
theorem dL_law_1171 : decode cL_law 1171 = .ok (.iadd, 1) := dL_law_all70.2.2.2.2.2.2.2.1
theorem dL_law_1172 : decode cL_law 1172 = .ok (.iaload, 1) := dL_law_all70.2.2.2.2.2.2.2.2.1
theorem dL_law_1173 : decode cL_law 1173 = .ok (.aload_n 0, 1) := dL_law_all70.2.2.2.2.2.2.2.2.2.1
theorem dL_law_1174 : decode cL_law 1174 = .ok (.iload_n 3, 1) := dL_law_all70.2.2.2.2.2.2.2.2.2.2.1
theorem dL_law_1175 : decode cL_law 1175 = .ok (.iconst 2, 1) := dL_law_all70.2.2.2.2.2.2.2.2.2.2.2
theorem dL_law_all71 : decode cL_law 1176 = .ok (.iadd, 1) ∧ decode cL_law 1177 = .ok (.iaload, 1) ∧ decode cL_law 1178 = .ok (.invokevirtual 122, 3) ∧ decode cL_law 1181 = .ok (.pop, 1) ∧ decode cL_law 1182 = .ok (.aload_n 2, 1) ∧ decode cL_law 1183 = .ok (.aload_n 0, 1) ∧ decode cL_law 1184 = .ok (.iload_n 3, 1) ∧ decode cL_law 1185 = .ok (.iconst 1, 1) ∧ decode cL_law 1186 = .ok (.iadd, 1) ∧ decode cL_law 1187 = .ok (.iaload, 1) ∧ decode cL_law 1188 = .ok (.aload_n 0, 1) ∧ decode cL_law 1189 = .ok (.iload_n 3, 1) := ⟨dq_96 sB_49 0 rfl, dq_46 sB_49 1 rfl, dq_182 sB_49 2 rfl 122 (by decide), dq_87 sB_49 5 rfl, dq_44 sB_49 6 rfl, dq_42 sB_49 7 rfl, dq_29 sB_49 8 rfl, dq_4 sB_49 9 rfl, dq_96 sB_49 10 rfl, dq_46 sB_49 11 rfl, dq_42 sB_49 12 rfl, dq_29 sB_49 13 rfl⟩
theorem dL_law_1176 : decode cL_law 1176 = .ok (.iadd, 1) := dL_law_all71.1
theorem dL_law_1177 : decode cL_law 1177 = .ok (.iaload, 1) := dL_law_all71.2.1
theorem dL_law_1178 : decode cL_law 1178 = .ok (.invokevirtual 122, 3) := dL_law_all71.2.2.1
theorem dL_law_1181 : decode cL_law 1181 = .ok (.pop, 1) := dL_law_all71.2.2.2.1
theorem dL_law_1182 : decode cL_law 1182 = .ok (.aload_n 2, 1) := dL_law_all71.2.2.2.2.1
theorem dL_law_1183 : decode cL_law 1183 = .ok (.aload_n 0, 1) := dL_law_all71.2.2.2.2.2.1
theorem dL_law_1184 : decode cL_law 1184 = .ok (.iload_n 3, 1) := dL_law_all71.2.2.2.2.2.2.1
theorem dL_law_1185 : decode cL_law 1185 = .ok (.iconst 1, 1) := dL_law_all71.2.2.2.2.2.2.2.1
theorem dL_law_1186 : decode cL_law 1186 = .ok (.iadd, 1) := dL_law_all71.2.2.2.2.2.2.2.2.1
theorem dL_law_1187 : decode cL_law 1187 = .ok (.iaload, 1) := dL_law_all71.2.2.2.2.2.2.2.2.2.1
theorem dL_law_1188 : decode cL_law 1188 = .ok (.aload_n 0, 1) := dL_law_all71.2.2.2.2.2.2.2.2.2.2.1
theorem dL_law_1189 : decode cL_law 1189 = .ok (.iload_n 3, 1) := dL_law_all71.2.2.2.2.2.2.2.2.2.2.2
theorem dL_law_all72 : decode cL_law 1190 = .ok (.iconst 2, 1) ∧ decode cL_law 1191 = .ok (.iadd, 1) ∧ decode cL_law 1192 = .ok (.iaload, 1) ∧ decode cL_law 1193 = .ok (.invokevirtual 125, 3) ∧ decode cL_law 1196 = .ok (.pop, 1) ∧ decode cL_law 1197 = .ok (.goto 455, 3) ∧ decode cL_law 1200 = .ok (.aload_n 1, 1) ∧ decode cL_law 1201 = .ok (.aload_n 0, 1) ∧ decode cL_law 1202 = .ok (.iload_n 3, 1) ∧ decode cL_law 1203 = .ok (.iconst 1, 1) ∧ decode cL_law 1204 = .ok (.iadd, 1) ∧ decode cL_law 1205 = .ok (.iaload, 1) := ⟨dq_5 sB_49 14 rfl, dq_96 sB_49 15 rfl, dq_46 sB_49 16 rfl, dq_182 sB_49 17 rfl 125 (by decide), dq_87 sB_49 20 rfl, dq_167 sB_49 21 rfl 455 (by decide), dq_43 sB_50 0 rfl, dq_42 sB_50 1 rfl, dq_29 sB_50 2 rfl, dq_4 sB_50 3 rfl, dq_96 sB_50 4 rfl, dq_46 sB_50 5 rfl⟩
theorem dL_law_1190 : decode cL_law 1190 = .ok (.iconst 2, 1) := dL_law_all72.1
theorem dL_law_1191 : decode cL_law 1191 = .ok (.iadd, 1) := dL_law_all72.2.1
theorem dL_law_1192 : decode cL_law 1192 = .ok (.iaload, 1) := dL_law_all72.2.2.1
theorem dL_law_1193 : decode cL_law 1193 = .ok (.invokevirtual 125, 3) := dL_law_all72.2.2.2.1
theorem dL_law_1196 : decode cL_law 1196 = .ok (.pop, 1) := dL_law_all72.2.2.2.2.1
theorem dL_law_1197 : decode cL_law 1197 = .ok (.goto 455, 3) := dL_law_all72.2.2.2.2.2.1
set_option maxHeartbeats 4000000 in
set_option maxRecDepth 100000 in
theorem law_case_20 {p : Program} {l : Launch} {e : Env} {s : State} {m : MethodId} {below : List Frame} {meth : Method} {c : Code} {D : va_G} {cI cY cJ cQ : ClassId} {b L aK aV : Nat} {xs : Nat → Int32} {ad rw md : Nat → Nat} {sd i : Int32} {nx : Nat → Int32} {fx rs : Nat → Nat → Int32} {lo : Nat → Int64} {ny : Nat → Int32} {fy : Nat → Nat → Int32} {fl : Nat → Int64} {H : Heap} {locs : List Loc} {ls : Array Slot} (C0 : lawC p s m meth c b L xs D cI cY cJ cQ aK aV) (I : inv nx fx rs ny fy) (hP : va_P D vwCl (wX ad rw sd cI cY cJ cQ nx fx rs lo ++ wM md sd cI cY cJ cQ ny fy fl) H) (hD : va_D (fun q : Nat => s.heap.size ≤ q) (wX ad rw sd cI cY cJ cQ nx fx rs lo ++ wM md sd cI cY cJ cQ ny fy fl)) (hS : va_S (fun q : Nat => s.heap.size ≤ q) s.heap H locs) (hl : lv_has ls 4 [(0, .ref b), (1, .ref (ad 0)), (2, .ref (md 64)), (3, .int i)]) (hi1 : 1 ≤ i.toInt) (hi2 : i.toInt + 5 < L) (kk : ∀ (nx : Nat → Int32) (fx rs : Nat → Nat → Int32) (lo : Nat → Int64) (ny : Nat → Int32) (fy : Nat → Nat → Int32) (fl : Nat → Int64) (H : Heap) (locs : List Loc) (ls : Array Slot), inv nx fx rs ny fy → va_P D vwCl (wX ad rw sd cI cY cJ cQ nx fx rs lo ++ wM md sd cI cY cJ cQ ny fy fl) H → va_D (fun q : Nat => s.heap.size ≤ q) (wX ad rw sd cI cY cJ cQ nx fx rs lo ++ wM md sd cI cY cJ cQ ny fy fl) → va_S (fun q : Nat => s.heap.size ≤ q) s.heap H locs → lv_has ls 4 [(0, .ref b), (1, .ref (ad 0)), (2, .ref (md 64)), (3, .int i)] → W p l e room_1 s m #[Value.ref b] below meth c H locs 107 4890 (lw_Z below #[Value.ref b] s) (F0 m 1652 ls [])) : W p l e room_1 s m #[Value.ref b] below meth c H locs 107 4890 (lw_Z below #[Value.ref b] s) (F0 m 1058 ls []) := by
  obtain ⟨C1, hK, hN, hT, hL⟩ := C0
  obtain ⟨hx, hb, hr, hml, hown, hts0, hX, hbl, hlocks, hgv⟩ := C1
  have hA : ∀ q : Nat, s.heap.size ≤ q → (fun q : Nat => s.heap.size ≤ q) q := fun _ h => h
  have hbA : ¬ (fun q : Nat => s.heap.size ≤ q) b := Nat.not_le.mpr hbl
  have hts : ∀ w ∈ wsL_law, w.before #[Value.ref b] s = true := fun w h => hts0 w (wsL_law_in w h)
  replace hown : s.vm.findClass RL = some m.cls := hown
  replace hb : c.code = cL_law := hb
  have hak1 : vp_in (i + 1) L := law_in hi1 hi2 hL (by decide)
  obtain ⟨xk1, exk1⟩ : ∃ y : Int32, y = xs (i + 1).toNatClampNeg := ⟨_, rfl⟩
  have hak2 : vp_in (i + 2) L := law_in hi1 hi2 hL (by decide)
  obtain ⟨xk2, exk2⟩ : ∃ y : Int32, y = xs (i + 2).toNatClampNeg := ⟨_, rfl⟩
  refine inv_el I ?_
  intro Xhna Xhnb XH XD XV XN Xcna Xcnb XF Xpna Xpnb XG XO XW Xgna Xgnb XJ Xlna Xlnb Xdla Xdlb Xana Xanb Xuna Xunb XU Xlca Xlcb Xtna Xtnb XS Mhna Mhnb MH MS Mmlna Mmlnb Mmtna Mmtnb Chn Cho Chc Chp Chs Ccn Cfo Cwo Cpn Cpk Cpf Cpo Cpd Cpe Cgn Cgk Cgs Cgd Cge Can Cak Cah Cay Caz Cun Cuk Cuy Cuw Cum Clc Clp Cla Clb Caw Ciw Cln Ctd Cro Cmtn Cmtr Cmst Csh
  have Tcn := i_eq Ccn
  have Tpn := i_eq Cpn
  have Tgn := i_eq Cgn
  have Tan := i_eq Can
  have Tun := i_eq Cun
  have Tlc := i_eq Clc
  have Tln := i_eq Cln
  refine lv_aload_n hx hb dL_law_1058 rfl (lv_at hl 1 rfl) ?_
  refine law_arg (v := 1) hx hb hX hbl hbA hS (lv_at hl 0 rfl) (lv_at hl 3 rfl) (by decide) hak1 exk1 dL_law_1059 dL_law_1060 dL_law_1061 dL_law_1062 dL_law_1063 ?_
  refine law_arg (v := 2) hx hb hX hbl hbA hS (lv_at hl 0 rfl) (lv_at hl 3 rfl) (by decide) hak2 exk2 dL_law_1064 dL_law_1065 dL_law_1066 dL_law_1067 dL_law_1068 ?_
  refine st_iU (va_runV (C := RX10) (As := [.int xk1, .int xk2]) (rest := []) ⟨hx, hb, hml, hown, hts⟩ (ct_X10_duty l D cI cY cJ cQ _ ad (nx 0) (nx 1) (nx 2) (nx 4) (nx 7) (nx 8) (nx 9) (nx 10) (nx 11) (nx 12) (nx 13) (nx 14) (nx 15) (fx 12) (fx 28) (fx 29) (fx 30) (fx 34) (fx 35) (fx 36) (fx 37) xk1 xk2 Xcna Xcnb Xana Xanb Xdla Xdlb) (cwV 2 hts gL_law_X10_duty rfl rfl rfl ⟨rfl, cdX10_duty⟩ ⟨Nat.le_of_ble_eq_true rfl, Nat.le_of_ble_eq_true rfl⟩) (cPreV (hP.sub [0, 23, 25, 42, 44, 45, 46, 50, 51, 52, 53, 54] rfl) hK (hD.sub [0, 23, 25, 42, 44, 45, 46, 50, 51, 52, 53, 54] (by decide +kernel) rfl) hN (ci := 10) (q0 := 0) rfl rfl) rfl rfl hl.1 rfl (lv_room (Nat.le_of_ble_eq_true rfl)) dL_law_1069 ⟨Nat.le_of_ble_eq_true rfl, Nat.le_of_ble_eq_true rfl⟩) hP hD hS hA [0, 23, 25, 42, 44, 45, 46, 50, 51, 52, 53, 54] rfl (fun _ => rfl) (fun r3 u1 H locs hw2 => ?_)
  clear hP hS
  intro hP hS
  replace hw2 : True := hw2
  refine lv_pop hx hb dL_law_1072 rfl ?_
  have hPx : va_P D vwCl (wX ad rw sd cI cY cJ cQ nx fx rs lo ++ wM md sd cI cY cJ cQ ny fy fl) H := hP
  have hDx : va_D (fun q : Nat => s.heap.size ≤ q) (wX ad rw sd cI cY cJ cQ nx fx rs lo ++ wM md sd cI cY cJ cQ ny fy fl) := wXM_D hD
  have hP := hPx.comm
  have hD := hDx.comm
  refine lv_aload_n hx hb dL_law_1073 rfl (lv_at hl 2 rfl) ?_
  refine law_arg (v := 1) hx hb hX hbl hbA hS (lv_at hl 0 rfl) (lv_at hl 3 rfl) (by decide) hak1 exk1 dL_law_1074 dL_law_1075 dL_law_1076 dL_law_1077 dL_law_1078 ?_
  refine law_arg (v := 2) hx hb hX hbl hbA hS (lv_at hl 0 rfl) (lv_at hl 3 rfl) (by decide) hak2 exk2 dL_law_1079 dL_law_1080 dL_law_1081 dL_law_1082 dL_law_1083 ?_
  refine st_iU (va_runV (C := RX11) (As := [.int xk1, .int xk2]) (rest := []) ⟨hx, hb, hml, hown, hts⟩ (ct_X11_duty l D cI cY cJ cQ _ md sd (ny 0) (ny 1) (ny 2) (ny 3) (ny 4) (ny 5) (ny 6) (ny 7) (ny 8) (ny 9) (ny 10) (ny 11) (ny 12) (ny 13) (ny 14) (ny 15) (ny 16) (ny 17) (ny 18) (ny 19) (ny 20) (ny 21) (ny 22) (fy 21) (fy 11) (fy 24) (fy 25) (fy 26) (fy 27) xk1 xk2 (by omega) (by omega) Mmlna Mmlnb (by omega) (by omega)) (cwV 2 hts gL_law_X11_duty rfl rfl rfl ⟨rfl, cdX11_duty⟩ ⟨Nat.le_of_ble_eq_true rfl, Nat.le_of_ble_eq_true rfl⟩) (cPreV (hP.sub [0, 23, 13, 26, 27, 28, 29] rfl) hK (hD.sub [0, 23, 13, 26, 27, 28, 29] (by decide +kernel) rfl) hN (ci := 11) (q0 := 0) rfl rfl) rfl rfl hl.1 rfl (lv_room (Nat.le_of_ble_eq_true rfl)) dL_law_1084 ⟨Nat.le_of_ble_eq_true rfl, Nat.le_of_ble_eq_true rfl⟩) hP hD hS hA [0, 23, 13, 26, 27, 28, 29] rfl (fun _ => rfl) (fun r6 u4 H locs hw5 => ?_)
  clear hP hS
  intro hP hS
  replace hw5 : True := hw5
  refine lv_pop hx hb dL_law_1087 rfl ?_
  refine lv_goto (tgt := 1652) hx hb dL_law_1088 (by decide) ?_
  have hPm : va_P D vwCl (wM md sd cI cY cJ cQ (upd ny 0 0) fy fl ++ wX ad rw sd cI cY cJ cQ nx fx rs lo) H := hP
  have hDm : va_D (fun q : Nat => s.heap.size ≤ q) (wM md sd cI cY cJ cQ (upd ny 0 0) fy fl ++ wX ad rw sd cI cY cJ cQ nx fx rs lo) := wMX_D hD
  exact kk nx fx rs lo (upd ny 0 0) fy fl H locs ls ⟨Xhna, Xhnb, XH, XD, XV, XN, Xcna, Xcnb, XF, Xpna, Xpnb, XG, XO, XW, Xgna, Xgnb, XJ, Xlna, Xlnb, Xdla, Xdlb, Xana, Xanb, Xuna, Xunb, XU, Xlca, Xlcb, Xtna, Xtnb, XS, Mhna, Mhnb, MH, MS, Mmlna, Mmlnb, Mmtna, Mmtnb, Chn, Cho, Chc, Chp, Chs, Ccn, Cfo, Cwo, Cpn, Cpk, Cpf, Cpo, Cpd, Cpe, Cgn, Cgk, Cgs, Cgd, Cge, Can, Cak, Cah, Cay, Caz, Cun, Cuk, Cuy, Cuw, Cum, Clc, Clp, Cla, Clb, Caw, Ciw, Cln, Ctd, Cro, Cmtn, Cmtr, Cmst, Csh⟩ hPm.comm hDm.comm hS hl

set_option maxHeartbeats 4000000 in
set_option maxRecDepth 100000 in
theorem law_case_21 {p : Program} {l : Launch} {e : Env} {s : State} {m : MethodId} {below : List Frame} {meth : Method} {c : Code} {D : va_G} {cI cY cJ cQ : ClassId} {b L aK aV : Nat} {xs : Nat → Int32} {ad rw md : Nat → Nat} {sd i : Int32} {nx : Nat → Int32} {fx rs : Nat → Nat → Int32} {lo : Nat → Int64} {ny : Nat → Int32} {fy : Nat → Nat → Int32} {fl : Nat → Int64} {H : Heap} {locs : List Loc} {ls : Array Slot} (C0 : lawC p s m meth c b L xs D cI cY cJ cQ aK aV) (I : inv nx fx rs ny fy) (hP : va_P D vwCl (wX ad rw sd cI cY cJ cQ nx fx rs lo ++ wM md sd cI cY cJ cQ ny fy fl) H) (hD : va_D (fun q : Nat => s.heap.size ≤ q) (wX ad rw sd cI cY cJ cQ nx fx rs lo ++ wM md sd cI cY cJ cQ ny fy fl)) (hS : va_S (fun q : Nat => s.heap.size ≤ q) s.heap H locs) (hl : lv_has ls 4 [(0, .ref b), (1, .ref (ad 0)), (2, .ref (md 64)), (3, .int i)]) (hi1 : 1 ≤ i.toInt) (hi2 : i.toInt + 5 < L) (kk : ∀ (nx : Nat → Int32) (fx rs : Nat → Nat → Int32) (lo : Nat → Int64) (ny : Nat → Int32) (fy : Nat → Nat → Int32) (fl : Nat → Int64) (H : Heap) (locs : List Loc) (ls : Array Slot), inv nx fx rs ny fy → va_P D vwCl (wX ad rw sd cI cY cJ cQ nx fx rs lo ++ wM md sd cI cY cJ cQ ny fy fl) H → va_D (fun q : Nat => s.heap.size ≤ q) (wX ad rw sd cI cY cJ cQ nx fx rs lo ++ wM md sd cI cY cJ cQ ny fy fl) → va_S (fun q : Nat => s.heap.size ≤ q) s.heap H locs → lv_has ls 4 [(0, .ref b), (1, .ref (ad 0)), (2, .ref (md 64)), (3, .int i)] → W p l e room_1 s m #[Value.ref b] below meth c H locs 107 4890 (lw_Z below #[Value.ref b] s) (F0 m 1652 ls [])) : W p l e room_1 s m #[Value.ref b] below meth c H locs 107 4890 (lw_Z below #[Value.ref b] s) (F0 m 1091 ls []) := by
  obtain ⟨C1, hK, hN, hT, hL⟩ := C0
  obtain ⟨hx, hb, hr, hml, hown, hts0, hX, hbl, hlocks, hgv⟩ := C1
  have hA : ∀ q : Nat, s.heap.size ≤ q → (fun q : Nat => s.heap.size ≤ q) q := fun _ h => h
  have hbA : ¬ (fun q : Nat => s.heap.size ≤ q) b := Nat.not_le.mpr hbl
  have hts : ∀ w ∈ wsL_law, w.before #[Value.ref b] s = true := fun w h => hts0 w (wsL_law_in w h)
  replace hown : s.vm.findClass RL = some m.cls := hown
  replace hb : c.code = cL_law := hb
  have hak1 : vp_in (i + 1) L := law_in hi1 hi2 hL (by decide)
  obtain ⟨xk1, exk1⟩ : ∃ y : Int32, y = xs (i + 1).toNatClampNeg := ⟨_, rfl⟩
  have hak2 : vp_in (i + 2) L := law_in hi1 hi2 hL (by decide)
  obtain ⟨xk2, exk2⟩ : ∃ y : Int32, y = xs (i + 2).toNatClampNeg := ⟨_, rfl⟩
  have hak3 : vp_in (i + 3) L := law_in hi1 hi2 hL (by decide)
  obtain ⟨xk3, exk3⟩ : ∃ y : Int32, y = xs (i + 3).toNatClampNeg := ⟨_, rfl⟩
  refine inv_el I ?_
  intro Xhna Xhnb XH XD XV XN Xcna Xcnb XF Xpna Xpnb XG XO XW Xgna Xgnb XJ Xlna Xlnb Xdla Xdlb Xana Xanb Xuna Xunb XU Xlca Xlcb Xtna Xtnb XS Mhna Mhnb MH MS Mmlna Mmlnb Mmtna Mmtnb Chn Cho Chc Chp Chs Ccn Cfo Cwo Cpn Cpk Cpf Cpo Cpd Cpe Cgn Cgk Cgs Cgd Cge Can Cak Cah Cay Caz Cun Cuk Cuy Cuw Cum Clc Clp Cla Clb Caw Ciw Cln Ctd Cro Cmtn Cmtr Cmst Csh
  have Tcn := i_eq Ccn
  have Tpn := i_eq Cpn
  have Tgn := i_eq Cgn
  have Tan := i_eq Can
  have Tun := i_eq Cun
  have Tlc := i_eq Clc
  have Tln := i_eq Cln
  refine lv_aload_n hx hb dL_law_1091 rfl (lv_at hl 1 rfl) ?_
  refine law_arg (v := 1) hx hb hX hbl hbA hS (lv_at hl 0 rfl) (lv_at hl 3 rfl) (by decide) hak1 exk1 dL_law_1092 dL_law_1093 dL_law_1094 dL_law_1095 dL_law_1096 ?_
  refine law_arg (v := 2) hx hb hX hbl hbA hS (lv_at hl 0 rfl) (lv_at hl 3 rfl) (by decide) hak2 exk2 dL_law_1097 dL_law_1098 dL_law_1099 dL_law_1100 dL_law_1101 ?_
  refine law_arg (v := 3) hx hb hX hbl hbA hS (lv_at hl 0 rfl) (lv_at hl 3 rfl) (by decide) hak3 exk3 dL_law_1102 dL_law_1103 dL_law_1104 dL_law_1105 dL_law_1106 ?_
  refine st_iU (va_runV (C := RX10) (As := [.int xk1, .int xk2, .int xk3]) (rest := []) ⟨hx, hb, hml, hown, hts⟩ (ct_X10_room l D cI cY cJ cQ _ ad (nx 0) (nx 1) (nx 2) (nx 4) (fx 14) (fx 15) xk1 xk2 xk3) (cwV 3 hts gL_law_X10_room rfl rfl rfl ⟨rfl, cdX10_room⟩ ⟨Nat.le_of_ble_eq_true rfl, Nat.le_of_ble_eq_true rfl⟩) (cPreV (hP.sub [0, 23, 27, 28] rfl) hK (hD.sub [0, 23, 27, 28] (by decide +kernel) rfl) hN (ci := 10) (q0 := 0) rfl rfl) rfl rfl hl.1 rfl (lv_room (Nat.le_of_ble_eq_true rfl)) dL_law_1107 ⟨Nat.le_of_ble_eq_true rfl, Nat.le_of_ble_eq_true rfl⟩) hP hD hS hA [0, 23, 27, 28] rfl (fun _ => rfl) (fun r3 u1 H locs hw2 => ?_)
  clear hP hS
  intro hP hS
  obtain ⟨aw_4, iw_5⟩ := u1
  replace hw2 : (r3, (aw_4, iw_5)) = sp_room (fx 14) (fx 15) xk1 xk2 xk3 := hw2
  refine lv_pop hx hb dL_law_1110 rfl ?_
  have hPx : va_P D vwCl (wX ad rw sd cI cY cJ cQ nx (upR (upR fx 14 aw_4) 15 iw_5) rs lo ++ wM md sd cI cY cJ cQ ny fy fl) H := hP
  have hDx : va_D (fun q : Nat => s.heap.size ≤ q) (wX ad rw sd cI cY cJ cQ nx (upR (upR fx 14 aw_4) 15 iw_5) rs lo ++ wM md sd cI cY cJ cQ ny fy fl) := wXM_D hD
  have hP := hPx.comm
  have hD := hDx.comm
  refine lv_aload_n hx hb dL_law_1111 rfl (lv_at hl 2 rfl) ?_
  refine law_arg (v := 1) hx hb hX hbl hbA hS (lv_at hl 0 rfl) (lv_at hl 3 rfl) (by decide) hak1 exk1 dL_law_1112 dL_law_1113 dL_law_1114 dL_law_1115 dL_law_1116 ?_
  refine law_arg (v := 2) hx hb hX hbl hbA hS (lv_at hl 0 rfl) (lv_at hl 3 rfl) (by decide) hak2 exk2 dL_law_1117 dL_law_1118 dL_law_1119 dL_law_1120 dL_law_1121 ?_
  refine law_arg (v := 3) hx hb hX hbl hbA hS (lv_at hl 0 rfl) (lv_at hl 3 rfl) (by decide) hak3 exk3 dL_law_1122 dL_law_1123 dL_law_1124 dL_law_1125 dL_law_1126 ?_
  refine st_iU (va_runV (C := RX11) (As := [.int xk1, .int xk2, .int xk3]) (rest := []) ⟨hx, hb, hml, hown, hts⟩ (ct_X11_room l D cI cY cJ cQ _ md sd (ny 0) (ny 1) (ny 2) (ny 3) (ny 4) (ny 5) (ny 6) (ny 7) (ny 8) (ny 9) (ny 10) (ny 11) (ny 12) (ny 13) (ny 14) (ny 15) (ny 16) (ny 17) (ny 18) (ny 19) (ny 20) (ny 21) (ny 22) (fy 28) (fy 29) xk1 xk2 xk3) (cwV 3 hts gL_law_X11_room rfl rfl rfl ⟨rfl, cdX11_room⟩ ⟨Nat.le_of_ble_eq_true rfl, Nat.le_of_ble_eq_true rfl⟩) (cPreV (hP.sub [0, 30, 31] rfl) hK (hD.sub [0, 30, 31] (by decide +kernel) rfl) hN (ci := 11) (q0 := 0) rfl rfl) rfl rfl hl.1 rfl (lv_room (Nat.le_of_ble_eq_true rfl)) dL_law_1127 ⟨Nat.le_of_ble_eq_true rfl, Nat.le_of_ble_eq_true rfl⟩) hP hD hS hA [0, 30, 31] rfl (fun _ => rfl) (fun r8 u6 H locs hw7 => ?_)
  clear hP hS
  intro hP hS
  obtain ⟨aw_9, iw_10⟩ := u6
  replace hw7 : (r8, (aw_9, iw_10)) = sp_room (fy 28) (fy 29) xk1 xk2 xk3 := hw7
  rw [Caw, Ciw] at hw7
  have e9 := hw2.trans hw7.symm
  simp only [Prod.mk.injEq] at e9
  obtain ⟨e90, e9aw, e9iw⟩ := e9
  refine lv_pop hx hb dL_law_1130 rfl ?_
  refine lv_goto (tgt := 1652) hx hb dL_law_1131 (by decide) ?_
  have hPm : va_P D vwCl (wM md sd cI cY cJ cQ (upd ny 0 0) (upR (upR fy 28 aw_9) 29 iw_10) fl ++ wX ad rw sd cI cY cJ cQ nx (upR (upR fx 14 aw_4) 15 iw_5) rs lo) H := hP
  have hDm : va_D (fun q : Nat => s.heap.size ≤ q) (wM md sd cI cY cJ cQ (upd ny 0 0) (upR (upR fy 28 aw_9) 29 iw_10) fl ++ wX ad rw sd cI cY cJ cQ nx (upR (upR fx 14 aw_4) 15 iw_5) rs lo) := wMX_D hD
  exact kk nx (upR (upR fx 14 aw_4) 15 iw_5) rs lo (upd ny 0 0) (upR (upR fy 28 aw_9) 29 iw_10) fl H locs ls ⟨Xhna, Xhnb, XH, XD, XV, XN, Xcna, Xcnb, XF, Xpna, Xpnb, XG, XO, XW, Xgna, Xgnb, XJ, Xlna, Xlnb, Xdla, Xdlb, Xana, Xanb, Xuna, Xunb, XU, Xlca, Xlcb, Xtna, Xtnb, XS, Mhna, Mhnb, MH, MS, Mmlna, Mmlnb, Mmtna, Mmtnb, Chn, Cho, Chc, Chp, Chs, Ccn, Cfo, Cwo, Cpn, Cpk, Cpf, Cpo, Cpd, Cpe, Cgn, Cgk, Cgs, Cgd, Cge, Can, Cak, Cah, Cay, Caz, Cun, Cuk, Cuy, Cuw, Cum, Clc, Clp, Cla, Clb, (show (aw_9) = (aw_4) from e9aw.symm), (show (iw_10) = (iw_5) from e9iw.symm), Cln, Ctd, Cro, Cmtn, Cmtr, Cmst, Csh⟩ hPm.comm hDm.comm hS hl

set_option maxHeartbeats 4000000 in
set_option maxRecDepth 100000 in
theorem law_case_22 {p : Program} {l : Launch} {e : Env} {s : State} {m : MethodId} {below : List Frame} {meth : Method} {c : Code} {D : va_G} {cI cY cJ cQ : ClassId} {b L aK aV : Nat} {xs : Nat → Int32} {ad rw md : Nat → Nat} {sd i : Int32} {nx : Nat → Int32} {fx rs : Nat → Nat → Int32} {lo : Nat → Int64} {ny : Nat → Int32} {fy : Nat → Nat → Int32} {fl : Nat → Int64} {H : Heap} {locs : List Loc} {ls : Array Slot} (C0 : lawC p s m meth c b L xs D cI cY cJ cQ aK aV) (I : inv nx fx rs ny fy) (hP : va_P D vwCl (wX ad rw sd cI cY cJ cQ nx fx rs lo ++ wM md sd cI cY cJ cQ ny fy fl) H) (hD : va_D (fun q : Nat => s.heap.size ≤ q) (wX ad rw sd cI cY cJ cQ nx fx rs lo ++ wM md sd cI cY cJ cQ ny fy fl)) (hS : va_S (fun q : Nat => s.heap.size ≤ q) s.heap H locs) (hl : lv_has ls 4 [(0, .ref b), (1, .ref (ad 0)), (2, .ref (md 64)), (3, .int i)]) (hi1 : 1 ≤ i.toInt) (hi2 : i.toInt + 5 < L) (kk : ∀ (nx : Nat → Int32) (fx rs : Nat → Nat → Int32) (lo : Nat → Int64) (ny : Nat → Int32) (fy : Nat → Nat → Int32) (fl : Nat → Int64) (H : Heap) (locs : List Loc) (ls : Array Slot), inv nx fx rs ny fy → va_P D vwCl (wX ad rw sd cI cY cJ cQ nx fx rs lo ++ wM md sd cI cY cJ cQ ny fy fl) H → va_D (fun q : Nat => s.heap.size ≤ q) (wX ad rw sd cI cY cJ cQ nx fx rs lo ++ wM md sd cI cY cJ cQ ny fy fl) → va_S (fun q : Nat => s.heap.size ≤ q) s.heap H locs → lv_has ls 4 [(0, .ref b), (1, .ref (ad 0)), (2, .ref (md 64)), (3, .int i)] → W p l e room_1 s m #[Value.ref b] below meth c H locs 107 4890 (lw_Z below #[Value.ref b] s) (F0 m 1652 ls [])) : W p l e room_1 s m #[Value.ref b] below meth c H locs 107 4890 (lw_Z below #[Value.ref b] s) (F0 m 1134 ls []) := by
  obtain ⟨C1, hK, hN, hT, hL⟩ := C0
  obtain ⟨hx, hb, hr, hml, hown, hts0, hX, hbl, hlocks, hgv⟩ := C1
  have hA : ∀ q : Nat, s.heap.size ≤ q → (fun q : Nat => s.heap.size ≤ q) q := fun _ h => h
  have hbA : ¬ (fun q : Nat => s.heap.size ≤ q) b := Nat.not_le.mpr hbl
  have hts : ∀ w ∈ wsL_law, w.before #[Value.ref b] s = true := fun w h => hts0 w (wsL_law_in w h)
  replace hown : s.vm.findClass RL = some m.cls := hown
  replace hb : c.code = cL_law := hb
  have hak1 : vp_in (i + 1) L := law_in hi1 hi2 hL (by decide)
  obtain ⟨xk1, exk1⟩ : ∃ y : Int32, y = xs (i + 1).toNatClampNeg := ⟨_, rfl⟩
  have hak2 : vp_in (i + 2) L := law_in hi1 hi2 hL (by decide)
  obtain ⟨xk2, exk2⟩ : ∃ y : Int32, y = xs (i + 2).toNatClampNeg := ⟨_, rfl⟩
  refine inv_el I ?_
  intro Xhna Xhnb XH XD XV XN Xcna Xcnb XF Xpna Xpnb XG XO XW Xgna Xgnb XJ Xlna Xlnb Xdla Xdlb Xana Xanb Xuna Xunb XU Xlca Xlcb Xtna Xtnb XS Mhna Mhnb MH MS Mmlna Mmlnb Mmtna Mmtnb Chn Cho Chc Chp Chs Ccn Cfo Cwo Cpn Cpk Cpf Cpo Cpd Cpe Cgn Cgk Cgs Cgd Cge Can Cak Cah Cay Caz Cun Cuk Cuy Cuw Cum Clc Clp Cla Clb Caw Ciw Cln Ctd Cro Cmtn Cmtr Cmst Csh
  have Tcn := i_eq Ccn
  have Tpn := i_eq Cpn
  have Tgn := i_eq Cgn
  have Tan := i_eq Can
  have Tun := i_eq Cun
  have Tlc := i_eq Clc
  have Tln := i_eq Cln
  refine lv_aload_n hx hb dL_law_1134 rfl (lv_at hl 1 rfl) ?_
  refine law_arg (v := 1) hx hb hX hbl hbA hS (lv_at hl 0 rfl) (lv_at hl 3 rfl) (by decide) hak1 exk1 dL_law_1135 dL_law_1136 dL_law_1137 dL_law_1138 dL_law_1139 ?_
  refine law_arg (v := 2) hx hb hX hbl hbA hS (lv_at hl 0 rfl) (lv_at hl 3 rfl) (by decide) hak2 exk2 dL_law_1140 dL_law_1141 dL_law_1142 dL_law_1143 dL_law_1144 ?_
  refine st_iU (va_runV (C := RX10) (As := [.int xk1, .int xk2]) (rest := []) ⟨hx, hb, hml, hown, hts⟩ (ct_X10_move l D cI cY cJ cQ _ ad (nx 0) (nx 1) (nx 2) (nx 4) (fx 12) (fx 13) (fx 14) (fx 15) xk1 xk2 Xcna Xcnb) (cwV 2 hts gL_law_X10_move rfl rfl rfl ⟨rfl, cdX10_move⟩ ⟨Nat.le_of_ble_eq_true rfl, Nat.le_of_ble_eq_true rfl⟩) (cPreV (hP.sub [0, 23, 25, 26, 27, 28] rfl) hK (hD.sub [0, 23, 25, 26, 27, 28] (by decide +kernel) rfl) hN (ci := 10) (q0 := 0) rfl rfl) rfl rfl hl.1 rfl (lv_room (Nat.le_of_ble_eq_true rfl)) dL_law_1145 ⟨Nat.le_of_ble_eq_true rfl, Nat.le_of_ble_eq_true rfl⟩) hP hD hS hA [0, 23, 25, 26, 27, 28] rfl (fun _ => rfl) (fun r3 u1 H locs hw2 => ?_)
  clear hP hS
  intro hP hS
  replace hw2 : (r3, u1) = sp_move (nx 4) (fx 12) (fx 13) (fx 14) (fx 15) xk1 xk2 := hw2
  refine lv_pop hx hb dL_law_1148 rfl ?_
  have hPx : va_P D vwCl (wX ad rw sd cI cY cJ cQ nx (upR fx 13 u1) rs lo ++ wM md sd cI cY cJ cQ ny fy fl) H := hP
  have hDx : va_D (fun q : Nat => s.heap.size ≤ q) (wX ad rw sd cI cY cJ cQ nx (upR fx 13 u1) rs lo ++ wM md sd cI cY cJ cQ ny fy fl) := wXM_D hD
  have hP := hPx.comm
  have hD := hDx.comm
  refine lv_aload_n hx hb dL_law_1149 rfl (lv_at hl 2 rfl) ?_
  refine law_arg (v := 1) hx hb hX hbl hbA hS (lv_at hl 0 rfl) (lv_at hl 3 rfl) (by decide) hak1 exk1 dL_law_1150 dL_law_1151 dL_law_1152 dL_law_1153 dL_law_1154 ?_
  refine law_arg (v := 2) hx hb hX hbl hbA hS (lv_at hl 0 rfl) (lv_at hl 3 rfl) (by decide) hak2 exk2 dL_law_1155 dL_law_1156 dL_law_1157 dL_law_1158 dL_law_1159 ?_
  refine st_iU (va_runV (C := RX11) (As := [.int xk1, .int xk2]) (rest := []) ⟨hx, hb, hml, hown, hts⟩ (ct_X11_move l D cI cY cJ cQ _ md sd (ny 0) (ny 1) (ny 2) (ny 3) (ny 4) (ny 5) (ny 6) (ny 7) (ny 8) (ny 9) (ny 10) (ny 11) (ny 12) (ny 13) (ny 14) (ny 15) (ny 16) (ny 17) (ny 18) (ny 19) (ny 20) (ny 21) (ny 22) (fy 11) (fy 30) (fy 28) (fy 29) xk1 xk2 (by omega) (by omega)) (cwV 2 hts gL_law_X11_move rfl rfl rfl ⟨rfl, cdX11_move⟩ ⟨Nat.le_of_ble_eq_true rfl, Nat.le_of_ble_eq_true rfl⟩) (cPreV (hP.sub [0, 13, 32, 30, 31] rfl) hK (hD.sub [0, 13, 32, 30, 31] (by decide +kernel) rfl) hN (ci := 11) (q0 := 0) rfl rfl) rfl rfl hl.1 rfl (lv_room (Nat.le_of_ble_eq_true rfl)) dL_law_1160 ⟨Nat.le_of_ble_eq_true rfl, Nat.le_of_ble_eq_true rfl⟩) hP hD hS hA [0, 13, 32, 30, 31] rfl (fun _ => rfl) (fun r6 u4 H locs hw5 => ?_)
  clear hP hS
  intro hP hS
  replace hw5 : (r6, u4) = sm_move (ny 3) (fy 11) (fy 30) (fy 28) (fy 29) xk1 xk2 := hw5
  rw [Ccn, Cwo, Cro, Caw, Ciw, ← move_eq (by omega) (by omega)] at hw5
  have e9 := hw2.trans hw5.symm
  simp only [Prod.mk.injEq] at e9
  obtain ⟨e90, e9ro⟩ := e9
  refine lv_pop hx hb dL_law_1163 rfl ?_
  refine lv_goto (tgt := 1652) hx hb dL_law_1164 (by decide) ?_
  have hPm : va_P D vwCl (wM md sd cI cY cJ cQ (upd ny 0 0) (upR fy 30 u4) fl ++ wX ad rw sd cI cY cJ cQ nx (upR fx 13 u1) rs lo) H := hP
  have hDm : va_D (fun q : Nat => s.heap.size ≤ q) (wM md sd cI cY cJ cQ (upd ny 0 0) (upR fy 30 u4) fl ++ wX ad rw sd cI cY cJ cQ nx (upR fx 13 u1) rs lo) := wMX_D hD
  exact kk nx (upR fx 13 u1) rs lo (upd ny 0 0) (upR fy 30 u4) fl H locs ls ⟨Xhna, Xhnb, XH, XD, XV, XN, Xcna, Xcnb, XF, Xpna, Xpnb, XG, XO, XW, Xgna, Xgnb, XJ, Xlna, Xlnb, Xdla, Xdlb, Xana, Xanb, Xuna, Xunb, XU, Xlca, Xlcb, Xtna, Xtnb, XS, Mhna, Mhnb, MH, MS, Mmlna, Mmlnb, Mmtna, Mmtnb, Chn, Cho, Chc, Chp, Chs, Ccn, Cfo, Cwo, Cpn, Cpk, Cpf, Cpo, Cpd, Cpe, Cgn, Cgk, Cgs, Cgd, Cge, Can, Cak, Cah, Cay, Caz, Cun, Cuk, Cuy, Cuw, Cum, Clc, Clp, Cla, Clb, Caw, Ciw, Cln, Ctd, (show (u4) = (u1) from e9ro.symm), Cmtn, Cmtr, Cmst, Csh⟩ hPm.comm hDm.comm hS hl

set_option maxHeartbeats 4000000 in
set_option maxRecDepth 100000 in
theorem law_case_23 {p : Program} {l : Launch} {e : Env} {s : State} {m : MethodId} {below : List Frame} {meth : Method} {c : Code} {D : va_G} {cI cY cJ cQ : ClassId} {b L aK aV : Nat} {xs : Nat → Int32} {ad rw md : Nat → Nat} {sd i : Int32} {nx : Nat → Int32} {fx rs : Nat → Nat → Int32} {lo : Nat → Int64} {ny : Nat → Int32} {fy : Nat → Nat → Int32} {fl : Nat → Int64} {H : Heap} {locs : List Loc} {ls : Array Slot} (C0 : lawC p s m meth c b L xs D cI cY cJ cQ aK aV) (I : inv nx fx rs ny fy) (hP : va_P D vwCl (wX ad rw sd cI cY cJ cQ nx fx rs lo ++ wM md sd cI cY cJ cQ ny fy fl) H) (hD : va_D (fun q : Nat => s.heap.size ≤ q) (wX ad rw sd cI cY cJ cQ nx fx rs lo ++ wM md sd cI cY cJ cQ ny fy fl)) (hS : va_S (fun q : Nat => s.heap.size ≤ q) s.heap H locs) (hl : lv_has ls 4 [(0, .ref b), (1, .ref (ad 0)), (2, .ref (md 64)), (3, .int i)]) (hi1 : 1 ≤ i.toInt) (hi2 : i.toInt + 5 < L) (kk : ∀ (nx : Nat → Int32) (fx rs : Nat → Nat → Int32) (lo : Nat → Int64) (ny : Nat → Int32) (fy : Nat → Nat → Int32) (fl : Nat → Int64) (H : Heap) (locs : List Loc) (ls : Array Slot), inv nx fx rs ny fy → va_P D vwCl (wX ad rw sd cI cY cJ cQ nx fx rs lo ++ wM md sd cI cY cJ cQ ny fy fl) H → va_D (fun q : Nat => s.heap.size ≤ q) (wX ad rw sd cI cY cJ cQ nx fx rs lo ++ wM md sd cI cY cJ cQ ny fy fl) → va_S (fun q : Nat => s.heap.size ≤ q) s.heap H locs → lv_has ls 4 [(0, .ref b), (1, .ref (ad 0)), (2, .ref (md 64)), (3, .int i)] → W p l e room_1 s m #[Value.ref b] below meth c H locs 107 4890 (lw_Z below #[Value.ref b] s) (F0 m 1652 ls [])) : W p l e room_1 s m #[Value.ref b] below meth c H locs 107 4890 (lw_Z below #[Value.ref b] s) (F0 m 1167 ls []) := by
  obtain ⟨C1, hK, hN, hT, hL⟩ := C0
  obtain ⟨hx, hb, hr, hml, hown, hts0, hX, hbl, hlocks, hgv⟩ := C1
  have hA : ∀ q : Nat, s.heap.size ≤ q → (fun q : Nat => s.heap.size ≤ q) q := fun _ h => h
  have hbA : ¬ (fun q : Nat => s.heap.size ≤ q) b := Nat.not_le.mpr hbl
  have hts : ∀ w ∈ wsL_law, w.before #[Value.ref b] s = true := fun w h => hts0 w (wsL_law_in w h)
  replace hown : s.vm.findClass RL = some m.cls := hown
  replace hb : c.code = cL_law := hb
  have hak1 : vp_in (i + 1) L := law_in hi1 hi2 hL (by decide)
  obtain ⟨xk1, exk1⟩ : ∃ y : Int32, y = xs (i + 1).toNatClampNeg := ⟨_, rfl⟩
  have hak2 : vp_in (i + 2) L := law_in hi1 hi2 hL (by decide)
  obtain ⟨xk2, exk2⟩ : ∃ y : Int32, y = xs (i + 2).toNatClampNeg := ⟨_, rfl⟩
  refine inv_el I ?_
  intro Xhna Xhnb XH XD XV XN Xcna Xcnb XF Xpna Xpnb XG XO XW Xgna Xgnb XJ Xlna Xlnb Xdla Xdlb Xana Xanb Xuna Xunb XU Xlca Xlcb Xtna Xtnb XS Mhna Mhnb MH MS Mmlna Mmlnb Mmtna Mmtnb Chn Cho Chc Chp Chs Ccn Cfo Cwo Cpn Cpk Cpf Cpo Cpd Cpe Cgn Cgk Cgs Cgd Cge Can Cak Cah Cay Caz Cun Cuk Cuy Cuw Cum Clc Clp Cla Clb Caw Ciw Cln Ctd Cro Cmtn Cmtr Cmst Csh
  have Tcn := i_eq Ccn
  have Tpn := i_eq Cpn
  have Tgn := i_eq Cgn
  have Tan := i_eq Can
  have Tun := i_eq Cun
  have Tlc := i_eq Clc
  have Tln := i_eq Cln
  refine lv_aload_n hx hb dL_law_1167 rfl (lv_at hl 1 rfl) ?_
  refine law_arg (v := 1) hx hb hX hbl hbA hS (lv_at hl 0 rfl) (lv_at hl 3 rfl) (by decide) hak1 exk1 dL_law_1168 dL_law_1169 dL_law_1170 dL_law_1171 dL_law_1172 ?_
  refine law_arg (v := 2) hx hb hX hbl hbA hS (lv_at hl 0 rfl) (lv_at hl 3 rfl) (by decide) hak2 exk2 dL_law_1173 dL_law_1174 dL_law_1175 dL_law_1176 dL_law_1177 ?_
  refine st_iU (va_runV (C := RX10) (As := [.int xk1, .int xk2]) (rest := []) ⟨hx, hb, hml, hown, hts⟩ (ct_X10_inside l D cI cY cJ cQ _ ad (nx 0) (nx 1) (nx 2) (nx 4) (fx 12) (fx 13) xk1 xk2 Xcna Xcnb) (cwV 2 hts gL_law_X10_inside rfl rfl rfl ⟨rfl, cdX10_inside⟩ ⟨Nat.le_of_ble_eq_true rfl, Nat.le_of_ble_eq_true rfl⟩) (cPreV (hP.sub [0, 23, 25, 26] rfl) hK (hD.sub [0, 23, 25, 26] (by decide +kernel) rfl) hN (ci := 10) (q0 := 0) rfl rfl) rfl rfl hl.1 rfl (lv_room (Nat.le_of_ble_eq_true rfl)) dL_law_1178 ⟨Nat.le_of_ble_eq_true rfl, Nat.le_of_ble_eq_true rfl⟩) hP hD hS hA [0, 23, 25, 26] rfl (fun _ => rfl) (fun r3 u1 H locs hw2 => ?_)
  clear hP hS
  intro hP hS
  replace hw2 : r3 = sp_inside (nx 4) (fx 12) (fx 13) xk1 xk2 := hw2
  refine lv_pop hx hb dL_law_1181 rfl ?_
  have hPx : va_P D vwCl (wX ad rw sd cI cY cJ cQ nx fx rs lo ++ wM md sd cI cY cJ cQ ny fy fl) H := hP
  have hDx : va_D (fun q : Nat => s.heap.size ≤ q) (wX ad rw sd cI cY cJ cQ nx fx rs lo ++ wM md sd cI cY cJ cQ ny fy fl) := wXM_D hD
  have hP := hPx.comm
  have hD := hDx.comm
  refine lv_aload_n hx hb dL_law_1182 rfl (lv_at hl 2 rfl) ?_
  refine law_arg (v := 1) hx hb hX hbl hbA hS (lv_at hl 0 rfl) (lv_at hl 3 rfl) (by decide) hak1 exk1 dL_law_1183 dL_law_1184 dL_law_1185 dL_law_1186 dL_law_1187 ?_
  refine law_arg (v := 2) hx hb hX hbl hbA hS (lv_at hl 0 rfl) (lv_at hl 3 rfl) (by decide) hak2 exk2 dL_law_1188 dL_law_1189 dL_law_1190 dL_law_1191 dL_law_1192 ?_
  refine st_iU (va_runV (C := RX11) (As := [.int xk1, .int xk2]) (rest := []) ⟨hx, hb, hml, hown, hts⟩ (ct_X11_inside l D cI cY cJ cQ _ md sd (ny 0) (ny 1) (ny 2) (ny 3) (ny 4) (ny 5) (ny 6) (ny 7) (ny 8) (ny 9) (ny 10) (ny 11) (ny 12) (ny 13) (ny 14) (ny 15) (ny 16) (ny 17) (ny 18) (ny 19) (ny 20) (ny 21) (ny 22) (fy 11) (fy 30) xk1 xk2 (by omega) (by omega)) (cwV 2 hts gL_law_X11_inside rfl rfl rfl ⟨rfl, cdX11_inside⟩ ⟨Nat.le_of_ble_eq_true rfl, Nat.le_of_ble_eq_true rfl⟩) (cPreV (hP.sub [0, 13, 32] rfl) hK (hD.sub [0, 13, 32] (by decide +kernel) rfl) hN (ci := 11) (q0 := 0) rfl rfl) rfl rfl hl.1 rfl (lv_room (Nat.le_of_ble_eq_true rfl)) dL_law_1193 ⟨Nat.le_of_ble_eq_true rfl, Nat.le_of_ble_eq_true rfl⟩) hP hD hS hA [0, 13, 32] rfl (fun _ => rfl) (fun r6 u4 H locs hw5 => ?_)
  clear hP hS
  intro hP hS
  replace hw5 : r6 = sm_inside (ny 3) (fy 11) (fy 30) xk1 xk2 := hw5
  rw [Ccn, Cwo, Cro, ← inside_eq (by omega) (by omega)] at hw5
  have e90 := hw2.trans hw5.symm
  refine lv_pop hx hb dL_law_1196 rfl ?_
  refine lv_goto (tgt := 1652) hx hb dL_law_1197 (by decide) ?_
  have hPm : va_P D vwCl (wM md sd cI cY cJ cQ (upd ny 0 0) fy fl ++ wX ad rw sd cI cY cJ cQ nx fx rs lo) H := hP
  have hDm : va_D (fun q : Nat => s.heap.size ≤ q) (wM md sd cI cY cJ cQ (upd ny 0 0) fy fl ++ wX ad rw sd cI cY cJ cQ nx fx rs lo) := wMX_D hD
  exact kk nx fx rs lo (upd ny 0 0) fy fl H locs ls ⟨Xhna, Xhnb, XH, XD, XV, XN, Xcna, Xcnb, XF, Xpna, Xpnb, XG, XO, XW, Xgna, Xgnb, XJ, Xlna, Xlnb, Xdla, Xdlb, Xana, Xanb, Xuna, Xunb, XU, Xlca, Xlcb, Xtna, Xtnb, XS, Mhna, Mhnb, MH, MS, Mmlna, Mmlnb, Mmtna, Mmtnb, Chn, Cho, Chc, Chp, Chs, Ccn, Cfo, Cwo, Cpn, Cpk, Cpf, Cpo, Cpd, Cpe, Cgn, Cgk, Cgs, Cgd, Cge, Can, Cak, Cah, Cay, Caz, Cun, Cuk, Cuy, Cuw, Cum, Clc, Clp, Cla, Clb, Caw, Ciw, Cln, Ctd, Cro, Cmtn, Cmtr, Cmst, Csh⟩ hPm.comm hDm.comm hS hl
end

section
theorem cdX10_lot : yX10_lot.cls ≠ "java/lang/invoke/MethodHandle" ∧ yX10_lot.cls ≠ "java/lang/invoke/VarHandle" ∧ (parseMethodDescriptor yX10_lot.desc).map (fun d => d.parameters.length) = some 3 := by decide +kernel
theorem cdX10_drawn : yX10_drawn.cls ≠ "java/lang/invoke/MethodHandle" ∧ yX10_drawn.cls ≠ "java/lang/invoke/VarHandle" ∧ (parseMethodDescriptor yX10_drawn.desc).map (fun d => d.parameters.length) = some 2 := by decide +kernel
theorem cdX10_often : yX10_often.cls ≠ "java/lang/invoke/MethodHandle" ∧ yX10_often.cls ≠ "java/lang/invoke/VarHandle" ∧ (parseMethodDescriptor yX10_often.desc).map (fun d => d.parameters.length) = some 4 := by decide +kernel
theorem cdX10_opened : yX10_opened.cls ≠ "java/lang/invoke/MethodHandle" ∧ yX10_opened.cls ≠ "java/lang/invoke/VarHandle" ∧ (parseMethodDescriptor yX10_opened.desc).map (fun d => d.parameters.length) = some 4 := by decide +kernel
theorem cdX11_lot : yX11_lot.cls ≠ "java/lang/invoke/MethodHandle" ∧ yX11_lot.cls ≠ "java/lang/invoke/VarHandle" ∧ (parseMethodDescriptor yX11_lot.desc).map (fun d => d.parameters.length) = some 3 := by decide +kernel
theorem cdX11_drawn : yX11_drawn.cls ≠ "java/lang/invoke/MethodHandle" ∧ yX11_drawn.cls ≠ "java/lang/invoke/VarHandle" ∧ (parseMethodDescriptor yX11_drawn.desc).map (fun d => d.parameters.length) = some 2 := by decide +kernel
theorem cdX11_often : yX11_often.cls ≠ "java/lang/invoke/MethodHandle" ∧ yX11_often.cls ≠ "java/lang/invoke/VarHandle" ∧ (parseMethodDescriptor yX11_often.desc).map (fun d => d.parameters.length) = some 4 := by decide +kernel
theorem cdX11_opened : yX11_opened.cls ≠ "java/lang/invoke/MethodHandle" ∧ yX11_opened.cls ≠ "java/lang/invoke/VarHandle" ∧ (parseMethodDescriptor yX11_opened.desc).map (fun d => d.parameters.length) = some 4 := by decide +kernel
theorem Gd_X10_lot : gdA wsX10_lot := gd_cons (by decide +kernel) (gd_app (gd_all (ws := wsX10_lot_o1) (by decide +kernel)) (gd_app (gd_app (gd_app Gd_X100 Gd_X50) Gd_X10_isBelow) (gd_app (gd_app Gd_X10_isDay Gd_X10_isFrom) Gd_X5_lotOf)))
theorem Gd_X10_drawn : gdA wsX10_drawn := gd_cons (by decide +kernel) (gd_app (gd_all (ws := wsX10_drawn_o1) (by decide +kernel)) (gd_app (gd_app (gd_app (gd_app Gd_X100 Gd_X10) Gd_X50) (gd_app Gd_X10_isDay Gd_X10_isFrom)) (gd_app (gd_app Gd_X1_setInRooms Gd_X5_drawLots) (gd_app Gd_X10_hasBit Gd_X5_howManyAhead))))
theorem Gd_X10_often : gdA wsX10_often := gd_cons (by decide +kernel) (gd_app (gd_all (ws := wsX10_often_o1) (by decide +kernel)) (gd_app (gd_app (gd_app (gd_app Gd_X100 Gd_X10) Gd_X50) (gd_app Gd_X10_isCrate Gd_X10_areDays)) (gd_app (gd_app (gd_app Gd_X10_isFrom Gd_X1_setInRooms) Gd_X10_hasBit) (gd_app Gd_X5_drawLots Gd_X5_howManyAhead))))
theorem Gd_X10_opened : gdA wsX10_opened := gd_cons (by decide +kernel) (gd_app (gd_all (ws := wsX10_opened_o1) (by decide +kernel)) (gd_app (gd_app (gd_app Gd_X100 Gd_X60) (gd_app Gd_X10 Gd_X10_isCrate)) (gd_app (gd_app Gd_X10_isDay Gd_X10_isFrom) Gd_X6_tell)))
theorem Gd_X11_lot : gdA wsX11_lot := gd_cons (by decide +kernel) (gd_app (gd_all (ws := wsX11_lot_o1) (by decide +kernel)) (gd_app (gd_app Gd_X110 Gd_X11_in) (gd_app Gd_X11_isDay Gd_X11_lotOf)))
theorem Gd_X11_drawn : gdA wsX11_drawn := gd_cons (by decide +kernel) (gd_app (gd_all (ws := wsX11_drawn_o1) (by decide +kernel)) (gd_app (gd_app Gd_X110 Gd_X11_isDay) (gd_app Gd_X11_in Gd_X11_drawnOn)))
theorem Gd_X11_often : gdA wsX11_often := gd_cons (by decide +kernel) (gd_app (gd_all (ws := wsX11_often_o1) (by decide +kernel)) (gd_app (gd_app (gd_app Gd_X110 Gd_X11_isCrate) Gd_X11_isDay) (gd_app Gd_X11_in Gd_X11_drawnOn)))
theorem Gd_X11_opened : gdA wsX11_opened := gd_cons (by decide +kernel) (gd_app (gd_all (ws := wsX11_opened_o1) (by decide +kernel)) (gd_app (gd_app Gd_X110 Gd_X11_isCrate) (gd_app Gd_X11_isDay Gd_X11_in)))
theorem ggL_law_X10_lot : GoodIn wsL_law wsX10_lot := goodIn_s (fun _ h => (wm_r (wm_r (wm_l (wm_r (wm_l (wm_r (wm_r h)))))))) Gd_X10_lot
theorem gL_law_X10_lot : GoodIn wsL_law (wsV RL 126 RX10 yX10_lot wsX10_lot) := goodIn_V (own := RL) (idx := 126) (C := RX10) (y := yX10_lot) (wm_l (wm_r (wm_l (wm_l (wm_l (wm_i 13 rfl)))))) (wm_l (wm_r (wm_l (wm_l (wm_l (wm_i 14 rfl)))))) (wm_l (wm_r (wm_l (wm_l (wm_l (wm_i 15 rfl)))))) (wm_l (wm_l (wm_l (wm_l (wm_l (wm_i 2 rfl)))))) ggL_law_X10_lot
theorem ggL_law_X11_lot : GoodIn wsL_law wsX11_lot := goodIn_s (fun _ h => (wm_r (wm_r (wm_l (wm_r (wm_r (wm_l (wm_l (wm_l h))))))))) Gd_X11_lot
theorem gL_law_X11_lot : GoodIn wsL_law (wsV RL 129 RX11 yX11_lot wsX11_lot) := goodIn_V (own := RL) (idx := 129) (C := RX11) (y := yX11_lot) (wm_l (wm_r (wm_l (wm_l (wm_l (wm_i 16 rfl)))))) (wm_l (wm_r (wm_l (wm_l (wm_l (wm_i 17 rfl)))))) (wm_l (wm_r (wm_l (wm_l (wm_l (wm_i 18 rfl)))))) (wm_l (wm_l (wm_l (wm_l (wm_l (wm_i 5 rfl)))))) ggL_law_X11_lot
theorem ggL_law_X10_drawn : GoodIn wsL_law wsX10_drawn := goodIn_s (fun _ h => (wm_r (wm_r (wm_l (wm_r (wm_r (wm_l (wm_l (wm_r h))))))))) Gd_X10_drawn
theorem gL_law_X10_drawn : GoodIn wsL_law (wsV RL 130 RX10 yX10_drawn wsX10_drawn) := goodIn_V (own := RL) (idx := 130) (C := RX10) (y := yX10_drawn) (wm_l (wm_r (wm_l (wm_l (wm_l (wm_i 19 rfl)))))) (wm_l (wm_r (wm_l (wm_l (wm_l (wm_i 20 rfl)))))) (wm_l (wm_r (wm_l (wm_l (wm_l (wm_i 21 rfl)))))) (wm_l (wm_l (wm_l (wm_l (wm_l (wm_i 2 rfl)))))) ggL_law_X10_drawn
theorem ggL_law_X11_drawn : GoodIn wsL_law wsX11_drawn := goodIn_s (fun _ h => (wm_r (wm_r (wm_l (wm_r (wm_r (wm_l (wm_r h)))))))) Gd_X11_drawn
theorem gL_law_X11_drawn : GoodIn wsL_law (wsV RL 133 RX11 yX11_drawn wsX11_drawn) := goodIn_V (own := RL) (idx := 133) (C := RX11) (y := yX11_drawn) (wm_l (wm_r (wm_l (wm_l (wm_l (wm_i 22 rfl)))))) (wm_l (wm_r (wm_l (wm_l (wm_l (wm_i 23 rfl)))))) (wm_l (wm_r (wm_l (wm_l (wm_r (wm_i 0 rfl)))))) (wm_l (wm_l (wm_l (wm_l (wm_l (wm_i 5 rfl)))))) ggL_law_X11_drawn
theorem ggL_law_X10_often : GoodIn wsL_law wsX10_often := goodIn_s (fun _ h => (wm_r (wm_r (wm_l (wm_r (wm_r (wm_r (wm_l h)))))))) Gd_X10_often
theorem gL_law_X10_often : GoodIn wsL_law (wsV RL 134 RX10 yX10_often wsX10_often) := goodIn_V (own := RL) (idx := 134) (C := RX10) (y := yX10_often) (wm_l (wm_r (wm_l (wm_l (wm_r (wm_i 1 rfl)))))) (wm_l (wm_r (wm_l (wm_l (wm_r (wm_i 2 rfl)))))) (wm_l (wm_r (wm_l (wm_l (wm_r (wm_i 3 rfl)))))) (wm_l (wm_l (wm_l (wm_l (wm_l (wm_i 2 rfl)))))) ggL_law_X10_often
theorem ggL_law_X11_often : GoodIn wsL_law wsX11_often := goodIn_s (fun _ h => (wm_r (wm_r (wm_l (wm_r (wm_r (wm_r (wm_r h)))))))) Gd_X11_often
theorem gL_law_X11_often : GoodIn wsL_law (wsV RL 137 RX11 yX11_often wsX11_often) := goodIn_V (own := RL) (idx := 137) (C := RX11) (y := yX11_often) (wm_l (wm_r (wm_l (wm_l (wm_r (wm_i 4 rfl)))))) (wm_l (wm_r (wm_l (wm_l (wm_r (wm_i 5 rfl)))))) (wm_l (wm_r (wm_l (wm_l (wm_r (wm_i 6 rfl)))))) (wm_l (wm_l (wm_l (wm_l (wm_l (wm_i 5 rfl)))))) ggL_law_X11_often
theorem ggL_law_X10_opened : GoodIn wsL_law wsX10_opened := goodIn_s (fun _ h => (wm_r (wm_r (wm_r (wm_l (wm_l (wm_l (wm_l (wm_l h))))))))) Gd_X10_opened
theorem gL_law_X10_opened : GoodIn wsL_law (wsV RL 138 RX10 yX10_opened wsX10_opened) := goodIn_V (own := RL) (idx := 138) (C := RX10) (y := yX10_opened) (wm_l (wm_r (wm_l (wm_l (wm_r (wm_i 7 rfl)))))) (wm_l (wm_r (wm_l (wm_l (wm_r (wm_i 8 rfl)))))) (wm_l (wm_r (wm_l (wm_l (wm_r (wm_i 9 rfl)))))) (wm_l (wm_l (wm_l (wm_l (wm_l (wm_i 2 rfl)))))) ggL_law_X10_opened
theorem ggL_law_X11_opened : GoodIn wsL_law wsX11_opened := goodIn_s (fun _ h => (wm_r (wm_r (wm_r (wm_l (wm_l (wm_l (wm_l (wm_r h))))))))) Gd_X11_opened
theorem gL_law_X11_opened : GoodIn wsL_law (wsV RL 141 RX11 yX11_opened wsX11_opened) := goodIn_V (own := RL) (idx := 141) (C := RX11) (y := yX11_opened) (wm_l (wm_r (wm_l (wm_l (wm_r (wm_i 10 rfl)))))) (wm_l (wm_r (wm_l (wm_l (wm_r (wm_i 11 rfl)))))) (wm_l (wm_r (wm_l (wm_l (wm_r (wm_i 12 rfl)))))) (wm_l (wm_l (wm_l (wm_l (wm_l (wm_i 5 rfl)))))) ggL_law_X11_opened
theorem sB_51 : dqA cL_law 1224 sL_51 := dq_next sB_50 24 rfl
theorem sB_52 : dqA cL_law 1248 sL_52 := dq_next sB_51 24 rfl
theorem sB_53 : dqA cL_law 1272 sL_53 := dq_next sB_52 24 rfl
theorem sB_54 : dqA cL_law 1296 sL_54 := dq_next sB_53 24 rfl
theorem sB_55 : dqA cL_law 1320 sL_55 := dq_next sB_54 24 rfl
theorem sB_56 : dqA cL_law 1344 sL_56 := dq_next sB_55 24 rfl
theorem sB_57 : dqA cL_law 1368 sL_57 := dq_next sB_56 24 rfl
theorem dL_law_1200 : decode cL_law 1200 = .ok (.aload_n 1, 1) := dL_law_all72.2.2.2.2.2.2.1
theorem dL_law_1201 : decode cL_law 1201 = .ok (.aload_n 0, 1) := dL_law_all72.2.2.2.2.2.2.2.1
theorem dL_law_1202 : decode cL_law 1202 = .ok (.iload_n 3, 1) := dL_law_all72.2.2.2.2.2.2.2.2.1
theorem dL_law_1203 : decode cL_law 1203 = .ok (.iconst 1, 1) := dL_law_all72.2.2.2.2.2.2.2.2.2.1
theorem dL_law_1204 : decode cL_law 1204 = .ok (.iadd, 1) := dL_law_all72.2.2.2.2.2.2.2.2.2.2.1
theorem dL_law_1205 : decode cL_law 1205 = .ok (.iaload, 1) := dL_law_all72.2.2.2.2.2.2.2.2.2.2.2
theorem dL_law_all73 : decode cL_law 1206 = .ok (.aload_n 0, 1) ∧ decode cL_law 1207 = .ok (.iload_n 3, 1) ∧ decode cL_law 1208 = .ok (.iconst 2, 1) ∧ decode cL_law 1209 = .ok (.iadd, 1) ∧ decode cL_law 1210 = .ok (.iaload, 1) ∧ decode cL_law 1211 = .ok (.aload_n 0, 1) ∧ decode cL_law 1212 = .ok (.iload_n 3, 1) ∧ decode cL_law 1213 = .ok (.iconst 3, 1) ∧ decode cL_law 1214 = .ok (.iadd, 1) ∧ decode cL_law 1215 = .ok (.iaload, 1) ∧ decode cL_law 1216 = .ok (.invokevirtual 126, 3) ∧ decode cL_law 1219 = .ok (.pop, 1) := ⟨dq_42 sB_50 6 rfl, dq_29 sB_50 7 rfl, dq_5 sB_50 8 rfl, dq_96 sB_50 9 rfl, dq_46 sB_50 10 rfl, dq_42 sB_50 11 rfl, dq_29 sB_50 12 rfl, dq_6 sB_50 13 rfl, dq_96 sB_50 14 rfl, dq_46 sB_50 15 rfl, dq_182 sB_50 16 rfl 126 (by decide), dq_87 sB_50 19 rfl⟩
theorem dL_law_1206 : decode cL_law 1206 = .ok (.aload_n 0, 1) := dL_law_all73.1
theorem dL_law_1207 : decode cL_law 1207 = .ok (.iload_n 3, 1) := dL_law_all73.2.1
theorem dL_law_1208 : decode cL_law 1208 = .ok (.iconst 2, 1) := dL_law_all73.2.2.1
theorem dL_law_1209 : decode cL_law 1209 = .ok (.iadd, 1) := dL_law_all73.2.2.2.1
theorem dL_law_1210 : decode cL_law 1210 = .ok (.iaload, 1) := dL_law_all73.2.2.2.2.1
theorem dL_law_1211 : decode cL_law 1211 = .ok (.aload_n 0, 1) := dL_law_all73.2.2.2.2.2.1
theorem dL_law_1212 : decode cL_law 1212 = .ok (.iload_n 3, 1) := dL_law_all73.2.2.2.2.2.2.1
theorem dL_law_1213 : decode cL_law 1213 = .ok (.iconst 3, 1) := dL_law_all73.2.2.2.2.2.2.2.1
theorem dL_law_1214 : decode cL_law 1214 = .ok (.iadd, 1) := dL_law_all73.2.2.2.2.2.2.2.2.1
theorem dL_law_1215 : decode cL_law 1215 = .ok (.iaload, 1) := dL_law_all73.2.2.2.2.2.2.2.2.2.1
theorem dL_law_1216 : decode cL_law 1216 = .ok (.invokevirtual 126, 3) := dL_law_all73.2.2.2.2.2.2.2.2.2.2.1
theorem dL_law_1219 : decode cL_law 1219 = .ok (.pop, 1) := dL_law_all73.2.2.2.2.2.2.2.2.2.2.2
theorem dL_law_all74 : decode cL_law 1220 = .ok (.aload_n 2, 1) ∧ decode cL_law 1221 = .ok (.aload_n 0, 1) ∧ decode cL_law 1222 = .ok (.iload_n 3, 1) ∧ decode cL_law 1223 = .ok (.iconst 1, 1) ∧ decode cL_law 1224 = .ok (.iadd, 1) ∧ decode cL_law 1225 = .ok (.iaload, 1) ∧ decode cL_law 1226 = .ok (.aload_n 0, 1) ∧ decode cL_law 1227 = .ok (.iload_n 3, 1) ∧ decode cL_law 1228 = .ok (.iconst 2, 1) ∧ decode cL_law 1229 = .ok (.iadd, 1) ∧ decode cL_law 1230 = .ok (.iaload, 1) ∧ decode cL_law 1231 = .ok (.aload_n 0, 1) := ⟨dq_44 sB_50 20 rfl, dq_42 sB_50 21 rfl, dq_29 sB_50 22 rfl, dq_4 sB_50 23 rfl, dq_96 sB_51 0 rfl, dq_46 sB_51 1 rfl, dq_42 sB_51 2 rfl, dq_29 sB_51 3 rfl, dq_5 sB_51 4 rfl, dq_96 sB_51 5 rfl, dq_46 sB_51 6 rfl, dq_42 sB_51 7 rfl⟩
theorem dL_law_1220 : decode cL_law 1220 = .ok (.aload_n 2, 1) := dL_law_all74.1
theorem dL_law_1221 : decode cL_law 1221 = .ok (.aload_n 0, 1) := dL_law_all74.2.1
theorem dL_law_1222 : decode cL_law 1222 = .ok (.iload_n 3, 1) := dL_law_all74.2.2.1
theorem dL_law_1223 : decode cL_law 1223 = .ok (.iconst 1, 1) := dL_law_all74.2.2.2.1
theorem dL_law_1224 : decode cL_law 1224 = .ok (.iadd, 1) := dL_law_all74.2.2.2.2.1
theorem dL_law_1225 : decode cL_law 1225 = .ok (.iaload, 1) := dL_law_all74.2.2.2.2.2.1
theorem dL_law_1226 : decode cL_law 1226 = .ok (.aload_n 0, 1) := dL_law_all74.2.2.2.2.2.2.1
theorem dL_law_1227 : decode cL_law 1227 = .ok (.iload_n 3, 1) := dL_law_all74.2.2.2.2.2.2.2.1
theorem dL_law_1228 : decode cL_law 1228 = .ok (.iconst 2, 1) := dL_law_all74.2.2.2.2.2.2.2.2.1
theorem dL_law_1229 : decode cL_law 1229 = .ok (.iadd, 1) := dL_law_all74.2.2.2.2.2.2.2.2.2.1
theorem dL_law_1230 : decode cL_law 1230 = .ok (.iaload, 1) := dL_law_all74.2.2.2.2.2.2.2.2.2.2.1
theorem dL_law_1231 : decode cL_law 1231 = .ok (.aload_n 0, 1) := dL_law_all74.2.2.2.2.2.2.2.2.2.2.2
theorem dL_law_all75 : decode cL_law 1232 = .ok (.iload_n 3, 1) ∧ decode cL_law 1233 = .ok (.iconst 3, 1) ∧ decode cL_law 1234 = .ok (.iadd, 1) ∧ decode cL_law 1235 = .ok (.iaload, 1) ∧ decode cL_law 1236 = .ok (.invokevirtual 129, 3) ∧ decode cL_law 1239 = .ok (.pop, 1) ∧ decode cL_law 1240 = .ok (.goto 412, 3) ∧ decode cL_law 1243 = .ok (.aload_n 1, 1) ∧ decode cL_law 1244 = .ok (.aload_n 0, 1) ∧ decode cL_law 1245 = .ok (.iload_n 3, 1) ∧ decode cL_law 1246 = .ok (.iconst 1, 1) ∧ decode cL_law 1247 = .ok (.iadd, 1) := ⟨dq_29 sB_51 8 rfl, dq_6 sB_51 9 rfl, dq_96 sB_51 10 rfl, dq_46 sB_51 11 rfl, dq_182 sB_51 12 rfl 129 (by decide), dq_87 sB_51 15 rfl, dq_167 sB_51 16 rfl 412 (by decide), dq_43 sB_51 19 rfl, dq_42 sB_51 20 rfl, dq_29 sB_51 21 rfl, dq_4 sB_51 22 rfl, dq_96 sB_51 23 rfl⟩
theorem dL_law_1232 : decode cL_law 1232 = .ok (.iload_n 3, 1) := dL_law_all75.1
theorem dL_law_1233 : decode cL_law 1233 = .ok (.iconst 3, 1) := dL_law_all75.2.1
theorem dL_law_1234 : decode cL_law 1234 = .ok (.iadd, 1) := dL_law_all75.2.2.1
theorem dL_law_1235 : decode cL_law 1235 = .ok (.iaload, 1) := dL_law_all75.2.2.2.1
theorem dL_law_1236 : decode cL_law 1236 = .ok (.invokevirtual 129, 3) := dL_law_all75.2.2.2.2.1
theorem dL_law_1239 : decode cL_law 1239 = .ok (.pop, 1) := dL_law_all75.2.2.2.2.2.1
theorem dL_law_1240 : decode cL_law 1240 = .ok (.goto 412, 3) := dL_law_all75.2.2.2.2.2.2.1
theorem dL_law_1243 : decode cL_law 1243 = .ok (.aload_n 1, 1) := dL_law_all75.2.2.2.2.2.2.2.1
theorem dL_law_1244 : decode cL_law 1244 = .ok (.aload_n 0, 1) := dL_law_all75.2.2.2.2.2.2.2.2.1
theorem dL_law_1245 : decode cL_law 1245 = .ok (.iload_n 3, 1) := dL_law_all75.2.2.2.2.2.2.2.2.2.1
theorem dL_law_1246 : decode cL_law 1246 = .ok (.iconst 1, 1) := dL_law_all75.2.2.2.2.2.2.2.2.2.2.1
theorem dL_law_1247 : decode cL_law 1247 = .ok (.iadd, 1) := dL_law_all75.2.2.2.2.2.2.2.2.2.2.2
theorem dL_law_all76 : decode cL_law 1248 = .ok (.iaload, 1) ∧ decode cL_law 1249 = .ok (.aload_n 0, 1) ∧ decode cL_law 1250 = .ok (.iload_n 3, 1) ∧ decode cL_law 1251 = .ok (.iconst 2, 1) ∧ decode cL_law 1252 = .ok (.iadd, 1) ∧ decode cL_law 1253 = .ok (.iaload, 1) ∧ decode cL_law 1254 = .ok (.invokevirtual 130, 3) ∧ decode cL_law 1257 = .ok (.pop, 1) ∧ decode cL_law 1258 = .ok (.aload_n 2, 1) ∧ decode cL_law 1259 = .ok (.aload_n 0, 1) ∧ decode cL_law 1260 = .ok (.iload_n 3, 1) ∧ decode cL_law 1261 = .ok (.iconst 1, 1) := ⟨dq_46 sB_52 0 rfl, dq_42 sB_52 1 rfl, dq_29 sB_52 2 rfl, dq_5 sB_52 3 rfl, dq_96 sB_52 4 rfl, dq_46 sB_52 5 rfl, dq_182 sB_52 6 rfl 130 (by decide), dq_87 sB_52 9 rfl, dq_44 sB_52 10 rfl, dq_42 sB_52 11 rfl, dq_29 sB_52 12 rfl, dq_4 sB_52 13 rfl⟩
theorem dL_law_1248 : decode cL_law 1248 = .ok (.iaload, 1) := dL_law_all76.1
theorem dL_law_1249 : decode cL_law 1249 = .ok (.aload_n 0, 1) := dL_law_all76.2.1
theorem dL_law_1250 : decode cL_law 1250 = .ok (.iload_n 3, 1) := dL_law_all76.2.2.1
theorem dL_law_1251 : decode cL_law 1251 = .ok (.iconst 2, 1) := dL_law_all76.2.2.2.1
theorem dL_law_1252 : decode cL_law 1252 = .ok (.iadd, 1) := dL_law_all76.2.2.2.2.1
theorem dL_law_1253 : decode cL_law 1253 = .ok (.iaload, 1) := dL_law_all76.2.2.2.2.2.1
theorem dL_law_1254 : decode cL_law 1254 = .ok (.invokevirtual 130, 3) := dL_law_all76.2.2.2.2.2.2.1
theorem dL_law_1257 : decode cL_law 1257 = .ok (.pop, 1) := dL_law_all76.2.2.2.2.2.2.2.1
theorem dL_law_1258 : decode cL_law 1258 = .ok (.aload_n 2, 1) := dL_law_all76.2.2.2.2.2.2.2.2.1
theorem dL_law_1259 : decode cL_law 1259 = .ok (.aload_n 0, 1) := dL_law_all76.2.2.2.2.2.2.2.2.2.1
theorem dL_law_1260 : decode cL_law 1260 = .ok (.iload_n 3, 1) := dL_law_all76.2.2.2.2.2.2.2.2.2.2.1
theorem dL_law_1261 : decode cL_law 1261 = .ok (.iconst 1, 1) := dL_law_all76.2.2.2.2.2.2.2.2.2.2.2
theorem dL_law_all77 : decode cL_law 1262 = .ok (.iadd, 1) ∧ decode cL_law 1263 = .ok (.iaload, 1) ∧ decode cL_law 1264 = .ok (.aload_n 0, 1) ∧ decode cL_law 1265 = .ok (.iload_n 3, 1) ∧ decode cL_law 1266 = .ok (.iconst 2, 1) ∧ decode cL_law 1267 = .ok (.iadd, 1) ∧ decode cL_law 1268 = .ok (.iaload, 1) ∧ decode cL_law 1269 = .ok (.invokevirtual 133, 3) ∧ decode cL_law 1272 = .ok (.pop, 1) ∧ decode cL_law 1273 = .ok (.goto 379, 3) ∧ decode cL_law 1276 = .ok (.aload_n 1, 1) ∧ decode cL_law 1277 = .ok (.aload_n 0, 1) := ⟨dq_96 sB_52 14 rfl, dq_46 sB_52 15 rfl, dq_42 sB_52 16 rfl, dq_29 sB_52 17 rfl, dq_5 sB_52 18 rfl, dq_96 sB_52 19 rfl, dq_46 sB_52 20 rfl, dq_182 sB_52 21 rfl 133 (by decide), dq_87 sB_53 0 rfl, dq_167 sB_53 1 rfl 379 (by decide), dq_43 sB_53 4 rfl, dq_42 sB_53 5 rfl⟩
theorem dL_law_1262 : decode cL_law 1262 = .ok (.iadd, 1) := dL_law_all77.1
theorem dL_law_1263 : decode cL_law 1263 = .ok (.iaload, 1) := dL_law_all77.2.1
theorem dL_law_1264 : decode cL_law 1264 = .ok (.aload_n 0, 1) := dL_law_all77.2.2.1
theorem dL_law_1265 : decode cL_law 1265 = .ok (.iload_n 3, 1) := dL_law_all77.2.2.2.1
theorem dL_law_1266 : decode cL_law 1266 = .ok (.iconst 2, 1) := dL_law_all77.2.2.2.2.1
theorem dL_law_1267 : decode cL_law 1267 = .ok (.iadd, 1) := dL_law_all77.2.2.2.2.2.1
theorem dL_law_1268 : decode cL_law 1268 = .ok (.iaload, 1) := dL_law_all77.2.2.2.2.2.2.1
theorem dL_law_1269 : decode cL_law 1269 = .ok (.invokevirtual 133, 3) := dL_law_all77.2.2.2.2.2.2.2.1
theorem dL_law_1272 : decode cL_law 1272 = .ok (.pop, 1) := dL_law_all77.2.2.2.2.2.2.2.2.1
theorem dL_law_1273 : decode cL_law 1273 = .ok (.goto 379, 3) := dL_law_all77.2.2.2.2.2.2.2.2.2.1
theorem dL_law_1276 : decode cL_law 1276 = .ok (.aload_n 1, 1) := dL_law_all77.2.2.2.2.2.2.2.2.2.2.1
theorem dL_law_1277 : decode cL_law 1277 = .ok (.aload_n 0, 1) := dL_law_all77.2.2.2.2.2.2.2.2.2.2.2
theorem dL_law_all78 : decode cL_law 1278 = .ok (.iload_n 3, 1) ∧ decode cL_law 1279 = .ok (.iconst 1, 1) ∧ decode cL_law 1280 = .ok (.iadd, 1) ∧ decode cL_law 1281 = .ok (.iaload, 1) ∧ decode cL_law 1282 = .ok (.aload_n 0, 1) ∧ decode cL_law 1283 = .ok (.iload_n 3, 1) ∧ decode cL_law 1284 = .ok (.iconst 2, 1) ∧ decode cL_law 1285 = .ok (.iadd, 1) ∧ decode cL_law 1286 = .ok (.iaload, 1) ∧ decode cL_law 1287 = .ok (.aload_n 0, 1) ∧ decode cL_law 1288 = .ok (.iload_n 3, 1) ∧ decode cL_law 1289 = .ok (.iconst 3, 1) := ⟨dq_29 sB_53 6 rfl, dq_4 sB_53 7 rfl, dq_96 sB_53 8 rfl, dq_46 sB_53 9 rfl, dq_42 sB_53 10 rfl, dq_29 sB_53 11 rfl, dq_5 sB_53 12 rfl, dq_96 sB_53 13 rfl, dq_46 sB_53 14 rfl, dq_42 sB_53 15 rfl, dq_29 sB_53 16 rfl, dq_6 sB_53 17 rfl⟩
theorem dL_law_1278 : decode cL_law 1278 = .ok (.iload_n 3, 1) := dL_law_all78.1
theorem dL_law_1279 : decode cL_law 1279 = .ok (.iconst 1, 1) := dL_law_all78.2.1
theorem dL_law_1280 : decode cL_law 1280 = .ok (.iadd, 1) := dL_law_all78.2.2.1
theorem dL_law_1281 : decode cL_law 1281 = .ok (.iaload, 1) := dL_law_all78.2.2.2.1
theorem dL_law_1282 : decode cL_law 1282 = .ok (.aload_n 0, 1) := dL_law_all78.2.2.2.2.1
theorem dL_law_1283 : decode cL_law 1283 = .ok (.iload_n 3, 1) := dL_law_all78.2.2.2.2.2.1
theorem dL_law_1284 : decode cL_law 1284 = .ok (.iconst 2, 1) := dL_law_all78.2.2.2.2.2.2.1
theorem dL_law_1285 : decode cL_law 1285 = .ok (.iadd, 1) := dL_law_all78.2.2.2.2.2.2.2.1
theorem dL_law_1286 : decode cL_law 1286 = .ok (.iaload, 1) := dL_law_all78.2.2.2.2.2.2.2.2.1
theorem dL_law_1287 : decode cL_law 1287 = .ok (.aload_n 0, 1) := dL_law_all78.2.2.2.2.2.2.2.2.2.1
theorem dL_law_1288 : decode cL_law 1288 = .ok (.iload_n 3, 1) := dL_law_all78.2.2.2.2.2.2.2.2.2.2.1
theorem dL_law_1289 : decode cL_law 1289 = .ok (.iconst 3, 1) := dL_law_all78.2.2.2.2.2.2.2.2.2.2.2
theorem dL_law_all79 : decode cL_law 1290 = .ok (.iadd, 1) ∧ decode cL_law 1291 = .ok (.iaload, 1) ∧ decode cL_law 1292 = .ok (.aload_n 0, 1) ∧ decode cL_law 1293 = .ok (.iload_n 3, 1) ∧ decode cL_law 1294 = .ok (.iconst 4, 1) ∧ decode cL_law 1295 = .ok (.iadd, 1) ∧ decode cL_law 1296 = .ok (.iaload, 1) ∧ decode cL_law 1297 = .ok (.invokevirtual 134, 3) ∧ decode cL_law 1300 = .ok (.pop, 1) ∧ decode cL_law 1301 = .ok (.aload_n 2, 1) ∧ decode cL_law 1302 = .ok (.aload_n 0, 1) ∧ decode cL_law 1303 = .ok (.iload_n 3, 1) := ⟨dq_96 sB_53 18 rfl, dq_46 sB_53 19 rfl, dq_42 sB_53 20 rfl, dq_29 sB_53 21 rfl, dq_7 sB_53 22 rfl, dq_96 sB_53 23 rfl, dq_46 sB_54 0 rfl, dq_182 sB_54 1 rfl 134 (by decide), dq_87 sB_54 4 rfl, dq_44 sB_54 5 rfl, dq_42 sB_54 6 rfl, dq_29 sB_54 7 rfl⟩
theorem dL_law_1290 : decode cL_law 1290 = .ok (.iadd, 1) := dL_law_all79.1
theorem dL_law_1291 : decode cL_law 1291 = .ok (.iaload, 1) := dL_law_all79.2.1
theorem dL_law_1292 : decode cL_law 1292 = .ok (.aload_n 0, 1) := dL_law_all79.2.2.1
theorem dL_law_1293 : decode cL_law 1293 = .ok (.iload_n 3, 1) := dL_law_all79.2.2.2.1
theorem dL_law_1294 : decode cL_law 1294 = .ok (.iconst 4, 1) := dL_law_all79.2.2.2.2.1
theorem dL_law_1295 : decode cL_law 1295 = .ok (.iadd, 1) := dL_law_all79.2.2.2.2.2.1
theorem dL_law_1296 : decode cL_law 1296 = .ok (.iaload, 1) := dL_law_all79.2.2.2.2.2.2.1
theorem dL_law_1297 : decode cL_law 1297 = .ok (.invokevirtual 134, 3) := dL_law_all79.2.2.2.2.2.2.2.1
theorem dL_law_1300 : decode cL_law 1300 = .ok (.pop, 1) := dL_law_all79.2.2.2.2.2.2.2.2.1
theorem dL_law_1301 : decode cL_law 1301 = .ok (.aload_n 2, 1) := dL_law_all79.2.2.2.2.2.2.2.2.2.1
theorem dL_law_1302 : decode cL_law 1302 = .ok (.aload_n 0, 1) := dL_law_all79.2.2.2.2.2.2.2.2.2.2.1
theorem dL_law_1303 : decode cL_law 1303 = .ok (.iload_n 3, 1) := dL_law_all79.2.2.2.2.2.2.2.2.2.2.2
theorem dL_law_all80 : decode cL_law 1304 = .ok (.iconst 1, 1) ∧ decode cL_law 1305 = .ok (.iadd, 1) ∧ decode cL_law 1306 = .ok (.iaload, 1) ∧ decode cL_law 1307 = .ok (.aload_n 0, 1) ∧ decode cL_law 1308 = .ok (.iload_n 3, 1) ∧ decode cL_law 1309 = .ok (.iconst 2, 1) ∧ decode cL_law 1310 = .ok (.iadd, 1) ∧ decode cL_law 1311 = .ok (.iaload, 1) ∧ decode cL_law 1312 = .ok (.aload_n 0, 1) ∧ decode cL_law 1313 = .ok (.iload_n 3, 1) ∧ decode cL_law 1314 = .ok (.iconst 3, 1) ∧ decode cL_law 1315 = .ok (.iadd, 1) := ⟨dq_4 sB_54 8 rfl, dq_96 sB_54 9 rfl, dq_46 sB_54 10 rfl, dq_42 sB_54 11 rfl, dq_29 sB_54 12 rfl, dq_5 sB_54 13 rfl, dq_96 sB_54 14 rfl, dq_46 sB_54 15 rfl, dq_42 sB_54 16 rfl, dq_29 sB_54 17 rfl, dq_6 sB_54 18 rfl, dq_96 sB_54 19 rfl⟩
theorem dL_law_1304 : decode cL_law 1304 = .ok (.iconst 1, 1) := dL_law_all80.1
theorem dL_law_1305 : decode cL_law 1305 = .ok (.iadd, 1) := dL_law_all80.2.1
theorem dL_law_1306 : decode cL_law 1306 = .ok (.iaload, 1) := dL_law_all80.2.2.1
theorem dL_law_1307 : decode cL_law 1307 = .ok (.aload_n 0, 1) := dL_law_all80.2.2.2.1
theorem dL_law_1308 : decode cL_law 1308 = .ok (.iload_n 3, 1) := dL_law_all80.2.2.2.2.1
theorem dL_law_1309 : decode cL_law 1309 = .ok (.iconst 2, 1) := dL_law_all80.2.2.2.2.2.1
theorem dL_law_1310 : decode cL_law 1310 = .ok (.iadd, 1) := dL_law_all80.2.2.2.2.2.2.1
theorem dL_law_1311 : decode cL_law 1311 = .ok (.iaload, 1) := dL_law_all80.2.2.2.2.2.2.2.1
theorem dL_law_1312 : decode cL_law 1312 = .ok (.aload_n 0, 1) := dL_law_all80.2.2.2.2.2.2.2.2.1
theorem dL_law_1313 : decode cL_law 1313 = .ok (.iload_n 3, 1) := dL_law_all80.2.2.2.2.2.2.2.2.2.1
theorem dL_law_1314 : decode cL_law 1314 = .ok (.iconst 3, 1) := dL_law_all80.2.2.2.2.2.2.2.2.2.2.1
theorem dL_law_1315 : decode cL_law 1315 = .ok (.iadd, 1) := dL_law_all80.2.2.2.2.2.2.2.2.2.2.2
theorem dL_law_all81 : decode cL_law 1316 = .ok (.iaload, 1) ∧ decode cL_law 1317 = .ok (.aload_n 0, 1) ∧ decode cL_law 1318 = .ok (.iload_n 3, 1) ∧ decode cL_law 1319 = .ok (.iconst 4, 1) ∧ decode cL_law 1320 = .ok (.iadd, 1) ∧ decode cL_law 1321 = .ok (.iaload, 1) ∧ decode cL_law 1322 = .ok (.invokevirtual 137, 3) ∧ decode cL_law 1325 = .ok (.pop, 1) ∧ decode cL_law 1326 = .ok (.goto 326, 3) ∧ decode cL_law 1329 = .ok (.aload_n 1, 1) ∧ decode cL_law 1330 = .ok (.aload_n 0, 1) ∧ decode cL_law 1331 = .ok (.iload_n 3, 1) := ⟨dq_46 sB_54 20 rfl, dq_42 sB_54 21 rfl, dq_29 sB_54 22 rfl, dq_7 sB_54 23 rfl, dq_96 sB_55 0 rfl, dq_46 sB_55 1 rfl, dq_182 sB_55 2 rfl 137 (by decide), dq_87 sB_55 5 rfl, dq_167 sB_55 6 rfl 326 (by decide), dq_43 sB_55 9 rfl, dq_42 sB_55 10 rfl, dq_29 sB_55 11 rfl⟩
theorem dL_law_1316 : decode cL_law 1316 = .ok (.iaload, 1) := dL_law_all81.1
theorem dL_law_1317 : decode cL_law 1317 = .ok (.aload_n 0, 1) := dL_law_all81.2.1
theorem dL_law_1318 : decode cL_law 1318 = .ok (.iload_n 3, 1) := dL_law_all81.2.2.1
theorem dL_law_1319 : decode cL_law 1319 = .ok (.iconst 4, 1) := dL_law_all81.2.2.2.1
theorem dL_law_1320 : decode cL_law 1320 = .ok (.iadd, 1) := dL_law_all81.2.2.2.2.1
theorem dL_law_1321 : decode cL_law 1321 = .ok (.iaload, 1) := dL_law_all81.2.2.2.2.2.1
theorem dL_law_1322 : decode cL_law 1322 = .ok (.invokevirtual 137, 3) := dL_law_all81.2.2.2.2.2.2.1
theorem dL_law_1325 : decode cL_law 1325 = .ok (.pop, 1) := dL_law_all81.2.2.2.2.2.2.2.1
theorem dL_law_1326 : decode cL_law 1326 = .ok (.goto 326, 3) := dL_law_all81.2.2.2.2.2.2.2.2.1
theorem dL_law_1329 : decode cL_law 1329 = .ok (.aload_n 1, 1) := dL_law_all81.2.2.2.2.2.2.2.2.2.1
theorem dL_law_1330 : decode cL_law 1330 = .ok (.aload_n 0, 1) := dL_law_all81.2.2.2.2.2.2.2.2.2.2.1
theorem dL_law_1331 : decode cL_law 1331 = .ok (.iload_n 3, 1) := dL_law_all81.2.2.2.2.2.2.2.2.2.2.2
theorem dL_law_all82 : decode cL_law 1332 = .ok (.iconst 1, 1) ∧ decode cL_law 1333 = .ok (.iadd, 1) ∧ decode cL_law 1334 = .ok (.iaload, 1) ∧ decode cL_law 1335 = .ok (.aload_n 0, 1) ∧ decode cL_law 1336 = .ok (.iload_n 3, 1) ∧ decode cL_law 1337 = .ok (.iconst 2, 1) ∧ decode cL_law 1338 = .ok (.iadd, 1) ∧ decode cL_law 1339 = .ok (.iaload, 1) ∧ decode cL_law 1340 = .ok (.aload_n 0, 1) ∧ decode cL_law 1341 = .ok (.iload_n 3, 1) ∧ decode cL_law 1342 = .ok (.iconst 3, 1) ∧ decode cL_law 1343 = .ok (.iadd, 1) := ⟨dq_4 sB_55 12 rfl, dq_96 sB_55 13 rfl, dq_46 sB_55 14 rfl, dq_42 sB_55 15 rfl, dq_29 sB_55 16 rfl, dq_5 sB_55 17 rfl, dq_96 sB_55 18 rfl, dq_46 sB_55 19 rfl, dq_42 sB_55 20 rfl, dq_29 sB_55 21 rfl, dq_6 sB_55 22 rfl, dq_96 sB_55 23 rfl⟩
theorem dL_law_1332 : decode cL_law 1332 = .ok (.iconst 1, 1) := dL_law_all82.1
theorem dL_law_1333 : decode cL_law 1333 = .ok (.iadd, 1) := dL_law_all82.2.1
theorem dL_law_1334 : decode cL_law 1334 = .ok (.iaload, 1) := dL_law_all82.2.2.1
theorem dL_law_1335 : decode cL_law 1335 = .ok (.aload_n 0, 1) := dL_law_all82.2.2.2.1
theorem dL_law_1336 : decode cL_law 1336 = .ok (.iload_n 3, 1) := dL_law_all82.2.2.2.2.1
theorem dL_law_1337 : decode cL_law 1337 = .ok (.iconst 2, 1) := dL_law_all82.2.2.2.2.2.1
theorem dL_law_1338 : decode cL_law 1338 = .ok (.iadd, 1) := dL_law_all82.2.2.2.2.2.2.1
theorem dL_law_1339 : decode cL_law 1339 = .ok (.iaload, 1) := dL_law_all82.2.2.2.2.2.2.2.1
theorem dL_law_1340 : decode cL_law 1340 = .ok (.aload_n 0, 1) := dL_law_all82.2.2.2.2.2.2.2.2.1
theorem dL_law_1341 : decode cL_law 1341 = .ok (.iload_n 3, 1) := dL_law_all82.2.2.2.2.2.2.2.2.2.1
theorem dL_law_1342 : decode cL_law 1342 = .ok (.iconst 3, 1) := dL_law_all82.2.2.2.2.2.2.2.2.2.2.1
theorem dL_law_1343 : decode cL_law 1343 = .ok (.iadd, 1) := dL_law_all82.2.2.2.2.2.2.2.2.2.2.2
theorem dL_law_all83 : decode cL_law 1344 = .ok (.iaload, 1) ∧ decode cL_law 1345 = .ok (.aload_n 0, 1) ∧ decode cL_law 1346 = .ok (.iload_n 3, 1) ∧ decode cL_law 1347 = .ok (.iconst 4, 1) ∧ decode cL_law 1348 = .ok (.iadd, 1) ∧ decode cL_law 1349 = .ok (.iaload, 1) ∧ decode cL_law 1350 = .ok (.invokevirtual 138, 3) ∧ decode cL_law 1353 = .ok (.pop, 1) ∧ decode cL_law 1354 = .ok (.aload_n 2, 1) ∧ decode cL_law 1355 = .ok (.aload_n 0, 1) ∧ decode cL_law 1356 = .ok (.iload_n 3, 1) ∧ decode cL_law 1357 = .ok (.iconst 1, 1) := ⟨dq_46 sB_56 0 rfl, dq_42 sB_56 1 rfl, dq_29 sB_56 2 rfl, dq_7 sB_56 3 rfl, dq_96 sB_56 4 rfl, dq_46 sB_56 5 rfl, dq_182 sB_56 6 rfl 138 (by decide), dq_87 sB_56 9 rfl, dq_44 sB_56 10 rfl, dq_42 sB_56 11 rfl, dq_29 sB_56 12 rfl, dq_4 sB_56 13 rfl⟩
theorem dL_law_1344 : decode cL_law 1344 = .ok (.iaload, 1) := dL_law_all83.1
theorem dL_law_1345 : decode cL_law 1345 = .ok (.aload_n 0, 1) := dL_law_all83.2.1
theorem dL_law_1346 : decode cL_law 1346 = .ok (.iload_n 3, 1) := dL_law_all83.2.2.1
theorem dL_law_1347 : decode cL_law 1347 = .ok (.iconst 4, 1) := dL_law_all83.2.2.2.1
theorem dL_law_1348 : decode cL_law 1348 = .ok (.iadd, 1) := dL_law_all83.2.2.2.2.1
theorem dL_law_1349 : decode cL_law 1349 = .ok (.iaload, 1) := dL_law_all83.2.2.2.2.2.1
theorem dL_law_1350 : decode cL_law 1350 = .ok (.invokevirtual 138, 3) := dL_law_all83.2.2.2.2.2.2.1
theorem dL_law_1353 : decode cL_law 1353 = .ok (.pop, 1) := dL_law_all83.2.2.2.2.2.2.2.1
theorem dL_law_1354 : decode cL_law 1354 = .ok (.aload_n 2, 1) := dL_law_all83.2.2.2.2.2.2.2.2.1
theorem dL_law_1355 : decode cL_law 1355 = .ok (.aload_n 0, 1) := dL_law_all83.2.2.2.2.2.2.2.2.2.1
theorem dL_law_1356 : decode cL_law 1356 = .ok (.iload_n 3, 1) := dL_law_all83.2.2.2.2.2.2.2.2.2.2.1
theorem dL_law_1357 : decode cL_law 1357 = .ok (.iconst 1, 1) := dL_law_all83.2.2.2.2.2.2.2.2.2.2.2
theorem dL_law_all84 : decode cL_law 1358 = .ok (.iadd, 1) ∧ decode cL_law 1359 = .ok (.iaload, 1) ∧ decode cL_law 1360 = .ok (.aload_n 0, 1) ∧ decode cL_law 1361 = .ok (.iload_n 3, 1) ∧ decode cL_law 1362 = .ok (.iconst 2, 1) ∧ decode cL_law 1363 = .ok (.iadd, 1) ∧ decode cL_law 1364 = .ok (.iaload, 1) ∧ decode cL_law 1365 = .ok (.aload_n 0, 1) ∧ decode cL_law 1366 = .ok (.iload_n 3, 1) ∧ decode cL_law 1367 = .ok (.iconst 3, 1) ∧ decode cL_law 1368 = .ok (.iadd, 1) ∧ decode cL_law 1369 = .ok (.iaload, 1) := ⟨dq_96 sB_56 14 rfl, dq_46 sB_56 15 rfl, dq_42 sB_56 16 rfl, dq_29 sB_56 17 rfl, dq_5 sB_56 18 rfl, dq_96 sB_56 19 rfl, dq_46 sB_56 20 rfl, dq_42 sB_56 21 rfl, dq_29 sB_56 22 rfl, dq_6 sB_56 23 rfl, dq_96 sB_57 0 rfl, dq_46 sB_57 1 rfl⟩
theorem dL_law_1358 : decode cL_law 1358 = .ok (.iadd, 1) := dL_law_all84.1
theorem dL_law_1359 : decode cL_law 1359 = .ok (.iaload, 1) := dL_law_all84.2.1
theorem dL_law_1360 : decode cL_law 1360 = .ok (.aload_n 0, 1) := dL_law_all84.2.2.1
theorem dL_law_1361 : decode cL_law 1361 = .ok (.iload_n 3, 1) := dL_law_all84.2.2.2.1
theorem dL_law_1362 : decode cL_law 1362 = .ok (.iconst 2, 1) := dL_law_all84.2.2.2.2.1
theorem dL_law_1363 : decode cL_law 1363 = .ok (.iadd, 1) := dL_law_all84.2.2.2.2.2.1
theorem dL_law_1364 : decode cL_law 1364 = .ok (.iaload, 1) := dL_law_all84.2.2.2.2.2.2.1
theorem dL_law_1365 : decode cL_law 1365 = .ok (.aload_n 0, 1) := dL_law_all84.2.2.2.2.2.2.2.1
theorem dL_law_1366 : decode cL_law 1366 = .ok (.iload_n 3, 1) := dL_law_all84.2.2.2.2.2.2.2.2.1
theorem dL_law_1367 : decode cL_law 1367 = .ok (.iconst 3, 1) := dL_law_all84.2.2.2.2.2.2.2.2.2.1
theorem dL_law_1368 : decode cL_law 1368 = .ok (.iadd, 1) := dL_law_all84.2.2.2.2.2.2.2.2.2.2.1
theorem dL_law_1369 : decode cL_law 1369 = .ok (.iaload, 1) := dL_law_all84.2.2.2.2.2.2.2.2.2.2.2
theorem dL_law_all85 : decode cL_law 1370 = .ok (.aload_n 0, 1) ∧ decode cL_law 1371 = .ok (.iload_n 3, 1) ∧ decode cL_law 1372 = .ok (.iconst 4, 1) ∧ decode cL_law 1373 = .ok (.iadd, 1) ∧ decode cL_law 1374 = .ok (.iaload, 1) ∧ decode cL_law 1375 = .ok (.invokevirtual 141, 3) ∧ decode cL_law 1378 = .ok (.pop, 1) ∧ decode cL_law 1379 = .ok (.goto 273, 3) ∧ decode cL_law 1382 = .ok (.aload_n 1, 1) ∧ decode cL_law 1383 = .ok (.aload_n 0, 1) ∧ decode cL_law 1384 = .ok (.iload_n 3, 1) ∧ decode cL_law 1385 = .ok (.iconst 1, 1) := ⟨dq_42 sB_57 2 rfl, dq_29 sB_57 3 rfl, dq_7 sB_57 4 rfl, dq_96 sB_57 5 rfl, dq_46 sB_57 6 rfl, dq_182 sB_57 7 rfl 141 (by decide), dq_87 sB_57 10 rfl, dq_167 sB_57 11 rfl 273 (by decide), dq_43 sB_57 14 rfl, dq_42 sB_57 15 rfl, dq_29 sB_57 16 rfl, dq_4 sB_57 17 rfl⟩
theorem dL_law_1370 : decode cL_law 1370 = .ok (.aload_n 0, 1) := dL_law_all85.1
theorem dL_law_1371 : decode cL_law 1371 = .ok (.iload_n 3, 1) := dL_law_all85.2.1
theorem dL_law_1372 : decode cL_law 1372 = .ok (.iconst 4, 1) := dL_law_all85.2.2.1
theorem dL_law_1373 : decode cL_law 1373 = .ok (.iadd, 1) := dL_law_all85.2.2.2.1
theorem dL_law_1374 : decode cL_law 1374 = .ok (.iaload, 1) := dL_law_all85.2.2.2.2.1
theorem dL_law_1375 : decode cL_law 1375 = .ok (.invokevirtual 141, 3) := dL_law_all85.2.2.2.2.2.1
theorem dL_law_1378 : decode cL_law 1378 = .ok (.pop, 1) := dL_law_all85.2.2.2.2.2.2.1
theorem dL_law_1379 : decode cL_law 1379 = .ok (.goto 273, 3) := dL_law_all85.2.2.2.2.2.2.2.1
set_option maxHeartbeats 4000000 in
set_option maxRecDepth 100000 in
theorem law_case_24 {p : Program} {l : Launch} {e : Env} {s : State} {m : MethodId} {below : List Frame} {meth : Method} {c : Code} {D : va_G} {cI cY cJ cQ : ClassId} {b L aK aV : Nat} {xs : Nat → Int32} {ad rw md : Nat → Nat} {sd i : Int32} {nx : Nat → Int32} {fx rs : Nat → Nat → Int32} {lo : Nat → Int64} {ny : Nat → Int32} {fy : Nat → Nat → Int32} {fl : Nat → Int64} {H : Heap} {locs : List Loc} {ls : Array Slot} (C0 : lawC p s m meth c b L xs D cI cY cJ cQ aK aV) (I : inv nx fx rs ny fy) (hP : va_P D vwCl (wX ad rw sd cI cY cJ cQ nx fx rs lo ++ wM md sd cI cY cJ cQ ny fy fl) H) (hD : va_D (fun q : Nat => s.heap.size ≤ q) (wX ad rw sd cI cY cJ cQ nx fx rs lo ++ wM md sd cI cY cJ cQ ny fy fl)) (hS : va_S (fun q : Nat => s.heap.size ≤ q) s.heap H locs) (hl : lv_has ls 4 [(0, .ref b), (1, .ref (ad 0)), (2, .ref (md 64)), (3, .int i)]) (hi1 : 1 ≤ i.toInt) (hi2 : i.toInt + 5 < L) (kk : ∀ (nx : Nat → Int32) (fx rs : Nat → Nat → Int32) (lo : Nat → Int64) (ny : Nat → Int32) (fy : Nat → Nat → Int32) (fl : Nat → Int64) (H : Heap) (locs : List Loc) (ls : Array Slot), inv nx fx rs ny fy → va_P D vwCl (wX ad rw sd cI cY cJ cQ nx fx rs lo ++ wM md sd cI cY cJ cQ ny fy fl) H → va_D (fun q : Nat => s.heap.size ≤ q) (wX ad rw sd cI cY cJ cQ nx fx rs lo ++ wM md sd cI cY cJ cQ ny fy fl) → va_S (fun q : Nat => s.heap.size ≤ q) s.heap H locs → lv_has ls 4 [(0, .ref b), (1, .ref (ad 0)), (2, .ref (md 64)), (3, .int i)] → W p l e room_1 s m #[Value.ref b] below meth c H locs 107 4890 (lw_Z below #[Value.ref b] s) (F0 m 1652 ls [])) : W p l e room_1 s m #[Value.ref b] below meth c H locs 107 4890 (lw_Z below #[Value.ref b] s) (F0 m 1200 ls []) := by
  obtain ⟨C1, hK, hN, hT, hL⟩ := C0
  obtain ⟨hx, hb, hr, hml, hown, hts0, hX, hbl, hlocks, hgv⟩ := C1
  have hA : ∀ q : Nat, s.heap.size ≤ q → (fun q : Nat => s.heap.size ≤ q) q := fun _ h => h
  have hbA : ¬ (fun q : Nat => s.heap.size ≤ q) b := Nat.not_le.mpr hbl
  have hts : ∀ w ∈ wsL_law, w.before #[Value.ref b] s = true := fun w h => hts0 w (wsL_law_in w h)
  replace hown : s.vm.findClass RL = some m.cls := hown
  replace hb : c.code = cL_law := hb
  have hak1 : vp_in (i + 1) L := law_in hi1 hi2 hL (by decide)
  obtain ⟨xk1, exk1⟩ : ∃ y : Int32, y = xs (i + 1).toNatClampNeg := ⟨_, rfl⟩
  have hak2 : vp_in (i + 2) L := law_in hi1 hi2 hL (by decide)
  obtain ⟨xk2, exk2⟩ : ∃ y : Int32, y = xs (i + 2).toNatClampNeg := ⟨_, rfl⟩
  have hak3 : vp_in (i + 3) L := law_in hi1 hi2 hL (by decide)
  obtain ⟨xk3, exk3⟩ : ∃ y : Int32, y = xs (i + 3).toNatClampNeg := ⟨_, rfl⟩
  refine inv_el I ?_
  intro Xhna Xhnb XH XD XV XN Xcna Xcnb XF Xpna Xpnb XG XO XW Xgna Xgnb XJ Xlna Xlnb Xdla Xdlb Xana Xanb Xuna Xunb XU Xlca Xlcb Xtna Xtnb XS Mhna Mhnb MH MS Mmlna Mmlnb Mmtna Mmtnb Chn Cho Chc Chp Chs Ccn Cfo Cwo Cpn Cpk Cpf Cpo Cpd Cpe Cgn Cgk Cgs Cgd Cge Can Cak Cah Cay Caz Cun Cuk Cuy Cuw Cum Clc Clp Cla Clb Caw Ciw Cln Ctd Cro Cmtn Cmtr Cmst Csh
  have Tcn := i_eq Ccn
  have Tpn := i_eq Cpn
  have Tgn := i_eq Cgn
  have Tan := i_eq Can
  have Tun := i_eq Cun
  have Tlc := i_eq Clc
  have Tln := i_eq Cln
  refine lv_aload_n hx hb dL_law_1200 rfl (lv_at hl 1 rfl) ?_
  refine law_arg (v := 1) hx hb hX hbl hbA hS (lv_at hl 0 rfl) (lv_at hl 3 rfl) (by decide) hak1 exk1 dL_law_1201 dL_law_1202 dL_law_1203 dL_law_1204 dL_law_1205 ?_
  refine law_arg (v := 2) hx hb hX hbl hbA hS (lv_at hl 0 rfl) (lv_at hl 3 rfl) (by decide) hak2 exk2 dL_law_1206 dL_law_1207 dL_law_1208 dL_law_1209 dL_law_1210 ?_
  refine law_arg (v := 3) hx hb hX hbl hbA hS (lv_at hl 0 rfl) (lv_at hl 3 rfl) (by decide) hak3 exk3 dL_law_1211 dL_law_1212 dL_law_1213 dL_law_1214 dL_law_1215 ?_
  refine st_iU (va_runV (C := RX10) (As := [.int xk1, .int xk2, .int xk3]) (rest := []) ⟨hx, hb, hml, hown, hts⟩ (ct_X10_lot l D cI cY cJ cQ _ ad sd (nx 0) (nx 1) (nx 2) xk1 xk2 xk3) (cwV 3 hts gL_law_X10_lot rfl rfl rfl ⟨rfl, cdX10_lot⟩ ⟨Nat.le_of_ble_eq_true rfl, Nat.le_of_ble_eq_true rfl⟩) (cPreV (hP.sub [0, 55] rfl) hK (hD.sub [0, 55] (by decide +kernel) rfl) hN (ci := 10) (q0 := 0) rfl rfl) rfl rfl hl.1 rfl (lv_room (Nat.le_of_ble_eq_true rfl)) dL_law_1216 ⟨Nat.le_of_ble_eq_true rfl, Nat.le_of_ble_eq_true rfl⟩) hP hD hS hA [0, 55] rfl (fun _ => rfl) (fun r3 u1 H locs hw2 => ?_)
  clear hP hS
  intro hP hS
  replace hw2 : r3 = an_lotn sd xk1 xk2 xk3 := hw2
  refine lv_pop hx hb dL_law_1219 rfl ?_
  have hPx : va_P D vwCl (wX ad rw sd cI cY cJ cQ nx fx rs lo ++ wM md sd cI cY cJ cQ ny fy fl) H := hP
  have hDx : va_D (fun q : Nat => s.heap.size ≤ q) (wX ad rw sd cI cY cJ cQ nx fx rs lo ++ wM md sd cI cY cJ cQ ny fy fl) := wXM_D hD
  have hP := hPx.comm
  have hD := hDx.comm
  refine lv_aload_n hx hb dL_law_1220 rfl (lv_at hl 2 rfl) ?_
  refine law_arg (v := 1) hx hb hX hbl hbA hS (lv_at hl 0 rfl) (lv_at hl 3 rfl) (by decide) hak1 exk1 dL_law_1221 dL_law_1222 dL_law_1223 dL_law_1224 dL_law_1225 ?_
  refine law_arg (v := 2) hx hb hX hbl hbA hS (lv_at hl 0 rfl) (lv_at hl 3 rfl) (by decide) hak2 exk2 dL_law_1226 dL_law_1227 dL_law_1228 dL_law_1229 dL_law_1230 ?_
  refine law_arg (v := 3) hx hb hX hbl hbA hS (lv_at hl 0 rfl) (lv_at hl 3 rfl) (by decide) hak3 exk3 dL_law_1231 dL_law_1232 dL_law_1233 dL_law_1234 dL_law_1235 ?_
  refine st_iU (va_runV (C := RX11) (As := [.int xk1, .int xk2, .int xk3]) (rest := []) ⟨hx, hb, hml, hown, hts⟩ (ct_X11_lot l D cI cY cJ cQ _ md sd (ny 0) (ny 1) (ny 2) (ny 3) (ny 4) (ny 5) (ny 6) (ny 7) (ny 8) (ny 9) (ny 10) (ny 11) (ny 12) (ny 13) (ny 14) (ny 15) (ny 16) (ny 17) (ny 18) (ny 19) (ny 20) (ny 21) (ny 22) xk1 xk2 xk3) (cwV 3 hts gL_law_X11_lot rfl rfl rfl ⟨rfl, cdX11_lot⟩ ⟨Nat.le_of_ble_eq_true rfl, Nat.le_of_ble_eq_true rfl⟩) (cPreV (hP.sub [0] rfl) hK (hD.sub [0] (by decide +kernel) rfl) hN (ci := 11) (q0 := 0) rfl rfl) rfl rfl hl.1 rfl (lv_room (Nat.le_of_ble_eq_true rfl)) dL_law_1236 ⟨Nat.le_of_ble_eq_true rfl, Nat.le_of_ble_eq_true rfl⟩) hP hD hS hA [0] rfl (fun _ => rfl) (fun r6 u4 H locs hw5 => ?_)
  clear hP hS
  intro hP hS
  replace hw5 : r6 = an_lotn sd xk1 xk2 xk3 := hw5
  have e90 := hw2.trans hw5.symm
  refine lv_pop hx hb dL_law_1239 rfl ?_
  refine lv_goto (tgt := 1652) hx hb dL_law_1240 (by decide) ?_
  have hPm : va_P D vwCl (wM md sd cI cY cJ cQ (upd ny 0 0) fy fl ++ wX ad rw sd cI cY cJ cQ nx fx rs lo) H := hP
  have hDm : va_D (fun q : Nat => s.heap.size ≤ q) (wM md sd cI cY cJ cQ (upd ny 0 0) fy fl ++ wX ad rw sd cI cY cJ cQ nx fx rs lo) := wMX_D hD
  exact kk nx fx rs lo (upd ny 0 0) fy fl H locs ls ⟨Xhna, Xhnb, XH, XD, XV, XN, Xcna, Xcnb, XF, Xpna, Xpnb, XG, XO, XW, Xgna, Xgnb, XJ, Xlna, Xlnb, Xdla, Xdlb, Xana, Xanb, Xuna, Xunb, XU, Xlca, Xlcb, Xtna, Xtnb, XS, Mhna, Mhnb, MH, MS, Mmlna, Mmlnb, Mmtna, Mmtnb, Chn, Cho, Chc, Chp, Chs, Ccn, Cfo, Cwo, Cpn, Cpk, Cpf, Cpo, Cpd, Cpe, Cgn, Cgk, Cgs, Cgd, Cge, Can, Cak, Cah, Cay, Caz, Cun, Cuk, Cuy, Cuw, Cum, Clc, Clp, Cla, Clb, Caw, Ciw, Cln, Ctd, Cro, Cmtn, Cmtr, Cmst, Csh⟩ hPm.comm hDm.comm hS hl

set_option maxHeartbeats 4000000 in
set_option maxRecDepth 100000 in
theorem law_case_25 {p : Program} {l : Launch} {e : Env} {s : State} {m : MethodId} {below : List Frame} {meth : Method} {c : Code} {D : va_G} {cI cY cJ cQ : ClassId} {b L aK aV : Nat} {xs : Nat → Int32} {ad rw md : Nat → Nat} {sd i : Int32} {nx : Nat → Int32} {fx rs : Nat → Nat → Int32} {lo : Nat → Int64} {ny : Nat → Int32} {fy : Nat → Nat → Int32} {fl : Nat → Int64} {H : Heap} {locs : List Loc} {ls : Array Slot} (C0 : lawC p s m meth c b L xs D cI cY cJ cQ aK aV) (I : inv nx fx rs ny fy) (hP : va_P D vwCl (wX ad rw sd cI cY cJ cQ nx fx rs lo ++ wM md sd cI cY cJ cQ ny fy fl) H) (hD : va_D (fun q : Nat => s.heap.size ≤ q) (wX ad rw sd cI cY cJ cQ nx fx rs lo ++ wM md sd cI cY cJ cQ ny fy fl)) (hS : va_S (fun q : Nat => s.heap.size ≤ q) s.heap H locs) (hl : lv_has ls 4 [(0, .ref b), (1, .ref (ad 0)), (2, .ref (md 64)), (3, .int i)]) (hi1 : 1 ≤ i.toInt) (hi2 : i.toInt + 5 < L) (kk : ∀ (nx : Nat → Int32) (fx rs : Nat → Nat → Int32) (lo : Nat → Int64) (ny : Nat → Int32) (fy : Nat → Nat → Int32) (fl : Nat → Int64) (H : Heap) (locs : List Loc) (ls : Array Slot), inv nx fx rs ny fy → va_P D vwCl (wX ad rw sd cI cY cJ cQ nx fx rs lo ++ wM md sd cI cY cJ cQ ny fy fl) H → va_D (fun q : Nat => s.heap.size ≤ q) (wX ad rw sd cI cY cJ cQ nx fx rs lo ++ wM md sd cI cY cJ cQ ny fy fl) → va_S (fun q : Nat => s.heap.size ≤ q) s.heap H locs → lv_has ls 4 [(0, .ref b), (1, .ref (ad 0)), (2, .ref (md 64)), (3, .int i)] → W p l e room_1 s m #[Value.ref b] below meth c H locs 107 4890 (lw_Z below #[Value.ref b] s) (F0 m 1652 ls [])) : W p l e room_1 s m #[Value.ref b] below meth c H locs 107 4890 (lw_Z below #[Value.ref b] s) (F0 m 1243 ls []) := by
  obtain ⟨C1, hK, hN, hT, hL⟩ := C0
  obtain ⟨hx, hb, hr, hml, hown, hts0, hX, hbl, hlocks, hgv⟩ := C1
  have hA : ∀ q : Nat, s.heap.size ≤ q → (fun q : Nat => s.heap.size ≤ q) q := fun _ h => h
  have hbA : ¬ (fun q : Nat => s.heap.size ≤ q) b := Nat.not_le.mpr hbl
  have hts : ∀ w ∈ wsL_law, w.before #[Value.ref b] s = true := fun w h => hts0 w (wsL_law_in w h)
  replace hown : s.vm.findClass RL = some m.cls := hown
  replace hb : c.code = cL_law := hb
  have hak1 : vp_in (i + 1) L := law_in hi1 hi2 hL (by decide)
  obtain ⟨xk1, exk1⟩ : ∃ y : Int32, y = xs (i + 1).toNatClampNeg := ⟨_, rfl⟩
  have hak2 : vp_in (i + 2) L := law_in hi1 hi2 hL (by decide)
  obtain ⟨xk2, exk2⟩ : ∃ y : Int32, y = xs (i + 2).toNatClampNeg := ⟨_, rfl⟩
  refine inv_el I ?_
  intro Xhna Xhnb XH XD XV XN Xcna Xcnb XF Xpna Xpnb XG XO XW Xgna Xgnb XJ Xlna Xlnb Xdla Xdlb Xana Xanb Xuna Xunb XU Xlca Xlcb Xtna Xtnb XS Mhna Mhnb MH MS Mmlna Mmlnb Mmtna Mmtnb Chn Cho Chc Chp Chs Ccn Cfo Cwo Cpn Cpk Cpf Cpo Cpd Cpe Cgn Cgk Cgs Cgd Cge Can Cak Cah Cay Caz Cun Cuk Cuy Cuw Cum Clc Clp Cla Clb Caw Ciw Cln Ctd Cro Cmtn Cmtr Cmst Csh
  have Tcn := i_eq Ccn
  have Tpn := i_eq Cpn
  have Tgn := i_eq Cgn
  have Tan := i_eq Can
  have Tun := i_eq Cun
  have Tlc := i_eq Clc
  have Tln := i_eq Cln
  refine lv_aload_n hx hb dL_law_1243 rfl (lv_at hl 1 rfl) ?_
  refine law_arg (v := 1) hx hb hX hbl hbA hS (lv_at hl 0 rfl) (lv_at hl 3 rfl) (by decide) hak1 exk1 dL_law_1244 dL_law_1245 dL_law_1246 dL_law_1247 dL_law_1248 ?_
  refine law_arg (v := 2) hx hb hX hbl hbA hS (lv_at hl 0 rfl) (lv_at hl 3 rfl) (by decide) hak2 exk2 dL_law_1249 dL_law_1250 dL_law_1251 dL_law_1252 dL_law_1253 ?_
  refine st_iU (va_runV (C := RX10) (As := [.int xk1, .int xk2]) (rest := []) ⟨hx, hb, hml, hown, hts⟩ (ct_X10_drawn l D cI cY cJ cQ _ ad sd (nx 0) (nx 1) (nx 2) (nx 4) (fx 13) lo xk1 xk2 Xcna Xcnb) (cwV 2 hts gL_law_X10_drawn rfl rfl rfl ⟨rfl, cdX10_drawn⟩ ⟨Nat.le_of_ble_eq_true rfl, Nat.le_of_ble_eq_true rfl⟩) (cPreV (hP.sub [0, 23, 26, 55, 56] rfl) hK (hD.sub [0, 23, 26, 55, 56] (by decide +kernel) rfl) hN (ci := 10) (q0 := 0) rfl rfl) rfl rfl hl.1 rfl (lv_room (Nat.le_of_ble_eq_true rfl)) dL_law_1254 ⟨Nat.le_of_ble_eq_true rfl, Nat.le_of_ble_eq_true rfl⟩) hP hD hS hA [0, 23, 26, 55, 56] rfl (fun _ => rfl) (fun r3 u1 H locs hw2 => ?_)
  clear hP hS
  intro hP hS
  replace hw2 : r3 = sp_drawn sd (nx 4) (fx 13) xk1 xk2 := hw2
  refine lv_pop hx hb dL_law_1257 rfl ?_
  have hPx : va_P D vwCl (wX ad rw sd cI cY cJ cQ nx fx rs u1 ++ wM md sd cI cY cJ cQ ny fy fl) H := hP
  have hDx : va_D (fun q : Nat => s.heap.size ≤ q) (wX ad rw sd cI cY cJ cQ nx fx rs u1 ++ wM md sd cI cY cJ cQ ny fy fl) := wXM_D hD
  have hP := hPx.comm
  have hD := hDx.comm
  refine lv_aload_n hx hb dL_law_1258 rfl (lv_at hl 2 rfl) ?_
  refine law_arg (v := 1) hx hb hX hbl hbA hS (lv_at hl 0 rfl) (lv_at hl 3 rfl) (by decide) hak1 exk1 dL_law_1259 dL_law_1260 dL_law_1261 dL_law_1262 dL_law_1263 ?_
  refine law_arg (v := 2) hx hb hX hbl hbA hS (lv_at hl 0 rfl) (lv_at hl 3 rfl) (by decide) hak2 exk2 dL_law_1264 dL_law_1265 dL_law_1266 dL_law_1267 dL_law_1268 ?_
  refine st_iU (va_runV (C := RX11) (As := [.int xk1, .int xk2]) (rest := []) ⟨hx, hb, hml, hown, hts⟩ (ct_X11_drawn l D cI cY cJ cQ _ md sd (ny 0) (ny 1) (ny 2) (ny 3) (ny 4) (ny 5) (ny 6) (ny 7) (ny 8) (ny 9) (ny 10) (ny 11) (ny 12) (ny 13) (ny 14) (ny 15) (ny 16) (ny 17) (ny 18) (ny 19) (ny 20) (ny 21) (ny 22) (fy 30) xk1 xk2 (by omega) (by omega)) (cwV 2 hts gL_law_X11_drawn rfl rfl rfl ⟨rfl, cdX11_drawn⟩ ⟨Nat.le_of_ble_eq_true rfl, Nat.le_of_ble_eq_true rfl⟩) (cPreV (hP.sub [0, 32] rfl) hK (hD.sub [0, 32] (by decide +kernel) rfl) hN (ci := 11) (q0 := 0) rfl rfl) rfl rfl hl.1 rfl (lv_room (Nat.le_of_ble_eq_true rfl)) dL_law_1269 ⟨Nat.le_of_ble_eq_true rfl, Nat.le_of_ble_eq_true rfl⟩) hP hD hS hA [0, 32] rfl (fun _ => rfl) (fun r6 u4 H locs hw5 => ?_)
  clear hP hS
  intro hP hS
  replace hw5 : r6 = sm_drawn sd (ny 3) (fy 30) xk1 xk2 := hw5
  rw [Ccn, Cro, ← drawn_eq (by omega) (by omega)] at hw5
  have e90 := hw2.trans hw5.symm
  refine lv_pop hx hb dL_law_1272 rfl ?_
  refine lv_goto (tgt := 1652) hx hb dL_law_1273 (by decide) ?_
  have hPm : va_P D vwCl (wM md sd cI cY cJ cQ (upd ny 0 0) fy fl ++ wX ad rw sd cI cY cJ cQ nx fx rs u1) H := hP
  have hDm : va_D (fun q : Nat => s.heap.size ≤ q) (wM md sd cI cY cJ cQ (upd ny 0 0) fy fl ++ wX ad rw sd cI cY cJ cQ nx fx rs u1) := wMX_D hD
  exact kk nx fx rs u1 (upd ny 0 0) fy fl H locs ls ⟨Xhna, Xhnb, XH, XD, XV, XN, Xcna, Xcnb, XF, Xpna, Xpnb, XG, XO, XW, Xgna, Xgnb, XJ, Xlna, Xlnb, Xdla, Xdlb, Xana, Xanb, Xuna, Xunb, XU, Xlca, Xlcb, Xtna, Xtnb, XS, Mhna, Mhnb, MH, MS, Mmlna, Mmlnb, Mmtna, Mmtnb, Chn, Cho, Chc, Chp, Chs, Ccn, Cfo, Cwo, Cpn, Cpk, Cpf, Cpo, Cpd, Cpe, Cgn, Cgk, Cgs, Cgd, Cge, Can, Cak, Cah, Cay, Caz, Cun, Cuk, Cuy, Cuw, Cum, Clc, Clp, Cla, Clb, Caw, Ciw, Cln, Ctd, Cro, Cmtn, Cmtr, Cmst, Csh⟩ hPm.comm hDm.comm hS hl

set_option maxHeartbeats 4000000 in
set_option maxRecDepth 100000 in
theorem law_case_26 {p : Program} {l : Launch} {e : Env} {s : State} {m : MethodId} {below : List Frame} {meth : Method} {c : Code} {D : va_G} {cI cY cJ cQ : ClassId} {b L aK aV : Nat} {xs : Nat → Int32} {ad rw md : Nat → Nat} {sd i : Int32} {nx : Nat → Int32} {fx rs : Nat → Nat → Int32} {lo : Nat → Int64} {ny : Nat → Int32} {fy : Nat → Nat → Int32} {fl : Nat → Int64} {H : Heap} {locs : List Loc} {ls : Array Slot} (C0 : lawC p s m meth c b L xs D cI cY cJ cQ aK aV) (I : inv nx fx rs ny fy) (hP : va_P D vwCl (wX ad rw sd cI cY cJ cQ nx fx rs lo ++ wM md sd cI cY cJ cQ ny fy fl) H) (hD : va_D (fun q : Nat => s.heap.size ≤ q) (wX ad rw sd cI cY cJ cQ nx fx rs lo ++ wM md sd cI cY cJ cQ ny fy fl)) (hS : va_S (fun q : Nat => s.heap.size ≤ q) s.heap H locs) (hl : lv_has ls 4 [(0, .ref b), (1, .ref (ad 0)), (2, .ref (md 64)), (3, .int i)]) (hi1 : 1 ≤ i.toInt) (hi2 : i.toInt + 5 < L) (kk : ∀ (nx : Nat → Int32) (fx rs : Nat → Nat → Int32) (lo : Nat → Int64) (ny : Nat → Int32) (fy : Nat → Nat → Int32) (fl : Nat → Int64) (H : Heap) (locs : List Loc) (ls : Array Slot), inv nx fx rs ny fy → va_P D vwCl (wX ad rw sd cI cY cJ cQ nx fx rs lo ++ wM md sd cI cY cJ cQ ny fy fl) H → va_D (fun q : Nat => s.heap.size ≤ q) (wX ad rw sd cI cY cJ cQ nx fx rs lo ++ wM md sd cI cY cJ cQ ny fy fl) → va_S (fun q : Nat => s.heap.size ≤ q) s.heap H locs → lv_has ls 4 [(0, .ref b), (1, .ref (ad 0)), (2, .ref (md 64)), (3, .int i)] → W p l e room_1 s m #[Value.ref b] below meth c H locs 107 4890 (lw_Z below #[Value.ref b] s) (F0 m 1652 ls [])) : W p l e room_1 s m #[Value.ref b] below meth c H locs 107 4890 (lw_Z below #[Value.ref b] s) (F0 m 1276 ls []) := by
  obtain ⟨C1, hK, hN, hT, hL⟩ := C0
  obtain ⟨hx, hb, hr, hml, hown, hts0, hX, hbl, hlocks, hgv⟩ := C1
  have hA : ∀ q : Nat, s.heap.size ≤ q → (fun q : Nat => s.heap.size ≤ q) q := fun _ h => h
  have hbA : ¬ (fun q : Nat => s.heap.size ≤ q) b := Nat.not_le.mpr hbl
  have hts : ∀ w ∈ wsL_law, w.before #[Value.ref b] s = true := fun w h => hts0 w (wsL_law_in w h)
  replace hown : s.vm.findClass RL = some m.cls := hown
  replace hb : c.code = cL_law := hb
  have hak1 : vp_in (i + 1) L := law_in hi1 hi2 hL (by decide)
  obtain ⟨xk1, exk1⟩ : ∃ y : Int32, y = xs (i + 1).toNatClampNeg := ⟨_, rfl⟩
  have hak2 : vp_in (i + 2) L := law_in hi1 hi2 hL (by decide)
  obtain ⟨xk2, exk2⟩ : ∃ y : Int32, y = xs (i + 2).toNatClampNeg := ⟨_, rfl⟩
  have hak3 : vp_in (i + 3) L := law_in hi1 hi2 hL (by decide)
  obtain ⟨xk3, exk3⟩ : ∃ y : Int32, y = xs (i + 3).toNatClampNeg := ⟨_, rfl⟩
  have hak4 : vp_in (i + 4) L := law_in hi1 hi2 hL (by decide)
  obtain ⟨xk4, exk4⟩ : ∃ y : Int32, y = xs (i + 4).toNatClampNeg := ⟨_, rfl⟩
  refine inv_el I ?_
  intro Xhna Xhnb XH XD XV XN Xcna Xcnb XF Xpna Xpnb XG XO XW Xgna Xgnb XJ Xlna Xlnb Xdla Xdlb Xana Xanb Xuna Xunb XU Xlca Xlcb Xtna Xtnb XS Mhna Mhnb MH MS Mmlna Mmlnb Mmtna Mmtnb Chn Cho Chc Chp Chs Ccn Cfo Cwo Cpn Cpk Cpf Cpo Cpd Cpe Cgn Cgk Cgs Cgd Cge Can Cak Cah Cay Caz Cun Cuk Cuy Cuw Cum Clc Clp Cla Clb Caw Ciw Cln Ctd Cro Cmtn Cmtr Cmst Csh
  have Tcn := i_eq Ccn
  have Tpn := i_eq Cpn
  have Tgn := i_eq Cgn
  have Tan := i_eq Can
  have Tun := i_eq Cun
  have Tlc := i_eq Clc
  have Tln := i_eq Cln
  refine lv_aload_n hx hb dL_law_1276 rfl (lv_at hl 1 rfl) ?_
  refine law_arg (v := 1) hx hb hX hbl hbA hS (lv_at hl 0 rfl) (lv_at hl 3 rfl) (by decide) hak1 exk1 dL_law_1277 dL_law_1278 dL_law_1279 dL_law_1280 dL_law_1281 ?_
  refine law_arg (v := 2) hx hb hX hbl hbA hS (lv_at hl 0 rfl) (lv_at hl 3 rfl) (by decide) hak2 exk2 dL_law_1282 dL_law_1283 dL_law_1284 dL_law_1285 dL_law_1286 ?_
  refine law_arg (v := 3) hx hb hX hbl hbA hS (lv_at hl 0 rfl) (lv_at hl 3 rfl) (by decide) hak3 exk3 dL_law_1287 dL_law_1288 dL_law_1289 dL_law_1290 dL_law_1291 ?_
  refine law_arg (v := 4) hx hb hX hbl hbA hS (lv_at hl 0 rfl) (lv_at hl 3 rfl) (by decide) hak4 exk4 dL_law_1292 dL_law_1293 dL_law_1294 dL_law_1295 dL_law_1296 ?_
  refine st_iU (va_runV (C := RX10) (As := [.int xk1, .int xk2, .int xk3, .int xk4]) (rest := []) ⟨hx, hb, hml, hown, hts⟩ (ct_X10_often l D cI cY cJ cQ _ ad sd (nx 0) (nx 1) (nx 2) (nx 4) (fx 13) lo xk1 xk2 xk3 xk4 Xcna Xcnb) (cwV 4 hts gL_law_X10_often rfl rfl rfl ⟨rfl, cdX10_often⟩ ⟨Nat.le_of_ble_eq_true rfl, Nat.le_of_ble_eq_true rfl⟩) (cPreV (hP.sub [0, 23, 26, 55, 56] rfl) hK (hD.sub [0, 23, 26, 55, 56] (by decide +kernel) rfl) hN (ci := 10) (q0 := 0) rfl rfl) rfl rfl hl.1 rfl (lv_room (Nat.le_of_ble_eq_true rfl)) dL_law_1297 ⟨Nat.le_of_ble_eq_true rfl, Nat.le_of_ble_eq_true rfl⟩) hP hD hS hA [0, 23, 26, 55, 56] rfl (fun _ => rfl) (fun r3 u1 H locs hw2 => ?_)
  clear hP hS
  intro hP hS
  replace hw2 : r3 = sp_often sd (nx 4) (fx 13) xk1 xk2 xk3 xk4 := hw2
  refine lv_pop hx hb dL_law_1300 rfl ?_
  have hPx : va_P D vwCl (wX ad rw sd cI cY cJ cQ nx fx rs u1 ++ wM md sd cI cY cJ cQ ny fy fl) H := hP
  have hDx : va_D (fun q : Nat => s.heap.size ≤ q) (wX ad rw sd cI cY cJ cQ nx fx rs u1 ++ wM md sd cI cY cJ cQ ny fy fl) := wXM_D hD
  have hP := hPx.comm
  have hD := hDx.comm
  refine lv_aload_n hx hb dL_law_1301 rfl (lv_at hl 2 rfl) ?_
  refine law_arg (v := 1) hx hb hX hbl hbA hS (lv_at hl 0 rfl) (lv_at hl 3 rfl) (by decide) hak1 exk1 dL_law_1302 dL_law_1303 dL_law_1304 dL_law_1305 dL_law_1306 ?_
  refine law_arg (v := 2) hx hb hX hbl hbA hS (lv_at hl 0 rfl) (lv_at hl 3 rfl) (by decide) hak2 exk2 dL_law_1307 dL_law_1308 dL_law_1309 dL_law_1310 dL_law_1311 ?_
  refine law_arg (v := 3) hx hb hX hbl hbA hS (lv_at hl 0 rfl) (lv_at hl 3 rfl) (by decide) hak3 exk3 dL_law_1312 dL_law_1313 dL_law_1314 dL_law_1315 dL_law_1316 ?_
  refine law_arg (v := 4) hx hb hX hbl hbA hS (lv_at hl 0 rfl) (lv_at hl 3 rfl) (by decide) hak4 exk4 dL_law_1317 dL_law_1318 dL_law_1319 dL_law_1320 dL_law_1321 ?_
  refine st_iU (va_runV (C := RX11) (As := [.int xk1, .int xk2, .int xk3, .int xk4]) (rest := []) ⟨hx, hb, hml, hown, hts⟩ (ct_X11_often l D cI cY cJ cQ _ md sd (ny 0) (ny 1) (ny 2) (ny 3) (ny 4) (ny 5) (ny 6) (ny 7) (ny 8) (ny 9) (ny 10) (ny 11) (ny 12) (ny 13) (ny 14) (ny 15) (ny 16) (ny 17) (ny 18) (ny 19) (ny 20) (ny 21) (ny 22) (fy 30) xk1 xk2 xk3 xk4 (by omega) (by omega)) (cwV 4 hts gL_law_X11_often rfl rfl rfl ⟨rfl, cdX11_often⟩ ⟨Nat.le_of_ble_eq_true rfl, Nat.le_of_ble_eq_true rfl⟩) (cPreV (hP.sub [0, 32] rfl) hK (hD.sub [0, 32] (by decide +kernel) rfl) hN (ci := 11) (q0 := 0) rfl rfl) rfl rfl hl.1 rfl (lv_room (Nat.le_of_ble_eq_true rfl)) dL_law_1322 ⟨Nat.le_of_ble_eq_true rfl, Nat.le_of_ble_eq_true rfl⟩) hP hD hS hA [0, 32] rfl (fun _ => rfl) (fun r6 u4 H locs hw5 => ?_)
  clear hP hS
  intro hP hS
  replace hw5 : r6 = sm_often sd (ny 3) (fy 30) xk1 xk2 xk3 xk4 := hw5
  rw [Ccn, Cro, ← often_eq (by omega) (by omega)] at hw5
  have e90 := hw2.trans hw5.symm
  refine lv_pop hx hb dL_law_1325 rfl ?_
  refine lv_goto (tgt := 1652) hx hb dL_law_1326 (by decide) ?_
  have hPm : va_P D vwCl (wM md sd cI cY cJ cQ (upd ny 0 0) fy fl ++ wX ad rw sd cI cY cJ cQ nx fx rs u1) H := hP
  have hDm : va_D (fun q : Nat => s.heap.size ≤ q) (wM md sd cI cY cJ cQ (upd ny 0 0) fy fl ++ wX ad rw sd cI cY cJ cQ nx fx rs u1) := wMX_D hD
  exact kk nx fx rs u1 (upd ny 0 0) fy fl H locs ls ⟨Xhna, Xhnb, XH, XD, XV, XN, Xcna, Xcnb, XF, Xpna, Xpnb, XG, XO, XW, Xgna, Xgnb, XJ, Xlna, Xlnb, Xdla, Xdlb, Xana, Xanb, Xuna, Xunb, XU, Xlca, Xlcb, Xtna, Xtnb, XS, Mhna, Mhnb, MH, MS, Mmlna, Mmlnb, Mmtna, Mmtnb, Chn, Cho, Chc, Chp, Chs, Ccn, Cfo, Cwo, Cpn, Cpk, Cpf, Cpo, Cpd, Cpe, Cgn, Cgk, Cgs, Cgd, Cge, Can, Cak, Cah, Cay, Caz, Cun, Cuk, Cuy, Cuw, Cum, Clc, Clp, Cla, Clb, Caw, Ciw, Cln, Ctd, Cro, Cmtn, Cmtr, Cmst, Csh⟩ hPm.comm hDm.comm hS hl

set_option maxHeartbeats 4000000 in
set_option maxRecDepth 100000 in
theorem law_case_27 {p : Program} {l : Launch} {e : Env} {s : State} {m : MethodId} {below : List Frame} {meth : Method} {c : Code} {D : va_G} {cI cY cJ cQ : ClassId} {b L aK aV : Nat} {xs : Nat → Int32} {ad rw md : Nat → Nat} {sd i : Int32} {nx : Nat → Int32} {fx rs : Nat → Nat → Int32} {lo : Nat → Int64} {ny : Nat → Int32} {fy : Nat → Nat → Int32} {fl : Nat → Int64} {H : Heap} {locs : List Loc} {ls : Array Slot} (C0 : lawC p s m meth c b L xs D cI cY cJ cQ aK aV) (I : inv nx fx rs ny fy) (hP : va_P D vwCl (wX ad rw sd cI cY cJ cQ nx fx rs lo ++ wM md sd cI cY cJ cQ ny fy fl) H) (hD : va_D (fun q : Nat => s.heap.size ≤ q) (wX ad rw sd cI cY cJ cQ nx fx rs lo ++ wM md sd cI cY cJ cQ ny fy fl)) (hS : va_S (fun q : Nat => s.heap.size ≤ q) s.heap H locs) (hl : lv_has ls 4 [(0, .ref b), (1, .ref (ad 0)), (2, .ref (md 64)), (3, .int i)]) (hi1 : 1 ≤ i.toInt) (hi2 : i.toInt + 5 < L) (kk : ∀ (nx : Nat → Int32) (fx rs : Nat → Nat → Int32) (lo : Nat → Int64) (ny : Nat → Int32) (fy : Nat → Nat → Int32) (fl : Nat → Int64) (H : Heap) (locs : List Loc) (ls : Array Slot), inv nx fx rs ny fy → va_P D vwCl (wX ad rw sd cI cY cJ cQ nx fx rs lo ++ wM md sd cI cY cJ cQ ny fy fl) H → va_D (fun q : Nat => s.heap.size ≤ q) (wX ad rw sd cI cY cJ cQ nx fx rs lo ++ wM md sd cI cY cJ cQ ny fy fl) → va_S (fun q : Nat => s.heap.size ≤ q) s.heap H locs → lv_has ls 4 [(0, .ref b), (1, .ref (ad 0)), (2, .ref (md 64)), (3, .int i)] → W p l e room_1 s m #[Value.ref b] below meth c H locs 107 4890 (lw_Z below #[Value.ref b] s) (F0 m 1652 ls [])) : W p l e room_1 s m #[Value.ref b] below meth c H locs 107 4890 (lw_Z below #[Value.ref b] s) (F0 m 1329 ls []) := by
  obtain ⟨C1, hK, hN, hT, hL⟩ := C0
  obtain ⟨hx, hb, hr, hml, hown, hts0, hX, hbl, hlocks, hgv⟩ := C1
  have hA : ∀ q : Nat, s.heap.size ≤ q → (fun q : Nat => s.heap.size ≤ q) q := fun _ h => h
  have hbA : ¬ (fun q : Nat => s.heap.size ≤ q) b := Nat.not_le.mpr hbl
  have hts : ∀ w ∈ wsL_law, w.before #[Value.ref b] s = true := fun w h => hts0 w (wsL_law_in w h)
  replace hown : s.vm.findClass RL = some m.cls := hown
  replace hb : c.code = cL_law := hb
  have hak1 : vp_in (i + 1) L := law_in hi1 hi2 hL (by decide)
  obtain ⟨xk1, exk1⟩ : ∃ y : Int32, y = xs (i + 1).toNatClampNeg := ⟨_, rfl⟩
  have hak2 : vp_in (i + 2) L := law_in hi1 hi2 hL (by decide)
  obtain ⟨xk2, exk2⟩ : ∃ y : Int32, y = xs (i + 2).toNatClampNeg := ⟨_, rfl⟩
  have hak3 : vp_in (i + 3) L := law_in hi1 hi2 hL (by decide)
  obtain ⟨xk3, exk3⟩ : ∃ y : Int32, y = xs (i + 3).toNatClampNeg := ⟨_, rfl⟩
  have hak4 : vp_in (i + 4) L := law_in hi1 hi2 hL (by decide)
  obtain ⟨xk4, exk4⟩ : ∃ y : Int32, y = xs (i + 4).toNatClampNeg := ⟨_, rfl⟩
  refine inv_el I ?_
  intro Xhna Xhnb XH XD XV XN Xcna Xcnb XF Xpna Xpnb XG XO XW Xgna Xgnb XJ Xlna Xlnb Xdla Xdlb Xana Xanb Xuna Xunb XU Xlca Xlcb Xtna Xtnb XS Mhna Mhnb MH MS Mmlna Mmlnb Mmtna Mmtnb Chn Cho Chc Chp Chs Ccn Cfo Cwo Cpn Cpk Cpf Cpo Cpd Cpe Cgn Cgk Cgs Cgd Cge Can Cak Cah Cay Caz Cun Cuk Cuy Cuw Cum Clc Clp Cla Clb Caw Ciw Cln Ctd Cro Cmtn Cmtr Cmst Csh
  have Tcn := i_eq Ccn
  have Tpn := i_eq Cpn
  have Tgn := i_eq Cgn
  have Tan := i_eq Can
  have Tun := i_eq Cun
  have Tlc := i_eq Clc
  have Tln := i_eq Cln
  refine lv_aload_n hx hb dL_law_1329 rfl (lv_at hl 1 rfl) ?_
  refine law_arg (v := 1) hx hb hX hbl hbA hS (lv_at hl 0 rfl) (lv_at hl 3 rfl) (by decide) hak1 exk1 dL_law_1330 dL_law_1331 dL_law_1332 dL_law_1333 dL_law_1334 ?_
  refine law_arg (v := 2) hx hb hX hbl hbA hS (lv_at hl 0 rfl) (lv_at hl 3 rfl) (by decide) hak2 exk2 dL_law_1335 dL_law_1336 dL_law_1337 dL_law_1338 dL_law_1339 ?_
  refine law_arg (v := 3) hx hb hX hbl hbA hS (lv_at hl 0 rfl) (lv_at hl 3 rfl) (by decide) hak3 exk3 dL_law_1340 dL_law_1341 dL_law_1342 dL_law_1343 dL_law_1344 ?_
  refine law_arg (v := 4) hx hb hX hbl hbA hS (lv_at hl 0 rfl) (lv_at hl 3 rfl) (by decide) hak4 exk4 dL_law_1345 dL_law_1346 dL_law_1347 dL_law_1348 dL_law_1349 ?_
  refine st_iU (va_runV (C := RX10) (As := [.int xk1, .int xk2, .int xk3, .int xk4]) (rest := []) ⟨hx, hb, hml, hown, hts⟩ (ct_X10_opened l D cI cY cJ cQ _ ad (nx 0) (nx 1) (nx 2) (nx 4) (nx 16) (fx 38) (fx 39) (fx 40) (fx 41) xk1 xk2 xk3 xk4 Xuna Xunb) (cwV 4 hts gL_law_X10_opened rfl rfl rfl ⟨rfl, cdX10_opened⟩ ⟨Nat.le_of_ble_eq_true rfl, Nat.le_of_ble_eq_true rfl⟩) (cPreV (hP.sub [0, 23, 57, 58, 59, 60, 61] rfl) hK (hD.sub [0, 23, 57, 58, 59, 60, 61] (by decide +kernel) rfl) hN (ci := 10) (q0 := 0) rfl rfl) rfl rfl hl.1 rfl (lv_room (Nat.le_of_ble_eq_true rfl)) dL_law_1350 ⟨Nat.le_of_ble_eq_true rfl, Nat.le_of_ble_eq_true rfl⟩) hP hD hS hA [0, 23, 57, 58, 59, 60, 61] rfl (fun _ => rfl) (fun r3 u1 H locs hw2 => ?_)
  clear hP hS
  intro hP hS
  obtain ⟨un_4, uk_5, uy_6, uw_7, um_8⟩ := u1
  replace hw2 : (r3, (un_4, uk_5, uy_6, uw_7, um_8)) = sp_opened (nx 16) (fx 38) (fx 39) (fx 40) (fx 41) (nx 4) xk1 xk2 xk3 xk4 := hw2
  obtain ⟨hw2a, hw2b⟩ := sp_opened_ok hw2 (by omega) (by omega)
  have hw2u := sp_opened_okU hw2 (by omega) (by omega) XU
  refine lv_pop hx hb dL_law_1353 rfl ?_
  have hPx : va_P D vwCl (wX ad rw sd cI cY cJ cQ (upd nx 16 un_4) (upR (upR (upR (upR fx 38 uk_5) 39 uy_6) 40 uw_7) 41 um_8) rs lo ++ wM md sd cI cY cJ cQ ny fy fl) H := hP
  have hDx : va_D (fun q : Nat => s.heap.size ≤ q) (wX ad rw sd cI cY cJ cQ (upd nx 16 un_4) (upR (upR (upR (upR fx 38 uk_5) 39 uy_6) 40 uw_7) 41 um_8) rs lo ++ wM md sd cI cY cJ cQ ny fy fl) := wXM_D hD
  have hP := hPx.comm
  have hD := hDx.comm
  refine lv_aload_n hx hb dL_law_1354 rfl (lv_at hl 2 rfl) ?_
  refine law_arg (v := 1) hx hb hX hbl hbA hS (lv_at hl 0 rfl) (lv_at hl 3 rfl) (by decide) hak1 exk1 dL_law_1355 dL_law_1356 dL_law_1357 dL_law_1358 dL_law_1359 ?_
  refine law_arg (v := 2) hx hb hX hbl hbA hS (lv_at hl 0 rfl) (lv_at hl 3 rfl) (by decide) hak2 exk2 dL_law_1360 dL_law_1361 dL_law_1362 dL_law_1363 dL_law_1364 ?_
  refine law_arg (v := 3) hx hb hX hbl hbA hS (lv_at hl 0 rfl) (lv_at hl 3 rfl) (by decide) hak3 exk3 dL_law_1365 dL_law_1366 dL_law_1367 dL_law_1368 dL_law_1369 ?_
  refine law_arg (v := 4) hx hb hX hbl hbA hS (lv_at hl 0 rfl) (lv_at hl 3 rfl) (by decide) hak4 exk4 dL_law_1370 dL_law_1371 dL_law_1372 dL_law_1373 dL_law_1374 ?_
  refine st_iU (va_runV (C := RX11) (As := [.int xk1, .int xk2, .int xk3, .int xk4]) (rest := []) ⟨hx, hb, hml, hown, hts⟩ (ct_X11_opened l D cI cY cJ cQ _ md sd (ny 0) (ny 1) (ny 2) (ny 3) (ny 4) (ny 5) (ny 6) (ny 7) (ny 8) (ny 9) (ny 10) (ny 11) (ny 12) (ny 13) (ny 14) (ny 15) (ny 16) (ny 17) (ny 18) (ny 19) (ny 20) (ny 21) (ny 22) (fy 31) (fy 32) (fy 33) (fy 34) xk1 xk2 xk3 xk4 (by omega) (by omega) (by omega) (by omega)) (cwV 4 hts gL_law_X11_opened rfl rfl rfl ⟨rfl, cdX11_opened⟩ ⟨Nat.le_of_ble_eq_true rfl, Nat.le_of_ble_eq_true rfl⟩) (cPreV (hP.sub [0, 33, 34, 35, 36] rfl) hK (hD.sub [0, 33, 34, 35, 36] (by decide +kernel) rfl) hN (ci := 11) (q0 := 0) rfl rfl) rfl rfl hl.1 rfl (lv_room (Nat.le_of_ble_eq_true rfl)) dL_law_1375 ⟨Nat.le_of_ble_eq_true rfl, Nat.le_of_ble_eq_true rfl⟩) hP hD hS hA [0, 33, 34, 35, 36] rfl (fun _ => rfl) (fun r11 u9 H locs hw10 => ?_)
  clear hP hS
  intro hP hS
  obtain ⟨un_12, uk_13, uy_14, uw_15, um_16⟩ := u9
  replace hw10 : (r11, (un_12, uk_13, uy_14, uw_15, um_16)) = sp_opened (ny 19) (fy 31) (fy 32) (fy 33) (fy 34) (ny 3) xk1 xk2 xk3 xk4 := hw10
  rw [Cun, Cuk, Cuy, Cuw, Cum, Ccn] at hw10
  have e9 := hw2.trans hw10.symm
  simp only [Prod.mk.injEq] at e9
  obtain ⟨e90, e9un, e9uk, e9uy, e9uw, e9um⟩ := e9
  refine lv_pop hx hb dL_law_1378 rfl ?_
  refine lv_goto (tgt := 1652) hx hb dL_law_1379 (by decide) ?_
  have hPm : va_P D vwCl (wM md sd cI cY cJ cQ (upd (upd ny 0 0) 19 un_12) (upR (upR (upR (upR fy 31 uk_13) 32 uy_14) 33 uw_15) 34 um_16) fl ++ wX ad rw sd cI cY cJ cQ (upd nx 16 un_4) (upR (upR (upR (upR fx 38 uk_5) 39 uy_6) 40 uw_7) 41 um_8) rs lo) H := hP
  have hDm : va_D (fun q : Nat => s.heap.size ≤ q) (wM md sd cI cY cJ cQ (upd (upd ny 0 0) 19 un_12) (upR (upR (upR (upR fy 31 uk_13) 32 uy_14) 33 uw_15) 34 um_16) fl ++ wX ad rw sd cI cY cJ cQ (upd nx 16 un_4) (upR (upR (upR (upR fx 38 uk_5) 39 uy_6) 40 uw_7) 41 um_8) rs lo) := wMX_D hD
  exact kk (upd nx 16 un_4) (upR (upR (upR (upR fx 38 uk_5) 39 uy_6) 40 uw_7) 41 um_8) rs lo (upd (upd ny 0 0) 19 un_12) (upR (upR (upR (upR fy 31 uk_13) 32 uy_14) 33 uw_15) 34 um_16) fl H locs ls ⟨Xhna, Xhnb, XH, XD, XV, XN, Xcna, Xcnb, XF, Xpna, Xpnb, XG, XO, XW, Xgna, Xgnb, XJ, Xlna, Xlnb, Xdla, Xdlb, Xana, Xanb, (by show 0 ≤ (un_4).toInt; omega), (by show (un_4).toInt ≤ 60; omega), (show okU (un_4) (um_8) by assumption), Xlca, Xlcb, Xtna, Xtnb, XS, Mhna, Mhnb, MH, MS, Mmlna, Mmlnb, Mmtna, Mmtnb, Chn, Cho, Chc, Chp, Chs, Ccn, Cfo, Cwo, Cpn, Cpk, Cpf, Cpo, Cpd, Cpe, Cgn, Cgk, Cgs, Cgd, Cge, Can, Cak, Cah, Cay, Caz, (show (un_12) = (un_4) from e9un.symm), (show (uk_13) = (uk_5) from e9uk.symm), (show (uy_14) = (uy_6) from e9uy.symm), (show (uw_15) = (uw_7) from e9uw.symm), (show (um_16) = (um_8) from e9um.symm), Clc, Clp, Cla, Clb, Caw, Ciw, Cln, Ctd, Cro, Cmtn, Cmtr, Cmst, Csh⟩ hPm.comm hDm.comm hS hl
end

section
theorem cdX10_verdict : yX10_verdict.cls ≠ "java/lang/invoke/MethodHandle" ∧ yX10_verdict.cls ≠ "java/lang/invoke/VarHandle" ∧ (parseMethodDescriptor yX10_verdict.desc).map (fun d => d.parameters.length) = some 1 := by decide +kernel
theorem cdX10_list : yX10_list.cls ≠ "java/lang/invoke/MethodHandle" ∧ yX10_list.cls ≠ "java/lang/invoke/VarHandle" ∧ (parseMethodDescriptor yX10_list.desc).map (fun d => d.parameters.length) = some 3 := by decide +kernel
theorem cdX10_barred : yX10_barred.cls ≠ "java/lang/invoke/MethodHandle" ∧ yX10_barred.cls ≠ "java/lang/invoke/VarHandle" ∧ (parseMethodDescriptor yX10_barred.desc).map (fun d => d.parameters.length) = some 2 := by decide +kernel
theorem cdX10_day : yX10_day.cls ≠ "java/lang/invoke/MethodHandle" ∧ yX10_day.cls ≠ "java/lang/invoke/VarHandle" ∧ (parseMethodDescriptor yX10_day.desc).map (fun d => d.parameters.length) = some 1 := by decide +kernel
theorem cdX11_verdict : yX11_verdict.cls ≠ "java/lang/invoke/MethodHandle" ∧ yX11_verdict.cls ≠ "java/lang/invoke/VarHandle" ∧ (parseMethodDescriptor yX11_verdict.desc).map (fun d => d.parameters.length) = some 1 := by decide +kernel
theorem cdX11_list : yX11_list.cls ≠ "java/lang/invoke/MethodHandle" ∧ yX11_list.cls ≠ "java/lang/invoke/VarHandle" ∧ (parseMethodDescriptor yX11_list.desc).map (fun d => d.parameters.length) = some 3 := by decide +kernel
theorem cdX11_barred : yX11_barred.cls ≠ "java/lang/invoke/MethodHandle" ∧ yX11_barred.cls ≠ "java/lang/invoke/VarHandle" ∧ (parseMethodDescriptor yX11_barred.desc).map (fun d => d.parameters.length) = some 2 := by decide +kernel
theorem cdX11_day : yX11_day.cls ≠ "java/lang/invoke/MethodHandle" ∧ yX11_day.cls ≠ "java/lang/invoke/VarHandle" ∧ (parseMethodDescriptor yX11_day.desc).map (fun d => d.parameters.length) = some 1 := by decide +kernel
theorem Gd_X10_verdict : gdA wsX10_verdict := gd_cons (by decide +kernel) (gd_app (gd_all (ws := wsX10_verdict_o1) (by decide +kernel)) (gd_app (gd_app (gd_app Gd_X100 Gd_X10) Gd_X60) (gd_app Gd_X10_isCrate Gd_X6_worstOf)))
theorem Gd_X10_list : gdA wsX10_list := gd_cons (by decide +kernel) (gd_app (gd_all (ws := wsX10_list_o1) (by decide +kernel)) (gd_app (gd_app (gd_app Gd_X100 Gd_X40) Gd_X10_isPerson) (gd_app Gd_X10_areDays Gd_X4_tell)))
theorem Gd_X10_barred : gdA wsX10_barred := gd_cons (by decide +kernel) (gd_app (gd_all (ws := wsX10_barred_o1) (by decide +kernel)) (gd_app (gd_app (gd_app Gd_X100 Gd_X10) (gd_app Gd_X40 Gd_X70)) (gd_app (gd_app Gd_X30 Gd_X10_isCrate) (gd_app Gd_X10_isDay Gd_X10_isBarred))))
theorem Gd_X10_day : gdA wsX10_day := gd_cons (by decide +kernel) (gd_app (gd_all (ws := wsX10_day_o1) (by decide +kernel)) (gd_app Gd_X100 Gd_X10_isDay))
theorem Gd_X11_verdict : gdA wsX11_verdict := gd_cons (by decide +kernel) (gd_app (gd_all (ws := wsX11_verdict_o1) (by decide +kernel)) (gd_app (gd_app Gd_X110 Gd_X11_isCrate) Gd_X11_bits))
theorem Gd_X11_list : gdA wsX11_list := gd_cons (by decide +kernel) (gd_app (gd_all (ws := wsX11_list_o1) (by decide +kernel)) (gd_app (gd_app Gd_X110 Gd_X11_isPerson) (gd_app Gd_X11_isDay Gd_X11_in)))
theorem Gd_X11_barred : gdA wsX11_barred := gd_cons (by decide +kernel) (gd_app (gd_all (ws := wsX11_barred_o1) (by decide +kernel)) (gd_app (gd_app Gd_X110 Gd_X11_isCrate) (gd_app Gd_X11_isDay Gd_X11_isBarred)))
theorem Gd_X11_day : gdA wsX11_day := gd_cons (by decide +kernel) (gd_app (gd_all (ws := wsX11_day_o1) (by decide +kernel)) (gd_app Gd_X110 Gd_X11_isDay))
theorem ggL_law_X10_verdict : GoodIn wsL_law wsX10_verdict := goodIn_s (fun _ h => (wm_r (wm_r (wm_r (wm_l (wm_l (wm_l (wm_r h)))))))) Gd_X10_verdict
theorem gL_law_X10_verdict : GoodIn wsL_law (wsV RL 142 RX10 yX10_verdict wsX10_verdict) := goodIn_V (own := RL) (idx := 142) (C := RX10) (y := yX10_verdict) (wm_l (wm_r (wm_l (wm_l (wm_r (wm_i 13 rfl)))))) (wm_l (wm_r (wm_l (wm_l (wm_r (wm_i 14 rfl)))))) (wm_l (wm_r (wm_l (wm_l (wm_r (wm_i 15 rfl)))))) (wm_l (wm_l (wm_l (wm_l (wm_l (wm_i 2 rfl)))))) ggL_law_X10_verdict
theorem ggL_law_X11_verdict : GoodIn wsL_law wsX11_verdict := goodIn_s (fun _ h => (wm_r (wm_r (wm_r (wm_l (wm_l (wm_r (wm_l (wm_l h))))))))) Gd_X11_verdict
theorem gL_law_X11_verdict : GoodIn wsL_law (wsV RL 145 RX11 yX11_verdict wsX11_verdict) := goodIn_V (own := RL) (idx := 145) (C := RX11) (y := yX11_verdict) (wm_l (wm_r (wm_l (wm_l (wm_r (wm_i 16 rfl)))))) (wm_l (wm_r (wm_l (wm_l (wm_r (wm_i 17 rfl)))))) (wm_l (wm_r (wm_l (wm_l (wm_r (wm_i 18 rfl)))))) (wm_l (wm_l (wm_l (wm_l (wm_l (wm_i 5 rfl)))))) ggL_law_X11_verdict
theorem ggL_law_X10_list : GoodIn wsL_law wsX10_list := goodIn_s (fun _ h => (wm_r (wm_r (wm_r (wm_l (wm_l (wm_r (wm_l (wm_r h))))))))) Gd_X10_list
theorem gL_law_X10_list : GoodIn wsL_law (wsV RL 146 RX10 yX10_list wsX10_list) := goodIn_V (own := RL) (idx := 146) (C := RX10) (y := yX10_list) (wm_l (wm_r (wm_l (wm_l (wm_r (wm_i 19 rfl)))))) (wm_l (wm_r (wm_l (wm_l (wm_r (wm_i 20 rfl)))))) (wm_l (wm_r (wm_l (wm_l (wm_r (wm_i 21 rfl)))))) (wm_l (wm_l (wm_l (wm_l (wm_l (wm_i 2 rfl)))))) ggL_law_X10_list
theorem ggL_law_X11_list : GoodIn wsL_law wsX11_list := goodIn_s (fun _ h => (wm_r (wm_r (wm_r (wm_l (wm_l (wm_r (wm_r h)))))))) Gd_X11_list
theorem gL_law_X11_list : GoodIn wsL_law (wsV RL 149 RX11 yX11_list wsX11_list) := goodIn_V (own := RL) (idx := 149) (C := RX11) (y := yX11_list) (wm_l (wm_r (wm_l (wm_l (wm_r (wm_i 22 rfl)))))) (wm_l (wm_r (wm_l (wm_l (wm_r (wm_i 23 rfl)))))) (wm_l (wm_r (wm_l (wm_r (wm_i 0 rfl))))) (wm_l (wm_l (wm_l (wm_l (wm_l (wm_i 5 rfl)))))) ggL_law_X11_list
theorem ggL_law_X10_barred : GoodIn wsL_law wsX10_barred := goodIn_s (fun _ h => (wm_r (wm_r (wm_r (wm_l (wm_r (wm_l (wm_l (wm_l h))))))))) Gd_X10_barred
theorem gL_law_X10_barred : GoodIn wsL_law (wsV RL 150 RX10 yX10_barred wsX10_barred) := goodIn_V (own := RL) (idx := 150) (C := RX10) (y := yX10_barred) (wm_l (wm_r (wm_l (wm_r (wm_i 1 rfl))))) (wm_l (wm_r (wm_l (wm_r (wm_i 2 rfl))))) (wm_l (wm_r (wm_l (wm_r (wm_i 3 rfl))))) (wm_l (wm_l (wm_l (wm_l (wm_l (wm_i 2 rfl)))))) ggL_law_X10_barred
theorem ggL_law_X11_barred : GoodIn wsL_law wsX11_barred := goodIn_s (fun _ h => (wm_r (wm_r (wm_r (wm_l (wm_r (wm_l (wm_l (wm_r h))))))))) Gd_X11_barred
theorem gL_law_X11_barred : GoodIn wsL_law (wsV RL 153 RX11 yX11_barred wsX11_barred) := goodIn_V (own := RL) (idx := 153) (C := RX11) (y := yX11_barred) (wm_l (wm_r (wm_l (wm_r (wm_i 4 rfl))))) (wm_l (wm_r (wm_l (wm_r (wm_i 5 rfl))))) (wm_l (wm_r (wm_l (wm_r (wm_i 6 rfl))))) (wm_l (wm_l (wm_l (wm_l (wm_l (wm_i 5 rfl)))))) ggL_law_X11_barred
theorem ggL_law_X10_day : GoodIn wsL_law wsX10_day := goodIn_s (fun _ h => (wm_r (wm_r (wm_r (wm_l (wm_r (wm_l (wm_r h)))))))) Gd_X10_day
theorem gL_law_X10_day : GoodIn wsL_law (wsV RL 154 RX10 yX10_day wsX10_day) := goodIn_V (own := RL) (idx := 154) (C := RX10) (y := yX10_day) (wm_l (wm_r (wm_l (wm_r (wm_i 7 rfl))))) (wm_l (wm_r (wm_l (wm_r (wm_i 8 rfl))))) (wm_l (wm_r (wm_l (wm_r (wm_i 9 rfl))))) (wm_l (wm_l (wm_l (wm_l (wm_l (wm_i 2 rfl)))))) ggL_law_X10_day
theorem ggL_law_X11_day : GoodIn wsL_law wsX11_day := goodIn_s (fun _ h => (wm_r (wm_r (wm_r (wm_l (wm_r (wm_r (wm_l h)))))))) Gd_X11_day
theorem gL_law_X11_day : GoodIn wsL_law (wsV RL 157 RX11 yX11_day wsX11_day) := goodIn_V (own := RL) (idx := 157) (C := RX11) (y := yX11_day) (wm_l (wm_r (wm_l (wm_r (wm_i 10 rfl))))) (wm_l (wm_r (wm_l (wm_r (wm_i 11 rfl))))) (wm_l (wm_r (wm_l (wm_r (wm_i 12 rfl))))) (wm_l (wm_l (wm_l (wm_l (wm_l (wm_i 5 rfl)))))) ggL_law_X11_day
theorem sB_58 : dqA cL_law 1392 sL_58 := dq_next sB_57 24 rfl
theorem sB_59 : dqA cL_law 1416 sL_59 := dq_next sB_58 24 rfl
theorem sB_60 : dqA cL_law 1440 sL_60 := dq_next sB_59 24 rfl
theorem sB_61 : dqA cL_law 1464 sL_61 := dq_next sB_60 24 rfl
theorem sB_62 : dqA cL_law 1488 sL_62 := dq_next sB_61 24 rfl
theorem dL_law_1382 : decode cL_law 1382 = .ok (.aload_n 1, 1) := dL_law_all85.2.2.2.2.2.2.2.2.1
theorem dL_law_1383 : decode cL_law 1383 = .ok (.aload_n 0, 1) := dL_law_all85.2.2.2.2.2.2.2.2.2.1
theorem dL_law_1384 : decode cL_law 1384 = .ok (.iload_n 3, 1) := dL_law_all85.2.2.2.2.2.2.2.2.2.2.1
theorem dL_law_1385 : decode cL_law 1385 = .ok (.iconst 1, 1) := dL_law_all85.2.2.2.2.2.2.2.2.2.2.2
theorem dL_law_all86 : decode cL_law 1386 = .ok (.iadd, 1) ∧ decode cL_law 1387 = .ok (.iaload, 1) ∧ decode cL_law 1388 = .ok (.invokevirtual 142, 3) ∧ decode cL_law 1391 = .ok (.pop, 1) ∧ decode cL_law 1392 = .ok (.aload_n 2, 1) ∧ decode cL_law 1393 = .ok (.aload_n 0, 1) ∧ decode cL_law 1394 = .ok (.iload_n 3, 1) ∧ decode cL_law 1395 = .ok (.iconst 1, 1) ∧ decode cL_law 1396 = .ok (.iadd, 1) ∧ decode cL_law 1397 = .ok (.iaload, 1) ∧ decode cL_law 1398 = .ok (.invokevirtual 145, 3) ∧ decode cL_law 1401 = .ok (.pop, 1) := ⟨dq_96 sB_57 18 rfl, dq_46 sB_57 19 rfl, dq_182 sB_57 20 rfl 142 (by decide), dq_87 sB_57 23 rfl, dq_44 sB_58 0 rfl, dq_42 sB_58 1 rfl, dq_29 sB_58 2 rfl, dq_4 sB_58 3 rfl, dq_96 sB_58 4 rfl, dq_46 sB_58 5 rfl, dq_182 sB_58 6 rfl 145 (by decide), dq_87 sB_58 9 rfl⟩
theorem dL_law_1386 : decode cL_law 1386 = .ok (.iadd, 1) := dL_law_all86.1
theorem dL_law_1387 : decode cL_law 1387 = .ok (.iaload, 1) := dL_law_all86.2.1
theorem dL_law_1388 : decode cL_law 1388 = .ok (.invokevirtual 142, 3) := dL_law_all86.2.2.1
theorem dL_law_1391 : decode cL_law 1391 = .ok (.pop, 1) := dL_law_all86.2.2.2.1
theorem dL_law_1392 : decode cL_law 1392 = .ok (.aload_n 2, 1) := dL_law_all86.2.2.2.2.1
theorem dL_law_1393 : decode cL_law 1393 = .ok (.aload_n 0, 1) := dL_law_all86.2.2.2.2.2.1
theorem dL_law_1394 : decode cL_law 1394 = .ok (.iload_n 3, 1) := dL_law_all86.2.2.2.2.2.2.1
theorem dL_law_1395 : decode cL_law 1395 = .ok (.iconst 1, 1) := dL_law_all86.2.2.2.2.2.2.2.1
theorem dL_law_1396 : decode cL_law 1396 = .ok (.iadd, 1) := dL_law_all86.2.2.2.2.2.2.2.2.1
theorem dL_law_1397 : decode cL_law 1397 = .ok (.iaload, 1) := dL_law_all86.2.2.2.2.2.2.2.2.2.1
theorem dL_law_1398 : decode cL_law 1398 = .ok (.invokevirtual 145, 3) := dL_law_all86.2.2.2.2.2.2.2.2.2.2.1
theorem dL_law_1401 : decode cL_law 1401 = .ok (.pop, 1) := dL_law_all86.2.2.2.2.2.2.2.2.2.2.2
theorem dL_law_all87 : decode cL_law 1402 = .ok (.goto 250, 3) ∧ decode cL_law 1405 = .ok (.aload_n 1, 1) ∧ decode cL_law 1406 = .ok (.aload_n 0, 1) ∧ decode cL_law 1407 = .ok (.iload_n 3, 1) ∧ decode cL_law 1408 = .ok (.iconst 1, 1) ∧ decode cL_law 1409 = .ok (.iadd, 1) ∧ decode cL_law 1410 = .ok (.iaload, 1) ∧ decode cL_law 1411 = .ok (.aload_n 0, 1) ∧ decode cL_law 1412 = .ok (.iload_n 3, 1) ∧ decode cL_law 1413 = .ok (.iconst 2, 1) ∧ decode cL_law 1414 = .ok (.iadd, 1) ∧ decode cL_law 1415 = .ok (.iaload, 1) := ⟨dq_167 sB_58 10 rfl 250 (by decide), dq_43 sB_58 13 rfl, dq_42 sB_58 14 rfl, dq_29 sB_58 15 rfl, dq_4 sB_58 16 rfl, dq_96 sB_58 17 rfl, dq_46 sB_58 18 rfl, dq_42 sB_58 19 rfl, dq_29 sB_58 20 rfl, dq_5 sB_58 21 rfl, dq_96 sB_58 22 rfl, dq_46 sB_58 23 rfl⟩
theorem dL_law_1402 : decode cL_law 1402 = .ok (.goto 250, 3) := dL_law_all87.1
theorem dL_law_1405 : decode cL_law 1405 = .ok (.aload_n 1, 1) := dL_law_all87.2.1
theorem dL_law_1406 : decode cL_law 1406 = .ok (.aload_n 0, 1) := dL_law_all87.2.2.1
theorem dL_law_1407 : decode cL_law 1407 = .ok (.iload_n 3, 1) := dL_law_all87.2.2.2.1
theorem dL_law_1408 : decode cL_law 1408 = .ok (.iconst 1, 1) := dL_law_all87.2.2.2.2.1
theorem dL_law_1409 : decode cL_law 1409 = .ok (.iadd, 1) := dL_law_all87.2.2.2.2.2.1
theorem dL_law_1410 : decode cL_law 1410 = .ok (.iaload, 1) := dL_law_all87.2.2.2.2.2.2.1
theorem dL_law_1411 : decode cL_law 1411 = .ok (.aload_n 0, 1) := dL_law_all87.2.2.2.2.2.2.2.1
theorem dL_law_1412 : decode cL_law 1412 = .ok (.iload_n 3, 1) := dL_law_all87.2.2.2.2.2.2.2.2.1
theorem dL_law_1413 : decode cL_law 1413 = .ok (.iconst 2, 1) := dL_law_all87.2.2.2.2.2.2.2.2.2.1
theorem dL_law_1414 : decode cL_law 1414 = .ok (.iadd, 1) := dL_law_all87.2.2.2.2.2.2.2.2.2.2.1
theorem dL_law_1415 : decode cL_law 1415 = .ok (.iaload, 1) := dL_law_all87.2.2.2.2.2.2.2.2.2.2.2
theorem dL_law_all88 : decode cL_law 1416 = .ok (.aload_n 0, 1) ∧ decode cL_law 1417 = .ok (.iload_n 3, 1) ∧ decode cL_law 1418 = .ok (.iconst 3, 1) ∧ decode cL_law 1419 = .ok (.iadd, 1) ∧ decode cL_law 1420 = .ok (.iaload, 1) ∧ decode cL_law 1421 = .ok (.invokevirtual 146, 3) ∧ decode cL_law 1424 = .ok (.pop, 1) ∧ decode cL_law 1425 = .ok (.aload_n 2, 1) ∧ decode cL_law 1426 = .ok (.aload_n 0, 1) ∧ decode cL_law 1427 = .ok (.iload_n 3, 1) ∧ decode cL_law 1428 = .ok (.iconst 1, 1) ∧ decode cL_law 1429 = .ok (.iadd, 1) := ⟨dq_42 sB_59 0 rfl, dq_29 sB_59 1 rfl, dq_6 sB_59 2 rfl, dq_96 sB_59 3 rfl, dq_46 sB_59 4 rfl, dq_182 sB_59 5 rfl 146 (by decide), dq_87 sB_59 8 rfl, dq_44 sB_59 9 rfl, dq_42 sB_59 10 rfl, dq_29 sB_59 11 rfl, dq_4 sB_59 12 rfl, dq_96 sB_59 13 rfl⟩
theorem dL_law_1416 : decode cL_law 1416 = .ok (.aload_n 0, 1) := dL_law_all88.1
theorem dL_law_1417 : decode cL_law 1417 = .ok (.iload_n 3, 1) := dL_law_all88.2.1
theorem dL_law_1418 : decode cL_law 1418 = .ok (.iconst 3, 1) := dL_law_all88.2.2.1
theorem dL_law_1419 : decode cL_law 1419 = .ok (.iadd, 1) := dL_law_all88.2.2.2.1
theorem dL_law_1420 : decode cL_law 1420 = .ok (.iaload, 1) := dL_law_all88.2.2.2.2.1
theorem dL_law_1421 : decode cL_law 1421 = .ok (.invokevirtual 146, 3) := dL_law_all88.2.2.2.2.2.1
theorem dL_law_1424 : decode cL_law 1424 = .ok (.pop, 1) := dL_law_all88.2.2.2.2.2.2.1
theorem dL_law_1425 : decode cL_law 1425 = .ok (.aload_n 2, 1) := dL_law_all88.2.2.2.2.2.2.2.1
theorem dL_law_1426 : decode cL_law 1426 = .ok (.aload_n 0, 1) := dL_law_all88.2.2.2.2.2.2.2.2.1
theorem dL_law_1427 : decode cL_law 1427 = .ok (.iload_n 3, 1) := dL_law_all88.2.2.2.2.2.2.2.2.2.1
theorem dL_law_1428 : decode cL_law 1428 = .ok (.iconst 1, 1) := dL_law_all88.2.2.2.2.2.2.2.2.2.2.1
theorem dL_law_1429 : decode cL_law 1429 = .ok (.iadd, 1) := dL_law_all88.2.2.2.2.2.2.2.2.2.2.2
theorem dL_law_all89 : decode cL_law 1430 = .ok (.iaload, 1) ∧ decode cL_law 1431 = .ok (.aload_n 0, 1) ∧ decode cL_law 1432 = .ok (.iload_n 3, 1) ∧ decode cL_law 1433 = .ok (.iconst 2, 1) ∧ decode cL_law 1434 = .ok (.iadd, 1) ∧ decode cL_law 1435 = .ok (.iaload, 1) ∧ decode cL_law 1436 = .ok (.aload_n 0, 1) ∧ decode cL_law 1437 = .ok (.iload_n 3, 1) ∧ decode cL_law 1438 = .ok (.iconst 3, 1) ∧ decode cL_law 1439 = .ok (.iadd, 1) ∧ decode cL_law 1440 = .ok (.iaload, 1) ∧ decode cL_law 1441 = .ok (.invokevirtual 149, 3) := ⟨dq_46 sB_59 14 rfl, dq_42 sB_59 15 rfl, dq_29 sB_59 16 rfl, dq_5 sB_59 17 rfl, dq_96 sB_59 18 rfl, dq_46 sB_59 19 rfl, dq_42 sB_59 20 rfl, dq_29 sB_59 21 rfl, dq_6 sB_59 22 rfl, dq_96 sB_59 23 rfl, dq_46 sB_60 0 rfl, dq_182 sB_60 1 rfl 149 (by decide)⟩
theorem dL_law_1430 : decode cL_law 1430 = .ok (.iaload, 1) := dL_law_all89.1
theorem dL_law_1431 : decode cL_law 1431 = .ok (.aload_n 0, 1) := dL_law_all89.2.1
theorem dL_law_1432 : decode cL_law 1432 = .ok (.iload_n 3, 1) := dL_law_all89.2.2.1
theorem dL_law_1433 : decode cL_law 1433 = .ok (.iconst 2, 1) := dL_law_all89.2.2.2.1
theorem dL_law_1434 : decode cL_law 1434 = .ok (.iadd, 1) := dL_law_all89.2.2.2.2.1
theorem dL_law_1435 : decode cL_law 1435 = .ok (.iaload, 1) := dL_law_all89.2.2.2.2.2.1
theorem dL_law_1436 : decode cL_law 1436 = .ok (.aload_n 0, 1) := dL_law_all89.2.2.2.2.2.2.1
theorem dL_law_1437 : decode cL_law 1437 = .ok (.iload_n 3, 1) := dL_law_all89.2.2.2.2.2.2.2.1
theorem dL_law_1438 : decode cL_law 1438 = .ok (.iconst 3, 1) := dL_law_all89.2.2.2.2.2.2.2.2.1
theorem dL_law_1439 : decode cL_law 1439 = .ok (.iadd, 1) := dL_law_all89.2.2.2.2.2.2.2.2.2.1
theorem dL_law_1440 : decode cL_law 1440 = .ok (.iaload, 1) := dL_law_all89.2.2.2.2.2.2.2.2.2.2.1
theorem dL_law_1441 : decode cL_law 1441 = .ok (.invokevirtual 149, 3) := dL_law_all89.2.2.2.2.2.2.2.2.2.2.2
theorem dL_law_all90 : decode cL_law 1444 = .ok (.pop, 1) ∧ decode cL_law 1445 = .ok (.goto 207, 3) ∧ decode cL_law 1448 = .ok (.aload_n 1, 1) ∧ decode cL_law 1449 = .ok (.aload_n 0, 1) ∧ decode cL_law 1450 = .ok (.iload_n 3, 1) ∧ decode cL_law 1451 = .ok (.iconst 1, 1) ∧ decode cL_law 1452 = .ok (.iadd, 1) ∧ decode cL_law 1453 = .ok (.iaload, 1) ∧ decode cL_law 1454 = .ok (.aload_n 0, 1) ∧ decode cL_law 1455 = .ok (.iload_n 3, 1) ∧ decode cL_law 1456 = .ok (.iconst 2, 1) ∧ decode cL_law 1457 = .ok (.iadd, 1) := ⟨dq_87 sB_60 4 rfl, dq_167 sB_60 5 rfl 207 (by decide), dq_43 sB_60 8 rfl, dq_42 sB_60 9 rfl, dq_29 sB_60 10 rfl, dq_4 sB_60 11 rfl, dq_96 sB_60 12 rfl, dq_46 sB_60 13 rfl, dq_42 sB_60 14 rfl, dq_29 sB_60 15 rfl, dq_5 sB_60 16 rfl, dq_96 sB_60 17 rfl⟩
theorem dL_law_1444 : decode cL_law 1444 = .ok (.pop, 1) := dL_law_all90.1
theorem dL_law_1445 : decode cL_law 1445 = .ok (.goto 207, 3) := dL_law_all90.2.1
theorem dL_law_1448 : decode cL_law 1448 = .ok (.aload_n 1, 1) := dL_law_all90.2.2.1
theorem dL_law_1449 : decode cL_law 1449 = .ok (.aload_n 0, 1) := dL_law_all90.2.2.2.1
theorem dL_law_1450 : decode cL_law 1450 = .ok (.iload_n 3, 1) := dL_law_all90.2.2.2.2.1
theorem dL_law_1451 : decode cL_law 1451 = .ok (.iconst 1, 1) := dL_law_all90.2.2.2.2.2.1
theorem dL_law_1452 : decode cL_law 1452 = .ok (.iadd, 1) := dL_law_all90.2.2.2.2.2.2.1
theorem dL_law_1453 : decode cL_law 1453 = .ok (.iaload, 1) := dL_law_all90.2.2.2.2.2.2.2.1
theorem dL_law_1454 : decode cL_law 1454 = .ok (.aload_n 0, 1) := dL_law_all90.2.2.2.2.2.2.2.2.1
theorem dL_law_1455 : decode cL_law 1455 = .ok (.iload_n 3, 1) := dL_law_all90.2.2.2.2.2.2.2.2.2.1
theorem dL_law_1456 : decode cL_law 1456 = .ok (.iconst 2, 1) := dL_law_all90.2.2.2.2.2.2.2.2.2.2.1
theorem dL_law_1457 : decode cL_law 1457 = .ok (.iadd, 1) := dL_law_all90.2.2.2.2.2.2.2.2.2.2.2
theorem dL_law_all91 : decode cL_law 1458 = .ok (.iaload, 1) ∧ decode cL_law 1459 = .ok (.invokevirtual 150, 3) ∧ decode cL_law 1462 = .ok (.pop, 1) ∧ decode cL_law 1463 = .ok (.aload_n 2, 1) ∧ decode cL_law 1464 = .ok (.aload_n 0, 1) ∧ decode cL_law 1465 = .ok (.iload_n 3, 1) ∧ decode cL_law 1466 = .ok (.iconst 1, 1) ∧ decode cL_law 1467 = .ok (.iadd, 1) ∧ decode cL_law 1468 = .ok (.iaload, 1) ∧ decode cL_law 1469 = .ok (.aload_n 0, 1) ∧ decode cL_law 1470 = .ok (.iload_n 3, 1) ∧ decode cL_law 1471 = .ok (.iconst 2, 1) := ⟨dq_46 sB_60 18 rfl, dq_182 sB_60 19 rfl 150 (by decide), dq_87 sB_60 22 rfl, dq_44 sB_60 23 rfl, dq_42 sB_61 0 rfl, dq_29 sB_61 1 rfl, dq_4 sB_61 2 rfl, dq_96 sB_61 3 rfl, dq_46 sB_61 4 rfl, dq_42 sB_61 5 rfl, dq_29 sB_61 6 rfl, dq_5 sB_61 7 rfl⟩
theorem dL_law_1458 : decode cL_law 1458 = .ok (.iaload, 1) := dL_law_all91.1
theorem dL_law_1459 : decode cL_law 1459 = .ok (.invokevirtual 150, 3) := dL_law_all91.2.1
theorem dL_law_1462 : decode cL_law 1462 = .ok (.pop, 1) := dL_law_all91.2.2.1
theorem dL_law_1463 : decode cL_law 1463 = .ok (.aload_n 2, 1) := dL_law_all91.2.2.2.1
theorem dL_law_1464 : decode cL_law 1464 = .ok (.aload_n 0, 1) := dL_law_all91.2.2.2.2.1
theorem dL_law_1465 : decode cL_law 1465 = .ok (.iload_n 3, 1) := dL_law_all91.2.2.2.2.2.1
theorem dL_law_1466 : decode cL_law 1466 = .ok (.iconst 1, 1) := dL_law_all91.2.2.2.2.2.2.1
theorem dL_law_1467 : decode cL_law 1467 = .ok (.iadd, 1) := dL_law_all91.2.2.2.2.2.2.2.1
theorem dL_law_1468 : decode cL_law 1468 = .ok (.iaload, 1) := dL_law_all91.2.2.2.2.2.2.2.2.1
theorem dL_law_1469 : decode cL_law 1469 = .ok (.aload_n 0, 1) := dL_law_all91.2.2.2.2.2.2.2.2.2.1
theorem dL_law_1470 : decode cL_law 1470 = .ok (.iload_n 3, 1) := dL_law_all91.2.2.2.2.2.2.2.2.2.2.1
theorem dL_law_1471 : decode cL_law 1471 = .ok (.iconst 2, 1) := dL_law_all91.2.2.2.2.2.2.2.2.2.2.2
theorem dL_law_all92 : decode cL_law 1472 = .ok (.iadd, 1) ∧ decode cL_law 1473 = .ok (.iaload, 1) ∧ decode cL_law 1474 = .ok (.invokevirtual 153, 3) ∧ decode cL_law 1477 = .ok (.pop, 1) ∧ decode cL_law 1478 = .ok (.goto 174, 3) ∧ decode cL_law 1481 = .ok (.aload_n 1, 1) ∧ decode cL_law 1482 = .ok (.aload_n 0, 1) ∧ decode cL_law 1483 = .ok (.iload_n 3, 1) ∧ decode cL_law 1484 = .ok (.iconst 1, 1) ∧ decode cL_law 1485 = .ok (.iadd, 1) ∧ decode cL_law 1486 = .ok (.iaload, 1) ∧ decode cL_law 1487 = .ok (.invokevirtual 154, 3) := ⟨dq_96 sB_61 8 rfl, dq_46 sB_61 9 rfl, dq_182 sB_61 10 rfl 153 (by decide), dq_87 sB_61 13 rfl, dq_167 sB_61 14 rfl 174 (by decide), dq_43 sB_61 17 rfl, dq_42 sB_61 18 rfl, dq_29 sB_61 19 rfl, dq_4 sB_61 20 rfl, dq_96 sB_61 21 rfl, dq_46 sB_61 22 rfl, dq_182 sB_61 23 rfl 154 (by decide)⟩
theorem dL_law_1472 : decode cL_law 1472 = .ok (.iadd, 1) := dL_law_all92.1
theorem dL_law_1473 : decode cL_law 1473 = .ok (.iaload, 1) := dL_law_all92.2.1
theorem dL_law_1474 : decode cL_law 1474 = .ok (.invokevirtual 153, 3) := dL_law_all92.2.2.1
theorem dL_law_1477 : decode cL_law 1477 = .ok (.pop, 1) := dL_law_all92.2.2.2.1
theorem dL_law_1478 : decode cL_law 1478 = .ok (.goto 174, 3) := dL_law_all92.2.2.2.2.1
theorem dL_law_1481 : decode cL_law 1481 = .ok (.aload_n 1, 1) := dL_law_all92.2.2.2.2.2.1
theorem dL_law_1482 : decode cL_law 1482 = .ok (.aload_n 0, 1) := dL_law_all92.2.2.2.2.2.2.1
theorem dL_law_1483 : decode cL_law 1483 = .ok (.iload_n 3, 1) := dL_law_all92.2.2.2.2.2.2.2.1
theorem dL_law_1484 : decode cL_law 1484 = .ok (.iconst 1, 1) := dL_law_all92.2.2.2.2.2.2.2.2.1
theorem dL_law_1485 : decode cL_law 1485 = .ok (.iadd, 1) := dL_law_all92.2.2.2.2.2.2.2.2.2.1
theorem dL_law_1486 : decode cL_law 1486 = .ok (.iaload, 1) := dL_law_all92.2.2.2.2.2.2.2.2.2.2.1
theorem dL_law_1487 : decode cL_law 1487 = .ok (.invokevirtual 154, 3) := dL_law_all92.2.2.2.2.2.2.2.2.2.2.2
theorem dL_law_all93 : decode cL_law 1490 = .ok (.pop, 1) ∧ decode cL_law 1491 = .ok (.aload_n 2, 1) ∧ decode cL_law 1492 = .ok (.aload_n 0, 1) ∧ decode cL_law 1493 = .ok (.iload_n 3, 1) ∧ decode cL_law 1494 = .ok (.iconst 1, 1) ∧ decode cL_law 1495 = .ok (.iadd, 1) ∧ decode cL_law 1496 = .ok (.iaload, 1) ∧ decode cL_law 1497 = .ok (.invokevirtual 157, 3) ∧ decode cL_law 1500 = .ok (.pop, 1) ∧ decode cL_law 1501 = .ok (.goto 151, 3) ∧ decode cL_law 1504 = .ok (.aload_n 1, 1) ∧ decode cL_law 1505 = .ok (.aload_n 0, 1) := ⟨dq_87 sB_62 2 rfl, dq_44 sB_62 3 rfl, dq_42 sB_62 4 rfl, dq_29 sB_62 5 rfl, dq_4 sB_62 6 rfl, dq_96 sB_62 7 rfl, dq_46 sB_62 8 rfl, dq_182 sB_62 9 rfl 157 (by decide), dq_87 sB_62 12 rfl, dq_167 sB_62 13 rfl 151 (by decide), dq_43 sB_62 16 rfl, dq_42 sB_62 17 rfl⟩
theorem dL_law_1490 : decode cL_law 1490 = .ok (.pop, 1) := dL_law_all93.1
theorem dL_law_1491 : decode cL_law 1491 = .ok (.aload_n 2, 1) := dL_law_all93.2.1
theorem dL_law_1492 : decode cL_law 1492 = .ok (.aload_n 0, 1) := dL_law_all93.2.2.1
theorem dL_law_1493 : decode cL_law 1493 = .ok (.iload_n 3, 1) := dL_law_all93.2.2.2.1
theorem dL_law_1494 : decode cL_law 1494 = .ok (.iconst 1, 1) := dL_law_all93.2.2.2.2.1
theorem dL_law_1495 : decode cL_law 1495 = .ok (.iadd, 1) := dL_law_all93.2.2.2.2.2.1
theorem dL_law_1496 : decode cL_law 1496 = .ok (.iaload, 1) := dL_law_all93.2.2.2.2.2.2.1
theorem dL_law_1497 : decode cL_law 1497 = .ok (.invokevirtual 157, 3) := dL_law_all93.2.2.2.2.2.2.2.1
theorem dL_law_1500 : decode cL_law 1500 = .ok (.pop, 1) := dL_law_all93.2.2.2.2.2.2.2.2.1
theorem dL_law_1501 : decode cL_law 1501 = .ok (.goto 151, 3) := dL_law_all93.2.2.2.2.2.2.2.2.2.1
set_option maxHeartbeats 4000000 in
set_option maxRecDepth 100000 in
theorem law_case_28 {p : Program} {l : Launch} {e : Env} {s : State} {m : MethodId} {below : List Frame} {meth : Method} {c : Code} {D : va_G} {cI cY cJ cQ : ClassId} {b L aK aV : Nat} {xs : Nat → Int32} {ad rw md : Nat → Nat} {sd i : Int32} {nx : Nat → Int32} {fx rs : Nat → Nat → Int32} {lo : Nat → Int64} {ny : Nat → Int32} {fy : Nat → Nat → Int32} {fl : Nat → Int64} {H : Heap} {locs : List Loc} {ls : Array Slot} (C0 : lawC p s m meth c b L xs D cI cY cJ cQ aK aV) (I : inv nx fx rs ny fy) (hP : va_P D vwCl (wX ad rw sd cI cY cJ cQ nx fx rs lo ++ wM md sd cI cY cJ cQ ny fy fl) H) (hD : va_D (fun q : Nat => s.heap.size ≤ q) (wX ad rw sd cI cY cJ cQ nx fx rs lo ++ wM md sd cI cY cJ cQ ny fy fl)) (hS : va_S (fun q : Nat => s.heap.size ≤ q) s.heap H locs) (hl : lv_has ls 4 [(0, .ref b), (1, .ref (ad 0)), (2, .ref (md 64)), (3, .int i)]) (hi1 : 1 ≤ i.toInt) (hi2 : i.toInt + 5 < L) (kk : ∀ (nx : Nat → Int32) (fx rs : Nat → Nat → Int32) (lo : Nat → Int64) (ny : Nat → Int32) (fy : Nat → Nat → Int32) (fl : Nat → Int64) (H : Heap) (locs : List Loc) (ls : Array Slot), inv nx fx rs ny fy → va_P D vwCl (wX ad rw sd cI cY cJ cQ nx fx rs lo ++ wM md sd cI cY cJ cQ ny fy fl) H → va_D (fun q : Nat => s.heap.size ≤ q) (wX ad rw sd cI cY cJ cQ nx fx rs lo ++ wM md sd cI cY cJ cQ ny fy fl) → va_S (fun q : Nat => s.heap.size ≤ q) s.heap H locs → lv_has ls 4 [(0, .ref b), (1, .ref (ad 0)), (2, .ref (md 64)), (3, .int i)] → W p l e room_1 s m #[Value.ref b] below meth c H locs 107 4890 (lw_Z below #[Value.ref b] s) (F0 m 1652 ls [])) : W p l e room_1 s m #[Value.ref b] below meth c H locs 107 4890 (lw_Z below #[Value.ref b] s) (F0 m 1382 ls []) := by
  obtain ⟨C1, hK, hN, hT, hL⟩ := C0
  obtain ⟨hx, hb, hr, hml, hown, hts0, hX, hbl, hlocks, hgv⟩ := C1
  have hA : ∀ q : Nat, s.heap.size ≤ q → (fun q : Nat => s.heap.size ≤ q) q := fun _ h => h
  have hbA : ¬ (fun q : Nat => s.heap.size ≤ q) b := Nat.not_le.mpr hbl
  have hts : ∀ w ∈ wsL_law, w.before #[Value.ref b] s = true := fun w h => hts0 w (wsL_law_in w h)
  replace hown : s.vm.findClass RL = some m.cls := hown
  replace hb : c.code = cL_law := hb
  have hak1 : vp_in (i + 1) L := law_in hi1 hi2 hL (by decide)
  obtain ⟨xk1, exk1⟩ : ∃ y : Int32, y = xs (i + 1).toNatClampNeg := ⟨_, rfl⟩
  refine inv_el I ?_
  intro Xhna Xhnb XH XD XV XN Xcna Xcnb XF Xpna Xpnb XG XO XW Xgna Xgnb XJ Xlna Xlnb Xdla Xdlb Xana Xanb Xuna Xunb XU Xlca Xlcb Xtna Xtnb XS Mhna Mhnb MH MS Mmlna Mmlnb Mmtna Mmtnb Chn Cho Chc Chp Chs Ccn Cfo Cwo Cpn Cpk Cpf Cpo Cpd Cpe Cgn Cgk Cgs Cgd Cge Can Cak Cah Cay Caz Cun Cuk Cuy Cuw Cum Clc Clp Cla Clb Caw Ciw Cln Ctd Cro Cmtn Cmtr Cmst Csh
  have Tcn := i_eq Ccn
  have Tpn := i_eq Cpn
  have Tgn := i_eq Cgn
  have Tan := i_eq Can
  have Tun := i_eq Cun
  have Tlc := i_eq Clc
  have Tln := i_eq Cln
  refine lv_aload_n hx hb dL_law_1382 rfl (lv_at hl 1 rfl) ?_
  refine law_arg (v := 1) hx hb hX hbl hbA hS (lv_at hl 0 rfl) (lv_at hl 3 rfl) (by decide) hak1 exk1 dL_law_1383 dL_law_1384 dL_law_1385 dL_law_1386 dL_law_1387 ?_
  refine st_iU (va_runV (C := RX10) (As := [.int xk1]) (rest := []) ⟨hx, hb, hml, hown, hts⟩ (ct_X10_verdict l D cI cY cJ cQ _ ad (nx 0) (nx 1) (nx 2) (nx 4) (nx 16) (fx 38) (fx 39) (fx 40) (fx 41) xk1 Xuna Xunb) (cwV 1 hts gL_law_X10_verdict rfl rfl rfl ⟨rfl, cdX10_verdict⟩ ⟨Nat.le_of_ble_eq_true rfl, Nat.le_of_ble_eq_true rfl⟩) (cPreV (hP.sub [0, 23, 57, 58, 59, 60, 61] rfl) hK (hD.sub [0, 23, 57, 58, 59, 60, 61] (by decide +kernel) rfl) hN (ci := 10) (q0 := 0) rfl rfl) rfl rfl hl.1 rfl (lv_room (Nat.le_of_ble_eq_true rfl)) dL_law_1388 ⟨Nat.le_of_ble_eq_true rfl, Nat.le_of_ble_eq_true rfl⟩) hP hD hS hA [0, 23, 57, 58, 59, 60, 61] rfl (fun _ => rfl) (fun r3 u1 H locs hw2 => ?_)
  clear hP hS
  intro hP hS
  replace hw2 : r3 = sp_verdict (nx 4) (nx 16) (fx 38) (fx 39) (fx 40) (fx 41) xk1 := hw2
  refine lv_pop hx hb dL_law_1391 rfl ?_
  have hPx : va_P D vwCl (wX ad rw sd cI cY cJ cQ nx fx rs lo ++ wM md sd cI cY cJ cQ ny fy fl) H := hP
  have hDx : va_D (fun q : Nat => s.heap.size ≤ q) (wX ad rw sd cI cY cJ cQ nx fx rs lo ++ wM md sd cI cY cJ cQ ny fy fl) := wXM_D hD
  have hP := hPx.comm
  have hD := hDx.comm
  refine lv_aload_n hx hb dL_law_1392 rfl (lv_at hl 2 rfl) ?_
  refine law_arg (v := 1) hx hb hX hbl hbA hS (lv_at hl 0 rfl) (lv_at hl 3 rfl) (by decide) hak1 exk1 dL_law_1393 dL_law_1394 dL_law_1395 dL_law_1396 dL_law_1397 ?_
  refine st_iU (va_runV (C := RX11) (As := [.int xk1]) (rest := []) ⟨hx, hb, hml, hown, hts⟩ (ct_X11_verdict l D cI cY cJ cQ _ md sd (ny 0) (ny 1) (ny 2) (ny 3) (ny 4) (ny 5) (ny 6) (ny 7) (ny 8) (ny 9) (ny 10) (ny 11) (ny 12) (ny 13) (ny 14) (ny 15) (ny 16) (ny 17) (ny 18) (ny 19) (ny 20) (ny 21) (ny 22) (fy 31) (fy 32) (fy 33) (fy 34) xk1 (by omega) (by omega) (by omega) (by omega)) (cwV 1 hts gL_law_X11_verdict rfl rfl rfl ⟨rfl, cdX11_verdict⟩ ⟨Nat.le_of_ble_eq_true rfl, Nat.le_of_ble_eq_true rfl⟩) (cPreV (hP.sub [0, 33, 34, 35, 36] rfl) hK (hD.sub [0, 33, 34, 35, 36] (by decide +kernel) rfl) hN (ci := 11) (q0 := 0) rfl rfl) rfl rfl hl.1 rfl (lv_room (Nat.le_of_ble_eq_true rfl)) dL_law_1398 ⟨Nat.le_of_ble_eq_true rfl, Nat.le_of_ble_eq_true rfl⟩) hP hD hS hA [0, 33, 34, 35, 36] rfl (fun _ => rfl) (fun r6 u4 H locs hw5 => ?_)
  clear hP hS
  intro hP hS
  replace hw5 : r6 = sm_verdict (ny 3) (ny 19) (fy 31) (fy 32) (fy 33) (fy 34) xk1 := hw5
  rw [Ccn, Cun, Cuk, Cuy, Cuw, Cum, ← verdict_eq (by omega) (by omega) XU] at hw5
  have e90 := hw2.trans hw5.symm
  refine lv_pop hx hb dL_law_1401 rfl ?_
  refine lv_goto (tgt := 1652) hx hb dL_law_1402 (by decide) ?_
  have hPm : va_P D vwCl (wM md sd cI cY cJ cQ (upd ny 0 0) fy fl ++ wX ad rw sd cI cY cJ cQ nx fx rs lo) H := hP
  have hDm : va_D (fun q : Nat => s.heap.size ≤ q) (wM md sd cI cY cJ cQ (upd ny 0 0) fy fl ++ wX ad rw sd cI cY cJ cQ nx fx rs lo) := wMX_D hD
  exact kk nx fx rs lo (upd ny 0 0) fy fl H locs ls ⟨Xhna, Xhnb, XH, XD, XV, XN, Xcna, Xcnb, XF, Xpna, Xpnb, XG, XO, XW, Xgna, Xgnb, XJ, Xlna, Xlnb, Xdla, Xdlb, Xana, Xanb, Xuna, Xunb, XU, Xlca, Xlcb, Xtna, Xtnb, XS, Mhna, Mhnb, MH, MS, Mmlna, Mmlnb, Mmtna, Mmtnb, Chn, Cho, Chc, Chp, Chs, Ccn, Cfo, Cwo, Cpn, Cpk, Cpf, Cpo, Cpd, Cpe, Cgn, Cgk, Cgs, Cgd, Cge, Can, Cak, Cah, Cay, Caz, Cun, Cuk, Cuy, Cuw, Cum, Clc, Clp, Cla, Clb, Caw, Ciw, Cln, Ctd, Cro, Cmtn, Cmtr, Cmst, Csh⟩ hPm.comm hDm.comm hS hl

set_option maxHeartbeats 4000000 in
set_option maxRecDepth 100000 in
theorem law_case_29 {p : Program} {l : Launch} {e : Env} {s : State} {m : MethodId} {below : List Frame} {meth : Method} {c : Code} {D : va_G} {cI cY cJ cQ : ClassId} {b L aK aV : Nat} {xs : Nat → Int32} {ad rw md : Nat → Nat} {sd i : Int32} {nx : Nat → Int32} {fx rs : Nat → Nat → Int32} {lo : Nat → Int64} {ny : Nat → Int32} {fy : Nat → Nat → Int32} {fl : Nat → Int64} {H : Heap} {locs : List Loc} {ls : Array Slot} (C0 : lawC p s m meth c b L xs D cI cY cJ cQ aK aV) (I : inv nx fx rs ny fy) (hP : va_P D vwCl (wX ad rw sd cI cY cJ cQ nx fx rs lo ++ wM md sd cI cY cJ cQ ny fy fl) H) (hD : va_D (fun q : Nat => s.heap.size ≤ q) (wX ad rw sd cI cY cJ cQ nx fx rs lo ++ wM md sd cI cY cJ cQ ny fy fl)) (hS : va_S (fun q : Nat => s.heap.size ≤ q) s.heap H locs) (hl : lv_has ls 4 [(0, .ref b), (1, .ref (ad 0)), (2, .ref (md 64)), (3, .int i)]) (hi1 : 1 ≤ i.toInt) (hi2 : i.toInt + 5 < L) (kk : ∀ (nx : Nat → Int32) (fx rs : Nat → Nat → Int32) (lo : Nat → Int64) (ny : Nat → Int32) (fy : Nat → Nat → Int32) (fl : Nat → Int64) (H : Heap) (locs : List Loc) (ls : Array Slot), inv nx fx rs ny fy → va_P D vwCl (wX ad rw sd cI cY cJ cQ nx fx rs lo ++ wM md sd cI cY cJ cQ ny fy fl) H → va_D (fun q : Nat => s.heap.size ≤ q) (wX ad rw sd cI cY cJ cQ nx fx rs lo ++ wM md sd cI cY cJ cQ ny fy fl) → va_S (fun q : Nat => s.heap.size ≤ q) s.heap H locs → lv_has ls 4 [(0, .ref b), (1, .ref (ad 0)), (2, .ref (md 64)), (3, .int i)] → W p l e room_1 s m #[Value.ref b] below meth c H locs 107 4890 (lw_Z below #[Value.ref b] s) (F0 m 1652 ls [])) : W p l e room_1 s m #[Value.ref b] below meth c H locs 107 4890 (lw_Z below #[Value.ref b] s) (F0 m 1405 ls []) := by
  obtain ⟨C1, hK, hN, hT, hL⟩ := C0
  obtain ⟨hx, hb, hr, hml, hown, hts0, hX, hbl, hlocks, hgv⟩ := C1
  have hA : ∀ q : Nat, s.heap.size ≤ q → (fun q : Nat => s.heap.size ≤ q) q := fun _ h => h
  have hbA : ¬ (fun q : Nat => s.heap.size ≤ q) b := Nat.not_le.mpr hbl
  have hts : ∀ w ∈ wsL_law, w.before #[Value.ref b] s = true := fun w h => hts0 w (wsL_law_in w h)
  replace hown : s.vm.findClass RL = some m.cls := hown
  replace hb : c.code = cL_law := hb
  have hak1 : vp_in (i + 1) L := law_in hi1 hi2 hL (by decide)
  obtain ⟨xk1, exk1⟩ : ∃ y : Int32, y = xs (i + 1).toNatClampNeg := ⟨_, rfl⟩
  have hak2 : vp_in (i + 2) L := law_in hi1 hi2 hL (by decide)
  obtain ⟨xk2, exk2⟩ : ∃ y : Int32, y = xs (i + 2).toNatClampNeg := ⟨_, rfl⟩
  have hak3 : vp_in (i + 3) L := law_in hi1 hi2 hL (by decide)
  obtain ⟨xk3, exk3⟩ : ∃ y : Int32, y = xs (i + 3).toNatClampNeg := ⟨_, rfl⟩
  refine inv_el I ?_
  intro Xhna Xhnb XH XD XV XN Xcna Xcnb XF Xpna Xpnb XG XO XW Xgna Xgnb XJ Xlna Xlnb Xdla Xdlb Xana Xanb Xuna Xunb XU Xlca Xlcb Xtna Xtnb XS Mhna Mhnb MH MS Mmlna Mmlnb Mmtna Mmtnb Chn Cho Chc Chp Chs Ccn Cfo Cwo Cpn Cpk Cpf Cpo Cpd Cpe Cgn Cgk Cgs Cgd Cge Can Cak Cah Cay Caz Cun Cuk Cuy Cuw Cum Clc Clp Cla Clb Caw Ciw Cln Ctd Cro Cmtn Cmtr Cmst Csh
  have Tcn := i_eq Ccn
  have Tpn := i_eq Cpn
  have Tgn := i_eq Cgn
  have Tan := i_eq Can
  have Tun := i_eq Cun
  have Tlc := i_eq Clc
  have Tln := i_eq Cln
  refine lv_aload_n hx hb dL_law_1405 rfl (lv_at hl 1 rfl) ?_
  refine law_arg (v := 1) hx hb hX hbl hbA hS (lv_at hl 0 rfl) (lv_at hl 3 rfl) (by decide) hak1 exk1 dL_law_1406 dL_law_1407 dL_law_1408 dL_law_1409 dL_law_1410 ?_
  refine law_arg (v := 2) hx hb hX hbl hbA hS (lv_at hl 0 rfl) (lv_at hl 3 rfl) (by decide) hak2 exk2 dL_law_1411 dL_law_1412 dL_law_1413 dL_law_1414 dL_law_1415 ?_
  refine law_arg (v := 3) hx hb hX hbl hbA hS (lv_at hl 0 rfl) (lv_at hl 3 rfl) (by decide) hak3 exk3 dL_law_1416 dL_law_1417 dL_law_1418 dL_law_1419 dL_law_1420 ?_
  refine st_iU (va_runV (C := RX10) (As := [.int xk1, .int xk2, .int xk3]) (rest := []) ⟨hx, hb, hml, hown, hts⟩ (ct_X10_list l D cI cY cJ cQ _ ad (nx 0) (nx 1) (nx 2) (nx 17) (fx 42) (fx 43) (fx 44) xk1 xk2 xk3 Xlca Xlcb) (cwV 3 hts gL_law_X10_list rfl rfl rfl ⟨rfl, cdX10_list⟩ ⟨Nat.le_of_ble_eq_true rfl, Nat.le_of_ble_eq_true rfl⟩) (cPreV (hP.sub [0, 62, 63, 64, 65] rfl) hK (hD.sub [0, 62, 63, 64, 65] (by decide +kernel) rfl) hN (ci := 10) (q0 := 0) rfl rfl) rfl rfl hl.1 rfl (lv_room (Nat.le_of_ble_eq_true rfl)) dL_law_1421 ⟨Nat.le_of_ble_eq_true rfl, Nat.le_of_ble_eq_true rfl⟩) hP hD hS hA [0, 62, 63, 64, 65] rfl (fun _ => rfl) (fun r3 u1 H locs hw2 => ?_)
  clear hP hS
  intro hP hS
  obtain ⟨lc_4, lp_5, la_6, lb_7⟩ := u1
  replace hw2 : (r3, (lc_4, lp_5, la_6, lb_7)) = sp_list (nx 17) (fx 42) (fx 43) (fx 44) xk1 xk2 xk3 := hw2
  obtain ⟨hw2a, hw2b⟩ := sp_list_ok hw2 (by omega) (by omega)
  refine lv_pop hx hb dL_law_1424 rfl ?_
  have hPx : va_P D vwCl (wX ad rw sd cI cY cJ cQ (upd nx 17 lc_4) (upR (upR (upR fx 42 lp_5) 43 la_6) 44 lb_7) rs lo ++ wM md sd cI cY cJ cQ ny fy fl) H := hP
  have hDx : va_D (fun q : Nat => s.heap.size ≤ q) (wX ad rw sd cI cY cJ cQ (upd nx 17 lc_4) (upR (upR (upR fx 42 lp_5) 43 la_6) 44 lb_7) rs lo ++ wM md sd cI cY cJ cQ ny fy fl) := wXM_D hD
  have hP := hPx.comm
  have hD := hDx.comm
  refine lv_aload_n hx hb dL_law_1425 rfl (lv_at hl 2 rfl) ?_
  refine law_arg (v := 1) hx hb hX hbl hbA hS (lv_at hl 0 rfl) (lv_at hl 3 rfl) (by decide) hak1 exk1 dL_law_1426 dL_law_1427 dL_law_1428 dL_law_1429 dL_law_1430 ?_
  refine law_arg (v := 2) hx hb hX hbl hbA hS (lv_at hl 0 rfl) (lv_at hl 3 rfl) (by decide) hak2 exk2 dL_law_1431 dL_law_1432 dL_law_1433 dL_law_1434 dL_law_1435 ?_
  refine law_arg (v := 3) hx hb hX hbl hbA hS (lv_at hl 0 rfl) (lv_at hl 3 rfl) (by decide) hak3 exk3 dL_law_1436 dL_law_1437 dL_law_1438 dL_law_1439 dL_law_1440 ?_
  refine st_iU (va_runV (C := RX11) (As := [.int xk1, .int xk2, .int xk3]) (rest := []) ⟨hx, hb, hml, hown, hts⟩ (ct_X11_list l D cI cY cJ cQ _ md sd (ny 0) (ny 1) (ny 2) (ny 3) (ny 4) (ny 5) (ny 6) (ny 7) (ny 8) (ny 9) (ny 10) (ny 11) (ny 12) (ny 13) (ny 14) (ny 15) (ny 16) (ny 17) (ny 18) (ny 19) (ny 20) (ny 21) (ny 22) (fy 35) (fy 36) (fy 37) xk1 xk2 xk3 (by omega) (by omega)) (cwV 3 hts gL_law_X11_list rfl rfl rfl ⟨rfl, cdX11_list⟩ ⟨Nat.le_of_ble_eq_true rfl, Nat.le_of_ble_eq_true rfl⟩) (cPreV (hP.sub [0, 37, 38, 39] rfl) hK (hD.sub [0, 37, 38, 39] (by decide +kernel) rfl) hN (ci := 11) (q0 := 0) rfl rfl) rfl rfl hl.1 rfl (lv_room (Nat.le_of_ble_eq_true rfl)) dL_law_1441 ⟨Nat.le_of_ble_eq_true rfl, Nat.le_of_ble_eq_true rfl⟩) hP hD hS hA [0, 37, 38, 39] rfl (fun _ => rfl) (fun r10 u8 H locs hw9 => ?_)
  clear hP hS
  intro hP hS
  obtain ⟨lc_11, lp_12, la_13, lb_14⟩ := u8
  replace hw9 : (r10, (lc_11, lp_12, la_13, lb_14)) = sp_list (ny 20) (fy 35) (fy 36) (fy 37) xk1 xk2 xk3 := hw9
  rw [Clc, Clp, Cla, Clb] at hw9
  have e9 := hw2.trans hw9.symm
  simp only [Prod.mk.injEq] at e9
  obtain ⟨e90, e9lc, e9lp, e9la, e9lb⟩ := e9
  refine lv_pop hx hb dL_law_1444 rfl ?_
  refine lv_goto (tgt := 1652) hx hb dL_law_1445 (by decide) ?_
  have hPm : va_P D vwCl (wM md sd cI cY cJ cQ (upd (upd ny 0 0) 20 lc_11) (upR (upR (upR fy 35 lp_12) 36 la_13) 37 lb_14) fl ++ wX ad rw sd cI cY cJ cQ (upd nx 17 lc_4) (upR (upR (upR fx 42 lp_5) 43 la_6) 44 lb_7) rs lo) H := hP
  have hDm : va_D (fun q : Nat => s.heap.size ≤ q) (wM md sd cI cY cJ cQ (upd (upd ny 0 0) 20 lc_11) (upR (upR (upR fy 35 lp_12) 36 la_13) 37 lb_14) fl ++ wX ad rw sd cI cY cJ cQ (upd nx 17 lc_4) (upR (upR (upR fx 42 lp_5) 43 la_6) 44 lb_7) rs lo) := wMX_D hD
  exact kk (upd nx 17 lc_4) (upR (upR (upR fx 42 lp_5) 43 la_6) 44 lb_7) rs lo (upd (upd ny 0 0) 20 lc_11) (upR (upR (upR fy 35 lp_12) 36 la_13) 37 lb_14) fl H locs ls ⟨Xhna, Xhnb, XH, XD, XV, XN, Xcna, Xcnb, XF, Xpna, Xpnb, XG, XO, XW, Xgna, Xgnb, XJ, Xlna, Xlnb, Xdla, Xdlb, Xana, Xanb, Xuna, Xunb, XU, (by show 0 ≤ (lc_4).toInt; omega), (by show (lc_4).toInt ≤ 20; omega), Xtna, Xtnb, XS, Mhna, Mhnb, MH, MS, Mmlna, Mmlnb, Mmtna, Mmtnb, Chn, Cho, Chc, Chp, Chs, Ccn, Cfo, Cwo, Cpn, Cpk, Cpf, Cpo, Cpd, Cpe, Cgn, Cgk, Cgs, Cgd, Cge, Can, Cak, Cah, Cay, Caz, Cun, Cuk, Cuy, Cuw, Cum, (show (lc_11) = (lc_4) from e9lc.symm), (show (lp_12) = (lp_5) from e9lp.symm), (show (la_13) = (la_6) from e9la.symm), (show (lb_14) = (lb_7) from e9lb.symm), Caw, Ciw, Cln, Ctd, Cro, Cmtn, Cmtr, Cmst, Csh⟩ hPm.comm hDm.comm hS hl

set_option maxHeartbeats 4000000 in
set_option maxRecDepth 100000 in
theorem law_case_30 {p : Program} {l : Launch} {e : Env} {s : State} {m : MethodId} {below : List Frame} {meth : Method} {c : Code} {D : va_G} {cI cY cJ cQ : ClassId} {b L aK aV : Nat} {xs : Nat → Int32} {ad rw md : Nat → Nat} {sd i : Int32} {nx : Nat → Int32} {fx rs : Nat → Nat → Int32} {lo : Nat → Int64} {ny : Nat → Int32} {fy : Nat → Nat → Int32} {fl : Nat → Int64} {H : Heap} {locs : List Loc} {ls : Array Slot} (C0 : lawC p s m meth c b L xs D cI cY cJ cQ aK aV) (I : inv nx fx rs ny fy) (hP : va_P D vwCl (wX ad rw sd cI cY cJ cQ nx fx rs lo ++ wM md sd cI cY cJ cQ ny fy fl) H) (hD : va_D (fun q : Nat => s.heap.size ≤ q) (wX ad rw sd cI cY cJ cQ nx fx rs lo ++ wM md sd cI cY cJ cQ ny fy fl)) (hS : va_S (fun q : Nat => s.heap.size ≤ q) s.heap H locs) (hl : lv_has ls 4 [(0, .ref b), (1, .ref (ad 0)), (2, .ref (md 64)), (3, .int i)]) (hi1 : 1 ≤ i.toInt) (hi2 : i.toInt + 5 < L) (kk : ∀ (nx : Nat → Int32) (fx rs : Nat → Nat → Int32) (lo : Nat → Int64) (ny : Nat → Int32) (fy : Nat → Nat → Int32) (fl : Nat → Int64) (H : Heap) (locs : List Loc) (ls : Array Slot), inv nx fx rs ny fy → va_P D vwCl (wX ad rw sd cI cY cJ cQ nx fx rs lo ++ wM md sd cI cY cJ cQ ny fy fl) H → va_D (fun q : Nat => s.heap.size ≤ q) (wX ad rw sd cI cY cJ cQ nx fx rs lo ++ wM md sd cI cY cJ cQ ny fy fl) → va_S (fun q : Nat => s.heap.size ≤ q) s.heap H locs → lv_has ls 4 [(0, .ref b), (1, .ref (ad 0)), (2, .ref (md 64)), (3, .int i)] → W p l e room_1 s m #[Value.ref b] below meth c H locs 107 4890 (lw_Z below #[Value.ref b] s) (F0 m 1652 ls [])) : W p l e room_1 s m #[Value.ref b] below meth c H locs 107 4890 (lw_Z below #[Value.ref b] s) (F0 m 1448 ls []) := by
  obtain ⟨C1, hK, hN, hT, hL⟩ := C0
  obtain ⟨hx, hb, hr, hml, hown, hts0, hX, hbl, hlocks, hgv⟩ := C1
  have hA : ∀ q : Nat, s.heap.size ≤ q → (fun q : Nat => s.heap.size ≤ q) q := fun _ h => h
  have hbA : ¬ (fun q : Nat => s.heap.size ≤ q) b := Nat.not_le.mpr hbl
  have hts : ∀ w ∈ wsL_law, w.before #[Value.ref b] s = true := fun w h => hts0 w (wsL_law_in w h)
  replace hown : s.vm.findClass RL = some m.cls := hown
  replace hb : c.code = cL_law := hb
  have hak1 : vp_in (i + 1) L := law_in hi1 hi2 hL (by decide)
  obtain ⟨xk1, exk1⟩ : ∃ y : Int32, y = xs (i + 1).toNatClampNeg := ⟨_, rfl⟩
  have hak2 : vp_in (i + 2) L := law_in hi1 hi2 hL (by decide)
  obtain ⟨xk2, exk2⟩ : ∃ y : Int32, y = xs (i + 2).toNatClampNeg := ⟨_, rfl⟩
  refine inv_el I ?_
  intro Xhna Xhnb XH XD XV XN Xcna Xcnb XF Xpna Xpnb XG XO XW Xgna Xgnb XJ Xlna Xlnb Xdla Xdlb Xana Xanb Xuna Xunb XU Xlca Xlcb Xtna Xtnb XS Mhna Mhnb MH MS Mmlna Mmlnb Mmtna Mmtnb Chn Cho Chc Chp Chs Ccn Cfo Cwo Cpn Cpk Cpf Cpo Cpd Cpe Cgn Cgk Cgs Cgd Cge Can Cak Cah Cay Caz Cun Cuk Cuy Cuw Cum Clc Clp Cla Clb Caw Ciw Cln Ctd Cro Cmtn Cmtr Cmst Csh
  have Tcn := i_eq Ccn
  have Tpn := i_eq Cpn
  have Tgn := i_eq Cgn
  have Tan := i_eq Can
  have Tun := i_eq Cun
  have Tlc := i_eq Clc
  have Tln := i_eq Cln
  have Thn := i_eq Chn
  have MXV : okV (ny 2) (fy 5) := by rw [Chn, Chp]; exact XV
  have MXF : okF (ny 3) (fy 10) := by rw [Ccn, Cfo]; exact XF
  have MXG : okG (ny 4) (fy 14) := by rw [Cpn, Cpo]; exact XG
  refine lv_aload_n hx hb dL_law_1448 rfl (lv_at hl 1 rfl) ?_
  refine law_arg (v := 1) hx hb hX hbl hbA hS (lv_at hl 0 rfl) (lv_at hl 3 rfl) (by decide) hak1 exk1 dL_law_1449 dL_law_1450 dL_law_1451 dL_law_1452 dL_law_1453 ?_
  refine law_arg (v := 2) hx hb hX hbl hbA hS (lv_at hl 0 rfl) (lv_at hl 3 rfl) (by decide) hak2 exk2 dL_law_1454 dL_law_1455 dL_law_1456 dL_law_1457 dL_law_1458 ?_
  refine st_iQ (wr := [(aI cI (ad 11) 16 (fx 0)), (aI cI (rw 0) 60 (rs 0)), (aI cI (rw 1) 60 (rs 1)), (aI cI (rw 2) 60 (rs 2)), (aI cI (rw 3) 60 (rs 3)), (aI cI (rw 4) 60 (rs 4)), (aI cI (rw 5) 60 (rs 5)), (aI cI (rw 6) 60 (rs 6)), (aI cI (rw 7) 60 (rs 7)), (oC9 ad ), ((ad 12), .inl (cQ, 8, .inr (.inr (.inr (.inr (fun i => if i < 8 then some (rw i) else none)))))), (aI cI (ad 13) 8 (fx 1)), (aI cI (ad 14) 8 (fx 2)), (aI cI (ad 32) 12 (fx 12)), (aI cI (ad 33) 12 (fx 13)), (aI cI (ad 34) 6 (fx 14)), (aI cI (ad 35) 6 (fx 15)), (oC8 ad (nx 6)), (aI cI (ad 42) 40 (fx 22)), (aI cI (ad 43) 40 (fx 23)), (aI cI (ad 44) 40 (fx 24)), (aI cI (ad 45) 40 (fx 25)), (aI cI (ad 46) 40 (fx 26)), (oC2 ad (nx 7) (nx 8) (nx 9) (nx 10) (nx 11) (nx 12) (nx 13) (nx 14)), (aI cY (ad 47) 300 (fx 27)), (aI cI (ad 48) 12 (fx 28)), (aI cI (ad 49) 12 (fx 29)), (aI cI (ad 50) 12 (fx 30)), (aI cI (ad 51) 12 (fx 31)), (aI cI (ad 52) 12 (fx 32)), (aI cI (ad 53) 12 (fx 33)), (oC0 ad (nx 15)), (aI cI (ad 54) 60 (fx 34)), (aI cI (ad 55) 60 (fx 35)), (aI cI (ad 56) 60 (fx 36)), (aI cI (ad 57) 60 (fx 37)), (oC5 ad sd), (aJ cJ (ad 58) 12 lo), (oC6 ad (nx 16)), (aI cI (ad 59) 60 (fx 38)), (aI cI (ad 60) 60 (fx 39)), (aI cI (ad 61) 60 (fx 40)), (aI cI (ad 62) 60 (fx 41))]) (va_runV (C := RX10) (As := [.int xk1, .int xk2]) (rest := []) ⟨hx, hb, hml, hown, hts⟩ (ct_X10_barred l D cI cY cJ cQ _ ad (nx 0) (nx 1) (nx 2) (nx 4) (nx 5) (nx 3) (nx 17) (fx 11) (fx 16) (fx 17) (fx 18) (fx 19) (fx 20) (fx 21) (fx 3) (fx 4) (fx 5) (fx 6) (fx 7) (fx 8) (fx 9) (fx 10) (fx 42) (fx 43) (fx 44) xk1 xk2 Xcna Xcnb Xpna Xpnb XO Xhna Xhnb XH XV Xlca Xlcb XF XG) (cwV 2 hts gL_law_X10_barred rfl rfl rfl ⟨rfl, cdX10_barred⟩ ⟨Nat.le_of_ble_eq_true rfl, Nat.le_of_ble_eq_true rfl⟩) (cPreV (hP.sub [0, 23, 24, 29, 30, 31, 32, 33, 34, 35, 14, 15, 16, 17, 18, 19, 20, 21, 22, 62, 63, 64, 65] rfl) hK (hD.sub [0, 23, 24, 29, 30, 31, 32, 33, 34, 35, 14, 15, 16, 17, 18, 19, 20, 21, 22, 62, 63, 64, 65] (by decide +kernel) rfl) hN (ci := 10) (q0 := 0) rfl rfl) rfl rfl hl.1 rfl (lv_room (Nat.le_of_ble_eq_true rfl)) dL_law_1459 ⟨Nat.le_of_ble_eq_true rfl, Nat.le_of_ble_eq_true rfl⟩) hP hD hS hA [0, 23, 24, 29, 30, 31, 32, 33, 34, 35, 14, 15, 16, 17, 18, 19, 20, 21, 22, 62, 63, 64, 65] [1, 2, 3, 4, 5, 6, 7, 8, 9, 10, 11, 12, 13, 25, 26, 27, 28, 36, 37, 38, 39, 40, 41, 42, 43, 44, 45, 46, 47, 48, 49, 50, 51, 52, 53, 54, 55, 56, 57, 58, 59, 60, 61] rfl rfl (by decide +kernel) (by decide +kernel) (fun r3 u1 H locs hw2 => ?_)
  clear hP hS
  intro hP _ hS
  obtain ⟨pt_4, ps_5, ha_6, re_7⟩ := u1
  replace hw2 : r3 = sp_barred (nx 4) (nx 5) (nx 3) (nx 17) (fx 11) (fx 16) (fx 17) (fx 18) (fx 19) (fx 20) (fx 21) (fx 3) (fx 4) (fx 5) (fx 6) (fx 42) (fx 43) (fx 44) xk1 xk2 := hw2
  refine lv_pop hx hb dL_law_1462 rfl ?_
  have hPx : va_P D vwCl (wX ad rw sd cI cY cJ cQ nx (upR (upR (upR (upR fx 7 pt_4) 8 ps_5) 9 ha_6) 10 re_7) rs lo ++ wM md sd cI cY cJ cQ ny fy fl) H := hP.part [43, 0, 1, 2, 3, 4, 5, 6, 7, 8, 9, 10, 11, 12, 53, 54, 55, 56, 57, 58, 59, 60, 61, 44, 45, 13, 14, 15, 16, 46, 47, 48, 49, 50, 51, 52, 17, 18, 19, 20, 21, 22, 23, 24, 25, 26, 27, 28, 29, 30, 31, 32, 33, 34, 35, 36, 37, 38, 39, 40, 41, 42, 62, 63, 64, 65] rfl
  have hDx : va_D (fun q : Nat => s.heap.size ≤ q) (wX ad rw sd cI cY cJ cQ nx (upR (upR (upR (upR fx 7 pt_4) 8 ps_5) 9 ha_6) 10 re_7) rs lo ++ wM md sd cI cY cJ cQ ny fy fl) := wXM_D hD
  have hP := hPx.comm
  have hD := hDx.comm
  refine lv_aload_n hx hb dL_law_1463 rfl (lv_at hl 2 rfl) ?_
  refine law_arg (v := 1) hx hb hX hbl hbA hS (lv_at hl 0 rfl) (lv_at hl 3 rfl) (by decide) hak1 exk1 dL_law_1464 dL_law_1465 dL_law_1466 dL_law_1467 dL_law_1468 ?_
  refine law_arg (v := 2) hx hb hX hbl hbA hS (lv_at hl 0 rfl) (lv_at hl 3 rfl) (by decide) hak2 exk2 dL_law_1469 dL_law_1470 dL_law_1471 dL_law_1472 dL_law_1473 ?_
  refine st_iQ (wr := [(aI cI (md 3) 8 (fy 0)), (aI cI (md 4) 8 (fy 1)), (aI cI (md 5) 480 (fy 2)), (aI cI (md 17) 12 (fy 11)), (aI cI (md 26) 40 (fy 17)), (aI cI (md 27) 40 (fy 18)), (aI cI (md 28) 40 (fy 19)), (aI cI (md 29) 40 (fy 20)), (aI cI (md 31) 36 (fy 21)), (aI cI (md 33) 36 (fy 22)), (aI cI (md 34) 300 (fy 23)), (aI cI (md 45) 60 (fy 24)), (aI cI (md 46) 60 (fy 25)), (aI cI (md 47) 60 (fy 26)), (aI cI (md 48) 60 (fy 27)), (aI cI (md 49) 6 (fy 28)), (aI cI (md 50) 6 (fy 29)), (aI cI (md 51) 12 (fy 30)), (aI cI (md 53) 60 (fy 31)), (aI cI (md 54) 60 (fy 32)), (aI cI (md 55) 60 (fy 33)), (aI cI (md 56) 60 (fy 34)), (aI cI (md 62) 16 (fy 38))]) (va_runV (C := RX11) (As := [.int xk1, .int xk2]) (rest := []) ⟨hx, hb, hml, hown, hts⟩ (ct_X11_barred l D cI cY cJ cQ _ md sd (ny 0) (ny 1) (ny 2) (ny 3) (ny 4) (ny 5) (ny 6) (ny 7) (ny 8) (ny 9) (ny 10) (ny 11) (ny 12) (ny 13) (ny 14) (ny 15) (ny 16) (ny 17) (ny 18) (ny 19) (ny 20) (ny 21) (ny 22) (fy 10) (fy 12) (fy 13) (fy 14) (fy 15) (fy 16) (fy 35) (fy 36) (fy 37) (fy 3) (fy 4) (fy 5) (fy 6) (fy 7) (fy 8) (fy 9) fl xk1 xk2 (by omega) (by omega) (by omega) (by omega) (by omega) (by omega) Mhna Mhnb (by assumption) (by assumption) (by assumption)) (cwV 2 hts gL_law_X11_barred rfl rfl rfl ⟨rfl, cdX11_barred⟩ ⟨Nat.le_of_ble_eq_true rfl, Nat.le_of_ble_eq_true rfl⟩) (cPreV (hP.sub [0, 12, 14, 15, 16, 17, 18, 37, 38, 39, 4, 5, 6, 7, 8, 9, 10, 11] rfl) hK (hD.sub [0, 12, 14, 15, 16, 17, 18, 37, 38, 39, 4, 5, 6, 7, 8, 9, 10, 11] (by decide +kernel) rfl) hN (ci := 11) (q0 := 0) rfl rfl) rfl rfl hl.1 rfl (lv_room (Nat.le_of_ble_eq_true rfl)) dL_law_1474 ⟨Nat.le_of_ble_eq_true rfl, Nat.le_of_ble_eq_true rfl⟩) hP hD hS hA [0, 12, 14, 15, 16, 17, 18, 37, 38, 39, 4, 5, 6, 7, 8, 9, 10, 11] [1, 2, 3, 13, 19, 20, 21, 22, 23, 24, 25, 26, 27, 28, 29, 30, 31, 32, 33, 34, 35, 36, 40] rfl rfl (by decide +kernel) (by decide +kernel) (fun r10 u8 H locs hw9 => ?_)
  clear hP hS
  intro hP _ hS
  obtain ⟨mq_11, mh_12, mp_13, mt_14, mf_15⟩ := u8
  replace hw9 : r10 = sm_barred (ny 3) (ny 4) (ny 2) (ny 20) (fy 10) (fy 12) (fy 13) (fy 14) (fy 15) (fy 16) (fy 3) (fy 4) (fy 5) (fy 6) (fy 35) (fy 36) (fy 37) xk1 xk2 := hw9
  rw [Ccn, Cpn, Chn, Clc, Cfo, Cpk, Cpf, Cpo, Cpd, Cpe, Cho, Chc, Chp, Chs, Clp, Cla, Clb, ← barred_eq (by omega) (by omega) XD XN XV (by omega) (by omega) XO XW] at hw9
  have e90 := hw2.trans hw9.symm
  refine lv_pop hx hb dL_law_1477 rfl ?_
  refine lv_goto (tgt := 1652) hx hb dL_law_1478 (by decide) ?_
  have hPm : va_P D vwCl (wM md sd cI cY cJ cQ (upd (upd ny 0 0) 5 mq_11) (upR (upR (upR fy 7 mh_12) 8 mp_13) 9 mt_14) mf_15 ++ wX ad rw sd cI cY cJ cQ nx (upR (upR (upR (upR fx 7 pt_4) 8 ps_5) 9 ha_6) 10 re_7) rs lo) H := hP.part [23, 0, 1, 2, 33, 34, 35, 36, 37, 38, 39, 40, 24, 3, 25, 26, 27, 28, 29, 4, 5, 6, 7, 8, 9, 10, 11, 12, 13, 14, 15, 16, 17, 18, 19, 20, 21, 30, 31, 32, 22] rfl
  have hDm : va_D (fun q : Nat => s.heap.size ≤ q) (wM md sd cI cY cJ cQ (upd (upd ny 0 0) 5 mq_11) (upR (upR (upR fy 7 mh_12) 8 mp_13) 9 mt_14) mf_15 ++ wX ad rw sd cI cY cJ cQ nx (upR (upR (upR (upR fx 7 pt_4) 8 ps_5) 9 ha_6) 10 re_7) rs lo) := wMX_D hD
  exact kk nx (upR (upR (upR (upR fx 7 pt_4) 8 ps_5) 9 ha_6) 10 re_7) rs lo (upd (upd ny 0 0) 5 mq_11) (upR (upR (upR fy 7 mh_12) 8 mp_13) 9 mt_14) mf_15 H locs ls ⟨Xhna, Xhnb, XH, XD, XV, XN, Xcna, Xcnb, XF, Xpna, Xpnb, XG, XO, XW, Xgna, Xgnb, XJ, Xlna, Xlnb, Xdla, Xdlb, Xana, Xanb, Xuna, Xunb, XU, Xlca, Xlcb, Xtna, Xtnb, XS, Mhna, Mhnb, MH, MS, Mmlna, Mmlnb, Mmtna, Mmtnb, Chn, Cho, Chc, Chp, Chs, Ccn, Cfo, Cwo, Cpn, Cpk, Cpf, Cpo, Cpd, Cpe, Cgn, Cgk, Cgs, Cgd, Cge, Can, Cak, Cah, Cay, Caz, Cun, Cuk, Cuy, Cuw, Cum, Clc, Clp, Cla, Clb, Caw, Ciw, Cln, Ctd, Cro, Cmtn, Cmtr, Cmst, Csh⟩ hPm.comm hDm.comm hS hl

set_option maxHeartbeats 4000000 in
set_option maxRecDepth 100000 in
theorem law_case_31 {p : Program} {l : Launch} {e : Env} {s : State} {m : MethodId} {below : List Frame} {meth : Method} {c : Code} {D : va_G} {cI cY cJ cQ : ClassId} {b L aK aV : Nat} {xs : Nat → Int32} {ad rw md : Nat → Nat} {sd i : Int32} {nx : Nat → Int32} {fx rs : Nat → Nat → Int32} {lo : Nat → Int64} {ny : Nat → Int32} {fy : Nat → Nat → Int32} {fl : Nat → Int64} {H : Heap} {locs : List Loc} {ls : Array Slot} (C0 : lawC p s m meth c b L xs D cI cY cJ cQ aK aV) (I : inv nx fx rs ny fy) (hP : va_P D vwCl (wX ad rw sd cI cY cJ cQ nx fx rs lo ++ wM md sd cI cY cJ cQ ny fy fl) H) (hD : va_D (fun q : Nat => s.heap.size ≤ q) (wX ad rw sd cI cY cJ cQ nx fx rs lo ++ wM md sd cI cY cJ cQ ny fy fl)) (hS : va_S (fun q : Nat => s.heap.size ≤ q) s.heap H locs) (hl : lv_has ls 4 [(0, .ref b), (1, .ref (ad 0)), (2, .ref (md 64)), (3, .int i)]) (hi1 : 1 ≤ i.toInt) (hi2 : i.toInt + 5 < L) (kk : ∀ (nx : Nat → Int32) (fx rs : Nat → Nat → Int32) (lo : Nat → Int64) (ny : Nat → Int32) (fy : Nat → Nat → Int32) (fl : Nat → Int64) (H : Heap) (locs : List Loc) (ls : Array Slot), inv nx fx rs ny fy → va_P D vwCl (wX ad rw sd cI cY cJ cQ nx fx rs lo ++ wM md sd cI cY cJ cQ ny fy fl) H → va_D (fun q : Nat => s.heap.size ≤ q) (wX ad rw sd cI cY cJ cQ nx fx rs lo ++ wM md sd cI cY cJ cQ ny fy fl) → va_S (fun q : Nat => s.heap.size ≤ q) s.heap H locs → lv_has ls 4 [(0, .ref b), (1, .ref (ad 0)), (2, .ref (md 64)), (3, .int i)] → W p l e room_1 s m #[Value.ref b] below meth c H locs 107 4890 (lw_Z below #[Value.ref b] s) (F0 m 1652 ls [])) : W p l e room_1 s m #[Value.ref b] below meth c H locs 107 4890 (lw_Z below #[Value.ref b] s) (F0 m 1481 ls []) := by
  obtain ⟨C1, hK, hN, hT, hL⟩ := C0
  obtain ⟨hx, hb, hr, hml, hown, hts0, hX, hbl, hlocks, hgv⟩ := C1
  have hA : ∀ q : Nat, s.heap.size ≤ q → (fun q : Nat => s.heap.size ≤ q) q := fun _ h => h
  have hbA : ¬ (fun q : Nat => s.heap.size ≤ q) b := Nat.not_le.mpr hbl
  have hts : ∀ w ∈ wsL_law, w.before #[Value.ref b] s = true := fun w h => hts0 w (wsL_law_in w h)
  replace hown : s.vm.findClass RL = some m.cls := hown
  replace hb : c.code = cL_law := hb
  have hak1 : vp_in (i + 1) L := law_in hi1 hi2 hL (by decide)
  obtain ⟨xk1, exk1⟩ : ∃ y : Int32, y = xs (i + 1).toNatClampNeg := ⟨_, rfl⟩
  refine inv_el I ?_
  intro Xhna Xhnb XH XD XV XN Xcna Xcnb XF Xpna Xpnb XG XO XW Xgna Xgnb XJ Xlna Xlnb Xdla Xdlb Xana Xanb Xuna Xunb XU Xlca Xlcb Xtna Xtnb XS Mhna Mhnb MH MS Mmlna Mmlnb Mmtna Mmtnb Chn Cho Chc Chp Chs Ccn Cfo Cwo Cpn Cpk Cpf Cpo Cpd Cpe Cgn Cgk Cgs Cgd Cge Can Cak Cah Cay Caz Cun Cuk Cuy Cuw Cum Clc Clp Cla Clb Caw Ciw Cln Ctd Cro Cmtn Cmtr Cmst Csh
  have Tcn := i_eq Ccn
  have Tpn := i_eq Cpn
  have Tgn := i_eq Cgn
  have Tan := i_eq Can
  have Tun := i_eq Cun
  have Tlc := i_eq Clc
  have Tln := i_eq Cln
  refine lv_aload_n hx hb dL_law_1481 rfl (lv_at hl 1 rfl) ?_
  refine law_arg (v := 1) hx hb hX hbl hbA hS (lv_at hl 0 rfl) (lv_at hl 3 rfl) (by decide) hak1 exk1 dL_law_1482 dL_law_1483 dL_law_1484 dL_law_1485 dL_law_1486 ?_
  refine st_iU (va_runV (C := RX10) (As := [.int xk1]) (rest := []) ⟨hx, hb, hml, hown, hts⟩ (ct_X10_day l D cI cY cJ cQ _ ad (nx 0) (nx 1) (nx 2) xk1) (cwV 1 hts gL_law_X10_day rfl rfl rfl ⟨rfl, cdX10_day⟩ ⟨Nat.le_of_ble_eq_true rfl, Nat.le_of_ble_eq_true rfl⟩) (cPreV (hP.sub [0] rfl) hK (hD.sub [0] (by decide +kernel) rfl) hN (ci := 10) (q0 := 0) rfl rfl) rfl rfl hl.1 rfl (lv_room (Nat.le_of_ble_eq_true rfl)) dL_law_1487 ⟨Nat.le_of_ble_eq_true rfl, Nat.le_of_ble_eq_true rfl⟩) hP hD hS hA [0] rfl (fun _ => rfl) (fun r3 u1 H locs hw2 => ?_)
  clear hP hS
  intro hP hS
  replace hw2 : (r3, u1) = sp_day (nx 1) xk1 := hw2
  refine lv_pop hx hb dL_law_1490 rfl ?_
  have hPx : va_P D vwCl (wX ad rw sd cI cY cJ cQ (upd nx 1 u1) fx rs lo ++ wM md sd cI cY cJ cQ ny fy fl) H := hP
  have hDx : va_D (fun q : Nat => s.heap.size ≤ q) (wX ad rw sd cI cY cJ cQ (upd nx 1 u1) fx rs lo ++ wM md sd cI cY cJ cQ ny fy fl) := wXM_D hD
  have hP := hPx.comm
  have hD := hDx.comm
  refine lv_aload_n hx hb dL_law_1491 rfl (lv_at hl 2 rfl) ?_
  refine law_arg (v := 1) hx hb hX hbl hbA hS (lv_at hl 0 rfl) (lv_at hl 3 rfl) (by decide) hak1 exk1 dL_law_1492 dL_law_1493 dL_law_1494 dL_law_1495 dL_law_1496 ?_
  refine st_iU (va_runV (C := RX11) (As := [.int xk1]) (rest := []) ⟨hx, hb, hml, hown, hts⟩ (ct_X11_day l D cI cY cJ cQ _ md sd (ny 0) (ny 1) (ny 2) (ny 3) (ny 4) (ny 5) (ny 6) (ny 7) (ny 8) (ny 9) (ny 10) (ny 11) (ny 12) (ny 13) (ny 14) (ny 15) (ny 16) (ny 17) (ny 18) (ny 19) (ny 20) (ny 21) (ny 22) xk1) (cwV 1 hts gL_law_X11_day rfl rfl rfl ⟨rfl, cdX11_day⟩ ⟨Nat.le_of_ble_eq_true rfl, Nat.le_of_ble_eq_true rfl⟩) (cPreV (hP.sub [0] rfl) hK (hD.sub [0] (by decide +kernel) rfl) hN (ci := 11) (q0 := 0) rfl rfl) rfl rfl hl.1 rfl (lv_room (Nat.le_of_ble_eq_true rfl)) dL_law_1497 ⟨Nat.le_of_ble_eq_true rfl, Nat.le_of_ble_eq_true rfl⟩) hP hD hS hA [0] rfl (fun _ => rfl) (fun r6 u4 H locs hw5 => ?_)
  clear hP hS
  intro hP hS
  replace hw5 : (r6, u4) = sp_day (ny 21) xk1 := hw5
  rw [Ctd] at hw5
  have e9 := hw2.trans hw5.symm
  simp only [Prod.mk.injEq] at e9
  obtain ⟨e90, e9td⟩ := e9
  refine lv_pop hx hb dL_law_1500 rfl ?_
  refine lv_goto (tgt := 1652) hx hb dL_law_1501 (by decide) ?_
  have hPm : va_P D vwCl (wM md sd cI cY cJ cQ (upd (upd ny 0 0) 21 u4) fy fl ++ wX ad rw sd cI cY cJ cQ (upd nx 1 u1) fx rs lo) H := hP
  have hDm : va_D (fun q : Nat => s.heap.size ≤ q) (wM md sd cI cY cJ cQ (upd (upd ny 0 0) 21 u4) fy fl ++ wX ad rw sd cI cY cJ cQ (upd nx 1 u1) fx rs lo) := wMX_D hD
  exact kk (upd nx 1 u1) fx rs lo (upd (upd ny 0 0) 21 u4) fy fl H locs ls ⟨Xhna, Xhnb, XH, XD, XV, XN, Xcna, Xcnb, XF, Xpna, Xpnb, XG, XO, XW, Xgna, Xgnb, XJ, Xlna, Xlnb, Xdla, Xdlb, Xana, Xanb, Xuna, Xunb, XU, Xlca, Xlcb, Xtna, Xtnb, XS, Mhna, Mhnb, MH, MS, Mmlna, Mmlnb, Mmtna, Mmtnb, Chn, Cho, Chc, Chp, Chs, Ccn, Cfo, Cwo, Cpn, Cpk, Cpf, Cpo, Cpd, Cpe, Cgn, Cgk, Cgs, Cgd, Cge, Can, Cak, Cah, Cay, Caz, Cun, Cuk, Cuy, Cuw, Cum, Clc, Clp, Cla, Clb, Caw, Ciw, Cln, (show (u4) = (u1) from e9td.symm), Cro, Cmtn, Cmtr, Cmst, Csh⟩ hPm.comm hDm.comm hS hl
end
