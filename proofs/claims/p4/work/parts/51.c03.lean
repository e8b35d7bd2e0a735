theorem cdX10_owner : yX10_owner.cls ≠ "java/lang/invoke/MethodHandle" ∧ yX10_owner.cls ≠ "java/lang/invoke/VarHandle" ∧ (parseMethodDescriptor yX10_owner.desc).map (fun d => d.parameters.length) = some 3 := by decide +kernel
theorem cdX10_quarrels : yX10_quarrels.cls ≠ "java/lang/invoke/MethodHandle" ∧ yX10_quarrels.cls ≠ "java/lang/invoke/VarHandle" ∧ (parseMethodDescriptor yX10_quarrels.desc).map (fun d => d.parameters.length) = some 2 := by decide +kernel
theorem cdX10_pledge : yX10_pledge.cls ≠ "java/lang/invoke/MethodHandle" ∧ yX10_pledge.cls ≠ "java/lang/invoke/VarHandle" ∧ (parseMethodDescriptor yX10_pledge.desc).map (fun d => d.parameters.length) = some 5 := by decide +kernel
theorem cdX10_rank : yX10_rank.cls ≠ "java/lang/invoke/MethodHandle" ∧ yX10_rank.cls ≠ "java/lang/invoke/VarHandle" ∧ (parseMethodDescriptor yX10_rank.desc).map (fun d => d.parameters.length) = some 5 := by decide +kernel
theorem cdX11_owner : yX11_owner.cls ≠ "java/lang/invoke/MethodHandle" ∧ yX11_owner.cls ≠ "java/lang/invoke/VarHandle" ∧ (parseMethodDescriptor yX11_owner.desc).map (fun d => d.parameters.length) = some 3 := by decide +kernel
theorem cdX11_quarrels : yX11_quarrels.cls ≠ "java/lang/invoke/MethodHandle" ∧ yX11_quarrels.cls ≠ "java/lang/invoke/VarHandle" ∧ (parseMethodDescriptor yX11_quarrels.desc).map (fun d => d.parameters.length) = some 2 := by decide +kernel
theorem cdX11_pledge : yX11_pledge.cls ≠ "java/lang/invoke/MethodHandle" ∧ yX11_pledge.cls ≠ "java/lang/invoke/VarHandle" ∧ (parseMethodDescriptor yX11_pledge.desc).map (fun d => d.parameters.length) = some 5 := by decide +kernel
theorem cdX11_rank : yX11_rank.cls ≠ "java/lang/invoke/MethodHandle" ∧ yX11_rank.cls ≠ "java/lang/invoke/VarHandle" ∧ (parseMethodDescriptor yX11_rank.desc).map (fun d => d.parameters.length) = some 5 := by decide +kernel
theorem Gd_X10_owner : gdA wsX10_owner := gd_cons (by decide +kernel) (gd_app (gd_all (ws := wsX10_owner_o1) (by decide +kernel)) (gd_app (gd_app (gd_app Gd_X100 Gd_X10) Gd_X70) (gd_app (gd_app Gd_X10_isCrate Gd_X10_isDay) Gd_X7_ownerOf)))
theorem Gd_X10_quarrels : gdA wsX10_quarrels := gd_cons (by decide +kernel) (gd_app (gd_all (ws := wsX10_quarrels_o1) (by decide +kernel)) (gd_app (gd_app (gd_app Gd_X100 Gd_X10) Gd_X70) (gd_app (gd_app Gd_X10_isCrate Gd_X10_isDay) Gd_X7_notGood)))
theorem Gd_X10_pledge : gdA wsX10_pledge := gd_cons (by decide +kernel) (gd_app (gd_all (ws := wsX10_pledge_o1) (by decide +kernel)) (gd_app (gd_app (gd_app Gd_X100 Gd_X80) (gd_app Gd_X10 Gd_X10_isCrate)) (gd_app (gd_app Gd_X10_isPerson Gd_X10_isFrom) (gd_app Gd_X10_areDays Gd_X8_tell))))
theorem Gd_X10_rank : gdA wsX10_rank := gd_cons (by decide +kernel) (gd_app (gd_all (ws := wsX10_rank_o1) (by decide +kernel)) (gd_app (gd_app (gd_app Gd_X100 Gd_X80) (gd_app Gd_X10 Gd_X10_isCrate)) (gd_app (gd_app Gd_X10_isDay Gd_X10_isBelow) (gd_app Gd_X8_putInOrder Gd_X8_paidTo))))
theorem Gd_X11_owner : gdA wsX11_owner := gd_cons (by decide +kernel) (gd_app (gd_all (ws := wsX11_owner_o1) (by decide +kernel)) (gd_app (gd_app Gd_X110 Gd_X11_isCrate) (gd_app Gd_X11_isDay Gd_X11_ownerOf)))
theorem Gd_X11_quarrels : gdA wsX11_quarrels := gd_cons (by decide +kernel) (gd_app (gd_all (ws := wsX11_quarrels_o1) (by decide +kernel)) (gd_app (gd_app Gd_X110 Gd_X11_isCrate) (gd_app Gd_X11_isDay Gd_X11_ownerOf)))
theorem Gd_X11_pledge : gdA wsX11_pledge := gd_cons (by decide +kernel) (gd_app (gd_all (ws := wsX11_pledge_o1) (by decide +kernel)) (gd_app (gd_app (gd_app Gd_X110 Gd_X11_isCrate) Gd_X11_isPerson) (gd_app Gd_X11_in Gd_X11_isDay)))
theorem Gd_X11_rank : gdA wsX11_rank := gd_cons (by decide +kernel) (gd_app (gd_all (ws := wsX11_rank_o1) (by decide +kernel)) (gd_app (gd_app (gd_app Gd_X110 Gd_X11_isCrate) Gd_X11_isDay) (gd_app Gd_X11_in Gd_X11_keyOf)))
theorem ggL_law_X10_owner : GoodIn wsL_law wsX10_owner := goodIn_s (fun _ h => (wm_r (wm_l (wm_r (wm_r (wm_l (wm_r (wm_l (wm_r h))))))))) Gd_X10_owner
theorem gL_law_X10_owner : GoodIn wsL_law (wsV RL 74 RX10 yX10_owner wsX10_owner) := goodIn_V (own := RL) (idx := 74) (C := RX10) (y := yX10_owner) (wm_l (wm_l (wm_r (wm_l (wm_l (wm_i 13 rfl)))))) (wm_l (wm_l (wm_r (wm_l (wm_l (wm_i 14 rfl)))))) (wm_l (wm_l (wm_r (wm_l (wm_l (wm_i 15 rfl)))))) (wm_l (wm_l (wm_l (wm_l (wm_l (wm_i 2 rfl)))))) ggL_law_X10_owner
theorem ggL_law_X11_owner : GoodIn wsL_law wsX11_owner := goodIn_s (fun _ h => (wm_r (wm_l (wm_r (wm_r (wm_l (wm_r (wm_r h)))))))) Gd_X11_owner
theorem gL_law_X11_owner : GoodIn wsL_law (wsV RL 77 RX11 yX11_owner wsX11_owner) := goodIn_V (own := RL) (idx := 77) (C := RX11) (y := yX11_owner) (wm_l (wm_l (wm_r (wm_l (wm_l (wm_i 16 rfl)))))) (wm_l (wm_l (wm_r (wm_l (wm_l (wm_i 17 rfl)))))) (wm_l (wm_l (wm_r (wm_l (wm_l (wm_i 18 rfl)))))) (wm_l (wm_l (wm_l (wm_l (wm_l (wm_i 5 rfl)))))) ggL_law_X11_owner
theorem ggL_law_X10_quarrels : GoodIn wsL_law wsX10_quarrels := goodIn_s (fun _ h => (wm_r (wm_l (wm_r (wm_r (wm_r (wm_l (wm_l (wm_l h))))))))) Gd_X10_quarrels
theorem gL_law_X10_quarrels : GoodIn wsL_law (wsV RL 78 RX10 yX10_quarrels wsX10_quarrels) := goodIn_V (own := RL) (idx := 78) (C := RX10) (y := yX10_quarrels) (wm_l (wm_l (wm_r (wm_l (wm_l (wm_i 19 rfl)))))) (wm_l (wm_l (wm_r (wm_l (wm_l (wm_i 20 rfl)))))) (wm_l (wm_l (wm_r (wm_l (wm_l (wm_i 21 rfl)))))) (wm_l (wm_l (wm_l (wm_l (wm_l (wm_i 2 rfl)))))) ggL_law_X10_quarrels
theorem ggL_law_X11_quarrels : GoodIn wsL_law wsX11_quarrels := goodIn_s (fun _ h => (wm_r (wm_l (wm_r (wm_r (wm_r (wm_l (wm_l (wm_r h))))))))) Gd_X11_quarrels
theorem gL_law_X11_quarrels : GoodIn wsL_law (wsV RL 81 RX11 yX11_quarrels wsX11_quarrels) := goodIn_V (own := RL) (idx := 81) (C := RX11) (y := yX11_quarrels) (wm_l (wm_l (wm_r (wm_l (wm_l (wm_i 22 rfl)))))) (wm_l (wm_l (wm_r (wm_l (wm_l (wm_i 23 rfl)))))) (wm_l (wm_l (wm_r (wm_l (wm_r (wm_i 0 rfl)))))) (wm_l (wm_l (wm_l (wm_l (wm_l (wm_i 5 rfl)))))) ggL_law_X11_quarrels
theorem ggL_law_X10_pledge : GoodIn wsL_law wsX10_pledge := goodIn_s (fun _ h => (wm_r (wm_l (wm_r (wm_r (wm_r (wm_l (wm_r h)))))))) Gd_X10_pledge
theorem gL_law_X10_pledge : GoodIn wsL_law (wsV RL 82 RX10 yX10_pledge wsX10_pledge) := goodIn_V (own := RL) (idx := 82) (C := RX10) (y := yX10_pledge) (wm_l (wm_l (wm_r (wm_l (wm_r (wm_i 1 rfl)))))) (wm_l (wm_l (wm_r (wm_l (wm_r (wm_i 2 rfl)))))) (wm_l (wm_l (wm_r (wm_l (wm_r (wm_i 3 rfl)))))) (wm_l (wm_l (wm_l (wm_l (wm_l (wm_i 2 rfl)))))) ggL_law_X10_pledge
theorem ggL_law_X11_pledge : GoodIn wsL_law wsX11_pledge := goodIn_s (fun _ h => (wm_r (wm_l (wm_r (wm_r (wm_r (wm_r (wm_l h)))))))) Gd_X11_pledge
theorem gL_law_X11_pledge : GoodIn wsL_law (wsV RL 85 RX11 yX11_pledge wsX11_pledge) := goodIn_V (own := RL) (idx := 85) (C := RX11) (y := yX11_pledge) (wm_l (wm_l (wm_r (wm_l (wm_r (wm_i 4 rfl)))))) (wm_l (wm_l (wm_r (wm_l (wm_r (wm_i 5 rfl)))))) (wm_l (wm_l (wm_r (wm_l (wm_r (wm_i 6 rfl)))))) (wm_l (wm_l (wm_l (wm_l (wm_l (wm_i 5 rfl)))))) ggL_law_X11_pledge
theorem ggL_law_X10_rank : GoodIn wsL_law wsX10_rank := goodIn_s (fun _ h => (wm_r (wm_l (wm_r (wm_r (wm_r (wm_r (wm_r h)))))))) Gd_X10_rank
theorem gL_law_X10_rank : GoodIn wsL_law (wsV RL 86 RX10 yX10_rank wsX10_rank) := goodIn_V (own := RL) (idx := 86) (C := RX10) (y := yX10_rank) (wm_l (wm_l (wm_r (wm_l (wm_r (wm_i 7 rfl)))))) (wm_l (wm_l (wm_r (wm_l (wm_r (wm_i 8 rfl)))))) (wm_l (wm_l (wm_r (wm_l (wm_r (wm_i 9 rfl)))))) (wm_l (wm_l (wm_l (wm_l (wm_l (wm_i 2 rfl)))))) ggL_law_X10_rank
theorem ggL_law_X11_rank : GoodIn wsL_law wsX11_rank := goodIn_s (fun _ h => (wm_r (wm_r (wm_l (wm_l (wm_l (wm_l (wm_l (wm_l h))))))))) Gd_X11_rank
theorem gL_law_X11_rank : GoodIn wsL_law (wsV RL 89 RX11 yX11_rank wsX11_rank) := goodIn_V (own := RL) (idx := 89) (C := RX11) (y := yX11_rank) (wm_l (wm_l (wm_r (wm_l (wm_r (wm_i 10 rfl)))))) (wm_l (wm_l (wm_r (wm_l (wm_r (wm_i 11 rfl)))))) (wm_l (wm_l (wm_r (wm_l (wm_r (wm_i 12 rfl)))))) (wm_l (wm_l (wm_l (wm_l (wm_l (wm_i 5 rfl)))))) ggL_law_X11_rank
theorem sB_30 : dqA cL_law 720 sL_30 := dq_next sB_29 24 rfl
theorem sB_31 : dqA cL_law 744 sL_31 := dq_next sB_30 24 rfl
theorem sB_32 : dqA cL_law 768 sL_32 := dq_next sB_31 24 rfl
theorem sB_33 : dqA cL_law 792 sL_33 := dq_next sB_32 24 rfl
theorem sB_34 : dqA cL_law 816 sL_34 := dq_next sB_33 24 rfl
theorem sB_35 : dqA cL_law 840 sL_35 := dq_next sB_34 24 rfl
theorem sB_36 : dqA cL_law 864 sL_36 := dq_next sB_35 24 rfl
theorem sB_37 : dqA cL_law 888 sL_37 := dq_next sB_36 24 rfl
theorem sB_38 : dqA cL_law 912 sL_38 := dq_next sB_37 24 rfl
theorem dL_law_714 : decode cL_law 714 = .ok (.aload_n 1, 1) := dL_law_all38.2.2.2.2.2.2.1
theorem dL_law_715 : decode cL_law 715 = .ok (.aload_n 0, 1) := dL_law_all38.2.2.2.2.2.2.2.1
theorem dL_law_716 : decode cL_law 716 = .ok (.iload_n 3, 1) := dL_law_all38.2.2.2.2.2.2.2.2.1
theorem dL_law_717 : decode cL_law 717 = .ok (.iconst 1, 1) := dL_law_all38.2.2.2.2.2.2.2.2.2.1
theorem dL_law_718 : decode cL_law 718 = .ok (.iadd, 1) := dL_law_all38.2.2.2.2.2.2.2.2.2.2.1
theorem dL_law_719 : decode cL_law 719 = .ok (.iaload, 1) := dL_law_all38.2.2.2.2.2.2.2.2.2.2.2
theorem dL_law_all39 : decode cL_law 720 = .ok (.aload_n 0, 1) ∧ decode cL_law 721 = .ok (.iload_n 3, 1) ∧ decode cL_law 722 = .ok (.iconst 2, 1) ∧ decode cL_law 723 = .ok (.iadd, 1) ∧ decode cL_law 724 = .ok (.iaload, 1) ∧ decode cL_law 725 = .ok (.aload_n 0, 1) ∧ decode cL_law 726 = .ok (.iload_n 3, 1) ∧ decode cL_law 727 = .ok (.iconst 3, 1) ∧ decode cL_law 728 = .ok (.iadd, 1) ∧ decode cL_law 729 = .ok (.iaload, 1) ∧ decode cL_law 730 = .ok (.invokevirtual 74, 3) ∧ decode cL_law 733 = .ok (.pop, 1) := ⟨dq_42 sB_30 0 rfl, dq_29 sB_30 1 rfl, dq_5 sB_30 2 rfl, dq_96 sB_30 3 rfl, dq_46 sB_30 4 rfl, dq_42 sB_30 5 rfl, dq_29 sB_30 6 rfl, dq_6 sB_30 7 rfl, dq_96 sB_30 8 rfl, dq_46 sB_30 9 rfl, dq_182 sB_30 10 rfl 74 (by decide), dq_87 sB_30 13 rfl⟩
theorem dL_law_720 : decode cL_law 720 = .ok (.aload_n 0, 1) := dL_law_all39.1
theorem dL_law_721 : decode cL_law 721 = .ok (.iload_n 3, 1) := dL_law_all39.2.1
theorem dL_law_722 : decode cL_law 722 = .ok (.iconst 2, 1) := dL_law_all39.2.2.1
theorem dL_law_723 : decode cL_law 723 = .ok (.iadd, 1) := dL_law_all39.2.2.2.1
theorem dL_law_724 : decode cL_law 724 = .ok (.iaload, 1) := dL_law_all39.2.2.2.2.1
theorem dL_law_725 : decode cL_law 725 = .ok (.aload_n 0, 1) := dL_law_all39.2.2.2.2.2.1
theorem dL_law_726 : decode cL_law 726 = .ok (.iload_n 3, 1) := dL_law_all39.2.2.2.2.2.2.1
theorem dL_law_727 : decode cL_law 727 = .ok (.iconst 3, 1) := dL_law_all39.2.2.2.2.2.2.2.1
theorem dL_law_728 : decode cL_law 728 = .ok (.iadd, 1) := dL_law_all39.2.2.2.2.2.2.2.2.1
theorem dL_law_729 : decode cL_law 729 = .ok (.iaload, 1) := dL_law_all39.2.2.2.2.2.2.2.2.2.1
theorem dL_law_730 : decode cL_law 730 = .ok (.invokevirtual 74, 3) := dL_law_all39.2.2.2.2.2.2.2.2.2.2.1
theorem dL_law_733 : decode cL_law 733 = .ok (.pop, 1) := dL_law_all39.2.2.2.2.2.2.2.2.2.2.2
theorem dL_law_all40 : decode cL_law 734 = .ok (.aload_n 2, 1) ∧ decode cL_law 735 = .ok (.aload_n 0, 1) ∧ decode cL_law 736 = .ok (.iload_n 3, 1) ∧ decode cL_law 737 = .ok (.iconst 1, 1) ∧ decode cL_law 738 = .ok (.iadd, 1) ∧ decode cL_law 739 = .ok (.iaload, 1) ∧ decode cL_law 740 = .ok (.aload_n 0, 1) ∧ decode cL_law 741 = .ok (.iload_n 3, 1) ∧ decode cL_law 742 = .ok (.iconst 2, 1) ∧ decode cL_law 743 = .ok (.iadd, 1) ∧ decode cL_law 744 = .ok (.iaload, 1) ∧ decode cL_law 745 = .ok (.aload_n 0, 1) := ⟨dq_44 sB_30 14 rfl, dq_42 sB_30 15 rfl, dq_29 sB_30 16 rfl, dq_4 sB_30 17 rfl, dq_96 sB_30 18 rfl, dq_46 sB_30 19 rfl, dq_42 sB_30 20 rfl, dq_29 sB_30 21 rfl, dq_5 sB_30 22 rfl, dq_96 sB_30 23 rfl, dq_46 sB_31 0 rfl, dq_42 sB_31 1 rfl⟩
theorem dL_law_734 : decode cL_law 734 = .ok (.aload_n 2, 1) := dL_law_all40.1
theorem dL_law_735 : decode cL_law 735 = .ok (.aload_n 0, 1) := dL_law_all40.2.1
theorem dL_law_736 : decode cL_law 736 = .ok (.iload_n 3, 1) := dL_law_all40.2.2.1
theorem dL_law_737 : decode cL_law 737 = .ok (.iconst 1, 1) := dL_law_all40.2.2.2.1
theorem dL_law_738 : decode cL_law 738 = .ok (.iadd, 1) := dL_law_all40.2.2.2.2.1
theorem dL_law_739 : decode cL_law 739 = .ok (.iaload, 1) := dL_law_all40.2.2.2.2.2.1
theorem dL_law_740 : decode cL_law 740 = .ok (.aload_n 0, 1) := dL_law_all40.2.2.2.2.2.2.1
theorem dL_law_741 : decode cL_law 741 = .ok (.iload_n 3, 1) := dL_law_all40.2.2.2.2.2.2.2.1
theorem dL_law_742 : decode cL_law 742 = .ok (.iconst 2, 1) := dL_law_all40.2.2.2.2.2.2.2.2.1
theorem dL_law_743 : decode cL_law 743 = .ok (.iadd, 1) := dL_law_all40.2.2.2.2.2.2.2.2.2.1
theorem dL_law_744 : decode cL_law 744 = .ok (.iaload, 1) := dL_law_all40.2.2.2.2.2.2.2.2.2.2.1
theorem dL_law_745 : decode cL_law 745 = .ok (.aload_n 0, 1) := dL_law_all40.2.2.2.2.2.2.2.2.2.2.2
theorem dL_law_all41 : decode cL_law 746 = .ok (.iload_n 3, 1) ∧ decode cL_law 747 = .ok (.iconst 3, 1) ∧ decode cL_law 748 = .ok (.iadd, 1) ∧ decode cL_law 749 = .ok (.iaload, 1) ∧ decode cL_law 750 = .ok (.invokevirtual 77, 3) ∧ decode cL_law 753 = .ok (.pop, 1) ∧ decode cL_law 754 = .ok (.goto 898, 3) ∧ decode cL_law 757 = .ok (.aload_n 1, 1) ∧ decode cL_law 758 = .ok (.aload_n 0, 1) ∧ decode cL_law 759 = .ok (.iload_n 3, 1) ∧ decode cL_law 760 = .ok (.iconst 1, 1) ∧ decode cL_law 761 = .ok (.iadd, 1) := ⟨dq_29 sB_31 2 rfl, dq_6 sB_31 3 rfl, dq_96 sB_31 4 rfl, dq_46 sB_31 5 rfl, dq_182 sB_31 6 rfl 77 (by decide), dq_87 sB_31 9 rfl, dq_167 sB_31 10 rfl 898 (by decide), dq_43 sB_31 13 rfl, dq_42 sB_31 14 rfl, dq_29 sB_31 15 rfl, dq_4 sB_31 16 rfl, dq_96 sB_31 17 rfl⟩
theorem dL_law_746 : decode cL_law 746 = .ok (.iload_n 3, 1) := dL_law_all41.1
theorem dL_law_747 : decode cL_law 747 = .ok (.iconst 3, 1) := dL_law_all41.2.1
theorem dL_law_748 : decode cL_law 748 = .ok (.iadd, 1) := dL_law_all41.2.2.1
theorem dL_law_749 : decode cL_law 749 = .ok (.iaload, 1) := dL_law_all41.2.2.2.1
theorem dL_law_750 : decode cL_law 750 = .ok (.invokevirtual 77, 3) := dL_law_all41.2.2.2.2.1
theorem dL_law_753 : decode cL_law 753 = .ok (.pop, 1) := dL_law_all41.2.2.2.2.2.1
theorem dL_law_754 : decode cL_law 754 = .ok (.goto 898, 3) := dL_law_all41.2.2.2.2.2.2.1
theorem dL_law_757 : decode cL_law 757 = .ok (.aload_n 1, 1) := dL_law_all41.2.2.2.2.2.2.2.1
theorem dL_law_758 : decode cL_law 758 = .ok (.aload_n 0, 1) := dL_law_all41.2.2.2.2.2.2.2.2.1
theorem dL_law_759 : decode cL_law 759 = .ok (.iload_n 3, 1) := dL_law_all41.2.2.2.2.2.2.2.2.2.1
theorem dL_law_760 : decode cL_law 760 = .ok (.iconst 1, 1) := dL_law_all41.2.2.2.2.2.2.2.2.2.2.1
theorem dL_law_761 : decode cL_law 761 = .ok (.iadd, 1) := dL_law_all41.2.2.2.2.2.2.2.2.2.2.2
theorem dL_law_all42 : decode cL_law 762 = .ok (.iaload, 1) ∧ decode cL_law 763 = .ok (.aload_n 0, 1) ∧ decode cL_law 764 = .ok (.iload_n 3, 1) ∧ decode cL_law 765 = .ok (.iconst 2, 1) ∧ decode cL_law 766 = .ok (.iadd, 1) ∧ decode cL_law 767 = .ok (.iaload, 1) ∧ decode cL_law 768 = .ok (.invokevirtual 78, 3) ∧ decode cL_law 771 = .ok (.pop, 1) ∧ decode cL_law 772 = .ok (.aload_n 2, 1) ∧ decode cL_law 773 = .ok (.aload_n 0, 1) ∧ decode cL_law 774 = .ok (.iload_n 3, 1) ∧ decode cL_law 775 = .ok (.iconst 1, 1) := ⟨dq_46 sB_31 18 rfl, dq_42 sB_31 19 rfl, dq_29 sB_31 20 rfl, dq_5 sB_31 21 rfl, dq_96 sB_31 22 rfl, dq_46 sB_31 23 rfl, dq_182 sB_32 0 rfl 78 (by decide), dq_87 sB_32 3 rfl, dq_44 sB_32 4 rfl, dq_42 sB_32 5 rfl, dq_29 sB_32 6 rfl, dq_4 sB_32 7 rfl⟩
theorem dL_law_762 : decode cL_law 762 = .ok (.iaload, 1) := dL_law_all42.1
theorem dL_law_763 : decode cL_law 763 = .ok (.aload_n 0, 1) := dL_law_all42.2.1
theorem dL_law_764 : decode cL_law 764 = .ok (.iload_n 3, 1) := dL_law_all42.2.2.1
theorem dL_law_765 : decode cL_law 765 = .ok (.iconst 2, 1) := dL_law_all42.2.2.2.1
theorem dL_law_766 : decode cL_law 766 = .ok (.iadd, 1) := dL_law_all42.2.2.2.2.1
theorem dL_law_767 : decode cL_law 767 = .ok (.iaload, 1) := dL_law_all42.2.2.2.2.2.1
theorem dL_law_768 : decode cL_law 768 = .ok (.invokevirtual 78, 3) := dL_law_all42.2.2.2.2.2.2.1
theorem dL_law_771 : decode cL_law 771 = .ok (.pop, 1) := dL_law_all42.2.2.2.2.2.2.2.1
theorem dL_law_772 : decode cL_law 772 = .ok (.aload_n 2, 1) := dL_law_all42.2.2.2.2.2.2.2.2.1
theorem dL_law_773 : decode cL_law 773 = .ok (.aload_n 0, 1) := dL_law_all42.2.2.2.2.2.2.2.2.2.1
theorem dL_law_774 : decode cL_law 774 = .ok (.iload_n 3, 1) := dL_law_all42.2.2.2.2.2.2.2.2.2.2.1
theorem dL_law_775 : decode cL_law 775 = .ok (.iconst 1, 1) := dL_law_all42.2.2.2.2.2.2.2.2.2.2.2
theorem dL_law_all43 : decode cL_law 776 = .ok (.iadd, 1) ∧ decode cL_law 777 = .ok (.iaload, 1) ∧ decode cL_law 778 = .ok (.aload_n 0, 1) ∧ decode cL_law 779 = .ok (.iload_n 3, 1) ∧ decode cL_law 780 = .ok (.iconst 2, 1) ∧ decode cL_law 781 = .ok (.iadd, 1) ∧ decode cL_law 782 = .ok (.iaload, 1) ∧ decode cL_law 783 = .ok (.invokevirtual 81, 3) ∧ decode cL_law 786 = .ok (.pop, 1) ∧ decode cL_law 787 = .ok (.goto 865, 3) ∧ decode cL_law 790 = .ok (.aload_n 1, 1) ∧ decode cL_law 791 = .ok (.aload_n 0, 1) := ⟨dq_96 sB_32 8 rfl, dq_46 sB_32 9 rfl, dq_42 sB_32 10 rfl, dq_29 sB_32 11 rfl, dq_5 sB_32 12 rfl, dq_96 sB_32 13 rfl, dq_46 sB_32 14 rfl, dq_182 sB_32 15 rfl 81 (by decide), dq_87 sB_32 18 rfl, dq_167 sB_32 19 rfl 865 (by decide), dq_43 sB_32 22 rfl, dq_42 sB_32 23 rfl⟩
theorem dL_law_776 : decode cL_law 776 = .ok (.iadd, 1) := dL_law_all43.1
theorem dL_law_777 : decode cL_law 777 = .ok (.iaload, 1) := dL_law_all43.2.1
theorem dL_law_778 : decode cL_law 778 = .ok (.aload_n 0, 1) := dL_law_all43.2.2.1
theorem dL_law_779 : decode cL_law 779 = .ok (.iload_n 3, 1) := dL_law_all43.2.2.2.1
theorem dL_law_780 : decode cL_law 780 = .ok (.iconst 2, 1) := dL_law_all43.2.2.2.2.1
theorem dL_law_781 : decode cL_law 781 = .ok (.iadd, 1) := dL_law_all43.2.2.2.2.2.1
theorem dL_law_782 : decode cL_law 782 = .ok (.iaload, 1) := dL_law_all43.2.2.2.2.2.2.1
theorem dL_law_783 : decode cL_law 783 = .ok (.invokevirtual 81, 3) := dL_law_all43.2.2.2.2.2.2.2.1
theorem dL_law_786 : decode cL_law 786 = .ok (.pop, 1) := dL_law_all43.2.2.2.2.2.2.2.2.1
theorem dL_law_787 : decode cL_law 787 = .ok (.goto 865, 3) := dL_law_all43.2.2.2.2.2.2.2.2.2.1
theorem dL_law_790 : decode cL_law 790 = .ok (.aload_n 1, 1) := dL_law_all43.2.2.2.2.2.2.2.2.2.2.1
theorem dL_law_791 : decode cL_law 791 = .ok (.aload_n 0, 1) := dL_law_all43.2.2.2.2.2.2.2.2.2.2.2
theorem dL_law_all44 : decode cL_law 792 = .ok (.iload_n 3, 1) ∧ decode cL_law 793 = .ok (.iconst 1, 1) ∧ decode cL_law 794 = .ok (.iadd, 1) ∧ decode cL_law 795 = .ok (.iaload, 1) ∧ decode cL_law 796 = .ok (.aload_n 0, 1) ∧ decode cL_law 797 = .ok (.iload_n 3, 1) ∧ decode cL_law 798 = .ok (.iconst 2, 1) ∧ decode cL_law 799 = .ok (.iadd, 1) ∧ decode cL_law 800 = .ok (.iaload, 1) ∧ decode cL_law 801 = .ok (.aload_n 0, 1) ∧ decode cL_law 802 = .ok (.iload_n 3, 1) ∧ decode cL_law 803 = .ok (.iconst 3, 1) := ⟨dq_29 sB_33 0 rfl, dq_4 sB_33 1 rfl, dq_96 sB_33 2 rfl, dq_46 sB_33 3 rfl, dq_42 sB_33 4 rfl, dq_29 sB_33 5 rfl, dq_5 sB_33 6 rfl, dq_96 sB_33 7 rfl, dq_46 sB_33 8 rfl, dq_42 sB_33 9 rfl, dq_29 sB_33 10 rfl, dq_6 sB_33 11 rfl⟩
theorem dL_law_792 : decode cL_law 792 = .ok (.iload_n 3, 1) := dL_law_all44.1
theorem dL_law_793 : decode cL_law 793 = .ok (.iconst 1, 1) := dL_law_all44.2.1
theorem dL_law_794 : decode cL_law 794 = .ok (.iadd, 1) := dL_law_all44.2.2.1
theorem dL_law_795 : decode cL_law 795 = .ok (.iaload, 1) := dL_law_all44.2.2.2.1
theorem dL_law_796 : decode cL_law 796 = .ok (.aload_n 0, 1) := dL_law_all44.2.2.2.2.1
theorem dL_law_797 : decode cL_law 797 = .ok (.iload_n 3, 1) := dL_law_all44.2.2.2.2.2.1
theorem dL_law_798 : decode cL_law 798 = .ok (.iconst 2, 1) := dL_law_all44.2.2.2.2.2.2.1
theorem dL_law_799 : decode cL_law 799 = .ok (.iadd, 1) := dL_law_all44.2.2.2.2.2.2.2.1
theorem dL_law_800 : decode cL_law 800 = .ok (.iaload, 1) := dL_law_all44.2.2.2.2.2.2.2.2.1
theorem dL_law_801 : decode cL_law 801 = .ok (.aload_n 0, 1) := dL_law_all44.2.2.2.2.2.2.2.2.2.1
theorem dL_law_802 : decode cL_law 802 = .ok (.iload_n 3, 1) := dL_law_all44.2.2.2.2.2.2.2.2.2.2.1
theorem dL_law_803 : decode cL_law 803 = .ok (.iconst 3, 1) := dL_law_all44.2.2.2.2.2.2.2.2.2.2.2
theorem dL_law_all45 : decode cL_law 804 = .ok (.iadd, 1) ∧ decode cL_law 805 = .ok (.iaload, 1) ∧ decode cL_law 806 = .ok (.aload_n 0, 1) ∧ decode cL_law 807 = .ok (.iload_n 3, 1) ∧ decode cL_law 808 = .ok (.iconst 4, 1) ∧ decode cL_law 809 = .ok (.iadd, 1) ∧ decode cL_law 810 = .ok (.iaload, 1) ∧ decode cL_law 811 = .ok (.aload_n 0, 1) ∧ decode cL_law 812 = .ok (.iload_n 3, 1) ∧ decode cL_law 813 = .ok (.iconst 5, 1) ∧ decode cL_law 814 = .ok (.iadd, 1) ∧ decode cL_law 815 = .ok (.iaload, 1) := ⟨dq_96 sB_33 12 rfl, dq_46 sB_33 13 rfl, dq_42 sB_33 14 rfl, dq_29 sB_33 15 rfl, dq_7 sB_33 16 rfl, dq_96 sB_33 17 rfl, dq_46 sB_33 18 rfl, dq_42 sB_33 19 rfl, dq_29 sB_33 20 rfl, dq_8 sB_33 21 rfl, dq_96 sB_33 22 rfl, dq_46 sB_33 23 rfl⟩
theorem dL_law_804 : decode cL_law 804 = .ok (.iadd, 1) := dL_law_all45.1
theorem dL_law_805 : decode cL_law 805 = .ok (.iaload, 1) := dL_law_all45.2.1
theorem dL_law_806 : decode cL_law 806 = .ok (.aload_n 0, 1) := dL_law_all45.2.2.1
theorem dL_law_807 : decode cL_law 807 = .ok (.iload_n 3, 1) := dL_law_all45.2.2.2.1
theorem dL_law_808 : decode cL_law 808 = .ok (.iconst 4, 1) := dL_law_all45.2.2.2.2.1
theorem dL_law_809 : decode cL_law 809 = .ok (.iadd, 1) := dL_law_all45.2.2.2.2.2.1
theorem dL_law_810 : decode cL_law 810 = .ok (.iaload, 1) := dL_law_all45.2.2.2.2.2.2.1
theorem dL_law_811 : decode cL_law 811 = .ok (.aload_n 0, 1) := dL_law_all45.2.2.2.2.2.2.2.1
theorem dL_law_812 : decode cL_law 812 = .ok (.iload_n 3, 1) := dL_law_all45.2.2.2.2.2.2.2.2.1
theorem dL_law_813 : decode cL_law 813 = .ok (.iconst 5, 1) := dL_law_all45.2.2.2.2.2.2.2.2.2.1
theorem dL_law_814 : decode cL_law 814 = .ok (.iadd, 1) := dL_law_all45.2.2.2.2.2.2.2.2.2.2.1
theorem dL_law_815 : decode cL_law 815 = .ok (.iaload, 1) := dL_law_all45.2.2.2.2.2.2.2.2.2.2.2
theorem dL_law_all46 : decode cL_law 816 = .ok (.invokevirtual 82, 3) ∧ decode cL_law 819 = .ok (.pop, 1) ∧ decode cL_law 820 = .ok (.aload_n 2, 1) ∧ decode cL_law 821 = .ok (.aload_n 0, 1) ∧ decode cL_law 822 = .ok (.iload_n 3, 1) ∧ decode cL_law 823 = .ok (.iconst 1, 1) ∧ decode cL_law 824 = .ok (.iadd, 1) ∧ decode cL_law 825 = .ok (.iaload, 1) ∧ decode cL_law 826 = .ok (.aload_n 0, 1) ∧ decode cL_law 827 = .ok (.iload_n 3, 1) ∧ decode cL_law 828 = .ok (.iconst 2, 1) ∧ decode cL_law 829 = .ok (.iadd, 1) := ⟨dq_182 sB_34 0 rfl 82 (by decide), dq_87 sB_34 3 rfl, dq_44 sB_34 4 rfl, dq_42 sB_34 5 rfl, dq_29 sB_34 6 rfl, dq_4 sB_34 7 rfl, dq_96 sB_34 8 rfl, dq_46 sB_34 9 rfl, dq_42 sB_34 10 rfl, dq_29 sB_34 11 rfl, dq_5 sB_34 12 rfl, dq_96 sB_34 13 rfl⟩
theorem dL_law_816 : decode cL_law 816 = .ok (.invokevirtual 82, 3) := dL_law_all46.1
theorem dL_law_819 : decode cL_law 819 = .ok (.pop, 1) := dL_law_all46.2.1
theorem dL_law_820 : decode cL_law 820 = .ok (.aload_n 2, 1) := dL_law_all46.2.2.1
theorem dL_law_821 : decode cL_law 821 = .ok (.aload_n 0, 1) := dL_law_all46.2.2.2.1
theorem dL_law_822 : decode cL_law 822 = .ok (.iload_n 3, 1) := dL_law_all46.2.2.2.2.1
theorem dL_law_823 : decode cL_law 823 = .ok (.iconst 1, 1) := dL_law_all46.2.2.2.2.2.1
theorem dL_law_824 : decode cL_law 824 = .ok (.iadd, 1) := dL_law_all46.2.2.2.2.2.2.1
theorem dL_law_825 : decode cL_law 825 = .ok (.iaload, 1) := dL_law_all46.2.2.2.2.2.2.2.1
theorem dL_law_826 : decode cL_law 826 = .ok (.aload_n 0, 1) := dL_law_all46.2.2.2.2.2.2.2.2.1
theorem dL_law_827 : decode cL_law 827 = .ok (.iload_n 3, 1) := dL_law_all46.2.2.2.2.2.2.2.2.2.1
theorem dL_law_828 : decode cL_law 828 = .ok (.iconst 2, 1) := dL_law_all46.2.2.2.2.2.2.2.2.2.2.1
theorem dL_law_829 : decode cL_law 829 = .ok (.iadd, 1) := dL_law_all46.2.2.2.2.2.2.2.2.2.2.2
theorem dL_law_all47 : decode cL_law 830 = .ok (.iaload, 1) ∧ decode cL_law 831 = .ok (.aload_n 0, 1) ∧ decode cL_law 832 = .ok (.iload_n 3, 1) ∧ decode cL_law 833 = .ok (.iconst 3, 1) ∧ decode cL_law 834 = .ok (.iadd, 1) ∧ decode cL_law 835 = .ok (.iaload, 1) ∧ decode cL_law 836 = .ok (.aload_n 0, 1) ∧ decode cL_law 837 = .ok (.iload_n 3, 1) ∧ decode cL_law 838 = .ok (.iconst 4, 1) ∧ decode cL_law 839 = .ok (.iadd, 1) ∧ decode cL_law 840 = .ok (.iaload, 1) ∧ decode cL_law 841 = .ok (.aload_n 0, 1) := ⟨dq_46 sB_34 14 rfl, dq_42 sB_34 15 rfl, dq_29 sB_34 16 rfl, dq_6 sB_34 17 rfl, dq_96 sB_34 18 rfl, dq_46 sB_34 19 rfl, dq_42 sB_34 20 rfl, dq_29 sB_34 21 rfl, dq_7 sB_34 22 rfl, dq_96 sB_34 23 rfl, dq_46 sB_35 0 rfl, dq_42 sB_35 1 rfl⟩
theorem dL_law_830 : decode cL_law 830 = .ok (.iaload, 1) := dL_law_all47.1
theorem dL_law_831 : decode cL_law 831 = .ok (.aload_n 0, 1) := dL_law_all47.2.1
theorem dL_law_832 : decode cL_law 832 = .ok (.iload_n 3, 1) := dL_law_all47.2.2.1
theorem dL_law_833 : decode cL_law 833 = .ok (.iconst 3, 1) := dL_law_all47.2.2.2.1
theorem dL_law_834 : decode cL_law 834 = .ok (.iadd, 1) := dL_law_all47.2.2.2.2.1
theorem dL_law_835 : decode cL_law 835 = .ok (.iaload, 1) := dL_law_all47.2.2.2.2.2.1
theorem dL_law_836 : decode cL_law 836 = .ok (.aload_n 0, 1) := dL_law_all47.2.2.2.2.2.2.1
theorem dL_law_837 : decode cL_law 837 = .ok (.iload_n 3, 1) := dL_law_all47.2.2.2.2.2.2.2.1
theorem dL_law_838 : decode cL_law 838 = .ok (.iconst 4, 1) := dL_law_all47.2.2.2.2.2.2.2.2.1
theorem dL_law_839 : decode cL_law 839 = .ok (.iadd, 1) := dL_law_all47.2.2.2.2.2.2.2.2.2.1
theorem dL_law_840 : decode cL_law 840 = .ok (.iaload, 1) := dL_law_all47.2.2.2.2.2.2.2.2.2.2.1
theorem dL_law_841 : decode cL_law 841 = .ok (.aload_n 0, 1) := dL_law_all47.2.2.2.2.2.2.2.2.2.2.2
theorem dL_law_all48 : decode cL_law 842 = .ok (.iload_n 3, 1) ∧ decode cL_law 843 = .ok (.iconst 5, 1) ∧ decode cL_law 844 = .ok (.iadd, 1) ∧ decode cL_law 845 = .ok (.iaload, 1) ∧ decode cL_law 846 = .ok (.invokevirtual 85, 3) ∧ decode cL_law 849 = .ok (.pop, 1) ∧ decode cL_law 850 = .ok (.goto 802, 3) ∧ decode cL_law 853 = .ok (.aload_n 1, 1) ∧ decode cL_law 854 = .ok (.aload_n 0, 1) ∧ decode cL_law 855 = .ok (.iload_n 3, 1) ∧ decode cL_law 856 = .ok (.iconst 1, 1) ∧ decode cL_law 857 = .ok (.iadd, 1) := ⟨dq_29 sB_35 2 rfl, dq_8 sB_35 3 rfl, dq_96 sB_35 4 rfl, dq_46 sB_35 5 rfl, dq_182 sB_35 6 rfl 85 (by decide), dq_87 sB_35 9 rfl, dq_167 sB_35 10 rfl 802 (by decide), dq_43 sB_35 13 rfl, dq_42 sB_35 14 rfl, dq_29 sB_35 15 rfl, dq_4 sB_35 16 rfl, dq_96 sB_35 17 rfl⟩
theorem dL_law_842 : decode cL_law 842 = .ok (.iload_n 3, 1) := dL_law_all48.1
theorem dL_law_843 : decode cL_law 843 = .ok (.iconst 5, 1) := dL_law_all48.2.1
theorem dL_law_844 : decode cL_law 844 = .ok (.iadd, 1) := dL_law_all48.2.2.1
theorem dL_law_845 : decode cL_law 845 = .ok (.iaload, 1) := dL_law_all48.2.2.2.1
theorem dL_law_846 : decode cL_law 846 = .ok (.invokevirtual 85, 3) := dL_law_all48.2.2.2.2.1
theorem dL_law_849 : decode cL_law 849 = .ok (.pop, 1) := dL_law_all48.2.2.2.2.2.1
theorem dL_law_850 : decode cL_law 850 = .ok (.goto 802, 3) := dL_law_all48.2.2.2.2.2.2.1
theorem dL_law_853 : decode cL_law 853 = .ok (.aload_n 1, 1) := dL_law_all48.2.2.2.2.2.2.2.1
theorem dL_law_854 : decode cL_law 854 = .ok (.aload_n 0, 1) := dL_law_all48.2.2.2.2.2.2.2.2.1
theorem dL_law_855 : decode cL_law 855 = .ok (.iload_n 3, 1) := dL_law_all48.2.2.2.2.2.2.2.2.2.1
theorem dL_law_856 : decode cL_law 856 = .ok (.iconst 1, 1) := dL_law_all48.2.2.2.2.2.2.2.2.2.2.1
theorem dL_law_857 : decode cL_law 857 = .ok (.iadd, 1) := dL_law_all48.2.2.2.2.2.2.2.2.2.2.2
theorem dL_law_all49 : decode cL_law 858 = .ok (.iaload, 1) ∧ decode cL_law 859 = .ok (.aload_n 0, 1) ∧ decode cL_law 860 = .ok (.iload_n 3, 1) ∧ decode cL_law 861 = .ok (.iconst 2, 1) ∧ decode cL_law 862 = .ok (.iadd, 1) ∧ decode cL_law 863 = .ok (.iaload, 1) ∧ decode cL_law 864 = .ok (.aload_n 0, 1) ∧ decode cL_law 865 = .ok (.iload_n 3, 1) ∧ decode cL_law 866 = .ok (.iconst 3, 1) ∧ decode cL_law 867 = .ok (.iadd, 1) ∧ decode cL_law 868 = .ok (.iaload, 1) ∧ decode cL_law 869 = .ok (.aload_n 0, 1) := ⟨dq_46 sB_35 18 rfl, dq_42 sB_35 19 rfl, dq_29 sB_35 20 rfl, dq_5 sB_35 21 rfl, dq_96 sB_35 22 rfl, dq_46 sB_35 23 rfl, dq_42 sB_36 0 rfl, dq_29 sB_36 1 rfl, dq_6 sB_36 2 rfl, dq_96 sB_36 3 rfl, dq_46 sB_36 4 rfl, dq_42 sB_36 5 rfl⟩
theorem dL_law_858 : decode cL_law 858 = .ok (.iaload, 1) := dL_law_all49.1
theorem dL_law_859 : decode cL_law 859 = .ok (.aload_n 0, 1) := dL_law_all49.2.1
theorem dL_law_860 : decode cL_law 860 = .ok (.iload_n 3, 1) := dL_law_all49.2.2.1
theorem dL_law_861 : decode cL_law 861 = .ok (.iconst 2, 1) := dL_law_all49.2.2.2.1
theorem dL_law_862 : decode cL_law 862 = .ok (.iadd, 1) := dL_law_all49.2.2.2.2.1
theorem dL_law_863 : decode cL_law 863 = .ok (.iaload, 1) := dL_law_all49.2.2.2.2.2.1
theorem dL_law_864 : decode cL_law 864 = .ok (.aload_n 0, 1) := dL_law_all49.2.2.2.2.2.2.1
theorem dL_law_865 : decode cL_law 865 = .ok (.iload_n 3, 1) := dL_law_all49.2.2.2.2.2.2.2.1
theorem dL_law_866 : decode cL_law 866 = .ok (.iconst 3, 1) := dL_law_all49.2.2.2.2.2.2.2.2.1
theorem dL_law_867 : decode cL_law 867 = .ok (.iadd, 1) := dL_law_all49.2.2.2.2.2.2.2.2.2.1
theorem dL_law_868 : decode cL_law 868 = .ok (.iaload, 1) := dL_law_all49.2.2.2.2.2.2.2.2.2.2.1
theorem dL_law_869 : decode cL_law 869 = .ok (.aload_n 0, 1) := dL_law_all49.2.2.2.2.2.2.2.2.2.2.2
theorem dL_law_all50 : decode cL_law 870 = .ok (.iload_n 3, 1) ∧ decode cL_law 871 = .ok (.iconst 4, 1) ∧ decode cL_law 872 = .ok (.iadd, 1) ∧ decode cL_law 873 = .ok (.iaload, 1) ∧ decode cL_law 874 = .ok (.aload_n 0, 1) ∧ decode cL_law 875 = .ok (.iload_n 3, 1) ∧ decode cL_law 876 = .ok (.iconst 5, 1) ∧ decode cL_law 877 = .ok (.iadd, 1) ∧ decode cL_law 878 = .ok (.iaload, 1) ∧ decode cL_law 879 = .ok (.invokevirtual 86, 3) ∧ decode cL_law 882 = .ok (.pop, 1) ∧ decode cL_law 883 = .ok (.aload_n 2, 1) := ⟨dq_29 sB_36 6 rfl, dq_7 sB_36 7 rfl, dq_96 sB_36 8 rfl, dq_46 sB_36 9 rfl, dq_42 sB_36 10 rfl, dq_29 sB_36 11 rfl, dq_8 sB_36 12 rfl, dq_96 sB_36 13 rfl, dq_46 sB_36 14 rfl, dq_182 sB_36 15 rfl 86 (by decide), dq_87 sB_36 18 rfl, dq_44 sB_36 19 rfl⟩
theorem dL_law_870 : decode cL_law 870 = .ok (.iload_n 3, 1) := dL_law_all50.1
theorem dL_law_871 : decode cL_law 871 = .ok (.iconst 4, 1) := dL_law_all50.2.1
theorem dL_law_872 : decode cL_law 872 = .ok (.iadd, 1) := dL_law_all50.2.2.1
theorem dL_law_873 : decode cL_law 873 = .ok (.iaload, 1) := dL_law_all50.2.2.2.1
theorem dL_law_874 : decode cL_law 874 = .ok (.aload_n 0, 1) := dL_law_all50.2.2.2.2.1
theorem dL_law_875 : decode cL_law 875 = .ok (.iload_n 3, 1) := dL_law_all50.2.2.2.2.2.1
theorem dL_law_876 : decode cL_law 876 = .ok (.iconst 5, 1) := dL_law_all50.2.2.2.2.2.2.1
theorem dL_law_877 : decode cL_law 877 = .ok (.iadd, 1) := dL_law_all50.2.2.2.2.2.2.2.1
theorem dL_law_878 : decode cL_law 878 = .ok (.iaload, 1) := dL_law_all50.2.2.2.2.2.2.2.2.1
theorem dL_law_879 : decode cL_law 879 = .ok (.invokevirtual 86, 3) := dL_law_all50.2.2.2.2.2.2.2.2.2.1
theorem dL_law_882 : decode cL_law 882 = .ok (.pop, 1) := dL_law_all50.2.2.2.2.2.2.2.2.2.2.1
theorem dL_law_883 : decode cL_law 883 = .ok (.aload_n 2, 1) := dL_law_all50.2.2.2.2.2.2.2.2.2.2.2
theorem dL_law_all51 : decode cL_law 884 = .ok (.aload_n 0, 1) ∧ decode cL_law 885 = .ok (.iload_n 3, 1) ∧ decode cL_law 886 = .ok (.iconst 1, 1) ∧ decode cL_law 887 = .ok (.iadd, 1) ∧ decode cL_law 888 = .ok (.iaload, 1) ∧ decode cL_law 889 = .ok (.aload_n 0, 1) ∧ decode cL_law 890 = .ok (.iload_n 3, 1) ∧ decode cL_law 891 = .ok (.iconst 2, 1) ∧ decode cL_law 892 = .ok (.iadd, 1) ∧ decode cL_law 893 = .ok (.iaload, 1) ∧ decode cL_law 894 = .ok (.aload_n 0, 1) ∧ decode cL_law 895 = .ok (.iload_n 3, 1) := ⟨dq_42 sB_36 20 rfl, dq_29 sB_36 21 rfl, dq_4 sB_36 22 rfl, dq_96 sB_36 23 rfl, dq_46 sB_37 0 rfl, dq_42 sB_37 1 rfl, dq_29 sB_37 2 rfl, dq_5 sB_37 3 rfl, dq_96 sB_37 4 rfl, dq_46 sB_37 5 rfl, dq_42 sB_37 6 rfl, dq_29 sB_37 7 rfl⟩
theorem dL_law_884 : decode cL_law 884 = .ok (.aload_n 0, 1) := dL_law_all51.1
theorem dL_law_885 : decode cL_law 885 = .ok (.iload_n 3, 1) := dL_law_all51.2.1
theorem dL_law_886 : decode cL_law 886 = .ok (.iconst 1, 1) := dL_law_all51.2.2.1
theorem dL_law_887 : decode cL_law 887 = .ok (.iadd, 1) := dL_law_all51.2.2.2.1
theorem dL_law_888 : decode cL_law 888 = .ok (.iaload, 1) := dL_law_all51.2.2.2.2.1
theorem dL_law_889 : decode cL_law 889 = .ok (.aload_n 0, 1) := dL_law_all51.2.2.2.2.2.1
theorem dL_law_890 : decode cL_law 890 = .ok (.iload_n 3, 1) := dL_law_all51.2.2.2.2.2.2.1
theorem dL_law_891 : decode cL_law 891 = .ok (.iconst 2, 1) := dL_law_all51.2.2.2.2.2.2.2.1
theorem dL_law_892 : decode cL_law 892 = .ok (.iadd, 1) := dL_law_all51.2.2.2.2.2.2.2.2.1
theorem dL_law_893 : decode cL_law 893 = .ok (.iaload, 1) := dL_law_all51.2.2.2.2.2.2.2.2.2.1
theorem dL_law_894 : decode cL_law 894 = .ok (.aload_n 0, 1) := dL_law_all51.2.2.2.2.2.2.2.2.2.2.1
theorem dL_law_895 : decode cL_law 895 = .ok (.iload_n 3, 1) := dL_law_all51.2.2.2.2.2.2.2.2.2.2.2
theorem dL_law_all52 : decode cL_law 896 = .ok (.iconst 3, 1) ∧ decode cL_law 897 = .ok (.iadd, 1) ∧ decode cL_law 898 = .ok (.iaload, 1) ∧ decode cL_law 899 = .ok (.aload_n 0, 1) ∧ decode cL_law 900 = .ok (.iload_n 3, 1) ∧ decode cL_law 901 = .ok (.iconst 4, 1) ∧ decode cL_law 902 = .ok (.iadd, 1) ∧ decode cL_law 903 = .ok (.iaload, 1) ∧ decode cL_law 904 = .ok (.aload_n 0, 1) ∧ decode cL_law 905 = .ok (.iload_n 3, 1) ∧ decode cL_law 906 = .ok (.iconst 5, 1) ∧ decode cL_law 907 = .ok (.iadd, 1) := ⟨dq_6 sB_37 8 rfl, dq_96 sB_37 9 rfl, dq_46 sB_37 10 rfl, dq_42 sB_37 11 rfl, dq_29 sB_37 12 rfl, dq_7 sB_37 13 rfl, dq_96 sB_37 14 rfl, dq_46 sB_37 15 rfl, dq_42 sB_37 16 rfl, dq_29 sB_37 17 rfl, dq_8 sB_37 18 rfl, dq_96 sB_37 19 rfl⟩
theorem dL_law_896 : decode cL_law 896 = .ok (.iconst 3, 1) := dL_law_all52.1
theorem dL_law_897 : decode cL_law 897 = .ok (.iadd, 1) := dL_law_all52.2.1
theorem dL_law_898 : decode cL_law 898 = .ok (.iaload, 1) := dL_law_all52.2.2.1
theorem dL_law_899 : decode cL_law 899 = .ok (.aload_n 0, 1) := dL_law_all52.2.2.2.1
theorem dL_law_900 : decode cL_law 900 = .ok (.iload_n 3, 1) := dL_law_all52.2.2.2.2.1
theorem dL_law_901 : decode cL_law 901 = .ok (.iconst 4, 1) := dL_law_all52.2.2.2.2.2.1
theorem dL_law_902 : decode cL_law 902 = .ok (.iadd, 1) := dL_law_all52.2.2.2.2.2.2.1
theorem dL_law_903 : decode cL_law 903 = .ok (.iaload, 1) := dL_law_all52.2.2.2.2.2.2.2.1
theorem dL_law_904 : decode cL_law 904 = .ok (.aload_n 0, 1) := dL_law_all52.2.2.2.2.2.2.2.2.1
theorem dL_law_905 : decode cL_law 905 = .ok (.iload_n 3, 1) := dL_law_all52.2.2.2.2.2.2.2.2.2.1
theorem dL_law_906 : decode cL_law 906 = .ok (.iconst 5, 1) := dL_law_all52.2.2.2.2.2.2.2.2.2.2.1
theorem dL_law_907 : decode cL_law 907 = .ok (.iadd, 1) := dL_law_all52.2.2.2.2.2.2.2.2.2.2.2
theorem dL_law_all53 : decode cL_law 908 = .ok (.iaload, 1) ∧ decode cL_law 909 = .ok (.invokevirtual 89, 3) ∧ decode cL_law 912 = .ok (.pop, 1) ∧ decode cL_law 913 = .ok (.goto 739, 3) ∧ decode cL_law 916 = .ok (.aload_n 1, 1) ∧ decode cL_law 917 = .ok (.aload_n 0, 1) ∧ decode cL_law 918 = .ok (.iload_n 3, 1) ∧ decode cL_law 919 = .ok (.iconst 1, 1) ∧ decode cL_law 920 = .ok (.iadd, 1) ∧ decode cL_law 921 = .ok (.iaload, 1) ∧ decode cL_law 922 = .ok (.i2l, 1) ∧ decode cL_law 923 = .ok (.bipush 32, 2) := ⟨dq_46 sB_37 20 rfl, dq_182 sB_37 21 rfl 89 (by decide), dq_87 sB_38 0 rfl, dq_167 sB_38 1 rfl 739 (by decide), dq_43 sB_38 4 rfl, dq_42 sB_38 5 rfl, dq_29 sB_38 6 rfl, dq_4 sB_38 7 rfl, dq_96 sB_38 8 rfl, dq_46 sB_38 9 rfl, by decide +kernel, by decide +kernel⟩
theorem dL_law_908 : decode cL_law 908 = .ok (.iaload, 1) := dL_law_all53.1
theorem dL_law_909 : decode cL_law 909 = .ok (.invokevirtual 89, 3) := dL_law_all53.2.1
theorem dL_law_912 : decode cL_law 912 = .ok (.pop, 1) := dL_law_all53.2.2.1
theorem dL_law_913 : decode cL_law 913 = .ok (.goto 739, 3) := dL_law_all53.2.2.2.1
set_option maxHeartbeats 4000000 in
set_option maxRecDepth 100000 in
theorem law_case_12 {p : Program} {l : Launch} {e : Env} {s : State} {m : MethodId} {below : List Frame} {meth : Method} {c : Code} {D : va_G} {cI cY cJ cQ : ClassId} {b L aK aV : Nat} {xs : Nat → Int32} {ad rw md : Nat → Nat} {sd i : Int32} {nx : Nat → Int32} {fx rs : Nat → Nat → Int32} {lo : Nat → Int64} {ny : Nat → Int32} {fy : Nat → Nat → Int32} {fl : Nat → Int64} {H : Heap} {locs : List Loc} {ls : Array Slot} (C0 : lawC p s m meth c b L xs D cI cY cJ cQ aK aV) (I : inv nx fx rs ny fy) (hP : va_P D vwCl (wX ad rw sd cI cY cJ cQ nx fx rs lo ++ wM md sd cI cY cJ cQ ny fy fl) H) (hD : va_D (fun q : Nat => s.heap.size ≤ q) (wX ad rw sd cI cY cJ cQ nx fx rs lo ++ wM md sd cI cY cJ cQ ny fy fl)) (hS : va_S (fun q : Nat => s.heap.size ≤ q) s.heap H locs) (hl : lv_has ls 4 [(0, .ref b), (1, .ref (ad 0)), (2, .ref (md 64)), (3, .int i)]) (hi1 : 1 ≤ i.toInt) (hi2 : i.toInt + 5 < L) (kk : ∀ (nx : Nat → Int32) (fx rs : Nat → Nat → Int32) (lo : Nat → Int64) (ny : Nat → Int32) (fy : Nat → Nat → Int32) (fl : Nat → Int64) (H : Heap) (locs : List Loc) (ls : Array Slot), inv nx fx rs ny fy → va_P D vwCl (wX ad rw sd cI cY cJ cQ nx fx rs lo ++ wM md sd cI cY cJ cQ ny fy fl) H → va_D (fun q : Nat => s.heap.size ≤ q) (wX ad rw sd cI cY cJ cQ nx fx rs lo ++ wM md sd cI cY cJ cQ ny fy fl) → va_S (fun q : Nat => s.heap.size ≤ q) s.heap H locs → lv_has ls 4 [(0, .ref b), (1, .ref (ad 0)), (2, .ref (md 64)), (3, .int i)] → W p l e room_1 s m #[Value.ref b] below meth c H locs 107 4890 (lw_Z below #[Value.ref b] s) (F0 m 1652 ls [])) : W p l e room_1 s m #[Value.ref b] below meth c H locs 107 4890 (lw_Z below #[Value.ref b] s) (F0 m 714 ls []) := by
  obtain ⟨C1, hK, hN, hT, hL⟩ := C0
  obtain ⟨hx, hb, hr, hml, hown, hts0, hX, hbl, hlocks, hgv⟩ := C1
  have hA : ∀ q : Nat, s.heap.size ≤ q → (fun q : Nat => s.heap.size ≤ q) q := fun _ h => h
  have hbA : ¬ (fun q : Nat => s.heap.size ≤ q) b := Nat.not_le.mpr hbl
  have hts : ∀ w ∈ wsL_law, w.before #[Value.ref b] s = true := fun w h => hts0 w (wsL_law_in w h)
  replace hown : s.vm.findClass RL = some m.cls := hown
  replace hb : c.code = cL_law := hb
  have hak1 : vp_in (i + 1) L := law_in hi1 hi2 hL (by decide)
  obtain ⟨xk1, exk1⟩ : ∃ y : Int32, y = xs (i + 1).toNatClampNeg := ⟨_, rfl⟩
  have hak2 : vp_in (i + 2) L := law_in hi1 hi2 hL (by decide)
  obtain ⟨xk2, exk2⟩ : ∃ y : Int32, y = xs (i + 2).toNatClampNeg := ⟨_, rfl⟩
  have hak3 : vp_in (i + 3) L := law_in hi1 hi2 hL (by decide)
  obtain ⟨xk3, exk3⟩ : ∃ y : Int32, y = xs (i + 3).toNatClampNeg := ⟨_, rfl⟩
  refine inv_el I ?_
  intro Xhna Xhnb XH XD XV XN Xcna Xcnb XF Xpna Xpnb XG XO XW Xgna Xgnb XJ Xlna Xlnb Xdla Xdlb Xana Xanb Xuna Xunb XU Xlca Xlcb Xtna Xtnb XS Mhna Mhnb MH MS Mmlna Mmlnb Mmtna Mmtnb Chn Cho Chc Chp Chs Ccn Cfo Cwo Cpn Cpk Cpf Cpo Cpd Cpe Cgn Cgk Cgs Cgd Cge Can Cak Cah Cay Caz Cun Cuk Cuy Cuw Cum Clc Clp Cla Clb Caw Ciw Cln Ctd Cro Cmtn Cmtr Cmst Csh
  have Tcn := i_eq Ccn
  have Tpn := i_eq Cpn
  have Tgn := i_eq Cgn
  have Tan := i_eq Can
  have Tun := i_eq Cun
  have Tlc := i_eq Clc
  have Tln := i_eq Cln
  refine lv_aload_n hx hb dL_law_714 rfl (lv_at hl 1 rfl) ?_
  refine law_arg (v := 1) hx hb hX hbl hbA hS (lv_at hl 0 rfl) (lv_at hl 3 rfl) (by decide) hak1 exk1 dL_law_715 dL_law_716 dL_law_717 dL_law_718 dL_law_719 ?_
  refine law_arg (v := 2) hx hb hX hbl hbA hS (lv_at hl 0 rfl) (lv_at hl 3 rfl) (by decide) hak2 exk2 dL_law_720 dL_law_721 dL_law_722 dL_law_723 dL_law_724 ?_
  refine law_arg (v := 3) hx hb hX hbl hbA hS (lv_at hl 0 rfl) (lv_at hl 3 rfl) (by decide) hak3 exk3 dL_law_725 dL_law_726 dL_law_727 dL_law_728 dL_law_729 ?_
  refine st_iU (va_runV (C := RX10) (As := [.int xk1, .int xk2, .int xk3]) (rest := []) ⟨hx, hb, hml, hown, hts⟩ (ct_X10_owner l D cI cY cJ cQ _ ad (nx 0) (nx 1) (nx 2) (nx 4) (nx 5) (fx 11) (fx 16) (fx 17) (fx 18) (fx 19) (fx 20) (fx 21) xk1 xk2 xk3 Xcna Xcnb Xpna Xpnb XO) (cwV 3 hts gL_law_X10_owner rfl rfl rfl ⟨rfl, cdX10_owner⟩ ⟨Nat.le_of_ble_eq_true rfl, Nat.le_of_ble_eq_true rfl⟩) (cPreV (hP.sub [0, 23, 24, 29, 30, 31, 32, 33, 34, 35] rfl) hK (hD.sub [0, 23, 24, 29, 30, 31, 32, 33, 34, 35] (by decide +kernel) rfl) hN (ci := 10) (q0 := 0) rfl rfl) rfl rfl hl.1 rfl (lv_room (Nat.le_of_ble_eq_true rfl)) dL_law_730 ⟨Nat.le_of_ble_eq_true rfl, Nat.le_of_ble_eq_true rfl⟩) hP hD hS hA [0, 23, 24, 29, 30, 31, 32, 33, 34, 35] rfl (fun _ => rfl) (fun r3 u1 H locs hw2 => ?_)
  clear hP hS
  intro hP hS
  replace hw2 : r3 = sp_owner (nx 4) (nx 5) (fx 11) (fx 16) (fx 17) (fx 18) (fx 19) (fx 20) (fx 21) xk1 xk2 xk3 := hw2
  refine lv_pop hx hb dL_law_733 rfl ?_
  have hPx : va_P D vwCl (wX ad rw sd cI cY cJ cQ nx fx rs lo ++ wM md sd cI cY cJ cQ ny fy fl) H := hP
  have hDx : va_D (fun q : Nat => s.heap.size ≤ q) (wX ad rw sd cI cY cJ cQ nx fx rs lo ++ wM md sd cI cY cJ cQ ny fy fl) := wXM_D hD
  have hP := hPx.comm
  have hD := hDx.comm
  refine lv_aload_n hx hb dL_law_734 rfl (lv_at hl 2 rfl) ?_
  refine law_arg (v := 1) hx hb hX hbl hbA hS (lv_at hl 0 rfl) (lv_at hl 3 rfl) (by decide) hak1 exk1 dL_law_735 dL_law_736 dL_law_737 dL_law_738 dL_law_739 ?_
  refine law_arg (v := 2) hx hb hX hbl hbA hS (lv_at hl 0 rfl) (lv_at hl 3 rfl) (by decide) hak2 exk2 dL_law_740 dL_law_741 dL_law_742 dL_law_743 dL_law_744 ?_
  refine law_arg (v := 3) hx hb hX hbl hbA hS (lv_at hl 0 rfl) (lv_at hl 3 rfl) (by decide) hak3 exk3 dL_law_745 dL_law_746 dL_law_747 dL_law_748 dL_law_749 ?_
  refine st_iU (va_runV (C := RX11) (As := [.int xk1, .int xk2, .int xk3]) (rest := []) ⟨hx, hb, hml, hown, hts⟩ (ct_X11_owner l D cI cY cJ cQ _ md sd (ny 0) (ny 1) (ny 2) (ny 3) (ny 4) (ny 5) (ny 6) (ny 7) (ny 8) (ny 9) (ny 10) (ny 11) (ny 12) (ny 13) (ny 14) (ny 15) (ny 16) (ny 17) (ny 18) (ny 19) (ny 20) (ny 21) (ny 22) (fy 10) (fy 12) (fy 13) (fy 14) (fy 15) (fy 16) xk1 xk2 xk3 (by omega) (by omega) (by omega) (by omega)) (cwV 3 hts gL_law_X11_owner rfl rfl rfl ⟨rfl, cdX11_owner⟩ ⟨Nat.le_of_ble_eq_true rfl, Nat.le_of_ble_eq_true rfl⟩) (cPreV (hP.sub [0, 12, 14, 15, 16, 17, 18] rfl) hK (hD.sub [0, 12, 14, 15, 16, 17, 18] (by decide +kernel) rfl) hN (ci := 11) (q0 := 0) rfl rfl) rfl rfl hl.1 rfl (lv_room (Nat.le_of_ble_eq_true rfl)) dL_law_750 ⟨Nat.le_of_ble_eq_true rfl, Nat.le_of_ble_eq_true rfl⟩) hP hD hS hA [0, 12, 14, 15, 16, 17, 18] rfl (fun _ => rfl) (fun r6 u4 H locs hw5 => ?_)
  clear hP hS
  intro hP hS
  replace hw5 : r6 = sm_owner (ny 3) (ny 4) (fy 10) (fy 12) (fy 13) (fy 14) (fy 15) (fy 16) xk1 xk2 xk3 := hw5
  rw [Ccn, Cpn, Cfo, Cpk, Cpf, Cpo, Cpd, Cpe, ← owner_eq (by omega) (by omega) XO XW] at hw5
  have e90 := hw2.trans hw5.symm
  refine lv_pop hx hb dL_law_753 rfl ?_
  refine lv_goto (tgt := 1652) hx hb dL_law_754 (by decide) ?_
  have hPm : va_P D vwCl (wM md sd cI cY cJ cQ (upd (upd ny 0 0) 5 u4) fy fl ++ wX ad rw sd cI cY cJ cQ nx fx rs lo) H := hP
  have hDm : va_D (fun q : Nat => s.heap.size ≤ q) (wM md sd cI cY cJ cQ (upd (upd ny 0 0) 5 u4) fy fl ++ wX ad rw sd cI cY cJ cQ nx fx rs lo) := wMX_D hD
  exact kk nx fx rs lo (upd (upd ny 0 0) 5 u4) fy fl H locs ls ⟨Xhna, Xhnb, XH, XD, XV, XN, Xcna, Xcnb, XF, Xpna, Xpnb, XG, XO, XW, Xgna, Xgnb, XJ, Xlna, Xlnb, Xdla, Xdlb, Xana, Xanb, Xuna, Xunb, XU, Xlca, Xlcb, Xtna, Xtnb, XS, Mhna, Mhnb, MH, MS, Mmlna, Mmlnb, Mmtna, Mmtnb, Chn, Cho, Chc, Chp, Chs, Ccn, Cfo, Cwo, Cpn, Cpk, Cpf, Cpo, Cpd, Cpe, Cgn, Cgk, Cgs, Cgd, Cge, Can, Cak, Cah, Cay, Caz, Cun, Cuk, Cuy, Cuw, Cum, Clc, Clp, Cla, Clb, Caw, Ciw, Cln, Ctd, Cro, Cmtn, Cmtr, Cmst, Csh⟩ hPm.comm hDm.comm hS hl

set_option maxHeartbeats 4000000 in
set_option maxRecDepth 100000 in
theorem law_case_13 {p : Program} {l : Launch} {e : Env} {s : State} {m : MethodId} {below : List Frame} {meth : Method} {c : Code} {D : va_G} {cI cY cJ cQ : ClassId} {b L aK aV : Nat} {xs : Nat → Int32} {ad rw md : Nat → Nat} {sd i : Int32} {nx : Nat → Int32} {fx rs : Nat → Nat → Int32} {lo : Nat → Int64} {ny : Nat → Int32} {fy : Nat → Nat → Int32} {fl : Nat → Int64} {H : Heap} {locs : List Loc} {ls : Array Slot} (C0 : lawC p s m meth c b L xs D cI cY cJ cQ aK aV) (I : inv nx fx rs ny fy) (hP : va_P D vwCl (wX ad rw sd cI cY cJ cQ nx fx rs lo ++ wM md sd cI cY cJ cQ ny fy fl) H) (hD : va_D (fun q : Nat => s.heap.size ≤ q) (wX ad rw sd cI cY cJ cQ nx fx rs lo ++ wM md sd cI cY cJ cQ ny fy fl)) (hS : va_S (fun q : Nat => s.heap.size ≤ q) s.heap H locs) (hl : lv_has ls 4 [(0, .ref b), (1, .ref (ad 0)), (2, .ref (md 64)), (3, .int i)]) (hi1 : 1 ≤ i.toInt) (hi2 : i.toInt + 5 < L) (kk : ∀ (nx : Nat → Int32) (fx rs : Nat → Nat → Int32) (lo : Nat → Int64) (ny : Nat → Int32) (fy : Nat → Nat → Int32) (fl : Nat → Int64) (H : Heap) (locs : List Loc) (ls : Array Slot), inv nx fx rs ny fy → va_P D vwCl (wX ad rw sd cI cY cJ cQ nx fx rs lo ++ wM md sd cI cY cJ cQ ny fy fl) H → va_D (fun q : Nat => s.heap.size ≤ q) (wX ad rw sd cI cY cJ cQ nx fx rs lo ++ wM md sd cI cY cJ cQ ny fy fl) → va_S (fun q : Nat => s.heap.size ≤ q) s.heap H locs → lv_has ls 4 [(0, .ref b), (1, .ref (ad 0)), (2, .ref (md 64)), (3, .int i)] → W p l e room_1 s m #[Value.ref b] below meth c H locs 107 4890 (lw_Z below #[Value.ref b] s) (F0 m 1652 ls [])) : W p l e room_1 s m #[Value.ref b] below meth c H locs 107 4890 (lw_Z below #[Value.ref b] s) (F0 m 757 ls []) := by
  obtain ⟨C1, hK, hN, hT, hL⟩ := C0
  obtain ⟨hx, hb, hr, hml, hown, hts0, hX, hbl, hlocks, hgv⟩ := C1
  have hA : ∀ q : Nat, s.heap.size ≤ q → (fun q : Nat => s.heap.size ≤ q) q := fun _ h => h
  have hbA : ¬ (fun q : Nat => s.heap.size ≤ q) b := Nat.not_le.mpr hbl
  have hts : ∀ w ∈ wsL_law, w.before #[Value.ref b] s = true := fun w h => hts0 w (wsL_law_in w h)
  replace hown : s.vm.findClass RL = some m.cls := hown
  replace hb : c.code = cL_law := hb
  have hak1 : vp_in (i + 1) L := law_in hi1 hi2 hL (by decide)
  obtain ⟨xk1, exk1⟩ : ∃ y : Int32, y = xs (i + 1).toNatClampNeg := ⟨_, rfl⟩
  have hak2 : vp_in (i + 2) L := law_in hi1 hi2 hL (by decide)
  obtain ⟨xk2, exk2⟩ : ∃ y : Int32, y = xs (i + 2).toNatClampNeg := ⟨_, rfl⟩
  refine inv_el I ?_
  intro Xhna Xhnb XH XD XV XN Xcna Xcnb XF Xpna Xpnb XG XO XW Xgna Xgnb XJ Xlna Xlnb Xdla Xdlb Xana Xanb Xuna Xunb XU Xlca Xlcb Xtna Xtnb XS Mhna Mhnb MH MS Mmlna Mmlnb Mmtna Mmtnb Chn Cho Chc Chp Chs Ccn Cfo Cwo Cpn Cpk Cpf Cpo Cpd Cpe Cgn Cgk Cgs Cgd Cge Can Cak Cah Cay Caz Cun Cuk Cuy Cuw Cum Clc Clp Cla Clb Caw Ciw Cln Ctd Cro Cmtn Cmtr Cmst Csh
  have Tcn := i_eq Ccn
  have Tpn := i_eq Cpn
  have Tgn := i_eq Cgn
  have Tan := i_eq Can
  have Tun := i_eq Cun
  have Tlc := i_eq Clc
  have Tln := i_eq Cln
  refine lv_aload_n hx hb dL_law_757 rfl (lv_at hl 1 rfl) ?_
  refine law_arg (v := 1) hx hb hX hbl hbA hS (lv_at hl 0 rfl) (lv_at hl 3 rfl) (by decide) hak1 exk1 dL_law_758 dL_law_759 dL_law_760 dL_law_761 dL_law_762 ?_
  refine law_arg (v := 2) hx hb hX hbl hbA hS (lv_at hl 0 rfl) (lv_at hl 3 rfl) (by decide) hak2 exk2 dL_law_763 dL_law_764 dL_law_765 dL_law_766 dL_law_767 ?_
  refine st_iU (va_runV (C := RX10) (As := [.int xk1, .int xk2]) (rest := []) ⟨hx, hb, hml, hown, hts⟩ (ct_X10_quarrels l D cI cY cJ cQ _ ad (nx 0) (nx 1) (nx 2) (nx 4) (nx 5) (fx 11) (fx 16) (fx 17) (fx 18) (fx 19) (fx 20) (fx 21) xk1 xk2 Xcna Xcnb Xpna Xpnb XO) (cwV 2 hts gL_law_X10_quarrels rfl rfl rfl ⟨rfl, cdX10_quarrels⟩ ⟨Nat.le_of_ble_eq_true rfl, Nat.le_of_ble_eq_true rfl⟩) (cPreV (hP.sub [0, 23, 24, 29, 30, 31, 32, 33, 34, 35] rfl) hK (hD.sub [0, 23, 24, 29, 30, 31, 32, 33, 34, 35] (by decide +kernel) rfl) hN (ci := 10) (q0 := 0) rfl rfl) rfl rfl hl.1 rfl (lv_room (Nat.le_of_ble_eq_true rfl)) dL_law_768 ⟨Nat.le_of_ble_eq_true rfl, Nat.le_of_ble_eq_true rfl⟩) hP hD hS hA [0, 23, 24, 29, 30, 31, 32, 33, 34, 35] rfl (fun _ => rfl) (fun r3 u1 H locs hw2 => ?_)
  clear hP hS
  intro hP hS
  replace hw2 : r3 = sp_quarrels (nx 4) (nx 5) (fx 11) (fx 16) (fx 17) (fx 18) (fx 20) (fx 21) xk1 xk2 := hw2
  refine lv_pop hx hb dL_law_771 rfl ?_
  have hPx : va_P D vwCl (wX ad rw sd cI cY cJ cQ nx fx rs lo ++ wM md sd cI cY cJ cQ ny fy fl) H := hP
  have hDx : va_D (fun q : Nat => s.heap.size ≤ q) (wX ad rw sd cI cY cJ cQ nx fx rs lo ++ wM md sd cI cY cJ cQ ny fy fl) := wXM_D hD
  have hP := hPx.comm
  have hD := hDx.comm
  refine lv_aload_n hx hb dL_law_772 rfl (lv_at hl 2 rfl) ?_
  refine law_arg (v := 1) hx hb hX hbl hbA hS (lv_at hl 0 rfl) (lv_at hl 3 rfl) (by decide) hak1 exk1 dL_law_773 dL_law_774 dL_law_775 dL_law_776 dL_law_777 ?_
  refine law_arg (v := 2) hx hb hX hbl hbA hS (lv_at hl 0 rfl) (lv_at hl 3 rfl) (by decide) hak2 exk2 dL_law_778 dL_law_779 dL_law_780 dL_law_781 dL_law_782 ?_
  refine st_iU (va_runV (C := RX11) (As := [.int xk1, .int xk2]) (rest := []) ⟨hx, hb, hml, hown, hts⟩ (ct_X11_quarrels l D cI cY cJ cQ _ md sd (ny 0) (ny 1) (ny 2) (ny 3) (ny 4) (ny 5) (ny 6) (ny 7) (ny 8) (ny 9) (ny 10) (ny 11) (ny 12) (ny 13) (ny 14) (ny 15) (ny 16) (ny 17) (ny 18) (ny 19) (ny 20) (ny 21) (ny 22) (fy 10) (fy 12) (fy 13) (fy 14) (fy 15) (fy 16) xk1 xk2 (by omega) (by omega) (by omega) (by omega)) (cwV 2 hts gL_law_X11_quarrels rfl rfl rfl ⟨rfl, cdX11_quarrels⟩ ⟨Nat.le_of_ble_eq_true rfl, Nat.le_of_ble_eq_true rfl⟩) (cPreV (hP.sub [0, 12, 14, 15, 16, 17, 18] rfl) hK (hD.sub [0, 12, 14, 15, 16, 17, 18] (by decide +kernel) rfl) hN (ci := 11) (q0 := 0) rfl rfl) rfl rfl hl.1 rfl (lv_room (Nat.le_of_ble_eq_true rfl)) dL_law_783 ⟨Nat.le_of_ble_eq_true rfl, Nat.le_of_ble_eq_true rfl⟩) hP hD hS hA [0, 12, 14, 15, 16, 17, 18] rfl (fun _ => rfl) (fun r6 u4 H locs hw5 => ?_)
  clear hP hS
  intro hP hS
  replace hw5 : r6 = sm_quarrels (ny 3) (ny 4) (fy 10) (fy 12) (fy 13) (fy 14) (fy 15) (fy 16) xk1 xk2 := hw5
  rw [Ccn, Cpn, Cfo, Cpk, Cpf, Cpo, Cpd, Cpe, ← quarrels_eq (by omega) (by omega) XO XW] at hw5
  have e90 := hw2.trans hw5.symm
  refine lv_pop hx hb dL_law_786 rfl ?_
  refine lv_goto (tgt := 1652) hx hb dL_law_787 (by decide) ?_
  have hPm : va_P D vwCl (wM md sd cI cY cJ cQ (upd (upd ny 0 0) 5 u4) fy fl ++ wX ad rw sd cI cY cJ cQ nx fx rs lo) H := hP
  have hDm : va_D (fun q : Nat => s.heap.size ≤ q) (wM md sd cI cY cJ cQ (upd (upd ny 0 0) 5 u4) fy fl ++ wX ad rw sd cI cY cJ cQ nx fx rs lo) := wMX_D hD
  exact kk nx fx rs lo (upd (upd ny 0 0) 5 u4) fy fl H locs ls ⟨Xhna, Xhnb, XH, XD, XV, XN, Xcna, Xcnb, XF, Xpna, Xpnb, XG, XO, XW, Xgna, Xgnb, XJ, Xlna, Xlnb, Xdla, Xdlb, Xana, Xanb, Xuna, Xunb, XU, Xlca, Xlcb, Xtna, Xtnb, XS, Mhna, Mhnb, MH, MS, Mmlna, Mmlnb, Mmtna, Mmtnb, Chn, Cho, Chc, Chp, Chs, Ccn, Cfo, Cwo, Cpn, Cpk, Cpf, Cpo, Cpd, Cpe, Cgn, Cgk, Cgs, Cgd, Cge, Can, Cak, Cah, Cay, Caz, Cun, Cuk, Cuy, Cuw, Cum, Clc, Clp, Cla, Clb, Caw, Ciw, Cln, Ctd, Cro, Cmtn, Cmtr, Cmst, Csh⟩ hPm.comm hDm.comm hS hl

set_option maxHeartbeats 4000000 in
set_option maxRecDepth 100000 in
theorem law_case_14 {p : Program} {l : Launch} {e : Env} {s : State} {m : MethodId} {below : List Frame} {meth : Method} {c : Code} {D : va_G} {cI cY cJ cQ : ClassId} {b L aK aV : Nat} {xs : Nat → Int32} {ad rw md : Nat → Nat} {sd i : Int32} {nx : Nat → Int32} {fx rs : Nat → Nat → Int32} {lo : Nat → Int64} {ny : Nat → Int32} {fy : Nat → Nat → Int32} {fl : Nat → Int64} {H : Heap} {locs : List Loc} {ls : Array Slot} (C0 : lawC p s m meth c b L xs D cI cY cJ cQ aK aV) (I : inv nx fx rs ny fy) (hP : va_P D vwCl (wX ad rw sd cI cY cJ cQ nx fx rs lo ++ wM md sd cI cY cJ cQ ny fy fl) H) (hD : va_D (fun q : Nat => s.heap.size ≤ q) (wX ad rw sd cI cY cJ cQ nx fx rs lo ++ wM md sd cI cY cJ cQ ny fy fl)) (hS : va_S (fun q : Nat => s.heap.size ≤ q) s.heap H locs) (hl : lv_has ls 4 [(0, .ref b), (1, .ref (ad 0)), (2, .ref (md 64)), (3, .int i)]) (hi1 : 1 ≤ i.toInt) (hi2 : i.toInt + 5 < L) (kk : ∀ (nx : Nat → Int32) (fx rs : Nat → Nat → Int32) (lo : Nat → Int64) (ny : Nat → Int32) (fy : Nat → Nat → Int32) (fl : Nat → Int64) (H : Heap) (locs : List Loc) (ls : Array Slot), inv nx fx rs ny fy → va_P D vwCl (wX ad rw sd cI cY cJ cQ nx fx rs lo ++ wM md sd cI cY cJ cQ ny fy fl) H → va_D (fun q : Nat => s.heap.size ≤ q) (wX ad rw sd cI cY cJ cQ nx fx rs lo ++ wM md sd cI cY cJ cQ ny fy fl) → va_S (fun q : Nat => s.heap.size ≤ q) s.heap H locs → lv_has ls 4 [(0, .ref b), (1, .ref (ad 0)), (2, .ref (md 64)), (3, .int i)] → W p l e room_1 s m #[Value.ref b] below meth c H locs 107 4890 (lw_Z below #[Value.ref b] s) (F0 m 1652 ls [])) : W p l e room_1 s m #[Value.ref b] below meth c H locs 107 4890 (lw_Z below #[Value.ref b] s) (F0 m 790 ls []) := by
  obtain ⟨C1, hK, hN, hT, hL⟩ := C0
  obtain ⟨hx, hb, hr, hml, hown, hts0, hX, hbl, hlocks, hgv⟩ := C1
  have hA : ∀ q : Nat, s.heap.size ≤ q → (fun q : Nat => s.heap.size ≤ q) q := fun _ h => h
  have hbA : ¬ (fun q : Nat => s.heap.size ≤ q) b := Nat.not_le.mpr hbl
  have hts : ∀ w ∈ wsL_law, w.before #[Value.ref b] s = true := fun w h => hts0 w (wsL_law_in w h)
  replace hown : s.vm.findClass RL = some m.cls := hown
  replace hb : c.code = cL_law := hb
  have hak1 : vp_in (i + 1) L := law_in hi1 hi2 hL (by decide)
  obtain ⟨xk1, exk1⟩ : ∃ y : Int32, y = xs (i + 1).toNatClampNeg := ⟨_, rfl⟩
  have hak2 : vp_in (i + 2) L := law_in hi1 hi2 hL (by decide)
  obtain ⟨xk2, exk2⟩ : ∃ y : Int32, y = xs (i + 2).toNatClampNeg := ⟨_, rfl⟩
  have hak3 : vp_in (i + 3) L := law_in hi1 hi2 hL (by decide)
  obtain ⟨xk3, exk3⟩ : ∃ y : Int32, y = xs (i + 3).toNatClampNeg := ⟨_, rfl⟩
  have hak4 : vp_in (i + 4) L := law_in hi1 hi2 hL (by decide)
  obtain ⟨xk4, exk4⟩ : ∃ y : Int32, y = xs (i + 4).toNatClampNeg := ⟨_, rfl⟩
  have hak5 : vp_in (i + 5) L := law_in hi1 hi2 hL (by decide)
  obtain ⟨xk5, exk5⟩ : ∃ y : Int32, y = xs (i + 5).toNatClampNeg := ⟨_, rfl⟩
  refine inv_el I ?_
  intro Xhna Xhnb XH XD XV XN Xcna Xcnb XF Xpna Xpnb XG XO XW Xgna Xgnb XJ Xlna Xlnb Xdla Xdlb Xana Xanb Xuna Xunb XU Xlca Xlcb Xtna Xtnb XS Mhna Mhnb MH MS Mmlna Mmlnb Mmtna Mmtnb Chn Cho Chc Chp Chs Ccn Cfo Cwo Cpn Cpk Cpf Cpo Cpd Cpe Cgn Cgk Cgs Cgd Cge Can Cak Cah Cay Caz Cun Cuk Cuy Cuw Cum Clc Clp Cla Clb Caw Ciw Cln Ctd Cro Cmtn Cmtr Cmst Csh
  have Tcn := i_eq Ccn
  have Tpn := i_eq Cpn
  have Tgn := i_eq Cgn
  have Tan := i_eq Can
  have Tun := i_eq Cun
  have Tlc := i_eq Clc
  have Tln := i_eq Cln
  refine lv_aload_n hx hb dL_law_790 rfl (lv_at hl 1 rfl) ?_
  refine law_arg (v := 1) hx hb hX hbl hbA hS (lv_at hl 0 rfl) (lv_at hl 3 rfl) (by decide) hak1 exk1 dL_law_791 dL_law_792 dL_law_793 dL_law_794 dL_law_795 ?_
  refine law_arg (v := 2) hx hb hX hbl hbA hS (lv_at hl 0 rfl) (lv_at hl 3 rfl) (by decide) hak2 exk2 dL_law_796 dL_law_797 dL_law_798 dL_law_799 dL_law_800 ?_
  refine law_arg (v := 3) hx hb hX hbl hbA hS (lv_at hl 0 rfl) (lv_at hl 3 rfl) (by decide) hak3 exk3 dL_law_801 dL_law_802 dL_law_803 dL_law_804 dL_law_805 ?_
  refine law_arg (v := 4) hx hb hX hbl hbA hS (lv_at hl 0 rfl) (lv_at hl 3 rfl) (by decide) hak4 exk4 dL_law_806 dL_law_807 dL_law_808 dL_law_809 dL_law_810 ?_
  refine law_arg (v := 5) hx hb hX hbl hbA hS (lv_at hl 0 rfl) (lv_at hl 3 rfl) (by decide) hak5 exk5 dL_law_811 dL_law_812 dL_law_813 dL_law_814 dL_law_815 ?_
  refine st_iU (va_runV (C := RX10) (As := [.int xk1, .int xk2, .int xk3, .int xk4, .int xk5]) (rest := []) ⟨hx, hb, hml, hown, hts⟩ (ct_X10_pledge l D cI cY cJ cQ _ ad (nx 0) (nx 1) (nx 2) (nx 4) (nx 6) (fx 22) (fx 23) (fx 24) (fx 25) xk1 xk2 xk3 xk4 xk5 Xgna Xgnb) (cwV 5 hts gL_law_X10_pledge rfl rfl rfl ⟨rfl, cdX10_pledge⟩ ⟨Nat.le_of_ble_eq_true rfl, Nat.le_of_ble_eq_true rfl⟩) (cPreV (hP.sub [0, 23, 36, 37, 38, 39, 40] rfl) hK (hD.sub [0, 23, 36, 37, 38, 39, 40] (by decide +kernel) rfl) hN (ci := 10) (q0 := 0) rfl rfl) rfl rfl hl.1 rfl (lv_room (Nat.le_of_ble_eq_true rfl)) dL_law_816 ⟨Nat.le_of_ble_eq_true rfl, Nat.le_of_ble_eq_true rfl⟩) hP hD hS hA [0, 23, 36, 37, 38, 39, 40] rfl (fun _ => rfl) (fun r3 u1 H locs hw2 => ?_)
  clear hP hS
  intro hP hS
  obtain ⟨gn_4, gk_5, gs_6, gd_7, ge_8⟩ := u1
  replace hw2 : (r3, (gn_4, gk_5, gs_6, gd_7, ge_8)) = sp_pledge (nx 6) (fx 22) (fx 23) (fx 24) (fx 25) (nx 4) xk1 xk2 xk3 xk4 xk5 := hw2
  obtain ⟨hw2a, hw2b⟩ := sp_pledge_ok hw2 (by omega) (by omega)
  have hw2f := sp_pledge_okJ hw2 (by omega) (by omega) XJ
  refine lv_pop hx hb dL_law_819 rfl ?_
  have hPx : va_P D vwCl (wX ad rw sd cI cY cJ cQ (upd nx 6 gn_4) (upR (upR (upR (upR fx 22 gk_5) 23 gs_6) 24 gd_7) 25 ge_8) rs lo ++ wM md sd cI cY cJ cQ ny fy fl) H := hP
  have hDx : va_D (fun q : Nat => s.heap.size ≤ q) (wX ad rw sd cI cY cJ cQ (upd nx 6 gn_4) (upR (upR (upR (upR fx 22 gk_5) 23 gs_6) 24 gd_7) 25 ge_8) rs lo ++ wM md sd cI cY cJ cQ ny fy fl) := wXM_D hD
  have hP := hPx.comm
  have hD := hDx.comm
  refine lv_aload_n hx hb dL_law_820 rfl (lv_at hl 2 rfl) ?_
  refine law_arg (v := 1) hx hb hX hbl hbA hS (lv_at hl 0 rfl) (lv_at hl 3 rfl) (by decide) hak1 exk1 dL_law_821 dL_law_822 dL_law_823 dL_law_824 dL_law_825 ?_
  refine law_arg (v := 2) hx hb hX hbl hbA hS (lv_at hl 0 rfl) (lv_at hl 3 rfl) (by decide) hak2 exk2 dL_law_826 dL_law_827 dL_law_828 dL_law_829 dL_law_830 ?_
  refine law_arg (v := 3) hx hb hX hbl hbA hS (lv_at hl 0 rfl) (lv_at hl 3 rfl) (by decide) hak3 exk3 dL_law_831 dL_law_832 dL_law_833 dL_law_834 dL_law_835 ?_
  refine law_arg (v := 4) hx hb hX hbl hbA hS (lv_at hl 0 rfl) (lv_at hl 3 rfl) (by decide) hak4 exk4 dL_law_836 dL_law_837 dL_law_838 dL_law_839 dL_law_840 ?_
  refine law_arg (v := 5) hx hb hX hbl hbA hS (lv_at hl 0 rfl) (lv_at hl 3 rfl) (by decide) hak5 exk5 dL_law_841 dL_law_842 dL_law_843 dL_law_844 dL_law_845 ?_
  refine st_iU (va_runV (C := RX11) (As := [.int xk1, .int xk2, .int xk3, .int xk4, .int xk5]) (rest := []) ⟨hx, hb, hml, hown, hts⟩ (ct_X11_pledge l D cI cY cJ cQ _ md sd (ny 0) (ny 1) (ny 2) (ny 3) (ny 4) (ny 5) (ny 6) (ny 7) (ny 8) (ny 9) (ny 10) (ny 11) (ny 12) (ny 13) (ny 14) (ny 15) (ny 16) (ny 17) (ny 18) (ny 19) (ny 20) (ny 21) (ny 22) (fy 17) (fy 18) (fy 19) (fy 20) xk1 xk2 xk3 xk4 xk5 (by omega) (by omega) (by omega) (by omega)) (cwV 5 hts gL_law_X11_pledge rfl rfl rfl ⟨rfl, cdX11_pledge⟩ ⟨Nat.le_of_ble_eq_true rfl, Nat.le_of_ble_eq_true rfl⟩) (cPreV (hP.sub [0, 19, 20, 21, 22] rfl) hK (hD.sub [0, 19, 20, 21, 22] (by decide +kernel) rfl) hN (ci := 11) (q0 := 0) rfl rfl) rfl rfl hl.1 rfl (lv_room (Nat.le_of_ble_eq_true rfl)) dL_law_846 ⟨Nat.le_of_ble_eq_true rfl, Nat.le_of_ble_eq_true rfl⟩) hP hD hS hA [0, 19, 20, 21, 22] rfl (fun _ => rfl) (fun r11 u9 H locs hw10 => ?_)
  clear hP hS
  intro hP hS
  obtain ⟨gn_12, gk_13, gs_14, gd_15, ge_16⟩ := u9
  replace hw10 : (r11, (gn_12, gk_13, gs_14, gd_15, ge_16)) = sp_pledge (ny 6) (fy 17) (fy 18) (fy 19) (fy 20) (ny 3) xk1 xk2 xk3 xk4 xk5 := hw10
  rw [Cgn, Cgk, Cgs, Cgd, Cge, Ccn] at hw10
  have e9 := hw2.trans hw10.symm
  simp only [Prod.mk.injEq] at e9
  obtain ⟨e90, e9gn, e9gk, e9gs, e9gd, e9ge⟩ := e9
  refine lv_pop hx hb dL_law_849 rfl ?_
  refine lv_goto (tgt := 1652) hx hb dL_law_850 (by decide) ?_
  have hPm : va_P D vwCl (wM md sd cI cY cJ cQ (upd (upd ny 0 0) 6 gn_12) (upR (upR (upR (upR fy 17 gk_13) 18 gs_14) 19 gd_15) 20 ge_16) fl ++ wX ad rw sd cI cY cJ cQ (upd nx 6 gn_4) (upR (upR (upR (upR fx 22 gk_5) 23 gs_6) 24 gd_7) 25 ge_8) rs lo) H := hP
  have hDm : va_D (fun q : Nat => s.heap.size ≤ q) (wM md sd cI cY cJ cQ (upd (upd ny 0 0) 6 gn_12) (upR (upR (upR (upR fy 17 gk_13) 18 gs_14) 19 gd_15) 20 ge_16) fl ++ wX ad rw sd cI cY cJ cQ (upd nx 6 gn_4) (upR (upR (upR (upR fx 22 gk_5) 23 gs_6) 24 gd_7) 25 ge_8) rs lo) := wMX_D hD
  exact kk (upd nx 6 gn_4) (upR (upR (upR (upR fx 22 gk_5) 23 gs_6) 24 gd_7) 25 ge_8) rs lo (upd (upd ny 0 0) 6 gn_12) (upR (upR (upR (upR fy 17 gk_13) 18 gs_14) 19 gd_15) 20 ge_16) fl H locs ls ⟨Xhna, Xhnb, XH, XD, XV, XN, Xcna, Xcnb, XF, Xpna, Xpnb, XG, XO, XW, (by show 0 ≤ (gn_4).toInt; omega), (by show (gn_4).toInt ≤ 40; omega), (show okJ (gn_4) (gs_6) by assumption), Xlna, Xlnb, Xdla, Xdlb, Xana, Xanb, Xuna, Xunb, XU, Xlca, Xlcb, Xtna, Xtnb, XS, Mhna, Mhnb, MH, MS, Mmlna, Mmlnb, Mmtna, Mmtnb, Chn, Cho, Chc, Chp, Chs, Ccn, Cfo, Cwo, Cpn, Cpk, Cpf, Cpo, Cpd, Cpe, (show (gn_12) = (gn_4) from e9gn.symm), (show (gk_13) = (gk_5) from e9gk.symm), (show (gs_14) = (gs_6) from e9gs.symm), (show (gd_15) = (gd_7) from e9gd.symm), (show (ge_16) = (ge_8) from e9ge.symm), Can, Cak, Cah, Cay, Caz, Cun, Cuk, Cuy, Cuw, Cum, Clc, Clp, Cla, Clb, Caw, Ciw, Cln, Ctd, Cro, Cmtn, Cmtr, Cmst, Csh⟩ hPm.comm hDm.comm hS hl

set_option maxHeartbeats 4000000 in
set_option maxRecDepth 100000 in
theorem law_case_15 {p : Program} {l : Launch} {e : Env} {s : State} {m : MethodId} {below : List Frame} {meth : Method} {c : Code} {D : va_G} {cI cY cJ cQ : ClassId} {b L aK aV : Nat} {xs : Nat → Int32} {ad rw md : Nat → Nat} {sd i : Int32} {nx : Nat → Int32} {fx rs : Nat → Nat → Int32} {lo : Nat → Int64} {ny : Nat → Int32} {fy : Nat → Nat → Int32} {fl : Nat → Int64} {H : Heap} {locs : List Loc} {ls : Array Slot} (C0 : lawC p s m meth c b L xs D cI cY cJ cQ aK aV) (I : inv nx fx rs ny fy) (hP : va_P D vwCl (wX ad rw sd cI cY cJ cQ nx fx rs lo ++ wM md sd cI cY cJ cQ ny fy fl) H) (hD : va_D (fun q : Nat => s.heap.size ≤ q) (wX ad rw sd cI cY cJ cQ nx fx rs lo ++ wM md sd cI cY cJ cQ ny fy fl)) (hS : va_S (fun q : Nat => s.heap.size ≤ q) s.heap H locs) (hl : lv_has ls 4 [(0, .ref b), (1, .ref (ad 0)), (2, .ref (md 64)), (3, .int i)]) (hi1 : 1 ≤ i.toInt) (hi2 : i.toInt + 5 < L) (kk : ∀ (nx : Nat → Int32) (fx rs : Nat → Nat → Int32) (lo : Nat → Int64) (ny : Nat → Int32) (fy : Nat → Nat → Int32) (fl : Nat → Int64) (H : Heap) (locs : List Loc) (ls : Array Slot), inv nx fx rs ny fy → va_P D vwCl (wX ad rw sd cI cY cJ cQ nx fx rs lo ++ wM md sd cI cY cJ cQ ny fy fl) H → va_D (fun q : Nat => s.heap.size ≤ q) (wX ad rw sd cI cY cJ cQ nx fx rs lo ++ wM md sd cI cY cJ cQ ny fy fl) → va_S (fun q : Nat => s.heap.size ≤ q) s.heap H locs → lv_has ls 4 [(0, .ref b), (1, .ref (ad 0)), (2, .ref (md 64)), (3, .int i)] → W p l e room_1 s m #[Value.ref b] below meth c H locs 107 4890 (lw_Z below #[Value.ref b] s) (F0 m 1652 ls [])) : W p l e room_1 s m #[Value.ref b] below meth c H locs 107 4890 (lw_Z below #[Value.ref b] s) (F0 m 853 ls []) := by
  obtain ⟨C1, hK, hN, hT, hL⟩ := C0
  obtain ⟨hx, hb, hr, hml, hown, hts0, hX, hbl, hlocks, hgv⟩ := C1
  have hA : ∀ q : Nat, s.heap.size ≤ q → (fun q : Nat => s.heap.size ≤ q) q := fun _ h => h
  have hbA : ¬ (fun q : Nat => s.heap.size ≤ q) b := Nat.not_le.mpr hbl
  have hts : ∀ w ∈ wsL_law, w.before #[Value.ref b] s = true := fun w h => hts0 w (wsL_law_in w h)
  replace hown : s.vm.findClass RL = some m.cls := hown
  replace hb : c.code = cL_law := hb
  have hak1 : vp_in (i + 1) L := law_in hi1 hi2 hL (by decide)
  obtain ⟨xk1, exk1⟩ : ∃ y : Int32, y = xs (i + 1).toNatClampNeg := ⟨_, rfl⟩
  have hak2 : vp_in (i + 2) L := law_in hi1 hi2 hL (by decide)
  obtain ⟨xk2, exk2⟩ : ∃ y : Int32, y = xs (i + 2).toNatClampNeg := ⟨_, rfl⟩
  have hak3 : vp_in (i + 3) L := law_in hi1 hi2 hL (by decide)
  obtain ⟨xk3, exk3⟩ : ∃ y : Int32, y = xs (i + 3).toNatClampNeg := ⟨_, rfl⟩
  have hak4 : vp_in (i + 4) L := law_in hi1 hi2 hL (by decide)
  obtain ⟨xk4, exk4⟩ : ∃ y : Int32, y = xs (i + 4).toNatClampNeg := ⟨_, rfl⟩
  have hak5 : vp_in (i + 5) L := law_in hi1 hi2 hL (by decide)
  obtain ⟨xk5, exk5⟩ : ∃ y : Int32, y = xs (i + 5).toNatClampNeg := ⟨_, rfl⟩
  refine inv_el I ?_
  intro Xhna Xhnb XH XD XV XN Xcna Xcnb XF Xpna Xpnb XG XO XW Xgna Xgnb XJ Xlna Xlnb Xdla Xdlb Xana Xanb Xuna Xunb XU Xlca Xlcb Xtna Xtnb XS Mhna Mhnb MH MS Mmlna Mmlnb Mmtna Mmtnb Chn Cho Chc Chp Chs Ccn Cfo Cwo Cpn Cpk Cpf Cpo Cpd Cpe Cgn Cgk Cgs Cgd Cge Can Cak Cah Cay Caz Cun Cuk Cuy Cuw Cum Clc Clp Cla Clb Caw Ciw Cln Ctd Cro Cmtn Cmtr Cmst Csh
  have Tcn := i_eq Ccn
  have Tpn := i_eq Cpn
  have Tgn := i_eq Cgn
  have Tan := i_eq Can
  have Tun := i_eq Cun
  have Tlc := i_eq Clc
  have Tln := i_eq Cln
  refine lv_aload_n hx hb dL_law_853 rfl (lv_at hl 1 rfl) ?_
  refine law_arg (v := 1) hx hb hX hbl hbA hS (lv_at hl 0 rfl) (lv_at hl 3 rfl) (by decide) hak1 exk1 dL_law_854 dL_law_855 dL_law_856 dL_law_857 dL_law_858 ?_
  refine law_arg (v := 2) hx hb hX hbl hbA hS (lv_at hl 0 rfl) (lv_at hl 3 rfl) (by decide) hak2 exk2 dL_law_859 dL_law_860 dL_law_861 dL_law_862 dL_law_863 ?_
  refine law_arg (v := 3) hx hb hX hbl hbA hS (lv_at hl 0 rfl) (lv_at hl 3 rfl) (by decide) hak3 exk3 dL_law_864 dL_law_865 dL_law_866 dL_law_867 dL_law_868 ?_
  refine law_arg (v := 4) hx hb hX hbl hbA hS (lv_at hl 0 rfl) (lv_at hl 3 rfl) (by decide) hak4 exk4 dL_law_869 dL_law_870 dL_law_871 dL_law_872 dL_law_873 ?_
  refine law_arg (v := 5) hx hb hX hbl hbA hS (lv_at hl 0 rfl) (lv_at hl 3 rfl) (by decide) hak5 exk5 dL_law_874 dL_law_875 dL_law_876 dL_law_877 dL_law_878 ?_
  refine st_iU (va_runV (C := RX10) (As := [.int xk1, .int xk2, .int xk3, .int xk4, .int xk5]) (rest := []) ⟨hx, hb, hml, hown, hts⟩ (ct_X10_rank l D cI cY cJ cQ _ ad (nx 0) (nx 1) (nx 2) (nx 4) (nx 6) (fx 12) (fx 22) (fx 23) (fx 24) (fx 25) (fx 26) xk1 xk2 xk3 xk4 xk5 Xcna Xcnb Xgna Xgnb) (cwV 5 hts gL_law_X10_rank rfl rfl rfl ⟨rfl, cdX10_rank⟩ ⟨Nat.le_of_ble_eq_true rfl, Nat.le_of_ble_eq_true rfl⟩) (cPreV (hP.sub [0, 23, 25, 36, 37, 38, 39, 40, 41] rfl) hK (hD.sub [0, 23, 25, 36, 37, 38, 39, 40, 41] (by decide +kernel) rfl) hN (ci := 10) (q0 := 0) rfl rfl) rfl rfl hl.1 rfl (lv_room (Nat.le_of_ble_eq_true rfl)) dL_law_879 ⟨Nat.le_of_ble_eq_true rfl, Nat.le_of_ble_eq_true rfl⟩) hP hD hS hA [0, 23, 25, 36, 37, 38, 39, 40, 41] rfl (fun _ => rfl) (fun r3 u1 H locs hw2 => ?_)
  clear hP hS
  intro hP hS
  replace hw2 : True := hw2
  refine lv_pop hx hb dL_law_882 rfl ?_
  have hPx : va_P D vwCl (wX ad rw sd cI cY cJ cQ nx (upR fx 26 u1) rs lo ++ wM md sd cI cY cJ cQ ny fy fl) H := hP
  have hDx : va_D (fun q : Nat => s.heap.size ≤ q) (wX ad rw sd cI cY cJ cQ nx (upR fx 26 u1) rs lo ++ wM md sd cI cY cJ cQ ny fy fl) := wXM_D hD
  have hP := hPx.comm
  have hD := hDx.comm
  refine lv_aload_n hx hb dL_law_883 rfl (lv_at hl 2 rfl) ?_
  refine law_arg (v := 1) hx hb hX hbl hbA hS (lv_at hl 0 rfl) (lv_at hl 3 rfl) (by decide) hak1 exk1 dL_law_884 dL_law_885 dL_law_886 dL_law_887 dL_law_888 ?_
  refine law_arg (v := 2) hx hb hX hbl hbA hS (lv_at hl 0 rfl) (lv_at hl 3 rfl) (by decide) hak2 exk2 dL_law_889 dL_law_890 dL_law_891 dL_law_892 dL_law_893 ?_
  refine law_arg (v := 3) hx hb hX hbl hbA hS (lv_at hl 0 rfl) (lv_at hl 3 rfl) (by decide) hak3 exk3 dL_law_894 dL_law_895 dL_law_896 dL_law_897 dL_law_898 ?_
  refine law_arg (v := 4) hx hb hX hbl hbA hS (lv_at hl 0 rfl) (lv_at hl 3 rfl) (by decide) hak4 exk4 dL_law_899 dL_law_900 dL_law_901 dL_law_902 dL_law_903 ?_
  refine law_arg (v := 5) hx hb hX hbl hbA hS (lv_at hl 0 rfl) (lv_at hl 3 rfl) (by decide) hak5 exk5 dL_law_904 dL_law_905 dL_law_906 dL_law_907 dL_law_908 ?_
  refine st_iU (va_runV (C := RX11) (As := [.int xk1, .int xk2, .int xk3, .int xk4, .int xk5]) (rest := []) ⟨hx, hb, hml, hown, hts⟩ (ct_X11_rank l D cI cY cJ cQ _ md sd (ny 0) (ny 1) (ny 2) (ny 3) (ny 4) (ny 5) (ny 6) (ny 7) (ny 8) (ny 9) (ny 10) (ny 11) (ny 12) (ny 13) (ny 14) (ny 15) (ny 16) (ny 17) (ny 18) (ny 19) (ny 20) (ny 21) (ny 22) (fy 11) (fy 17) (fy 18) (fy 19) (fy 20) xk1 xk2 xk3 xk4 xk5 (by omega) (by omega) (by omega) (by omega)) (cwV 5 hts gL_law_X11_rank rfl rfl rfl ⟨rfl, cdX11_rank⟩ ⟨Nat.le_of_ble_eq_true rfl, Nat.le_of_ble_eq_true rfl⟩) (cPreV (hP.sub [0, 13, 19, 20, 21, 22] rfl) hK (hD.sub [0, 13, 19, 20, 21, 22] (by decide +kernel) rfl) hN (ci := 11) (q0 := 0) rfl rfl) rfl rfl hl.1 rfl (lv_room (Nat.le_of_ble_eq_true rfl)) dL_law_909 ⟨Nat.le_of_ble_eq_true rfl, Nat.le_of_ble_eq_true rfl⟩) hP hD hS hA [0, 13, 19, 20, 21, 22] rfl (fun _ => rfl) (fun r6 u4 H locs hw5 => ?_)
  clear hP hS
  intro hP hS
  replace hw5 : True := hw5
  refine lv_pop hx hb dL_law_912 rfl ?_
  refine lv_goto (tgt := 1652) hx hb dL_law_913 (by decide) ?_
  have hPm : va_P D vwCl (wM md sd cI cY cJ cQ (upd ny 0 0) fy fl ++ wX ad rw sd cI cY cJ cQ nx (upR fx 26 u1) rs lo) H := hP
  have hDm : va_D (fun q : Nat => s.heap.size ≤ q) (wM md sd cI cY cJ cQ (upd ny 0 0) fy fl ++ wX ad rw sd cI cY cJ cQ nx (upR fx 26 u1) rs lo) := wMX_D hD
  exact kk nx (upR fx 26 u1) rs lo (upd ny 0 0) fy fl H locs ls ⟨Xhna, Xhnb, XH, XD, XV, XN, Xcna, Xcnb, XF, Xpna, Xpnb, XG, XO, XW, Xgna, Xgnb, XJ, Xlna, Xlnb, Xdla, Xdlb, Xana, Xanb, Xuna, Xunb, XU, Xlca, Xlcb, Xtna, Xtnb, XS, Mhna, Mhnb, MH, MS, Mmlna, Mmlnb, Mmtna, Mmtnb, Chn, Cho, Chc, Chp, Chs, Ccn, Cfo, Cwo, Cpn, Cpk, Cpf, Cpo, Cpd, Cpe, Cgn, Cgk, Cgs, Cgd, Cge, Can, Cak, Cah, Cay, Caz, Cun, Cuk, Cuy, Cuw, Cum, Clc, Clp, Cla, Clb, Caw, Ciw, Cln, Ctd, Cro, Cmtn, Cmtr, Cmst, Csh⟩ hPm.comm hDm.comm hS hl
