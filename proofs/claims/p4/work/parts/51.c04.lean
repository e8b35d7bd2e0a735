theorem cdX10_feed : yX10_feed.cls ≠ "java/lang/invoke/MethodHandle" ∧ yX10_feed.cls ≠ "java/lang/invoke/VarHandle" ∧ (parseMethodDescriptor yX10_feed.desc).map (fun d => d.parameters.length) = some 2 := by decide +kernel
theorem cdX10_duties : yX10_duties.cls ≠ "java/lang/invoke/MethodHandle" ∧ yX10_duties.cls ≠ "java/lang/invoke/VarHandle" ∧ (parseMethodDescriptor yX10_duties.desc).map (fun d => d.parameters.length) = some 0 := by decide +kernel
theorem cdX10_fault : yX10_fault.cls ≠ "java/lang/invoke/MethodHandle" ∧ yX10_fault.cls ≠ "java/lang/invoke/VarHandle" ∧ (parseMethodDescriptor yX10_fault.desc).map (fun d => d.parameters.length) = some 0 := by decide +kernel
theorem cdX10_act : yX10_act.cls ≠ "java/lang/invoke/MethodHandle" ∧ yX10_act.cls ≠ "java/lang/invoke/VarHandle" ∧ (parseMethodDescriptor yX10_act.desc).map (fun d => d.parameters.length) = some 4 := by decide +kernel
theorem cdX11_feed : yX11_feed.cls ≠ "java/lang/invoke/MethodHandle" ∧ yX11_feed.cls ≠ "java/lang/invoke/VarHandle" ∧ (parseMethodDescriptor yX11_feed.desc).map (fun d => d.parameters.length) = some 2 := by decide +kernel
theorem cdX11_duties : yX11_duties.cls ≠ "java/lang/invoke/MethodHandle" ∧ yX11_duties.cls ≠ "java/lang/invoke/VarHandle" ∧ (parseMethodDescriptor yX11_duties.desc).map (fun d => d.parameters.length) = some 0 := by decide +kernel
theorem cdX11_fault : yX11_fault.cls ≠ "java/lang/invoke/MethodHandle" ∧ yX11_fault.cls ≠ "java/lang/invoke/VarHandle" ∧ (parseMethodDescriptor yX11_fault.desc).map (fun d => d.parameters.length) = some 0 := by decide +kernel
theorem cdX11_act : yX11_act.cls ≠ "java/lang/invoke/MethodHandle" ∧ yX11_act.cls ≠ "java/lang/invoke/VarHandle" ∧ (parseMethodDescriptor yX11_act.desc).map (fun d => d.parameters.length) = some 4 := by decide +kernel
theorem Gd_X10_feed : gdA wsX10_feed := gd_cons (by decide +kernel) (gd_app (gd_all (ws := wsX10_feed_o1) (by decide +kernel)) (gd_app (gd_app Gd_X100 Gd_X20) (gd_app Gd_X10_isFrom Gd_X2_take)))
theorem Gd_X10_duties : gdA wsX10_duties := gd_cons (by decide +kernel) (gd_app (gd_all (ws := wsX10_duties_o1) (by decide +kernel)) (gd_app (gd_app Gd_X100 Gd_X20) Gd_X2_read))
theorem Gd_X10_fault : gdA wsX10_fault := gd_cons (by decide +kernel) (gd_app (gd_all (ws := wsX10_fault_o1) (by decide +kernel)) (gd_app Gd_X100 Gd_X20))
theorem Gd_X10_act : gdA wsX10_act := gd_cons (by decide +kernel) (gd_app (gd_all (ws := wsX10_act_o1) (by decide +kernel)) (gd_app (gd_app (gd_app Gd_X100 Gd_X00) (gd_app Gd_X10 Gd_X10_isCrate)) (gd_app (gd_app Gd_X10_isBelow Gd_X10_isDay) (gd_app Gd_X10_isFrom Gd_X0_tell))))
theorem Gd_X11_feed : gdA wsX11_feed := gd_cons (by decide +kernel) (gd_app (gd_all (ws := wsX11_feed_o1) (by decide +kernel)) (gd_app Gd_X110 Gd_X11_in))
theorem Gd_X11_duties : gdA wsX11_duties := gd_cons (by decide +kernel) (gd_app (gd_app (gd_all (ws := wsX11_duties_o1) (by decide +kernel)) (gd_all (ws := wsX11_duties_o2) (by decide +kernel))) (gd_app (gd_app (gd_app Gd_X110 Gd_X11_step) (gd_app Gd_X11_word Gd_X11_bad)) (gd_app (gd_app Gd_X11_need Gd_X11_is) Gd_X11_numberUpTo)))
theorem Gd_X11_fault : gdA wsX11_fault := gd_cons (by decide +kernel) (gd_app (gd_all (ws := wsX11_fault_o1) (by decide +kernel)) Gd_X110)
theorem Gd_X11_act : gdA wsX11_act := gd_cons (by decide +kernel) (gd_app (gd_all (ws := wsX11_act_o1) (by decide +kernel)) (gd_app (gd_app Gd_X110 Gd_X11_isCrate) (gd_app Gd_X11_in Gd_X11_isDay)))
theorem ggL_law_X10_feed : GoodIn wsL_law wsX10_feed := goodIn_s (fun _ h => (wm_r (wm_r (wm_l (wm_l (wm_l (wm_l (wm_l (wm_r h))))))))) Gd_X10_feed
theorem gL_law_X10_feed : GoodIn wsL_law (wsV RL 92 RX10 yX10_feed wsX10_feed) := goodIn_V (own := RL) (idx := 92) (C := RX10) (y := yX10_feed) (wm_l (wm_l (wm_r (wm_l (wm_r (wm_i 13 rfl)))))) (wm_l (wm_l (wm_r (wm_l (wm_r (wm_i 14 rfl)))))) (wm_l (wm_l (wm_r (wm_l (wm_r (wm_i 15 rfl)))))) (wm_l (wm_l (wm_l (wm_l (wm_l (wm_i 2 rfl)))))) ggL_law_X10_feed
theorem ggL_law_X11_feed : GoodIn wsL_law wsX11_feed := goodIn_s (fun _ h => (wm_r (wm_r (wm_l (wm_l (wm_l (wm_l (wm_r h)))))))) Gd_X11_feed
theorem gL_law_X11_feed : GoodIn wsL_law (wsV RL 96 RX11 yX11_feed wsX11_feed) := goodIn_V (own := RL) (idx := 96) (C := RX11) (y := yX11_feed) (wm_l (wm_l (wm_r (wm_l (wm_r (wm_i 16 rfl)))))) (wm_l (wm_l (wm_r (wm_l (wm_r (wm_i 17 rfl)))))) (wm_l (wm_l (wm_r (wm_l (wm_r (wm_i 18 rfl)))))) (wm_l (wm_l (wm_l (wm_l (wm_l (wm_i 5 rfl)))))) ggL_law_X11_feed
theorem ggL_law_X10_duties : GoodIn wsL_law wsX10_duties := goodIn_s (fun _ h => (wm_r (wm_r (wm_l (wm_l (wm_l (wm_r (wm_l (wm_l h))))))))) Gd_X10_duties
theorem gL_law_X10_duties : GoodIn wsL_law (wsV RL 97 RX10 yX10_duties wsX10_duties) := goodIn_V (own := RL) (idx := 97) (C := RX10) (y := yX10_duties) (wm_l (wm_l (wm_r (wm_l (wm_r (wm_i 19 rfl)))))) (wm_l (wm_l (wm_r (wm_l (wm_r (wm_i 20 rfl)))))) (wm_l (wm_l (wm_r (wm_l (wm_r (wm_i 21 rfl)))))) (wm_l (wm_l (wm_l (wm_l (wm_l (wm_i 2 rfl)))))) ggL_law_X10_duties
theorem ggL_law_X11_duties : GoodIn wsL_law wsX11_duties := goodIn_s (fun _ h => (wm_r (wm_r (wm_l (wm_l (wm_l (wm_r (wm_l (wm_r h))))))))) Gd_X11_duties
theorem gL_law_X11_duties : GoodIn wsL_law (wsV RL 101 RX11 yX11_duties wsX11_duties) := goodIn_V (own := RL) (idx := 101) (C := RX11) (y := yX11_duties) (wm_l (wm_l (wm_r (wm_l (wm_r (wm_i 22 rfl)))))) (wm_l (wm_l (wm_r (wm_l (wm_r (wm_i 23 rfl)))))) (wm_l (wm_l (wm_r (wm_r (wm_i 0 rfl))))) (wm_l (wm_l (wm_l (wm_l (wm_l (wm_i 5 rfl)))))) ggL_law_X11_duties
theorem ggL_law_X10_fault : GoodIn wsL_law wsX10_fault := goodIn_s (fun _ h => (wm_r (wm_r (wm_l (wm_l (wm_l (wm_r (wm_r h)))))))) Gd_X10_fault
theorem gL_law_X10_fault : GoodIn wsL_law (wsV RL 102 RX10 yX10_fault wsX10_fault) := goodIn_V (own := RL) (idx := 102) (C := RX10) (y := yX10_fault) (wm_l (wm_l (wm_r (wm_r (wm_i 1 rfl))))) (wm_l (wm_l (wm_r (wm_r (wm_i 2 rfl))))) (wm_l (wm_l (wm_r (wm_r (wm_i 3 rfl))))) (wm_l (wm_l (wm_l (wm_l (wm_l (wm_i 2 rfl)))))) ggL_law_X10_fault
theorem ggL_law_X11_fault : GoodIn wsL_law wsX11_fault := goodIn_s (fun _ h => (wm_r (wm_r (wm_l (wm_l (wm_r (wm_l (wm_l (wm_l h))))))))) Gd_X11_fault
theorem gL_law_X11_fault : GoodIn wsL_law (wsV RL 105 RX11 yX11_fault wsX11_fault) := goodIn_V (own := RL) (idx := 105) (C := RX11) (y := yX11_fault) (wm_l (wm_l (wm_r (wm_r (wm_i 4 rfl))))) (wm_l (wm_l (wm_r (wm_r (wm_i 5 rfl))))) (wm_l (wm_l (wm_r (wm_r (wm_i 6 rfl))))) (wm_l (wm_l (wm_l (wm_l (wm_l (wm_i 5 rfl)))))) ggL_law_X11_fault
theorem ggL_law_X10_act : GoodIn wsL_law wsX10_act := goodIn_s (fun _ h => (wm_r (wm_r (wm_l (wm_l (wm_r (wm_l (wm_l (wm_r h))))))))) Gd_X10_act
theorem gL_law_X10_act : GoodIn wsL_law (wsV RL 106 RX10 yX10_act wsX10_act) := goodIn_V (own := RL) (idx := 106) (C := RX10) (y := yX10_act) (wm_l (wm_l (wm_r (wm_r (wm_i 7 rfl))))) (wm_l (wm_l (wm_r (wm_r (wm_i 8 rfl))))) (wm_l (wm_l (wm_r (wm_r (wm_i 9 rfl))))) (wm_l (wm_l (wm_l (wm_l (wm_l (wm_i 2 rfl)))))) ggL_law_X10_act
theorem ggL_law_X11_act : GoodIn wsL_law wsX11_act := goodIn_s (fun _ h => (wm_r (wm_r (wm_l (wm_l (wm_r (wm_l (wm_r h)))))))) Gd_X11_act
theorem gL_law_X11_act : GoodIn wsL_law (wsV RL 109 RX11 yX11_act wsX11_act) := goodIn_V (own := RL) (idx := 109) (C := RX11) (y := yX11_act) (wm_l (wm_l (wm_r (wm_r (wm_i 10 rfl))))) (wm_l (wm_l (wm_r (wm_r (wm_i 11 rfl))))) (wm_l (wm_l (wm_r (wm_r (wm_i 12 rfl))))) (wm_l (wm_l (wm_l (wm_l (wm_l (wm_i 5 rfl)))))) ggL_law_X11_act
theorem sB_39 : dqA cL_law 936 sL_39 := dq_next sB_38 24 rfl
theorem sB_40 : dqA cL_law 960 sL_40 := dq_next sB_39 24 rfl
theorem sB_41 : dqA cL_law 984 sL_41 := dq_next sB_40 24 rfl
theorem sB_42 : dqA cL_law 1008 sL_42 := dq_next sB_41 24 rfl
theorem sB_43 : dqA cL_law 1032 sL_43 := dq_next sB_42 24 rfl
theorem sB_44 : dqA cL_law 1056 sL_44 := dq_next sB_43 24 rfl
theorem dL_law_916 : decode cL_law 916 = .ok (.aload_n 1, 1) := dL_law_all53.2.2.2.2.1
theorem dL_law_917 : decode cL_law 917 = .ok (.aload_n 0, 1) := dL_law_all53.2.2.2.2.2.1
theorem dL_law_918 : decode cL_law 918 = .ok (.iload_n 3, 1) := dL_law_all53.2.2.2.2.2.2.1
theorem dL_law_919 : decode cL_law 919 = .ok (.iconst 1, 1) := dL_law_all53.2.2.2.2.2.2.2.1
theorem dL_law_920 : decode cL_law 920 = .ok (.iadd, 1) := dL_law_all53.2.2.2.2.2.2.2.2.1
theorem dL_law_921 : decode cL_law 921 = .ok (.iaload, 1) := dL_law_all53.2.2.2.2.2.2.2.2.2.1
theorem dL_law_922 : decode cL_law 922 = .ok (.i2l, 1) := dL_law_all53.2.2.2.2.2.2.2.2.2.2.1
theorem dL_law_923 : decode cL_law 923 = .ok (.bipush 32, 2) := dL_law_all53.2.2.2.2.2.2.2.2.2.2.2
theorem dL_law_all54 : decode cL_law 925 = .ok (.lshl, 1) ∧ decode cL_law 926 = .ok (.aload_n 0, 1) ∧ decode cL_law 927 = .ok (.iload_n 3, 1) ∧ decode cL_law 928 = .ok (.iconst 2, 1) ∧ decode cL_law 929 = .ok (.iadd, 1) ∧ decode cL_law 930 = .ok (.iaload, 1) ∧ decode cL_law 931 = .ok (.i2l, 1) ∧ decode cL_law 932 = .ok (.ldc2_w 90, 3) ∧ decode cL_law 935 = .ok (.land, 1) ∧ decode cL_law 936 = .ok (.lor, 1) ∧ decode cL_law 937 = .ok (.aload_n 0, 1) ∧ decode cL_law 938 = .ok (.iload_n 3, 1) := ⟨by decide +kernel, dq_42 sB_38 14 rfl, dq_29 sB_38 15 rfl, dq_5 sB_38 16 rfl, dq_96 sB_38 17 rfl, dq_46 sB_38 18 rfl, by decide +kernel, by decide +kernel, by decide +kernel, by decide +kernel, dq_42 sB_39 1 rfl, dq_29 sB_39 2 rfl⟩
theorem dL_law_925 : decode cL_law 925 = .ok (.lshl, 1) := dL_law_all54.1
theorem dL_law_926 : decode cL_law 926 = .ok (.aload_n 0, 1) := dL_law_all54.2.1
theorem dL_law_927 : decode cL_law 927 = .ok (.iload_n 3, 1) := dL_law_all54.2.2.1
theorem dL_law_928 : decode cL_law 928 = .ok (.iconst 2, 1) := dL_law_all54.2.2.2.1
theorem dL_law_929 : decode cL_law 929 = .ok (.iadd, 1) := dL_law_all54.2.2.2.2.1
theorem dL_law_930 : decode cL_law 930 = .ok (.iaload, 1) := dL_law_all54.2.2.2.2.2.1
theorem dL_law_931 : decode cL_law 931 = .ok (.i2l, 1) := dL_law_all54.2.2.2.2.2.2.1
theorem dL_law_932 : decode cL_law 932 = .ok (.ldc2_w 90, 3) := dL_law_all54.2.2.2.2.2.2.2.1
theorem dL_law_935 : decode cL_law 935 = .ok (.land, 1) := dL_law_all54.2.2.2.2.2.2.2.2.1
theorem dL_law_936 : decode cL_law 936 = .ok (.lor, 1) := dL_law_all54.2.2.2.2.2.2.2.2.2.1
theorem dL_law_937 : decode cL_law 937 = .ok (.aload_n 0, 1) := dL_law_all54.2.2.2.2.2.2.2.2.2.2.1
theorem dL_law_938 : decode cL_law 938 = .ok (.iload_n 3, 1) := dL_law_all54.2.2.2.2.2.2.2.2.2.2.2
theorem dL_law_all55 : decode cL_law 939 = .ok (.iconst 3, 1) ∧ decode cL_law 940 = .ok (.iadd, 1) ∧ decode cL_law 941 = .ok (.iaload, 1) ∧ decode cL_law 942 = .ok (.invokevirtual 92, 3) ∧ decode cL_law 945 = .ok (.pop, 1) ∧ decode cL_law 946 = .ok (.aload_n 2, 1) ∧ decode cL_law 947 = .ok (.aload_n 0, 1) ∧ decode cL_law 948 = .ok (.iload_n 3, 1) ∧ decode cL_law 949 = .ok (.iconst 1, 1) ∧ decode cL_law 950 = .ok (.iadd, 1) ∧ decode cL_law 951 = .ok (.iaload, 1) ∧ decode cL_law 952 = .ok (.i2l, 1) := ⟨dq_6 sB_39 3 rfl, dq_96 sB_39 4 rfl, dq_46 sB_39 5 rfl, dq_182 sB_39 6 rfl 92 (by decide), dq_87 sB_39 9 rfl, dq_44 sB_39 10 rfl, dq_42 sB_39 11 rfl, dq_29 sB_39 12 rfl, dq_4 sB_39 13 rfl, dq_96 sB_39 14 rfl, dq_46 sB_39 15 rfl, by decide +kernel⟩
theorem dL_law_939 : decode cL_law 939 = .ok (.iconst 3, 1) := dL_law_all55.1
theorem dL_law_940 : decode cL_law 940 = .ok (.iadd, 1) := dL_law_all55.2.1
theorem dL_law_941 : decode cL_law 941 = .ok (.iaload, 1) := dL_law_all55.2.2.1
theorem dL_law_942 : decode cL_law 942 = .ok (.invokevirtual 92, 3) := dL_law_all55.2.2.2.1
theorem dL_law_945 : decode cL_law 945 = .ok (.pop, 1) := dL_law_all55.2.2.2.2.1
theorem dL_law_946 : decode cL_law 946 = .ok (.aload_n 2, 1) := dL_law_all55.2.2.2.2.2.1
theorem dL_law_947 : decode cL_law 947 = .ok (.aload_n 0, 1) := dL_law_all55.2.2.2.2.2.2.1
theorem dL_law_948 : decode cL_law 948 = .ok (.iload_n 3, 1) := dL_law_all55.2.2.2.2.2.2.2.1
theorem dL_law_949 : decode cL_law 949 = .ok (.iconst 1, 1) := dL_law_all55.2.2.2.2.2.2.2.2.1
theorem dL_law_950 : decode cL_law 950 = .ok (.iadd, 1) := dL_law_all55.2.2.2.2.2.2.2.2.2.1
theorem dL_law_951 : decode cL_law 951 = .ok (.iaload, 1) := dL_law_all55.2.2.2.2.2.2.2.2.2.2.1
theorem dL_law_952 : decode cL_law 952 = .ok (.i2l, 1) := dL_law_all55.2.2.2.2.2.2.2.2.2.2.2
theorem dL_law_all56 : decode cL_law 953 = .ok (.bipush 32, 2) ∧ decode cL_law 955 = .ok (.lshl, 1) ∧ decode cL_law 956 = .ok (.aload_n 0, 1) ∧ decode cL_law 957 = .ok (.iload_n 3, 1) ∧ decode cL_law 958 = .ok (.iconst 2, 1) ∧ decode cL_law 959 = .ok (.iadd, 1) ∧ decode cL_law 960 = .ok (.iaload, 1) ∧ decode cL_law 961 = .ok (.i2l, 1) ∧ decode cL_law 962 = .ok (.ldc2_w 90, 3) ∧ decode cL_law 965 = .ok (.land, 1) ∧ decode cL_law 966 = .ok (.lor, 1) ∧ decode cL_law 967 = .ok (.aload_n 0, 1) := ⟨by decide +kernel, by decide +kernel, dq_42 sB_39 20 rfl, dq_29 sB_39 21 rfl, dq_5 sB_39 22 rfl, dq_96 sB_39 23 rfl, dq_46 sB_40 0 rfl, by decide +kernel, by decide +kernel, by decide +kernel, by decide +kernel, dq_42 sB_40 7 rfl⟩
theorem dL_law_953 : decode cL_law 953 = .ok (.bipush 32, 2) := dL_law_all56.1
theorem dL_law_955 : decode cL_law 955 = .ok (.lshl, 1) := dL_law_all56.2.1
theorem dL_law_956 : decode cL_law 956 = .ok (.aload_n 0, 1) := dL_law_all56.2.2.1
theorem dL_law_957 : decode cL_law 957 = .ok (.iload_n 3, 1) := dL_law_all56.2.2.2.1
theorem dL_law_958 : decode cL_law 958 = .ok (.iconst 2, 1) := dL_law_all56.2.2.2.2.1
theorem dL_law_959 : decode cL_law 959 = .ok (.iadd, 1) := dL_law_all56.2.2.2.2.2.1
theorem dL_law_960 : decode cL_law 960 = .ok (.iaload, 1) := dL_law_all56.2.2.2.2.2.2.1
theorem dL_law_961 : decode cL_law 961 = .ok (.i2l, 1) := dL_law_all56.2.2.2.2.2.2.2.1
theorem dL_law_962 : decode cL_law 962 = .ok (.ldc2_w 90, 3) := dL_law_all56.2.2.2.2.2.2.2.2.1
theorem dL_law_965 : decode cL_law 965 = .ok (.land, 1) := dL_law_all56.2.2.2.2.2.2.2.2.2.1
theorem dL_law_966 : decode cL_law 966 = .ok (.lor, 1) := dL_law_all56.2.2.2.2.2.2.2.2.2.2.1
theorem dL_law_967 : decode cL_law 967 = .ok (.aload_n 0, 1) := dL_law_all56.2.2.2.2.2.2.2.2.2.2.2
theorem dL_law_all57 : decode cL_law 968 = .ok (.iload_n 3, 1) ∧ decode cL_law 969 = .ok (.iconst 3, 1) ∧ decode cL_law 970 = .ok (.iadd, 1) ∧ decode cL_law 971 = .ok (.iaload, 1) ∧ decode cL_law 972 = .ok (.invokevirtual 96, 3) ∧ decode cL_law 975 = .ok (.pop, 1) ∧ decode cL_law 976 = .ok (.goto 676, 3) ∧ decode cL_law 979 = .ok (.aload_n 1, 1) ∧ decode cL_law 980 = .ok (.invokevirtual 97, 3) ∧ decode cL_law 983 = .ok (.pop, 1) ∧ decode cL_law 984 = .ok (.aload_n 2, 1) ∧ decode cL_law 985 = .ok (.invokevirtual 101, 3) := ⟨dq_29 sB_40 8 rfl, dq_6 sB_40 9 rfl, dq_96 sB_40 10 rfl, dq_46 sB_40 11 rfl, dq_182 sB_40 12 rfl 96 (by decide), dq_87 sB_40 15 rfl, dq_167 sB_40 16 rfl 676 (by decide), dq_43 sB_40 19 rfl, dq_182 sB_40 20 rfl 97 (by decide), dq_87 sB_40 23 rfl, dq_44 sB_41 0 rfl, dq_182 sB_41 1 rfl 101 (by decide)⟩
theorem dL_law_968 : decode cL_law 968 = .ok (.iload_n 3, 1) := dL_law_all57.1
theorem dL_law_969 : decode cL_law 969 = .ok (.iconst 3, 1) := dL_law_all57.2.1
theorem dL_law_970 : decode cL_law 970 = .ok (.iadd, 1) := dL_law_all57.2.2.1
theorem dL_law_971 : decode cL_law 971 = .ok (.iaload, 1) := dL_law_all57.2.2.2.1
theorem dL_law_972 : decode cL_law 972 = .ok (.invokevirtual 96, 3) := dL_law_all57.2.2.2.2.1
theorem dL_law_975 : decode cL_law 975 = .ok (.pop, 1) := dL_law_all57.2.2.2.2.2.1
theorem dL_law_976 : decode cL_law 976 = .ok (.goto 676, 3) := dL_law_all57.2.2.2.2.2.2.1
theorem dL_law_979 : decode cL_law 979 = .ok (.aload_n 1, 1) := dL_law_all57.2.2.2.2.2.2.2.1
theorem dL_law_980 : decode cL_law 980 = .ok (.invokevirtual 97, 3) := dL_law_all57.2.2.2.2.2.2.2.2.1
theorem dL_law_983 : decode cL_law 983 = .ok (.pop, 1) := dL_law_all57.2.2.2.2.2.2.2.2.2.1
theorem dL_law_984 : decode cL_law 984 = .ok (.aload_n 2, 1) := dL_law_all57.2.2.2.2.2.2.2.2.2.2.1
theorem dL_law_985 : decode cL_law 985 = .ok (.invokevirtual 101, 3) := dL_law_all57.2.2.2.2.2.2.2.2.2.2.2
theorem dL_law_all58 : decode cL_law 988 = .ok (.pop, 1) ∧ decode cL_law 989 = .ok (.goto 663, 3) ∧ decode cL_law 992 = .ok (.aload_n 1, 1) ∧ decode cL_law 993 = .ok (.invokevirtual 102, 3) ∧ decode cL_law 996 = .ok (.pop, 1) ∧ decode cL_law 997 = .ok (.aload_n 2, 1) ∧ decode cL_law 998 = .ok (.invokevirtual 105, 3) ∧ decode cL_law 1001 = .ok (.pop, 1) ∧ decode cL_law 1002 = .ok (.goto 650, 3) ∧ decode cL_law 1005 = .ok (.aload_n 1, 1) ∧ decode cL_law 1006 = .ok (.aload_n 0, 1) ∧ decode cL_law 1007 = .ok (.iload_n 3, 1) := ⟨dq_87 sB_41 4 rfl, dq_167 sB_41 5 rfl 663 (by decide), dq_43 sB_41 8 rfl, dq_182 sB_41 9 rfl 102 (by decide), dq_87 sB_41 12 rfl, dq_44 sB_41 13 rfl, dq_182 sB_41 14 rfl 105 (by decide), dq_87 sB_41 17 rfl, dq_167 sB_41 18 rfl 650 (by decide), dq_43 sB_41 21 rfl, dq_42 sB_41 22 rfl, dq_29 sB_41 23 rfl⟩
theorem dL_law_988 : decode cL_law 988 = .ok (.pop, 1) := dL_law_all58.1
theorem dL_law_989 : decode cL_law 989 = .ok (.goto 663, 3) := dL_law_all58.2.1
theorem dL_law_992 : decode cL_law 992 = .ok (.aload_n 1, 1) := dL_law_all58.2.2.1
theorem dL_law_993 : decode cL_law 993 = .ok (.invokevirtual 102, 3) := dL_law_all58.2.2.2.1
theorem dL_law_996 : decode cL_law 996 = .ok (.pop, 1) := dL_law_all58.2.2.2.2.1
theorem dL_law_997 : decode cL_law 997 = .ok (.aload_n 2, 1) := dL_law_all58.2.2.2.2.2.1
theorem dL_law_998 : decode cL_law 998 = .ok (.invokevirtual 105, 3) := dL_law_all58.2.2.2.2.2.2.1
theorem dL_law_1001 : decode cL_law 1001 = .ok (.pop, 1) := dL_law_all58.2.2.2.2.2.2.2.1
theorem dL_law_1002 : decode cL_law 1002 = .ok (.goto 650, 3) := dL_law_all58.2.2.2.2.2.2.2.2.1
theorem dL_law_1005 : decode cL_law 1005 = .ok (.aload_n 1, 1) := dL_law_all58.2.2.2.2.2.2.2.2.2.1
theorem dL_law_1006 : decode cL_law 1006 = .ok (.aload_n 0, 1) := dL_law_all58.2.2.2.2.2.2.2.2.2.2.1
theorem dL_law_1007 : decode cL_law 1007 = .ok (.iload_n 3, 1) := dL_law_all58.2.2.2.2.2.2.2.2.2.2.2
theorem dL_law_all59 : decode cL_law 1008 = .ok (.iconst 1, 1) ∧ decode cL_law 1009 = .ok (.iadd, 1) ∧ decode cL_law 1010 = .ok (.iaload, 1) ∧ decode cL_law 1011 = .ok (.aload_n 0, 1) ∧ decode cL_law 1012 = .ok (.iload_n 3, 1) ∧ decode cL_law 1013 = .ok (.iconst 2, 1) ∧ decode cL_law 1014 = .ok (.iadd, 1) ∧ decode cL_law 1015 = .ok (.iaload, 1) ∧ decode cL_law 1016 = .ok (.aload_n 0, 1) ∧ decode cL_law 1017 = .ok (.iload_n 3, 1) ∧ decode cL_law 1018 = .ok (.iconst 3, 1) ∧ decode cL_law 1019 = .ok (.iadd, 1) := ⟨dq_4 sB_42 0 rfl, dq_96 sB_42 1 rfl, dq_46 sB_42 2 rfl, dq_42 sB_42 3 rfl, dq_29 sB_42 4 rfl, dq_5 sB_42 5 rfl, dq_96 sB_42 6 rfl, dq_46 sB_42 7 rfl, dq_42 sB_42 8 rfl, dq_29 sB_42 9 rfl, dq_6 sB_42 10 rfl, dq_96 sB_42 11 rfl⟩
theorem dL_law_1008 : decode cL_law 1008 = .ok (.iconst 1, 1) := dL_law_all59.1
theorem dL_law_1009 : decode cL_law 1009 = .ok (.iadd, 1) := dL_law_all59.2.1
theorem dL_law_1010 : decode cL_law 1010 = .ok (.iaload, 1) := dL_law_all59.2.2.1
theorem dL_law_1011 : decode cL_law 1011 = .ok (.aload_n 0, 1) := dL_law_all59.2.2.2.1
theorem dL_law_1012 : decode cL_law 1012 = .ok (.iload_n 3, 1) := dL_law_all59.2.2.2.2.1
theorem dL_law_1013 : decode cL_law 1013 = .ok (.iconst 2, 1) := dL_law_all59.2.2.2.2.2.1
theorem dL_law_1014 : decode cL_law 1014 = .ok (.iadd, 1) := dL_law_all59.2.2.2.2.2.2.1
theorem dL_law_1015 : decode cL_law 1015 = .ok (.iaload, 1) := dL_law_all59.2.2.2.2.2.2.2.1
theorem dL_law_1016 : decode cL_law 1016 = .ok (.aload_n 0, 1) := dL_law_all59.2.2.2.2.2.2.2.2.1
theorem dL_law_1017 : decode cL_law 1017 = .ok (.iload_n 3, 1) := dL_law_all59.2.2.2.2.2.2.2.2.2.1
theorem dL_law_1018 : decode cL_law 1018 = .ok (.iconst 3, 1) := dL_law_all59.2.2.2.2.2.2.2.2.2.2.1
theorem dL_law_1019 : decode cL_law 1019 = .ok (.iadd, 1) := dL_law_all59.2.2.2.2.2.2.2.2.2.2.2
theorem dL_law_all60 : decode cL_law 1020 = .ok (.iaload, 1) ∧ decode cL_law 1021 = .ok (.aload_n 0, 1) ∧ decode cL_law 1022 = .ok (.iload_n 3, 1) ∧ decode cL_law 1023 = .ok (.iconst 4, 1) ∧ decode cL_law 1024 = .ok (.iadd, 1) ∧ decode cL_law 1025 = .ok (.iaload, 1) ∧ decode cL_law 1026 = .ok (.invokevirtual 106, 3) ∧ decode cL_law 1029 = .ok (.pop, 1) ∧ decode cL_law 1030 = .ok (.aload_n 2, 1) ∧ decode cL_law 1031 = .ok (.aload_n 0, 1) ∧ decode cL_law 1032 = .ok (.iload_n 3, 1) ∧ decode cL_law 1033 = .ok (.iconst 1, 1) := ⟨dq_46 sB_42 12 rfl, dq_42 sB_42 13 rfl, dq_29 sB_42 14 rfl, dq_7 sB_42 15 rfl, dq_96 sB_42 16 rfl, dq_46 sB_42 17 rfl, dq_182 sB_42 18 rfl 106 (by decide), dq_87 sB_42 21 rfl, dq_44 sB_42 22 rfl, dq_42 sB_42 23 rfl, dq_29 sB_43 0 rfl, dq_4 sB_43 1 rfl⟩
theorem dL_law_1020 : decode cL_law 1020 = .ok (.iaload, 1) := dL_law_all60.1
theorem dL_law_1021 : decode cL_law 1021 = .ok (.aload_n 0, 1) := dL_law_all60.2.1
theorem dL_law_1022 : decode cL_law 1022 = .ok (.iload_n 3, 1) := dL_law_all60.2.2.1
theorem dL_law_1023 : decode cL_law 1023 = .ok (.iconst 4, 1) := dL_law_all60.2.2.2.1
theorem dL_law_1024 : decode cL_law 1024 = .ok (.iadd, 1) := dL_law_all60.2.2.2.2.1
theorem dL_law_1025 : decode cL_law 1025 = .ok (.iaload, 1) := dL_law_all60.2.2.2.2.2.1
theorem dL_law_1026 : decode cL_law 1026 = .ok (.invokevirtual 106, 3) := dL_law_all60.2.2.2.2.2.2.1
theorem dL_law_1029 : decode cL_law 1029 = .ok (.pop, 1) := dL_law_all60.2.2.2.2.2.2.2.1
theorem dL_law_1030 : decode cL_law 1030 = .ok (.aload_n 2, 1) := dL_law_all60.2.2.2.2.2.2.2.2.1
theorem dL_law_1031 : decode cL_law 1031 = .ok (.aload_n 0, 1) := dL_law_all60.2.2.2.2.2.2.2.2.2.1
theorem dL_law_1032 : decode cL_law 1032 = .ok (.iload_n 3, 1) := dL_law_all60.2.2.2.2.2.2.2.2.2.2.1
theorem dL_law_1033 : decode cL_law 1033 = .ok (.iconst 1, 1) := dL_law_all60.2.2.2.2.2.2.2.2.2.2.2
theorem dL_law_all61 : decode cL_law 1034 = .ok (.iadd, 1) ∧ decode cL_law 1035 = .ok (.iaload, 1) ∧ decode cL_law 1036 = .ok (.aload_n 0, 1) ∧ decode cL_law 1037 = .ok (.iload_n 3, 1) ∧ decode cL_law 1038 = .ok (.iconst 2, 1) ∧ decode cL_law 1039 = .ok (.iadd, 1) ∧ decode cL_law 1040 = .ok (.iaload, 1) ∧ decode cL_law 1041 = .ok (.aload_n 0, 1) ∧ decode cL_law 1042 = .ok (.iload_n 3, 1) ∧ decode cL_law 1043 = .ok (.iconst 3, 1) ∧ decode cL_law 1044 = .ok (.iadd, 1) ∧ decode cL_law 1045 = .ok (.iaload, 1) := ⟨dq_96 sB_43 2 rfl, dq_46 sB_43 3 rfl, dq_42 sB_43 4 rfl, dq_29 sB_43 5 rfl, dq_5 sB_43 6 rfl, dq_96 sB_43 7 rfl, dq_46 sB_43 8 rfl, dq_42 sB_43 9 rfl, dq_29 sB_43 10 rfl, dq_6 sB_43 11 rfl, dq_96 sB_43 12 rfl, dq_46 sB_43 13 rfl⟩
theorem dL_law_1034 : decode cL_law 1034 = .ok (.iadd, 1) := dL_law_all61.1
theorem dL_law_1035 : decode cL_law 1035 = .ok (.iaload, 1) := dL_law_all61.2.1
theorem dL_law_1036 : decode cL_law 1036 = .ok (.aload_n 0, 1) := dL_law_all61.2.2.1
theorem dL_law_1037 : decode cL_law 1037 = .ok (.iload_n 3, 1) := dL_law_all61.2.2.2.1
theorem dL_law_1038 : decode cL_law 1038 = .ok (.iconst 2, 1) := dL_law_all61.2.2.2.2.1
theorem dL_law_1039 : decode cL_law 1039 = .ok (.iadd, 1) := dL_law_all61.2.2.2.2.2.1
theorem dL_law_1040 : decode cL_law 1040 = .ok (.iaload, 1) := dL_law_all61.2.2.2.2.2.2.1
theorem dL_law_1041 : decode cL_law 1041 = .ok (.aload_n 0, 1) := dL_law_all61.2.2.2.2.2.2.2.1
theorem dL_law_1042 : decode cL_law 1042 = .ok (.iload_n 3, 1) := dL_law_all61.2.2.2.2.2.2.2.2.1
theorem dL_law_1043 : decode cL_law 1043 = .ok (.iconst 3, 1) := dL_law_all61.2.2.2.2.2.2.2.2.2.1
theorem dL_law_1044 : decode cL_law 1044 = .ok (.iadd, 1) := dL_law_all61.2.2.2.2.2.2.2.2.2.2.1
theorem dL_law_1045 : decode cL_law 1045 = .ok (.iaload, 1) := dL_law_all61.2.2.2.2.2.2.2.2.2.2.2
theorem dL_law_all62 : decode cL_law 1046 = .ok (.aload_n 0, 1) ∧ decode cL_law 1047 = .ok (.iload_n 3, 1) ∧ decode cL_law 1048 = .ok (.iconst 4, 1) ∧ decode cL_law 1049 = .ok (.iadd, 1) ∧ decode cL_law 1050 = .ok (.iaload, 1) ∧ decode cL_law 1051 = .ok (.invokevirtual 109, 3) ∧ decode cL_law 1054 = .ok (.pop, 1) ∧ decode cL_law 1055 = .ok (.goto 597, 3) ∧ decode cL_law 1058 = .ok (.aload_n 1, 1) ∧ decode cL_law 1059 = .ok (.aload_n 0, 1) ∧ decode cL_law 1060 = .ok (.iload_n 3, 1) ∧ decode cL_law 1061 = .ok (.iconst 1, 1) := ⟨dq_42 sB_43 14 rfl, dq_29 sB_43 15 rfl, dq_7 sB_43 16 rfl, dq_96 sB_43 17 rfl, dq_46 sB_43 18 rfl, dq_182 sB_43 19 rfl 109 (by decide), dq_87 sB_43 22 rfl, dq_167 sB_43 23 rfl 597 (by decide), dq_43 sB_44 2 rfl, dq_42 sB_44 3 rfl, dq_29 sB_44 4 rfl, dq_4 sB_44 5 rfl⟩
theorem dL_law_1046 : decode cL_law 1046 = .ok (.aload_n 0, 1) := dL_law_all62.1
theorem dL_law_1047 : decode cL_law 1047 = .ok (.iload_n 3, 1) := dL_law_all62.2.1
theorem dL_law_1048 : decode cL_law 1048 = .ok (.iconst 4, 1) := dL_law_all62.2.2.1
theorem dL_law_1049 : decode cL_law 1049 = .ok (.iadd, 1) := dL_law_all62.2.2.2.1
theorem dL_law_1050 : decode cL_law 1050 = .ok (.iaload, 1) := dL_law_all62.2.2.2.2.1
theorem dL_law_1051 : decode cL_law 1051 = .ok (.invokevirtual 109, 3) := dL_law_all62.2.2.2.2.2.1
theorem dL_law_1054 : decode cL_law 1054 = .ok (.pop, 1) := dL_law_all62.2.2.2.2.2.2.1
theorem dL_law_1055 : decode cL_law 1055 = .ok (.goto 597, 3) := dL_law_all62.2.2.2.2.2.2.2.1
set_option maxHeartbeats 4000000 in
set_option maxRecDepth 100000 in
theorem law_case_16 {p : Program} {l : Launch} {e : Env} {s : State} {m : MethodId} {below : List Frame} {meth : Method} {c : Code} {D : va_G} {cI cY cJ cQ : ClassId} {b L aK aV : Nat} {xs : Nat → Int32} {ad rw md : Nat → Nat} {sd i : Int32} {nx : Nat → Int32} {fx rs : Nat → Nat → Int32} {lo : Nat → Int64} {ny : Nat → Int32} {fy : Nat → Nat → Int32} {fl : Nat → Int64} {H : Heap} {locs : List Loc} {ls : Array Slot} (C0 : lawC p s m meth c b L xs D cI cY cJ cQ aK aV) (I : inv nx fx rs ny fy) (hP : va_P D vwCl (wX ad rw sd cI cY cJ cQ nx fx rs lo ++ wM md sd cI cY cJ cQ ny fy fl) H) (hD : va_D (fun q : Nat => s.heap.size ≤ q) (wX ad rw sd cI cY cJ cQ nx fx rs lo ++ wM md sd cI cY cJ cQ ny fy fl)) (hS : va_S (fun q : Nat => s.heap.size ≤ q) s.heap H locs) (hl : lv_has ls 4 [(0, .ref b), (1, .ref (ad 0)), (2, .ref (md 64)), (3, .int i)]) (hi1 : 1 ≤ i.toInt) (hi2 : i.toInt + 5 < L) (kk : ∀ (nx : Nat → Int32) (fx rs : Nat → Nat → Int32) (lo : Nat → Int64) (ny : Nat → Int32) (fy : Nat → Nat → Int32) (fl : Nat → Int64) (H : Heap) (locs : List Loc) (ls : Array Slot), inv nx fx rs ny fy → va_P D vwCl (wX ad rw sd cI cY cJ cQ nx fx rs lo ++ wM md sd cI cY cJ cQ ny fy fl) H → va_D (fun q : Nat => s.heap.size ≤ q) (wX ad rw sd cI cY cJ cQ nx fx rs lo ++ wM md sd cI cY cJ cQ ny fy fl) → va_S (fun q : Nat => s.heap.size ≤ q) s.heap H locs → lv_has ls 4 [(0, .ref b), (1, .ref (ad 0)), (2, .ref (md 64)), (3, .int i)] → W p l e room_1 s m #[Value.ref b] below meth c H locs 107 4890 (lw_Z below #[Value.ref b] s) (F0 m 1652 ls [])) : W p l e room_1 s m #[Value.ref b] below meth c H locs 107 4890 (lw_Z below #[Value.ref b] s) (F0 m 916 ls []) := by
  obtain ⟨C1, hK, hN, hT, hL⟩ := C0
  obtain ⟨hx, hb, hr, hml, hown, hts0, hX, hbl, hlocks, hgv⟩ := C1
  have hA : ∀ q : Nat, s.heap.size ≤ q → (fun q : Nat => s.heap.size ≤ q) q := fun _ h => h
  have hbA : ¬ (fun q : Nat => s.heap.size ≤ q) b := Nat.not_le.mpr hbl
  have hts : ∀ w ∈ wsL_law, w.before #[Value.ref b] s = true := fun w h => hts0 w (wsL_law_in w h)
  replace hown : s.vm.findClass RL = some m.cls := hown
  replace hb : c.code = cL_law := hb
  have hak1 : vp_in (i + 1) L := law_in hi1 hi2 hL (by decide)
  obtain ⟨xk1, exk1⟩ : ∃ y : Int32, y = xs (i + 1).toNatClampNeg := ⟨_, rfl⟩
  have hak2 : vp_in (i + 2) L := law_in hi1 hi2 hL (by decide)
  obtain ⟨xk2, exk2⟩ : ∃ y : Int32, y = xs (i + 2).toNatClampNeg := ⟨_, rfl⟩
  have hak3 : vp_in (i + 3) L := law_in hi1 hi2 hL (by decide)
  obtain ⟨xk3, exk3⟩ : ∃ y : Int32, y = xs (i + 3).toNatClampNeg := ⟨_, rfl⟩
  refine inv_el I ?_
  intro Xhna Xhnb XH XD XV XN Xcna Xcnb XF Xpna Xpnb XG XO XW Xgna Xgnb XJ Xlna Xlnb Xdla Xdlb Xana Xanb Xuna Xunb XU Xlca Xlcb Xtna Xtnb XS Mhna Mhnb MH MS Mmlna Mmlnb Mmtna Mmtnb Chn Cho Chc Chp Chs Ccn Cfo Cwo Cpn Cpk Cpf Cpo Cpd Cpe Cgn Cgk Cgs Cgd Cge Can Cak Cah Cay Caz Cun Cuk Cuy Cuw Cum Clc Clp Cla Clb Caw Ciw Cln Ctd Cro Cmtn Cmtr Cmst Csh
  have Tcn := i_eq Ccn
  have Tpn := i_eq Cpn
  have Tgn := i_eq Cgn
  have Tan := i_eq Can
  have Tun := i_eq Cun
  have Tlc := i_eq Clc
  have Tln := i_eq Cln
  refine lv_aload_n hx hb dL_law_916 rfl (lv_at hl 1 rfl) ?_
  refine law_arg (v := 1) hx hb hX hbl hbA hS (lv_at hl 0 rfl) (lv_at hl 3 rfl) (by decide) hak1 exk1 dL_law_917 dL_law_918 dL_law_919 dL_law_920 dL_law_921 ?_
  refine lv_i2l hx hb dL_law_922 rfl ?_
  refine lv_bipush (v := 32) hx hb dL_law_923 (by decide) ?_
  refine lv_lshl hx hb dL_law_925 rfl ?_
  refine lv_topl (fun z1 ez1 => ?_)
  refine law_arg (v := 2) hx hb hX hbl hbA hS (lv_at hl 0 rfl) (lv_at hl 3 rfl) (by decide) hak2 exk2 dL_law_926 dL_law_927 dL_law_928 dL_law_929 dL_law_930 ?_
  refine lv_i2l hx hb dL_law_931 rfl ?_
  refine lv_ldc2 hx hb hown (hts (Cond.constantLong RL 90 (4294967295)) (wm_l (wm_l (wm_l (wm_l (wm_l (wm_i 6 rfl))))))) dL_law_932 ?_
  refine lv_land hx hb dL_law_935 ?_
  refine lv_topl (fun z2 ez2 => ?_)
  refine lv_lor hx hb dL_law_936 ?_
  refine lv_topl (fun z3 ez3 => ?_)
  refine law_arg (v := 3) hx hb hX hbl hbA hS (lv_at hl 0 rfl) (lv_at hl 3 rfl) (by decide) hak3 exk3 dL_law_937 dL_law_938 dL_law_939 dL_law_940 dL_law_941 ?_
  refine st_iU (va_runV (C := RX10) (As := [.long z3, .int xk3]) (rest := []) ⟨hx, hb, hml, hown, hts⟩ (ct_X10_feed l D cI cY cJ cQ _ ad (nx 0) (nx 1) (nx 2) (nx 7) (nx 8) (nx 9) (nx 10) (nx 11) (nx 12) (nx 13) (nx 14) (fx 27) z3 xk3 Xlna Xlnb) (cwV 2 hts gL_law_X10_feed rfl rfl rfl ⟨rfl, cdX10_feed⟩ ⟨Nat.le_of_ble_eq_true rfl, Nat.le_of_ble_eq_true rfl⟩) (cPreV (hP.sub [0, 42, 43] rfl) hK (hD.sub [0, 42, 43] (by decide +kernel) rfl) hN (ci := 10) (q0 := 0) rfl rfl) rfl rfl hl.1 rfl (lv_room (Nat.le_of_ble_eq_true rfl)) dL_law_942 ⟨Nat.le_of_ble_eq_true rfl, Nat.le_of_ble_eq_true rfl⟩) hP hD hS hA [0, 42, 43] rfl (fun _ => rfl) (fun r6 u4 H locs hw5 => ?_)
  clear hP hS
  intro hP hS
  obtain ⟨ln_7, tp_8⟩ := u4
  replace hw5 : r6 = sp_feed (nx 7) xk3 ∧ ln_7 = sq_feed (nx 7) xk3 := hw5
  obtain ⟨hw5r, hw5n⟩ := hw5
  have hw5k := sq_feed_ok (n := xk3) Xlna Xlnb
  rw [← hw5n] at hw5k
  refine lv_pop hx hb dL_law_945 rfl ?_
  have hPx : va_P D vwCl (wX ad rw sd cI cY cJ cQ (upd nx 7 ln_7) (upR fx 27 tp_8) rs lo ++ wM md sd cI cY cJ cQ ny fy fl) H := hP
  have hDx : va_D (fun q : Nat => s.heap.size ≤ q) (wX ad rw sd cI cY cJ cQ (upd nx 7 ln_7) (upR fx 27 tp_8) rs lo ++ wM md sd cI cY cJ cQ ny fy fl) := wXM_D hD
  have hP := hPx.comm
  have hD := hDx.comm
  refine lv_aload_n hx hb dL_law_946 rfl (lv_at hl 2 rfl) ?_
  refine law_arg (v := 1) hx hb hX hbl hbA hS (lv_at hl 0 rfl) (lv_at hl 3 rfl) (by decide) hak1 exk1 dL_law_947 dL_law_948 dL_law_949 dL_law_950 dL_law_951 ?_
  refine lv_i2l hx hb dL_law_952 rfl ?_
  refine lv_bipush (v := 32) hx hb dL_law_953 (by decide) ?_
  refine lv_lshl hx hb dL_law_955 rfl ?_
  refine lv_topl (fun z9 ez9 => ?_)
  refine law_arg (v := 2) hx hb hX hbl hbA hS (lv_at hl 0 rfl) (lv_at hl 3 rfl) (by decide) hak2 exk2 dL_law_956 dL_law_957 dL_law_958 dL_law_959 dL_law_960 ?_
  refine lv_i2l hx hb dL_law_961 rfl ?_
  refine lv_ldc2 hx hb hown (hts (Cond.constantLong RL 90 (4294967295)) (wm_l (wm_l (wm_l (wm_l (wm_l (wm_i 6 rfl))))))) dL_law_962 ?_
  refine lv_land hx hb dL_law_965 ?_
  refine lv_topl (fun z10 ez10 => ?_)
  refine lv_lor hx hb dL_law_966 ?_
  refine lv_topl (fun z11 ez11 => ?_)
  refine law_arg (v := 3) hx hb hX hbl hbA hS (lv_at hl 0 rfl) (lv_at hl 3 rfl) (by decide) hak3 exk3 dL_law_967 dL_law_968 dL_law_969 dL_law_970 dL_law_971 ?_
  refine st_iU (va_runV (C := RX11) (As := [.long z11, .int xk3]) (rest := []) ⟨hx, hb, hml, hown, hts⟩ (ct_X11_feed l D cI cY cJ cQ _ md sd (ny 0) (ny 1) (ny 2) (ny 3) (ny 4) (ny 5) (ny 6) (ny 7) (ny 8) (ny 9) (ny 10) (ny 11) (ny 12) (ny 13) (ny 14) (ny 15) (ny 16) (ny 17) (ny 18) (ny 19) (ny 20) (ny 21) (ny 22) (fy 23) z11 xk3 (by omega) (by omega)) (cwV 2 hts gL_law_X11_feed rfl rfl rfl ⟨rfl, cdX11_feed⟩ ⟨Nat.le_of_ble_eq_true rfl, Nat.le_of_ble_eq_true rfl⟩) (cPreV (hP.sub [0, 25] rfl) hK (hD.sub [0, 25] (by decide +kernel) rfl) hN (ci := 11) (q0 := 0) rfl rfl) rfl rfl hl.1 rfl (lv_room (Nat.le_of_ble_eq_true rfl)) dL_law_972 ⟨Nat.le_of_ble_eq_true rfl, Nat.le_of_ble_eq_true rfl⟩) hP hD hS hA [0, 25] rfl (fun _ => rfl) (fun r14 u12 H locs hw13 => ?_)
  clear hP hS
  intro hP hS
  obtain ⟨ln_15, mtp_16⟩ := u12
  replace hw13 : r14 = sp_feed (ny 9) xk3 ∧ ln_15 = sq_feed (ny 9) xk3 := hw13
  rw [Cln] at hw13
  obtain ⟨hw13r, hw13n⟩ := hw13
  have e90 := hw5r.trans hw13r.symm
  refine lv_pop hx hb dL_law_975 rfl ?_
  refine lv_goto (tgt := 1652) hx hb dL_law_976 (by decide) ?_
  have hPm : va_P D vwCl (wM md sd cI cY cJ cQ (upd (upd ny 0 0) 9 ln_15) (upR fy 23 mtp_16) fl ++ wX ad rw sd cI cY cJ cQ (upd nx 7 ln_7) (upR fx 27 tp_8) rs lo) H := hP
  have hDm : va_D (fun q : Nat => s.heap.size ≤ q) (wM md sd cI cY cJ cQ (upd (upd ny 0 0) 9 ln_15) (upR fy 23 mtp_16) fl ++ wX ad rw sd cI cY cJ cQ (upd nx 7 ln_7) (upR fx 27 tp_8) rs lo) := wMX_D hD
  exact kk (upd nx 7 ln_7) (upR fx 27 tp_8) rs lo (upd (upd ny 0 0) 9 ln_15) (upR fy 23 mtp_16) fl H locs ls ⟨Xhna, Xhnb, XH, XD, XV, XN, Xcna, Xcnb, XF, Xpna, Xpnb, XG, XO, XW, Xgna, Xgnb, XJ, (by show 0 ≤ (ln_7).toInt; omega), (by show (ln_7).toInt ≤ 300; omega), Xdla, Xdlb, Xana, Xanb, Xuna, Xunb, XU, Xlca, Xlcb, Xtna, Xtnb, XS, Mhna, Mhnb, MH, MS, Mmlna, Mmlnb, Mmtna, Mmtnb, Chn, Cho, Chc, Chp, Chs, Ccn, Cfo, Cwo, Cpn, Cpk, Cpf, Cpo, Cpd, Cpe, Cgn, Cgk, Cgs, Cgd, Cge, Can, Cak, Cah, Cay, Caz, Cun, Cuk, Cuy, Cuw, Cum, Clc, Clp, Cla, Clb, Caw, Ciw, (show (ln_15) = (ln_7) from hw13n.trans hw5n.symm), Ctd, Cro, Cmtn, Cmtr, Cmst, Csh⟩ hPm.comm hDm.comm hS hl

set_option maxHeartbeats 4000000 in
set_option maxRecDepth 100000 in
theorem law_case_17 {p : Program} {l : Launch} {e : Env} {s : State} {m : MethodId} {below : List Frame} {meth : Method} {c : Code} {D : va_G} {cI cY cJ cQ : ClassId} {b L aK aV : Nat} {xs : Nat → Int32} {ad rw md : Nat → Nat} {sd i : Int32} {nx : Nat → Int32} {fx rs : Nat → Nat → Int32} {lo : Nat → Int64} {ny : Nat → Int32} {fy : Nat → Nat → Int32} {fl : Nat → Int64} {H : Heap} {locs : List Loc} {ls : Array Slot} (C0 : lawC p s m meth c b L xs D cI cY cJ cQ aK aV) (I : inv nx fx rs ny fy) (hP : va_P D vwCl (wX ad rw sd cI cY cJ cQ nx fx rs lo ++ wM md sd cI cY cJ cQ ny fy fl) H) (hD : va_D (fun q : Nat => s.heap.size ≤ q) (wX ad rw sd cI cY cJ cQ nx fx rs lo ++ wM md sd cI cY cJ cQ ny fy fl)) (hS : va_S (fun q : Nat => s.heap.size ≤ q) s.heap H locs) (hl : lv_has ls 4 [(0, .ref b), (1, .ref (ad 0)), (2, .ref (md 64)), (3, .int i)]) (hi1 : 1 ≤ i.toInt) (hi2 : i.toInt + 5 < L) (kk : ∀ (nx : Nat → Int32) (fx rs : Nat → Nat → Int32) (lo : Nat → Int64) (ny : Nat → Int32) (fy : Nat → Nat → Int32) (fl : Nat → Int64) (H : Heap) (locs : List Loc) (ls : Array Slot), inv nx fx rs ny fy → va_P D vwCl (wX ad rw sd cI cY cJ cQ nx fx rs lo ++ wM md sd cI cY cJ cQ ny fy fl) H → va_D (fun q : Nat => s.heap.size ≤ q) (wX ad rw sd cI cY cJ cQ nx fx rs lo ++ wM md sd cI cY cJ cQ ny fy fl) → va_S (fun q : Nat => s.heap.size ≤ q) s.heap H locs → lv_has ls 4 [(0, .ref b), (1, .ref (ad 0)), (2, .ref (md 64)), (3, .int i)] → W p l e room_1 s m #[Value.ref b] below meth c H locs 107 4890 (lw_Z below #[Value.ref b] s) (F0 m 1652 ls [])) : W p l e room_1 s m #[Value.ref b] below meth c H locs 107 4890 (lw_Z below #[Value.ref b] s) (F0 m 979 ls []) := by
  obtain ⟨C1, hK, hN, hT, hL⟩ := C0
  obtain ⟨hx, hb, hr, hml, hown, hts0, hX, hbl, hlocks, hgv⟩ := C1
  have hA : ∀ q : Nat, s.heap.size ≤ q → (fun q : Nat => s.heap.size ≤ q) q := fun _ h => h
  have hbA : ¬ (fun q : Nat => s.heap.size ≤ q) b := Nat.not_le.mpr hbl
  have hts : ∀ w ∈ wsL_law, w.before #[Value.ref b] s = true := fun w h => hts0 w (wsL_law_in w h)
  replace hown : s.vm.findClass RL = some m.cls := hown
  replace hb : c.code = cL_law := hb
  refine inv_el I ?_
  intro Xhna Xhnb XH XD XV XN Xcna Xcnb XF Xpna Xpnb XG XO XW Xgna Xgnb XJ Xlna Xlnb Xdla Xdlb Xana Xanb Xuna Xunb XU Xlca Xlcb Xtna Xtnb XS Mhna Mhnb MH MS Mmlna Mmlnb Mmtna Mmtnb Chn Cho Chc Chp Chs Ccn Cfo Cwo Cpn Cpk Cpf Cpo Cpd Cpe Cgn Cgk Cgs Cgd Cge Can Cak Cah Cay Caz Cun Cuk Cuy Cuw Cum Clc Clp Cla Clb Caw Ciw Cln Ctd Cro Cmtn Cmtr Cmst Csh
  have Tcn := i_eq Ccn
  have Tpn := i_eq Cpn
  have Tgn := i_eq Cgn
  have Tan := i_eq Can
  have Tun := i_eq Cun
  have Tlc := i_eq Clc
  have Tln := i_eq Cln
  have k0 : (0 : Int32).toInt = 0 := by decide
  refine lv_aload_n hx hb dL_law_979 rfl (lv_at hl 1 rfl) ?_
  refine st_iU (va_runV (C := RX10) (As := []) (rest := []) ⟨hx, hb, hml, hown, hts⟩ (ct_X10_duties l D cI cY cJ cQ _ aK aV ad (nx 0) (nx 1) (nx 2) (nx 7) (nx 8) (nx 9) (nx 10) (nx 11) (nx 12) (nx 13) (nx 14) (fx 27) (fx 28) (fx 29) (fx 30) (fx 31) (fx 32) (fx 33) Xlna Xlnb Xdla Xdlb) (cwV 0 hts gL_law_X10_duties rfl rfl rfl ⟨rfl, cdX10_duties⟩ ⟨Nat.le_of_ble_eq_true rfl, Nat.le_of_ble_eq_true rfl⟩) (cPreTV (hP.sub [0, 42, 43, 44, 45, 46, 47, 48, 49] rfl) hK (hD.sub [0, 42, 43, 44, 45, 46, 47, 48, 49] (by decide +kernel) rfl) hN hS (va_free hD hS hA [0, 42, 43, 44, 45, 46, 47, 48, 49] rfl) hT (ci := 10) (q0 := 0) rfl rfl) rfl rfl hl.1 rfl (lv_room (Nat.le_of_ble_eq_true rfl)) dL_law_980 ⟨Nat.le_of_ble_eq_true rfl, Nat.le_of_ble_eq_true rfl⟩) hP hD hS hA [0, 42, 43, 44, 45, 46, 47, 48, 49] rfl (fun _ => rfl) (fun r3 u1 H locs hw2 => ?_)
  clear hP hS
  intro hP hS
  obtain ⟨lfa_4, dl_5, dw_6, dd_7, dp_8, xw_9, xd_10, xp_11, dr_12, bs_13, be_14, tk_15, nb_16⟩ := u1
  replace hw2 : 0 ≤ dl_5.toInt ∧ dl_5.toInt ≤ 12 ∧ duP (fx 27) (nx 7).toNatClampNeg r3 (nx 8) (nx 9) lfa_4 dl_5 (fx 28) (fx 29) (fx 30) dw_6 dd_7 dp_8 := hw2
  refine lv_pop hx hb dL_law_983 rfl ?_
  have hPx : va_P D vwCl (wX ad rw sd cI cY cJ cQ (upd (upd (upd (upd (upd (upd (upd (upd nx 7 0) 8 lfa_4) 9 dl_5) 10 dr_12) 11 bs_13) 12 be_14) 13 tk_15) 14 nb_16) (upR (upR (upR (upR (upR (upR fx 28 dw_6) 29 dd_7) 30 dp_8) 31 xw_9) 32 xd_10) 33 xp_11) rs lo ++ wM md sd cI cY cJ cQ ny fy fl) H := hP
  have hDx : va_D (fun q : Nat => s.heap.size ≤ q) (wX ad rw sd cI cY cJ cQ (upd (upd (upd (upd (upd (upd (upd (upd nx 7 0) 8 lfa_4) 9 dl_5) 10 dr_12) 11 bs_13) 12 be_14) 13 tk_15) 14 nb_16) (upR (upR (upR (upR (upR (upR fx 28 dw_6) 29 dd_7) 30 dp_8) 31 xw_9) 32 xd_10) 33 xp_11) rs lo ++ wM md sd cI cY cJ cQ ny fy fl) := wXM_D hD
  have hP := hPx.comm
  have hD := hDx.comm
  refine lv_aload_n hx hb dL_law_984 rfl (lv_at hl 2 rfl) ?_
  refine st_iU (va_runV (C := RX11) (As := []) (rest := []) ⟨hx, hb, hml, hown, hts⟩ (ct_X11_duties l D cI cY cJ cQ _ md sd (ny 0) (ny 1) (ny 2) (ny 3) (ny 4) (ny 5) (ny 6) (ny 7) (ny 8) (ny 9) (ny 10) (ny 11) (ny 12) (ny 13) (ny 14) (ny 15) (ny 16) (ny 17) (ny 18) (ny 19) (ny 20) (ny 21) (ny 22) (fy 21) (fy 22) (fy 23) (by omega) (by omega) Mmlna Mmlnb) (cwV 0 hts gL_law_X11_duties rfl rfl rfl ⟨rfl, cdX11_duties⟩ ⟨Nat.le_of_ble_eq_true rfl, Nat.le_of_ble_eq_true rfl⟩) (cPreV (hP.sub [0, 23, 24, 25] rfl) hK (hD.sub [0, 23, 24, 25] (by decide +kernel) rfl) hN (ci := 11) (q0 := 0) rfl rfl) rfl rfl hl.1 rfl (lv_room (Nat.le_of_ble_eq_true rfl)) dL_law_985 ⟨Nat.le_of_ble_eq_true rfl, Nat.le_of_ble_eq_true rfl⟩) hP hD hS hA [0, 23, 24, 25] rfl (fun _ => rfl) (fun r19 u17 H locs hw18 => ?_)
  clear hP hS
  intro hP hS
  obtain ⟨mln_20, mli_21, mnn_22, mnl_23, mlt_24, msz_25, mcu_26, mtk_27, mfr_28, mti_29, mfa_30, mfb_31⟩ := u17
  replace hw18 : 0 ≤ mln_20.toInt ∧ mln_20.toInt ≤ 12 := hw18
  refine lv_pop hx hb dL_law_988 rfl ?_
  refine lv_goto (tgt := 1652) hx hb dL_law_989 (by decide) ?_
  have hPm : va_P D vwCl (wM md sd cI cY cJ cQ (upd (upd (upd (upd (upd (upd (upd (upd (upd (upd (upd (upd ny 0 0) 7 mln_20) 8 mnn_22) 9 0) 10 mlt_24) 11 msz_25) 12 mcu_26) 13 mtk_27) 14 mfr_28) 15 mti_29) 16 mfa_30) 17 mfb_31) (upR (upR fy 21 mli_21) 22 mnl_23) fl ++ wX ad rw sd cI cY cJ cQ (upd (upd (upd (upd (upd (upd (upd (upd nx 7 0) 8 lfa_4) 9 dl_5) 10 dr_12) 11 bs_13) 12 be_14) 13 tk_15) 14 nb_16) (upR (upR (upR (upR (upR (upR fx 28 dw_6) 29 dd_7) 30 dp_8) 31 xw_9) 32 xd_10) 33 xp_11) rs lo) H := hP
  have hDm : va_D (fun q : Nat => s.heap.size ≤ q) (wM md sd cI cY cJ cQ (upd (upd (upd (upd (upd (upd (upd (upd (upd (upd (upd (upd ny 0 0) 7 mln_20) 8 mnn_22) 9 0) 10 mlt_24) 11 msz_25) 12 mcu_26) 13 mtk_27) 14 mfr_28) 15 mti_29) 16 mfa_30) 17 mfb_31) (upR (upR fy 21 mli_21) 22 mnl_23) fl ++ wX ad rw sd cI cY cJ cQ (upd (upd (upd (upd (upd (upd (upd (upd nx 7 0) 8 lfa_4) 9 dl_5) 10 dr_12) 11 bs_13) 12 be_14) 13 tk_15) 14 nb_16) (upR (upR (upR (upR (upR (upR fx 28 dw_6) 29 dd_7) 30 dp_8) 31 xw_9) 32 xd_10) 33 xp_11) rs lo) := wMX_D hD
  exact kk (upd (upd (upd (upd (upd (upd (upd (upd nx 7 0) 8 lfa_4) 9 dl_5) 10 dr_12) 11 bs_13) 12 be_14) 13 tk_15) 14 nb_16) (upR (upR (upR (upR (upR (upR fx 28 dw_6) 29 dd_7) 30 dp_8) 31 xw_9) 32 xd_10) 33 xp_11) rs lo (upd (upd (upd (upd (upd (upd (upd (upd (upd (upd (upd (upd ny 0 0) 7 mln_20) 8 mnn_22) 9 0) 10 mlt_24) 11 msz_25) 12 mcu_26) 13 mtk_27) 14 mfr_28) 15 mti_29) 16 mfa_30) 17 mfb_31) (upR (upR fy 21 mli_21) 22 mnl_23) fl H locs ls ⟨Xhna, Xhnb, XH, XD, XV, XN, Xcna, Xcnb, XF, Xpna, Xpnb, XG, XO, XW, Xgna, Xgnb, XJ, (by show 0 ≤ (0 : Int32).toInt; omega), (by show (0 : Int32).toInt ≤ 300; omega), (by show 0 ≤ (dl_5).toInt; omega), (by show (dl_5).toInt ≤ 12; omega), Xana, Xanb, Xuna, Xunb, XU, Xlca, Xlcb, Xtna, Xtnb, XS, Mhna, Mhnb, MH, MS, (by show 0 ≤ (mln_20).toInt; omega), (by show (mln_20).toInt ≤ 12; omega), Mmtna, Mmtnb, Chn, Cho, Chc, Chp, Chs, Ccn, Cfo, Cwo, Cpn, Cpk, Cpf, Cpo, Cpd, Cpe, Cgn, Cgk, Cgs, Cgd, Cge, Can, Cak, Cah, Cay, Caz, Cun, Cuk, Cuy, Cuw, Cum, Clc, Clp, Cla, Clb, Caw, Ciw, (show (0 : Int32) = (0 : Int32) from rfl), Ctd, Cro, Cmtn, Cmtr, Cmst, Csh⟩ hPm.comm hDm.comm hS hl

set_option maxHeartbeats 4000000 in
set_option maxRecDepth 100000 in
theorem law_case_18 {p : Program} {l : Launch} {e : Env} {s : State} {m : MethodId} {below : List Frame} {meth : Method} {c : Code} {D : va_G} {cI cY cJ cQ : ClassId} {b L aK aV : Nat} {xs : Nat → Int32} {ad rw md : Nat → Nat} {sd i : Int32} {nx : Nat → Int32} {fx rs : Nat → Nat → Int32} {lo : Nat → Int64} {ny : Nat → Int32} {fy : Nat → Nat → Int32} {fl : Nat → Int64} {H : Heap} {locs : List Loc} {ls : Array Slot} (C0 : lawC p s m meth c b L xs D cI cY cJ cQ aK aV) (I : inv nx fx rs ny fy) (hP : va_P D vwCl (wX ad rw sd cI cY cJ cQ nx fx rs lo ++ wM md sd cI cY cJ cQ ny fy fl) H) (hD : va_D (fun q : Nat => s.heap.size ≤ q) (wX ad rw sd cI cY cJ cQ nx fx rs lo ++ wM md sd cI cY cJ cQ ny fy fl)) (hS : va_S (fun q : Nat => s.heap.size ≤ q) s.heap H locs) (hl : lv_has ls 4 [(0, .ref b), (1, .ref (ad 0)), (2, .ref (md 64)), (3, .int i)]) (hi1 : 1 ≤ i.toInt) (hi2 : i.toInt + 5 < L) (kk : ∀ (nx : Nat → Int32) (fx rs : Nat → Nat → Int32) (lo : Nat → Int64) (ny : Nat → Int32) (fy : Nat → Nat → Int32) (fl : Nat → Int64) (H : Heap) (locs : List Loc) (ls : Array Slot), inv nx fx rs ny fy → va_P D vwCl (wX ad rw sd cI cY cJ cQ nx fx rs lo ++ wM md sd cI cY cJ cQ ny fy fl) H → va_D (fun q : Nat => s.heap.size ≤ q) (wX ad rw sd cI cY cJ cQ nx fx rs lo ++ wM md sd cI cY cJ cQ ny fy fl) → va_S (fun q : Nat => s.heap.size ≤ q) s.heap H locs → lv_has ls 4 [(0, .ref b), (1, .ref (ad 0)), (2, .ref (md 64)), (3, .int i)] → W p l e room_1 s m #[Value.ref b] below meth c H locs 107 4890 (lw_Z below #[Value.ref b] s) (F0 m 1652 ls [])) : W p l e room_1 s m #[Value.ref b] below meth c H locs 107 4890 (lw_Z below #[Value.ref b] s) (F0 m 992 ls []) := by
  obtain ⟨C1, hK, hN, hT, hL⟩ := C0
  obtain ⟨hx, hb, hr, hml, hown, hts0, hX, hbl, hlocks, hgv⟩ := C1
  have hA : ∀ q : Nat, s.heap.size ≤ q → (fun q : Nat => s.heap.size ≤ q) q := fun _ h => h
  have hbA : ¬ (fun q : Nat => s.heap.size ≤ q) b := Nat.not_le.mpr hbl
  have hts : ∀ w ∈ wsL_law, w.before #[Value.ref b] s = true := fun w h => hts0 w (wsL_law_in w h)
  replace hown : s.vm.findClass RL = some m.cls := hown
  replace hb : c.code = cL_law := hb
  refine inv_el I ?_
  intro Xhna Xhnb XH XD XV XN Xcna Xcnb XF Xpna Xpnb XG XO XW Xgna Xgnb XJ Xlna Xlnb Xdla Xdlb Xana Xanb Xuna Xunb XU Xlca Xlcb Xtna Xtnb XS Mhna Mhnb MH MS Mmlna Mmlnb Mmtna Mmtnb Chn Cho Chc Chp Chs Ccn Cfo Cwo Cpn Cpk Cpf Cpo Cpd Cpe Cgn Cgk Cgs Cgd Cge Can Cak Cah Cay Caz Cun Cuk Cuy Cuw Cum Clc Clp Cla Clb Caw Ciw Cln Ctd Cro Cmtn Cmtr Cmst Csh
  have Tcn := i_eq Ccn
  have Tpn := i_eq Cpn
  have Tgn := i_eq Cgn
  have Tan := i_eq Can
  have Tun := i_eq Cun
  have Tlc := i_eq Clc
  have Tln := i_eq Cln
  refine lv_aload_n hx hb dL_law_992 rfl (lv_at hl 1 rfl) ?_
  refine st_iU (va_runV (C := RX10) (As := []) (rest := []) ⟨hx, hb, hml, hown, hts⟩ (ct_X10_fault l D cI cY cJ cQ _ ad (nx 0) (nx 1) (nx 2) (nx 7) (nx 8) (nx 9) (nx 10) (nx 11) (nx 12) (nx 13) (nx 14)) (cwV 0 hts gL_law_X10_fault rfl rfl rfl ⟨rfl, cdX10_fault⟩ ⟨Nat.le_of_ble_eq_true rfl, Nat.le_of_ble_eq_true rfl⟩) (cPreV (hP.sub [0, 42] rfl) hK (hD.sub [0, 42] (by decide +kernel) rfl) hN (ci := 10) (q0 := 0) rfl rfl) rfl rfl hl.1 rfl (lv_room (Nat.le_of_ble_eq_true rfl)) dL_law_993 ⟨Nat.le_of_ble_eq_true rfl, Nat.le_of_ble_eq_true rfl⟩) hP hD hS hA [0, 42] rfl (fun _ => rfl) (fun r3 u1 H locs hw2 => ?_)
  clear hP hS
  intro hP hS
  replace hw2 : r3 = (nx 8) := hw2
  refine lv_pop hx hb dL_law_996 rfl ?_
  have hPx : va_P D vwCl (wX ad rw sd cI cY cJ cQ nx fx rs lo ++ wM md sd cI cY cJ cQ ny fy fl) H := hP
  have hDx : va_D (fun q : Nat => s.heap.size ≤ q) (wX ad rw sd cI cY cJ cQ nx fx rs lo ++ wM md sd cI cY cJ cQ ny fy fl) := wXM_D hD
  have hP := hPx.comm
  have hD := hDx.comm
  refine lv_aload_n hx hb dL_law_997 rfl (lv_at hl 2 rfl) ?_
  refine st_iU (va_runV (C := RX11) (As := []) (rest := []) ⟨hx, hb, hml, hown, hts⟩ (ct_X11_fault l D cI cY cJ cQ _ md sd (ny 0) (ny 1) (ny 2) (ny 3) (ny 4) (ny 5) (ny 6) (ny 7) (ny 8) (ny 9) (ny 10) (ny 11) (ny 12) (ny 13) (ny 14) (ny 15) (ny 16) (ny 17) (ny 18) (ny 19) (ny 20) (ny 21) (ny 22)) (cwV 0 hts gL_law_X11_fault rfl rfl rfl ⟨rfl, cdX11_fault⟩ ⟨Nat.le_of_ble_eq_true rfl, Nat.le_of_ble_eq_true rfl⟩) (cPreV (hP.sub [0] rfl) hK (hD.sub [0] (by decide +kernel) rfl) hN (ci := 11) (q0 := 0) rfl rfl) rfl rfl hl.1 rfl (lv_room (Nat.le_of_ble_eq_true rfl)) dL_law_998 ⟨Nat.le_of_ble_eq_true rfl, Nat.le_of_ble_eq_true rfl⟩) hP hD hS hA [0] rfl (fun _ => rfl) (fun r6 u4 H locs hw5 => ?_)
  clear hP hS
  intro hP hS
  replace hw5 : r6 = (ny 10) := hw5
  refine lv_pop hx hb dL_law_1001 rfl ?_
  refine lv_goto (tgt := 1652) hx hb dL_law_1002 (by decide) ?_
  have hPm : va_P D vwCl (wM md sd cI cY cJ cQ (upd ny 0 0) fy fl ++ wX ad rw sd cI cY cJ cQ nx fx rs lo) H := hP
  have hDm : va_D (fun q : Nat => s.heap.size ≤ q) (wM md sd cI cY cJ cQ (upd ny 0 0) fy fl ++ wX ad rw sd cI cY cJ cQ nx fx rs lo) := wMX_D hD
  exact kk nx fx rs lo (upd ny 0 0) fy fl H locs ls ⟨Xhna, Xhnb, XH, XD, XV, XN, Xcna, Xcnb, XF, Xpna, Xpnb, XG, XO, XW, Xgna, Xgnb, XJ, Xlna, Xlnb, Xdla, Xdlb, Xana, Xanb, Xuna, Xunb, XU, Xlca, Xlcb, Xtna, Xtnb, XS, Mhna, Mhnb, MH, MS, Mmlna, Mmlnb, Mmtna, Mmtnb, Chn, Cho, Chc, Chp, Chs, Ccn, Cfo, Cwo, Cpn, Cpk, Cpf, Cpo, Cpd, Cpe, Cgn, Cgk, Cgs, Cgd, Cge, Can, Cak, Cah, Cay, Caz, Cun, Cuk, Cuy, Cuw, Cum, Clc, Clp, Cla, Clb, Caw, Ciw, Cln, Ctd, Cro, Cmtn, Cmtr, Cmst, Csh⟩ hPm.comm hDm.comm hS hl

set_option maxHeartbeats 4000000 in
set_option maxRecDepth 100000 in
theorem law_case_19 {p : Program} {l : Launch} {e : Env} {s : State} {m : MethodId} {below : List Frame} {meth : Method} {c : Code} {D : va_G} {cI cY cJ cQ : ClassId} {b L aK aV : Nat} {xs : Nat → Int32} {ad rw md : Nat → Nat} {sd i : Int32} {nx : Nat → Int32} {fx rs : Nat → Nat → Int32} {lo : Nat → Int64} {ny : Nat → Int32} {fy : Nat → Nat → Int32} {fl : Nat → Int64} {H : Heap} {locs : List Loc} {ls : Array Slot} (C0 : lawC p s m meth c b L xs D cI cY cJ cQ aK aV) (I : inv nx fx rs ny fy) (hP : va_P D vwCl (wX ad rw sd cI cY cJ cQ nx fx rs lo ++ wM md sd cI cY cJ cQ ny fy fl) H) (hD : va_D (fun q : Nat => s.heap.size ≤ q) (wX ad rw sd cI cY cJ cQ nx fx rs lo ++ wM md sd cI cY cJ cQ ny fy fl)) (hS : va_S (fun q : Nat => s.heap.size ≤ q) s.heap H locs) (hl : lv_has ls 4 [(0, .ref b), (1, .ref (ad 0)), (2, .ref (md 64)), (3, .int i)]) (hi1 : 1 ≤ i.toInt) (hi2 : i.toInt + 5 < L) (kk : ∀ (nx : Nat → Int32) (fx rs : Nat → Nat → Int32) (lo : Nat → Int64) (ny : Nat → Int32) (fy : Nat → Nat → Int32) (fl : Nat → Int64) (H : Heap) (locs : List Loc) (ls : Array Slot), inv nx fx rs ny fy → va_P D vwCl (wX ad rw sd cI cY cJ cQ nx fx rs lo ++ wM md sd cI cY cJ cQ ny fy fl) H → va_D (fun q : Nat => s.heap.size ≤ q) (wX ad rw sd cI cY cJ cQ nx fx rs lo ++ wM md sd cI cY cJ cQ ny fy fl) → va_S (fun q : Nat => s.heap.size ≤ q) s.heap H locs → lv_has ls 4 [(0, .ref b), (1, .ref (ad 0)), (2, .ref (md 64)), (3, .int i)] → W p l e room_1 s m #[Value.ref b] below meth c H locs 107 4890 (lw_Z below #[Value.ref b] s) (F0 m 1652 ls [])) : W p l e room_1 s m #[Value.ref b] below meth c H locs 107 4890 (lw_Z below #[Value.ref b] s) (F0 m 1005 ls []) := by
  obtain ⟨C1, hK, hN, hT, hL⟩ := C0
  obtain ⟨hx, hb, hr, hml, hown, hts0, hX, hbl, hlocks, hgv⟩ := C1
  have hA : ∀ q : Nat, s.heap.size ≤ q → (fun q : Nat => s.heap.size ≤ q) q := fun _ h => h
  have hbA : ¬ (fun q : Nat => s.heap.size ≤ q) b := Nat.not_le.mpr hbl
  have hts : ∀ w ∈ wsL_law, w.before #[Value.ref b] s = true := fun w h => hts0 w (wsL_law_in w h)
  replace hown : s.vm.findClass RL = some m.cls := hown
  replace hb : c.code = cL_law := hb
  have hak1 : vp_in (i + 1) L := law_in hi1 hi2 hL (by decide)
  obtain ⟨xk1, exk1⟩ : ∃ y : Int32, y = xs (i + 1).toNatClampNeg := ⟨_, rfl⟩
  have hak2 : vp_in (i + 2) L := law_in hi1 hi2 hL (by decide)
  obtain ⟨xk2, exk2⟩ : ∃ y : Int32, y = xs (i + 2).toNatClampNeg := ⟨_, rfl⟩
  have hak3 : vp_in (i + 3) L := law_in hi1 hi2 hL (by decide)
  obtain ⟨xk3, exk3⟩ : ∃ y : Int32, y = xs (i + 3).toNatClampNeg := ⟨_, rfl⟩
  have hak4 : vp_in (i + 4) L := law_in hi1 hi2 hL (by decide)
  obtain ⟨xk4, exk4⟩ : ∃ y : Int32, y = xs (i + 4).toNatClampNeg := ⟨_, rfl⟩
  refine inv_el I ?_
  intro Xhna Xhnb XH XD XV XN Xcna Xcnb XF Xpna Xpnb XG XO XW Xgna Xgnb XJ Xlna Xlnb Xdla Xdlb Xana Xanb Xuna Xunb XU Xlca Xlcb Xtna Xtnb XS Mhna Mhnb MH MS Mmlna Mmlnb Mmtna Mmtnb Chn Cho Chc Chp Chs Ccn Cfo Cwo Cpn Cpk Cpf Cpo Cpd Cpe Cgn Cgk Cgs Cgd Cge Can Cak Cah Cay Caz Cun Cuk Cuy Cuw Cum Clc Clp Cla Clb Caw Ciw Cln Ctd Cro Cmtn Cmtr Cmst Csh
  have Tcn := i_eq Ccn
  have Tpn := i_eq Cpn
  have Tgn := i_eq Cgn
  have Tan := i_eq Can
  have Tun := i_eq Cun
  have Tlc := i_eq Clc
  have Tln := i_eq Cln
  refine lv_aload_n hx hb dL_law_1005 rfl (lv_at hl 1 rfl) ?_
  refine law_arg (v := 1) hx hb hX hbl hbA hS (lv_at hl 0 rfl) (lv_at hl 3 rfl) (by decide) hak1 exk1 dL_law_1006 dL_law_1007 dL_law_1008 dL_law_1009 dL_law_1010 ?_
  refine law_arg (v := 2) hx hb hX hbl hbA hS (lv_at hl 0 rfl) (lv_at hl 3 rfl) (by decide) hak2 exk2 dL_law_1011 dL_law_1012 dL_law_1013 dL_law_1014 dL_law_1015 ?_
  refine law_arg (v := 3) hx hb hX hbl hbA hS (lv_at hl 0 rfl) (lv_at hl 3 rfl) (by decide) hak3 exk3 dL_law_1016 dL_law_1017 dL_law_1018 dL_law_1019 dL_law_1020 ?_
  refine law_arg (v := 4) hx hb hX hbl hbA hS (lv_at hl 0 rfl) (lv_at hl 3 rfl) (by decide) hak4 exk4 dL_law_1021 dL_law_1022 dL_law_1023 dL_law_1024 dL_law_1025 ?_
  refine st_iU (va_runV (C := RX10) (As := [.int xk1, .int xk2, .int xk3, .int xk4]) (rest := []) ⟨hx, hb, hml, hown, hts⟩ (ct_X10_act l D cI cY cJ cQ _ ad (nx 0) (nx 1) (nx 2) (nx 4) (nx 15) (fx 34) (fx 35) (fx 36) (fx 37) xk1 xk2 xk3 xk4 Xana Xanb) (cwV 4 hts gL_law_X10_act rfl rfl rfl ⟨rfl, cdX10_act⟩ ⟨Nat.le_of_ble_eq_true rfl, Nat.le_of_ble_eq_true rfl⟩) (cPreV (hP.sub [0, 23, 50, 51, 52, 53, 54] rfl) hK (hD.sub [0, 23, 50, 51, 52, 53, 54] (by decide +kernel) rfl) hN (ci := 10) (q0 := 0) rfl rfl) rfl rfl hl.1 rfl (lv_room (Nat.le_of_ble_eq_true rfl)) dL_law_1026 ⟨Nat.le_of_ble_eq_true rfl, Nat.le_of_ble_eq_true rfl⟩) hP hD hS hA [0, 23, 50, 51, 52, 53, 54] rfl (fun _ => rfl) (fun r3 u1 H locs hw2 => ?_)
  clear hP hS
  intro hP hS
  obtain ⟨an_4, ak_5, ah_6, ay_7, az_8⟩ := u1
  replace hw2 : (r3, (an_4, ak_5, ah_6, ay_7, az_8)) = sp_act (nx 15) (fx 34) (fx 35) (fx 36) (fx 37) (nx 4) xk1 xk2 xk3 xk4 := hw2
  obtain ⟨hw2a, hw2b⟩ := sp_act_ok hw2 (by omega) (by omega)
  refine lv_pop hx hb dL_law_1029 rfl ?_
  have hPx : va_P D vwCl (wX ad rw sd cI cY cJ cQ (upd nx 15 an_4) (upR (upR (upR (upR fx 34 ak_5) 35 ah_6) 36 ay_7) 37 az_8) rs lo ++ wM md sd cI cY cJ cQ ny fy fl) H := hP
  have hDx : va_D (fun q : Nat => s.heap.size ≤ q) (wX ad rw sd cI cY cJ cQ (upd nx 15 an_4) (upR (upR (upR (upR fx 34 ak_5) 35 ah_6) 36 ay_7) 37 az_8) rs lo ++ wM md sd cI cY cJ cQ ny fy fl) := wXM_D hD
  have hP := hPx.comm
  have hD := hDx.comm
  refine lv_aload_n hx hb dL_law_1030 rfl (lv_at hl 2 rfl) ?_
  refine law_arg (v := 1) hx hb hX hbl hbA hS (lv_at hl 0 rfl) (lv_at hl 3 rfl) (by decide) hak1 exk1 dL_law_1031 dL_law_1032 dL_law_1033 dL_law_1034 dL_law_1035 ?_
  refine law_arg (v := 2) hx hb hX hbl hbA hS (lv_at hl 0 rfl) (lv_at hl 3 rfl) (by decide) hak2 exk2 dL_law_1036 dL_law_1037 dL_law_1038 dL_law_1039 dL_law_1040 ?_
  refine law_arg (v := 3) hx hb hX hbl hbA hS (lv_at hl 0 rfl) (lv_at hl 3 rfl) (by decide) hak3 exk3 dL_law_1041 dL_law_1042 dL_law_1043 dL_law_1044 dL_law_1045 ?_
  refine law_arg (v := 4) hx hb hX hbl hbA hS (lv_at hl 0 rfl) (lv_at hl 3 rfl) (by decide) hak4 exk4 dL_law_1046 dL_law_1047 dL_law_1048 dL_law_1049 dL_law_1050 ?_
  refine st_iU (va_runV (C := RX11) (As := [.int xk1, .int xk2, .int xk3, .int xk4]) (rest := []) ⟨hx, hb, hml, hown, hts⟩ (ct_X11_act l D cI cY cJ cQ _ md sd (ny 0) (ny 1) (ny 2) (ny 3) (ny 4) (ny 5) (ny 6) (ny 7) (ny 8) (ny 9) (ny 10) (ny 11) (ny 12) (ny 13) (ny 14) (ny 15) (ny 16) (ny 17) (ny 18) (ny 19) (ny 20) (ny 21) (ny 22) (fy 24) (fy 25) (fy 26) (fy 27) xk1 xk2 xk3 xk4 (by omega) (by omega) (by omega) (by omega)) (cwV 4 hts gL_law_X11_act rfl rfl rfl ⟨rfl, cdX11_act⟩ ⟨Nat.le_of_ble_eq_true rfl, Nat.le_of_ble_eq_true rfl⟩) (cPreV (hP.sub [0, 26, 27, 28, 29] rfl) hK (hD.sub [0, 26, 27, 28, 29] (by decide +kernel) rfl) hN (ci := 11) (q0 := 0) rfl rfl) rfl rfl hl.1 rfl (lv_room (Nat.le_of_ble_eq_true rfl)) dL_law_1051 ⟨Nat.le_of_ble_eq_true rfl, Nat.le_of_ble_eq_true rfl⟩) hP hD hS hA [0, 26, 27, 28, 29] rfl (fun _ => rfl) (fun r11 u9 H locs hw10 => ?_)
  clear hP hS
  intro hP hS
  obtain ⟨an_12, ak_13, ah_14, ay_15, az_16⟩ := u9
  replace hw10 : (r11, (an_12, ak_13, ah_14, ay_15, az_16)) = sp_act (ny 18) (fy 24) (fy 25) (fy 26) (fy 27) (ny 3) xk1 xk2 xk3 xk4 := hw10
  rw [Can, Cak, Cah, Cay, Caz, Ccn] at hw10
  have e9 := hw2.trans hw10.symm
  simp only [Prod.mk.injEq] at e9
  obtain ⟨e90, e9an, e9ak, e9ah, e9ay, e9az⟩ := e9
  refine lv_pop hx hb dL_law_1054 rfl ?_
  refine lv_goto (tgt := 1652) hx hb dL_law_1055 (by decide) ?_
  have hPm : va_P D vwCl (wM md sd cI cY cJ cQ (upd (upd ny 0 0) 18 an_12) (upR (upR (upR (upR fy 24 ak_13) 25 ah_14) 26 ay_15) 27 az_16) fl ++ wX ad rw sd cI cY cJ cQ (upd nx 15 an_4) (upR (upR (upR (upR fx 34 ak_5) 35 ah_6) 36 ay_7) 37 az_8) rs lo) H := hP
  have hDm : va_D (fun q : Nat => s.heap.size ≤ q) (wM md sd cI cY cJ cQ (upd (upd ny 0 0) 18 an_12) (upR (upR (upR (upR fy 24 ak_13) 25 ah_14) 26 ay_15) 27 az_16) fl ++ wX ad rw sd cI cY cJ cQ (upd nx 15 an_4) (upR (upR (upR (upR fx 34 ak_5) 35 ah_6) 36 ay_7) 37 az_8) rs lo) := wMX_D hD
  exact kk (upd nx 15 an_4) (upR (upR (upR (upR fx 34 ak_5) 35 ah_6) 36 ay_7) 37 az_8) rs lo (upd (upd ny 0 0) 18 an_12) (upR (upR (upR (upR fy 24 ak_13) 25 ah_14) 26 ay_15) 27 az_16) fl H locs ls ⟨Xhna, Xhnb, XH, XD, XV, XN, Xcna, Xcnb, XF, Xpna, Xpnb, XG, XO, XW, Xgna, Xgnb, XJ, Xlna, Xlnb, Xdla, Xdlb, (by show 0 ≤ (an_4).toInt; omega), (by show (an_4).toInt ≤ 60; omega), Xuna, Xunb, XU, Xlca, Xlcb, Xtna, Xtnb, XS, Mhna, Mhnb, MH, MS, Mmlna, Mmlnb, Mmtna, Mmtnb, Chn, Cho, Chc, Chp, Chs, Ccn, Cfo, Cwo, Cpn, Cpk, Cpf, Cpo, Cpd, Cpe, Cgn, Cgk, Cgs, Cgd, Cge, (show (an_12) = (an_4) from e9an.symm), (show (ak_13) = (ak_5) from e9ak.symm), (show (ah_14) = (ah_6) from e9ah.symm), (show (ay_15) = (ay_7) from e9ay.symm), (show (az_16) = (az_8) from e9az.symm), Cun, Cuk, Cuy, Cuw, Cum, Clc, Clp, Cla, Clb, Caw, Ciw, Cln, Ctd, Cro, Cmtn, Cmtr, Cmst, Csh⟩ hPm.comm hDm.comm hS hl
