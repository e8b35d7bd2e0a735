theorem cdX10_feed : yX10_feed.cls ≠ "java/lang/invoke/MethodHandle" ∧ yX10_feed.cls ≠ "java/lang/invoke/VarHandle" ∧ (parseMethodDescriptor yX10_feed.desc).map (fun d => d.parameters.length) = some 2 := by decide +kernel
theorem cdX10_duties : yX10_duties.cls ≠ "java/lang/invoke/MethodHandle" ∧ yX10_duties.cls ≠ "java/lang/invoke/VarHandle" ∧ (parseMethodDescriptor yX10_duties.desc).map (fun d => d.parameters.length) = some 0 := by decide +kernel
theorem cdX10_fault : yX10_fault.cls ≠ "java/lang/invoke/MethodHandle" ∧ yX10_fault.cls ≠ "java/lang/invoke/VarHandle" ∧ (parseMethodDescriptor yX10_fault.desc).map (fun d => d.parameters.length) = some 0 := by decide +kernel
theorem cdX10_act : yX10_act.cls ≠ "java/lang/invoke/MethodHandle" ∧ yX10_act.cls ≠ "java/lang/invoke/VarHandle" ∧ (parseMethodDescriptor yX10_act.desc).map (fun d => d.parameters.length) = some 4 := by decide +kernel
theorem cdX11_feed : yX11_feed.cls ≠ "java/lang/invoke/MethodHandle" ∧ yX11_feed.cls ≠ "java/lang/invoke/VarHandle" ∧ (parseMethodDescriptor yX11_feed.desc).map (fun d => d.parameters.length) = some 2 := by decide +kernel
theorem cdX11_duties : yX11_duties.cls ≠ "java/lang/invoke/MethodHandle" ∧ yX11_duties.cls ≠ "java/lang/invoke/VarHandle" ∧ (parseMethodDescriptor yX11_duties.desc).map (fun d => d.parameters.length) = some 0 := by decide +kernel
theorem cdX11_fault : yX11_fault.cls ≠ "java/lang/invoke/MethodHandle" ∧ yX11_fault.cls ≠ "java/lang/invoke/VarHandle" ∧ (parseMethodDescriptor yX11_fault.desc).map (fun d => d.parameters.length) = some 0 := by decide +kernel
theorem cdX11_act : yX11_act.cls ≠ "java/lang/invoke/MethodHandle" ∧ yX11_act.cls ≠ "java/lang/invoke/VarHandle" ∧ (parseMethodDescriptor yX11_act.desc).map (fun d => d.parameters.length) = some 4 := by decide +kernel
set_option maxRecDepth 20000 in
theorem ggL_law_X10_feed : GoodIn wsL_law wsX10_feed := goodIn_ch _ [(24, 4), (8, 8), (1, 16), (24, 5), (12, 2), (12, 12), (12, 13), (0, 2), (12, 14), (24, 6), (24, 7), (24, 8), (1, 15), (24, 9), (24, 10), (4, 19), (48, 0), (48, 1), (48, 2), (48, 3), (48, 4), (48, 5), (48, 6), (48, 7), (48, 8), (48, 9), (48, 10), (48, 11), (48, 12), (48, 13), (55, 0), (55, 1), (55, 2), (55, 3), (55, 4), (55, 5), (55, 6), (55, 7), (55, 8), (55, 9), (55, 10), (55, 11), (55, 12), (55, 13), (55, 14)] rfl (by decide +kernel)
set_option maxRecDepth 20000 in
theorem gL_law_X10_feed : GoodIn wsL_law (wsV RL 92 RX10 yX10_feed wsX10_feed) := goodIn_app (goodIn_ch _ [(24, 1), (24, 2), (24, 3), (0, 2)] rfl (by decide +kernel)) ggL_law_X10_feed
set_option maxRecDepth 20000 in
theorem ggL_law_X11_feed : GoodIn wsL_law wsX11_feed := goodIn_ch _ [(24, 14), (9, 6), (24, 15), (9, 8), (24, 16), (13, 9), (7, 9), (24, 17), (9, 14), (9, 15), (0, 5), (9, 16), (49, 0), (49, 1), (49, 2), (49, 3), (49, 4), (49, 5), (49, 6), (49, 7), (49, 8), (49, 9), (49, 10), (49, 11), (49, 12), (49, 13), (49, 14), (49, 15), (49, 16), (49, 17), (49, 18), (49, 19), (49, 20), (49, 21), (49, 22), (49, 23), (49, 24), (49, 25), (49, 26), (49, 27), (49, 28), (49, 29), (49, 30), (49, 31), (49, 32), (49, 33), (49, 34), (49, 35), (49, 36), (49, 37), (49, 38), (49, 39), (49, 40), (49, 41), (49, 42), (49, 43), (49, 44), (49, 45), (49, 46), (49, 47), (49, 48), (49, 49), (49, 50), (49, 51), (49, 52), (49, 53), (49, 54), (49, 55), (49, 56), (49, 57), (49, 58), (49, 59), (49, 60), (49, 61), (49, 62), (49, 63)] rfl (by decide +kernel)
set_option maxRecDepth 20000 in
theorem gL_law_X11_feed : GoodIn wsL_law (wsV RL 96 RX11 yX11_feed wsX11_feed) := goodIn_app (goodIn_ch _ [(24, 11), (24, 12), (24, 13), (0, 5)] rfl (by decide +kernel)) ggL_law_X11_feed
set_option maxRecDepth 20000 in
theorem ggL_law_X10_duties : GoodIn wsL_law wsX10_duties := goodIn_ch _ [(24, 21), (1, 16), (24, 22), (24, 23), (25, 0), (1, 15), (25, 1), (25, 2), (25, 3), (25, 4), (24, 10), (25, 5), (25, 6), (25, 7), (25, 8), (25, 9), (25, 10), (25, 11), (25, 12), (4, 19), (25, 13), (25, 14), (25, 15), (25, 16), (25, 17), (25, 18), (25, 19), (25, 20), (25, 21), (25, 22), (25, 23), (26, 0), (26, 1), (26, 2), (26, 3), (26, 4), (26, 5), (26, 6), (26, 7), (26, 8), (26, 9), (26, 10), (26, 11), (26, 12), (26, 13), (26, 14), (26, 15), (26, 16), (26, 17), (26, 18), (26, 19), (26, 20), (26, 21), (26, 22), (26, 23), (27, 0), (27, 1), (27, 2), (27, 3), (27, 4), (27, 5), (27, 6), (27, 7), (27, 8), (27, 9), (27, 10), (27, 11), (27, 12), (27, 13), (27, 14), (27, 15), (27, 16), (27, 17), (27, 18), (27, 19), (27, 20), (27, 21), (27, 22), (27, 23), (28, 0), (28, 1), (28, 2), (28, 3), (28, 4), (4, 23), (5, 0), (28, 5), (28, 6), (28, 7), (28, 8), (5, 1), (28, 9), (28, 10), (28, 11), (28, 12), (4, 20), (28, 13), (11, 1), (11, 2), (11, 3), (4, 21), (4, 22), (48, 0), (48, 1), (48, 2), (48, 3), (48, 4), (48, 5), (48, 6), (48, 7), (48, 8), (48, 9), (48, 10), (48, 11), (48, 12), (48, 13), (55, 0), (55, 1), (55, 2), (55, 3), (55, 4), (55, 5), (55, 6), (55, 7), (55, 8), (55, 9), (55, 10), (55, 11), (55, 12), (55, 13), (55, 14)] rfl (by decide +kernel)
set_option maxRecDepth 20000 in
theorem gL_law_X10_duties : GoodIn wsL_law (wsV RL 97 RX10 yX10_duties wsX10_duties) := goodIn_app (goodIn_ch _ [(24, 18), (24, 19), (24, 20), (0, 2)] rfl (by decide +kernel)) ggL_law_X10_duties
set_option maxRecDepth 20000 in
theorem ggL_law_X11_duties : GoodIn wsL_law wsX11_duties := goodIn_ch _ [(28, 17), (9, 6), (24, 16), (28, 18), (28, 19), (28, 20), (28, 21), (28, 22), (28, 23), (29, 0), (29, 1), (29, 2), (8, 2), (29, 3), (7, 8), (29, 4), (29, 5), (29, 6), (29, 7), (7, 7), (29, 8), (29, 9), (29, 10), (0, 5), (29, 11), (29, 12), (29, 13), (29, 14), (29, 15), (29, 16), (29, 17), (7, 9), (29, 18), (29, 19), (29, 20), (29, 21), (29, 22), (29, 23), (30, 0), (30, 1), (30, 2), (30, 3), (30, 4), (30, 5), (30, 6), (30, 7), (30, 8), (30, 9), (30, 10), (30, 11), (30, 12), (30, 13), (30, 14), (30, 15), (30, 16), (30, 17), (30, 18), (30, 19), (49, 0), (49, 1), (49, 2), (49, 3), (49, 4), (49, 5), (49, 6), (49, 7), (49, 8), (49, 9), (49, 10), (49, 11), (49, 12), (49, 13), (49, 14), (49, 15), (49, 16), (49, 17), (49, 18), (49, 19), (49, 20), (49, 21), (49, 22), (49, 23), (49, 24), (49, 25), (49, 26), (49, 27), (49, 28), (49, 29), (49, 30), (49, 31), (49, 32), (49, 33), (49, 34), (49, 35), (49, 36), (49, 37), (49, 38), (49, 39), (49, 40), (49, 41), (49, 42), (49, 43), (49, 44), (49, 45), (49, 46), (49, 47), (49, 48), (49, 49), (49, 50), (49, 51), (49, 52), (49, 53), (49, 54), (49, 55), (49, 56), (49, 57), (49, 58), (49, 59), (49, 60), (49, 61), (49, 62), (49, 63)] rfl (by decide +kernel)
set_option maxRecDepth 20000 in
theorem gL_law_X11_duties : GoodIn wsL_law (wsV RL 101 RX11 yX11_duties wsX11_duties) := goodIn_app (goodIn_ch _ [(28, 14), (28, 15), (28, 16), (0, 5)] rfl (by decide +kernel)) ggL_law_X11_duties
set_option maxRecDepth 20000 in
theorem ggL_law_X10_fault : GoodIn wsL_law wsX10_fault := goodIn_ch _ [(30, 23), (1, 16), (31, 0), (48, 0), (48, 1), (48, 2), (48, 3), (48, 4), (48, 5), (48, 6), (48, 7), (48, 8), (48, 9), (48, 10), (48, 11), (48, 12), (48, 13), (55, 0), (55, 1), (55, 2), (55, 3), (55, 4), (55, 5), (55, 6), (55, 7), (55, 8), (55, 9), (55, 10), (55, 11), (55, 12), (55, 13), (55, 14)] rfl (by decide +kernel)
set_option maxRecDepth 20000 in
theorem gL_law_X10_fault : GoodIn wsL_law (wsV RL 102 RX10 yX10_fault wsX10_fault) := goodIn_app (goodIn_ch _ [(30, 20), (30, 21), (30, 22), (0, 2)] rfl (by decide +kernel)) ggL_law_X10_fault
set_option maxRecDepth 20000 in
theorem ggL_law_X11_fault : GoodIn wsL_law wsX11_fault := goodIn_ch _ [(31, 4), (9, 6), (29, 4), (49, 0), (49, 1), (49, 2), (49, 3), (49, 4), (49, 5), (49, 6), (49, 7), (49, 8), (49, 9), (49, 10), (49, 11), (49, 12), (49, 13), (49, 14), (49, 15), (49, 16), (49, 17), (49, 18), (49, 19), (49, 20), (49, 21), (49, 22), (49, 23), (49, 24), (49, 25), (49, 26), (49, 27), (49, 28), (49, 29), (49, 30), (49, 31), (49, 32), (49, 33), (49, 34), (49, 35), (49, 36), (49, 37), (49, 38), (49, 39), (49, 40), (49, 41), (49, 42), (49, 43), (49, 44), (49, 45), (49, 46), (49, 47), (49, 48), (49, 49), (49, 50), (49, 51), (49, 52), (49, 53), (49, 54), (49, 55), (49, 56), (49, 57), (49, 58), (49, 59), (49, 60), (49, 61), (49, 62), (49, 63)] rfl (by decide +kernel)
set_option maxRecDepth 20000 in
theorem gL_law_X11_fault : GoodIn wsL_law (wsV RL 105 RX11 yX11_fault wsX11_fault) := goodIn_app (goodIn_ch _ [(31, 1), (31, 2), (31, 3), (0, 5)] rfl (by decide +kernel)) ggL_law_X11_fault
set_option maxRecDepth 20000 in
theorem ggL_law_X10_act : GoodIn wsL_law wsX10_act := goodIn_ch _ [(31, 8), (8, 8), (1, 20), (31, 9), (12, 2), (19, 9), (19, 10), (19, 11), (0, 2), (19, 12), (1, 4), (18, 16), (8, 9), (8, 10), (8, 11), (12, 15), (12, 16), (12, 17), (12, 12), (12, 13), (12, 14), (31, 10), (31, 11), (31, 12), (1, 19), (31, 13), (5, 5), (31, 14), (5, 6), (5, 7), (5, 8), (48, 0), (48, 1), (48, 2), (48, 3), (48, 4), (48, 5), (48, 6), (48, 7), (48, 8), (48, 9), (48, 10), (48, 11), (48, 12), (48, 13), (56, 0), (56, 1), (56, 2), (56, 3), (56, 4), (52, 0), (52, 1), (52, 2), (52, 3), (52, 4), (52, 5)] rfl (by decide +kernel)
set_option maxRecDepth 20000 in
theorem gL_law_X10_act : GoodIn wsL_law (wsV RL 106 RX10 yX10_act wsX10_act) := goodIn_app (goodIn_ch _ [(31, 5), (31, 6), (31, 7), (0, 2)] rfl (by decide +kernel)) ggL_law_X10_act
set_option maxRecDepth 20000 in
theorem ggL_law_X11_act : GoodIn wsL_law wsX11_act := goodIn_ch _ [(31, 18), (9, 6), (23, 20), (31, 19), (9, 8), (31, 20), (13, 9), (7, 10), (7, 11), (7, 12), (7, 13), (20, 6), (20, 7), (20, 8), (0, 5), (20, 9), (19, 3), (9, 14), (9, 15), (9, 16), (13, 18), (13, 19), (13, 20), (13, 21), (49, 0), (49, 1), (49, 2), (49, 3), (49, 4), (49, 5), (49, 6), (49, 7), (49, 8), (49, 9), (49, 10), (49, 11), (49, 12), (49, 13), (49, 14), (49, 15), (49, 16), (49, 17), (49, 18), (49, 19), (49, 20), (49, 21), (49, 22), (49, 23), (49, 24), (49, 25), (49, 26), (49, 27), (49, 28), (49, 29), (49, 30), (49, 31), (49, 32), (49, 33), (49, 34), (49, 35), (49, 36), (49, 37), (49, 38), (49, 39), (49, 40), (49, 41), (49, 42), (49, 43), (49, 44), (49, 45), (49, 46), (49, 47), (49, 48), (49, 49), (49, 50), (49, 51), (49, 52), (49, 53), (49, 54), (49, 55), (49, 56), (49, 57), (49, 58), (49, 59), (49, 60), (49, 61), (49, 62), (49, 63)] rfl (by decide +kernel)
set_option maxRecDepth 20000 in
theorem gL_law_X11_act : GoodIn wsL_law (wsV RL 109 RX11 yX11_act wsX11_act) := goodIn_app (goodIn_ch _ [(31, 15), (31, 16), (31, 17), (0, 5)] rfl (by decide +kernel)) ggL_law_X11_act
theorem dL_law_916 : decode cL_law 916 = .ok (.aload_n 1, 1) := dL_law_all53.2.2.2.2.1
theorem dL_law_917 : decode cL_law 917 = .ok (.aload_n 0, 1) := dL_law_all53.2.2.2.2.2.1
theorem dL_law_918 : decode cL_law 918 = .ok (.iload_n 3, 1) := dL_law_all53.2.2.2.2.2.2.1
theorem dL_law_919 : decode cL_law 919 = .ok (.iconst 1, 1) := dL_law_all53.2.2.2.2.2.2.2.1
theorem dL_law_920 : decode cL_law 920 = .ok (.iadd, 1) := dL_law_all53.2.2.2.2.2.2.2.2.1
theorem dL_law_921 : decode cL_law 921 = .ok (.iaload, 1) := dL_law_all53.2.2.2.2.2.2.2.2.2.1
theorem dL_law_922 : decode cL_law 922 = .ok (.i2l, 1) := dL_law_all53.2.2.2.2.2.2.2.2.2.2.1
theorem dL_law_923 : decode cL_law 923 = .ok (.bipush 32, 2) := dL_law_all53.2.2.2.2.2.2.2.2.2.2.2
theorem dL_law_all54 : decode cL_law 925 = .ok (.lshl, 1) ∧ decode cL_law 926 = .ok (.aload_n 0, 1) ∧ decode cL_law 927 = .ok (.iload_n 3, 1) ∧ decode cL_law 928 = .ok (.iconst 2, 1) ∧ decode cL_law 929 = .ok (.iadd, 1) ∧ decode cL_law 930 = .ok (.iaload, 1) ∧ decode cL_law 931 = .ok (.i2l, 1) ∧ decode cL_law 932 = .ok (.ldc2_w 90, 3) ∧ decode cL_law 935 = .ok (.land, 1) ∧ decode cL_law 936 = .ok (.lor, 1) ∧ decode cL_law 937 = .ok (.aload_n 0, 1) ∧ decode cL_law 938 = .ok (.iload_n 3, 1) := by decide +kernel
theorem dL_law_925 : decode cL_law 925 = .ok (.lshl, 1) := dL_law_all54.1
theorem dL_law_926 : decode cL_law 926 = .ok (.aload_n 0, 1) := dL_law_all54.2.1
theorem dL_law_927 : decode cL_law 927 = .ok (.iload_n 3, 1) := dL_law_all54.2.2.1
theorem dL_law_928 : decode cL_law 928 = .ok (.iconst 2, 1) := dL_law_all54.2.2.2.1
theorem dL_law_929 : decode cL_law 929 = .ok (.iadd, 1) := dL_law_all54.2.2.2.2.1
theorem dL_law_930 : decode cL_law 930 = .ok (.iaload, 1) := dL_law_all54.2.2.2.2.2.1
theorem dL_law_931 : decode cL_law 931 = .ok (.i2l, 1) := dL_law_all54.2.2.2.2.2.2.1
theorem dL_law_932 : decode cL_law 932 = .ok (.ldc2_w 90, 3) := dL_law_all54.2.2.2.2.2.2.2.1
theorem dL_law_935 : decode cL_law 935 = .ok (.land, 1) := dL_law_all54.2.2.2.2.2.2.2.2.1
theorem dL_law_936 : decode cL_law 936 = .ok (.lor, 1) := dL_law_all54.2.2.2.2.2.2.2.2.2.1
theorem dL_law_937 : decode cL_law 937 = .ok (.aload_n 0, 1) := dL_law_all54.2.2.2.2.2.2.2.2.2.2.1
theorem dL_law_938 : decode cL_law 938 = .ok (.iload_n 3, 1) := dL_law_all54.2.2.2.2.2.2.2.2.2.2.2
theorem dL_law_all55 : decode cL_law 939 = .ok (.iconst 3, 1) ∧ decode cL_law 940 = .ok (.iadd, 1) ∧ decode cL_law 941 = .ok (.iaload, 1) ∧ decode cL_law 942 = .ok (.invokevirtual 92, 3) ∧ decode cL_law 945 = .ok (.pop, 1) ∧ decode cL_law 946 = .ok (.aload_n 2, 1) ∧ decode cL_law 947 = .ok (.aload_n 0, 1) ∧ decode cL_law 948 = .ok (.iload_n 3, 1) ∧ decode cL_law 949 = .ok (.iconst 1, 1) ∧ decode cL_law 950 = .ok (.iadd, 1) ∧ decode cL_law 951 = .ok (.iaload, 1) ∧ decode cL_law 952 = .ok (.i2l, 1) := by decide +kernel
theorem dL_law_939 : decode cL_law 939 = .ok (.iconst 3, 1) := dL_law_all55.1
theorem dL_law_940 : decode cL_law 940 = .ok (.iadd, 1) := dL_law_all55.2.1
theorem dL_law_941 : decode cL_law 941 = .ok (.iaload, 1) := dL_law_all55.2.2.1
theorem dL_law_942 : decode cL_law 942 = .ok (.invokevirtual 92, 3) := dL_law_all55.2.2.2.1
theorem dL_law_945 : decode cL_law 945 = .ok (.pop, 1) := dL_law_all55.2.2.2.2.1
theorem dL_law_946 : decode cL_law 946 = .ok (.aload_n 2, 1) := dL_law_all55.2.2.2.2.2.1
theorem dL_law_947 : decode cL_law 947 = .ok (.aload_n 0, 1) := dL_law_all55.2.2.2.2.2.2.1
theorem dL_law_948 : decode cL_law 948 = .ok (.iload_n 3, 1) := dL_law_all55.2.2.2.2.2.2.2.1
theorem dL_law_949 : decode cL_law 949 = .ok (.iconst 1, 1) := dL_law_all55.2.2.2.2.2.2.2.2.1
theorem dL_law_950 : decode cL_law 950 = .ok (.iadd, 1) := dL_law_all55.2.2.2.2.2.2.2.2.2.1
theorem dL_law_951 : decode cL_law 951 = .ok (.iaload, 1) := dL_law_all55.2.2.2.2.2.2.2.2.2.2.1
theorem dL_law_952 : decode cL_law 952 = .ok (.i2l, 1) := dL_law_all55.2.2.2.2.2.2.2.2.2.2.2
theorem dL_law_all56 : decode cL_law 953 = .ok (.bipush 32, 2) ∧ decode cL_law 955 = .ok (.lshl, 1) ∧ decode cL_law 956 = .ok (.aload_n 0, 1) ∧ decode cL_law 957 = .ok (.iload_n 3, 1) ∧ decode cL_law 958 = .ok (.iconst 2, 1) ∧ decode cL_law 959 = .ok (.iadd, 1) ∧ decode cL_law 960 = .ok (.iaload, 1) ∧ decode cL_law 961 = .ok (.i2l, 1) ∧ decode cL_law 962 = .ok (.ldc2_w 90, 3) ∧ decode cL_law 965 = .ok (.land, 1) ∧ decode cL_law 966 = .ok (.lor, 1) ∧ decode cL_law 967 = .ok (.aload_n 0, 1) := by decide +kernel
theorem dL_law_953 : decode cL_law 953 = .ok (.bipush 32, 2) := dL_law_all56.1
theorem dL_law_955 : decode cL_law 955 = .ok (.lshl, 1) := dL_law_all56.2.1
theorem dL_law_956 : decode cL_law 956 = .ok (.aload_n 0, 1) := dL_law_all56.2.2.1
theorem dL_law_957 : decode cL_law 957 = .ok (.iload_n 3, 1) := dL_law_all56.2.2.2.1
theorem dL_law_958 : decode cL_law 958 = .ok (.iconst 2, 1) := dL_law_all56.2.2.2.2.1
theorem dL_law_959 : decode cL_law 959 = .ok (.iadd, 1) := dL_law_all56.2.2.2.2.2.1
theorem dL_law_960 : decode cL_law 960 = .ok (.iaload, 1) := dL_law_all56.2.2.2.2.2.2.1
theorem dL_law_961 : decode cL_law 961 = .ok (.i2l, 1) := dL_law_all56.2.2.2.2.2.2.2.1
theorem dL_law_962 : decode cL_law 962 = .ok (.ldc2_w 90, 3) := dL_law_all56.2.2.2.2.2.2.2.2.1
theorem dL_law_965 : decode cL_law 965 = .ok (.land, 1) := dL_law_all56.2.2.2.2.2.2.2.2.2.1
theorem dL_law_966 : decode cL_law 966 = .ok (.lor, 1) := dL_law_all56.2.2.2.2.2.2.2.2.2.2.1
theorem dL_law_967 : decode cL_law 967 = .ok (.aload_n 0, 1) := dL_law_all56.2.2.2.2.2.2.2.2.2.2.2
theorem dL_law_all57 : decode cL_law 968 = .ok (.iload_n 3, 1) ∧ decode cL_law 969 = .ok (.iconst 3, 1) ∧ decode cL_law 970 = .ok (.iadd, 1) ∧ decode cL_law 971 = .ok (.iaload, 1) ∧ decode cL_law 972 = .ok (.invokevirtual 96, 3) ∧ decode cL_law 975 = .ok (.pop, 1) ∧ decode cL_law 976 = .ok (.goto 676, 3) ∧ decode cL_law 979 = .ok (.aload_n 1, 1) ∧ decode cL_law 980 = .ok (.invokevirtual 97, 3) ∧ decode cL_law 983 = .ok (.pop, 1) ∧ decode cL_law 984 = .ok (.aload_n 2, 1) ∧ decode cL_law 985 = .ok (.invokevirtual 101, 3) := by decide +kernel
theorem dL_law_968 : decode cL_law 968 = .ok (.iload_n 3, 1) := dL_law_all57.1
theorem dL_law_969 : decode cL_law 969 = .ok (.iconst 3, 1) := dL_law_all57.2.1
theorem dL_law_970 : decode cL_law 970 = .ok (.iadd, 1) := dL_law_all57.2.2.1
theorem dL_law_971 : decode cL_law 971 = .ok (.iaload, 1) := dL_law_all57.2.2.2.1
theorem dL_law_972 : decode cL_law 972 = .ok (.invokevirtual 96, 3) := dL_law_all57.2.2.2.2.1
theorem dL_law_975 : decode cL_law 975 = .ok (.pop, 1) := dL_law_all57.2.2.2.2.2.1
theorem dL_law_976 : decode cL_law 976 = .ok (.goto 676, 3) := dL_law_all57.2.2.2.2.2.2.1
theorem dL_law_979 : decode cL_law 979 = .ok (.aload_n 1, 1) := dL_law_all57.2.2.2.2.2.2.2.1
theorem dL_law_980 : decode cL_law 980 = .ok (.invokevirtual 97, 3) := dL_law_all57.2.2.2.2.2.2.2.2.1
theorem dL_law_983 : decode cL_law 983 = .ok (.pop, 1) := dL_law_all57.2.2.2.2.2.2.2.2.2.1
theorem dL_law_984 : decode cL_law 984 = .ok (.aload_n 2, 1) := dL_law_all57.2.2.2.2.2.2.2.2.2.2.1
theorem dL_law_985 : decode cL_law 985 = .ok (.invokevirtual 101, 3) := dL_law_all57.2.2.2.2.2.2.2.2.2.2.2
theorem dL_law_all58 : decode cL_law 988 = .ok (.pop, 1) ∧ decode cL_law 989 = .ok (.goto 663, 3) ∧ decode cL_law 992 = .ok (.aload_n 1, 1) ∧ decode cL_law 993 = .ok (.invokevirtual 102, 3) ∧ decode cL_law 996 = .ok (.pop, 1) ∧ decode cL_law 997 = .ok (.aload_n 2, 1) ∧ decode cL_law 998 = .ok (.invokevirtual 105, 3) ∧ decode cL_law 1001 = .ok (.pop, 1) ∧ decode cL_law 1002 = .ok (.goto 650, 3) ∧ decode cL_law 1005 = .ok (.aload_n 1, 1) ∧ decode cL_law 1006 = .ok (.aload_n 0, 1) ∧ decode cL_law 1007 = .ok (.iload_n 3, 1) := by decide +kernel
theorem dL_law_988 : decode cL_law 988 = .ok (.pop, 1) := dL_law_all58.1
theorem dL_law_989 : decode cL_law 989 = .ok (.goto 663, 3) := dL_law_all58.2.1
theorem dL_law_992 : decode cL_law 992 = .ok (.aload_n 1, 1) := dL_law_all58.2.2.1
theorem dL_law_993 : decode cL_law 993 = .ok (.invokevirtual 102, 3) := dL_law_all58.2.2.2.1
theorem dL_law_996 : decode cL_law 996 = .ok (.pop, 1) := dL_law_all58.2.2.2.2.1
theorem dL_law_997 : decode cL_law 997 = .ok (.aload_n 2, 1) := dL_law_all58.2.2.2.2.2.1
theorem dL_law_998 : decode cL_law 998 = .ok (.invokevirtual 105, 3) := dL_law_all58.2.2.2.2.2.2.1
theorem dL_law_1001 : decode cL_law 1001 = .ok (.pop, 1) := dL_law_all58.2.2.2.2.2.2.2.1
theorem dL_law_1002 : decode cL_law 1002 = .ok (.goto 650, 3) := dL_law_all58.2.2.2.2.2.2.2.2.1
theorem dL_law_1005 : decode cL_law 1005 = .ok (.aload_n 1, 1) := dL_law_all58.2.2.2.2.2.2.2.2.2.1
theorem dL_law_1006 : decode cL_law 1006 = .ok (.aload_n 0, 1) := dL_law_all58.2.2.2.2.2.2.2.2.2.2.1
theorem dL_law_1007 : decode cL_law 1007 = .ok (.iload_n 3, 1) := dL_law_all58.2.2.2.2.2.2.2.2.2.2.2
theorem dL_law_all59 : decode cL_law 1008 = .ok (.iconst 1, 1) ∧ decode cL_law 1009 = .ok (.iadd, 1) ∧ decode cL_law 1010 = .ok (.iaload, 1) ∧ decode cL_law 1011 = .ok (.aload_n 0, 1) ∧ decode cL_law 1012 = .ok (.iload_n 3, 1) ∧ decode cL_law 1013 = .ok (.iconst 2, 1) ∧ decode cL_law 1014 = .ok (.iadd, 1) ∧ decode cL_law 1015 = .ok (.iaload, 1) ∧ decode cL_law 1016 = .ok (.aload_n 0, 1) ∧ decode cL_law 1017 = .ok (.iload_n 3, 1) ∧ decode cL_law 1018 = .ok (.iconst 3, 1) ∧ decode cL_law 1019 = .ok (.iadd, 1) := by decide +kernel
theorem dL_law_1008 : decode cL_law 1008 = .ok (.iconst 1, 1) := dL_law_all59.1
theorem dL_law_1009 : decode cL_law 1009 = .ok (.iadd, 1) := dL_law_all59.2.1
theorem dL_law_1010 : decode cL_law 1010 = .ok (.iaload, 1) := dL_law_all59.2.2.1
theorem dL_law_1011 : decode cL_law 1011 = .ok (.aload_n 0, 1) := dL_law_all59.2.2.2.1
theorem dL_law_1012 : decode cL_law 1012 = .ok (.iload_n 3, 1) := dL_law_all59.2.2.2.2.1
theorem dL_law_1013 : decode cL_law 1013 = .ok (.iconst 2, 1) := dL_law_all59.2.2.2.2.2.1
theorem dL_law_1014 : decode cL_law 1014 = .ok (.iadd, 1) := dL_law_all59.2.2.2.2.2.2.1
theorem dL_law_1015 : decode cL_law 1015 = .ok (.iaload, 1) := dL_law_all59.2.2.2.2.2.2.2.1
theorem dL_law_1016 : decode cL_law 1016 = .ok (.aload_n 0, 1) := dL_law_all59.2.2.2.2.2.2.2.2.1
theorem dL_law_1017 : decode cL_law 1017 = .ok (.iload_n 3, 1) := dL_law_all59.2.2.2.2.2.2.2.2.2.1
theorem dL_law_1018 : decode cL_law 1018 = .ok (.iconst 3, 1) := dL_law_all59.2.2.2.2.2.2.2.2.2.2.1
theorem dL_law_1019 : decode cL_law 1019 = .ok (.iadd, 1) := dL_law_all59.2.2.2.2.2.2.2.2.2.2.2
theorem dL_law_all60 : decode cL_law 1020 = .ok (.iaload, 1) ∧ decode cL_law 1021 = .ok (.aload_n 0, 1) ∧ decode cL_law 1022 = .ok (.iload_n 3, 1) ∧ decode cL_law 1023 = .ok (.iconst 4, 1) ∧ decode cL_law 1024 = .ok (.iadd, 1) ∧ decode cL_law 1025 = .ok (.iaload, 1) ∧ decode cL_law 1026 = .ok (.invokevirtual 106, 3) ∧ decode cL_law 1029 = .ok (.pop, 1) ∧ decode cL_law 1030 = .ok (.aload_n 2, 1) ∧ decode cL_law 1031 = .ok (.aload_n 0, 1) ∧ decode cL_law 1032 = .ok (.iload_n 3, 1) ∧ decode cL_law 1033 = .ok (.iconst 1, 1) := by decide +kernel
theorem dL_law_1020 : decode cL_law 1020 = .ok (.iaload, 1) := dL_law_all60.1
theorem dL_law_1021 : decode cL_law 1021 = .ok (.aload_n 0, 1) := dL_law_all60.2.1
theorem dL_law_1022 : decode cL_law 1022 = .ok (.iload_n 3, 1) := dL_law_all60.2.2.1
theorem dL_law_1023 : decode cL_law 1023 = .ok (.iconst 4, 1) := dL_law_all60.2.2.2.1
theorem dL_law_1024 : decode cL_law 1024 = .ok (.iadd, 1) := dL_law_all60.2.2.2.2.1
theorem dL_law_1025 : decode cL_law 1025 = .ok (.iaload, 1) := dL_law_all60.2.2.2.2.2.1
theorem dL_law_1026 : decode cL_law 1026 = .ok (.invokevirtual 106, 3) := dL_law_all60.2.2.2.2.2.2.1
theorem dL_law_1029 : decode cL_law 1029 = .ok (.pop, 1) := dL_law_all60.2.2.2.2.2.2.2.1
theorem dL_law_1030 : decode cL_law 1030 = .ok (.aload_n 2, 1) := dL_law_all60.2.2.2.2.2.2.2.2.1
theorem dL_law_1031 : decode cL_law 1031 = .ok (.aload_n 0, 1) := dL_law_all60.2.2.2.2.2.2.2.2.2.1
theorem dL_law_1032 : decode cL_law 1032 = .ok (.iload_n 3, 1) := dL_law_all60.2.2.2.2.2.2.2.2.2.2.1
theorem dL_law_1033 : decode cL_law 1033 = .ok (.iconst 1, 1) := dL_law_all60.2.2.2.2.2.2.2.2.2.2.2
theorem dL_law_all61 : decode cL_law 1034 = .ok (.iadd, 1) ∧ decode cL_law 1035 = .ok (.iaload, 1) ∧ decode cL_law 1036 = .ok (.aload_n 0, 1) ∧ decode cL_law 1037 = .ok (.iload_n 3, 1) ∧ decode cL_law 1038 = .ok (.iconst 2, 1) ∧ decode cL_law 1039 = .ok (.iadd, 1) ∧ decode cL_law 1040 = .ok (.iaload, 1) ∧ decode cL_law 1041 = .ok (.aload_n 0, 1) ∧ decode cL_law 1042 = .ok (.iload_n 3, 1) ∧ decode cL_law 1043 = .ok (.iconst 3, 1) ∧ decode cL_law 1044 = .ok (.iadd, 1) ∧ decode cL_law 1045 = .ok (.iaload, 1) := by decide +kernel
theorem dL_law_1034 : decode cL_law 1034 = .ok (.iadd, 1) := dL_law_all61.1
theorem dL_law_1035 : decode cL_law 1035 = .ok (.iaload, 1) := dL_law_all61.2.1
theorem dL_law_1036 : decode cL_law 1036 = .ok (.aload_n 0, 1) := dL_law_all61.2.2.1
theorem dL_law_1037 : decode cL_law 1037 = .ok (.iload_n 3, 1) := dL_law_all61.2.2.2.1
theorem dL_law_1038 : decode cL_law 1038 = .ok (.iconst 2, 1) := dL_law_all61.2.2.2.2.1
theorem dL_law_1039 : decode cL_law 1039 = .ok (.iadd, 1) := dL_law_all61.2.2.2.2.2.1
theorem dL_law_1040 : decode cL_law 1040 = .ok (.iaload, 1) := dL_law_all61.2.2.2.2.2.2.1
theorem dL_law_1041 : decode cL_law 1041 = .ok (.aload_n 0, 1) := dL_law_all61.2.2.2.2.2.2.2.1
theorem dL_law_1042 : decode cL_law 1042 = .ok (.iload_n 3, 1) := dL_law_all61.2.2.2.2.2.2.2.2.1
theorem dL_law_1043 : decode cL_law 1043 = .ok (.iconst 3, 1) := dL_law_all61.2.2.2.2.2.2.2.2.2.1
theorem dL_law_1044 : decode cL_law 1044 = .ok (.iadd, 1) := dL_law_all61.2.2.2.2.2.2.2.2.2.2.1
theorem dL_law_1045 : decode cL_law 1045 = .ok (.iaload, 1) := dL_law_all61.2.2.2.2.2.2.2.2.2.2.2
theorem dL_law_all62 : decode cL_law 1046 = .ok (.aload_n 0, 1) ∧ decode cL_law 1047 = .ok (.iload_n 3, 1) ∧ decode cL_law 1048 = .ok (.iconst 4, 1) ∧ decode cL_law 1049 = .ok (.iadd, 1) ∧ decode cL_law 1050 = .ok (.iaload, 1) ∧ decode cL_law 1051 = .ok (.invokevirtual 109, 3) ∧ decode cL_law 1054 = .ok (.pop, 1) ∧ decode cL_law 1055 = .ok (.goto 597, 3) ∧ decode cL_law 1058 = .ok (.aload_n 1, 1) ∧ decode cL_law 1059 = .ok (.aload_n 0, 1) ∧ decode cL_law 1060 = .ok (.iload_n 3, 1) ∧ decode cL_law 1061 = .ok (.iconst 1, 1) := by decide +kernel
theorem dL_law_1046 : decode cL_law 1046 = .ok (.aload_n 0, 1) := dL_law_all62.1
theorem dL_law_1047 : decode cL_law 1047 = .ok (.iload_n 3, 1) := dL_law_all62.2.1
theorem dL_law_1048 : decode cL_law 1048 = .ok (.iconst 4, 1) := dL_law_all62.2.2.1
theorem dL_law_1049 : decode cL_law 1049 = .ok (.iadd, 1) := dL_law_all62.2.2.2.1
theorem dL_law_1050 : decode cL_law 1050 = .ok (.iaload, 1) := dL_law_all62.2.2.2.2.1
theorem dL_law_1051 : decode cL_law 1051 = .ok (.invokevirtual 109, 3) := dL_law_all62.2.2.2.2.2.1
theorem dL_law_1054 : decode cL_law 1054 = .ok (.pop, 1) := dL_law_all62.2.2.2.2.2.2.1
theorem dL_law_1055 : decode cL_law 1055 = .ok (.goto 597, 3) := dL_law_all62.2.2.2.2.2.2.2.1
set_option maxHeartbeats 4000000 in
set_option maxRecDepth 100000 in
theorem law_case_16 {p : Program} {l : Launch} {e : Env} {s : State} {m : MethodId} {below : List Frame} {meth : Method} {c : Code} {D : va_G} {cI cY cJ cQ : ClassId} {b L aK aV : Nat} {xs : Nat → Int32} {ad rw md : Nat → Nat} {sd i : Int32} {nx : Nat → Int32} {fx rs : Nat → Nat → Int32} {lo : Nat → Int64} {ny : Nat → Int32} {fy : Nat → Nat → Int32} {fl : Nat → Int64} {H : Heap} {locs : List Loc} {ls : Array Slot} (C0 : lawC p s m meth c b L xs D cI cY cJ cQ aK aV) (I : inv nx fx ny fy) (hP : va_P D vwCl (wX ad rw sd cI cY cJ cQ nx fx rs lo ++ wM md sd cI cY cJ cQ ny fy fl) H) (hD : va_D (fun q : Nat => s.heap.size ≤ q) (wX ad rw sd cI cY cJ cQ nx fx rs lo ++ wM md sd cI cY cJ cQ ny fy fl)) (hS : va_S (fun q : Nat => s.heap.size ≤ q) s.heap H locs) (hl : lv_has ls 4 [(0, .ref b), (1, .ref (ad 0)), (2, .ref (md 64)), (3, .int i)]) (hi1 : 1 ≤ i.toInt) (hi2 : i.toInt + 5 < L) (kk : ∀ (nx : Nat → Int32) (fx rs : Nat → Nat → Int32) (lo : Nat → Int64) (ny : Nat → Int32) (fy : Nat → Nat → Int32) (fl : Nat → Int64) (H : Heap) (locs : List Loc) (ls : Array Slot), inv nx fx ny fy → va_P D vwCl (wX ad rw sd cI cY cJ cQ nx fx rs lo ++ wM md sd cI cY cJ cQ ny fy fl) H → va_D (fun q : Nat => s.heap.size ≤ q) (wX ad rw sd cI cY cJ cQ nx fx rs lo ++ wM md sd cI cY cJ cQ ny fy fl) → va_S (fun q : Nat => s.heap.size ≤ q) s.heap H locs → lv_has ls 4 [(0, .ref b), (1, .ref (ad 0)), (2, .ref (md 64)), (3, .int i)] → W p l e room_1 s m #[Value.ref b] below meth c H locs 107 4890 (lw_Z below #[Value.ref b] s) (F0 m 1652 ls [])) : W p l e room_1 s m #[Value.ref b] below meth c H locs 107 4890 (lw_Z below #[Value.ref b] s) (F0 m 916 ls []) := by
  obtain ⟨C1, hK, hN, hT, hL⟩ := C0
  obtain ⟨hx, hb, hr, hml, hown, hts0, hX, hbl, hlocks, hgv⟩ := C1
  have hA : ∀ q : Nat, s.heap.size ≤ q → (fun q : Nat => s.heap.size ≤ q) q := fun _ h => h
  have hbA : ¬ (fun q : Nat => s.heap.size ≤ q) b := Nat.not_le.mpr hbl
  have hts : ∀ w ∈ wsL_law, w.before #[Value.ref b] s = true := fun w h => hts0 w (wsL_law_in w h)
  replace hown : s.vm.findClass RL = some m.cls := hown
  replace hb : c.code = cL_law := hb
  obtain ⟨Xhna, Xhnb, XH, Xcna, Xcnb, Xpna, Xpnb, XO, Xgna, Xgnb, Xlna, Xlnb, Xdla, Xdlb, Xana, Xanb, Xuna, Xunb, Xlca, Xlcb, Xtna, Xtnb, XS, Mhna, Mhnb, MH, MS, Mmlna, Mmlnb, Mmtna, Mmtnb, Ccn, Cfo, Cwo, Cpn, Cpk, Cpf, Cpo, Cpd, Cpe, Cgn, Cgk, Cgs, Cgd, Cge, Can, Cak, Cah, Cay, Caz, Cun, Cuk, Cuy, Cuw, Cum, Clc, Clp, Cla, Clb, Caw, Ciw, Cln, Ctd⟩ := I
  have Tcn := i_eq Ccn
  have Tpn := i_eq Cpn
  have Tgn := i_eq Cgn
  have Tan := i_eq Can
  have Tun := i_eq Cun
  have Tlc := i_eq Clc
  have Tln := i_eq Cln
  have k1 : (1 : Int32).toInt = 1 := by decide
  have k2 : (2 : Int32).toInt = 2 := by decide
  have k3 : (3 : Int32).toInt = 3 := by decide
  obtain ⟨xk1, exk1⟩ : ∃ y : Int32, y = xs (i.toNatClampNeg + 1) := ⟨_, rfl⟩
  obtain ⟨xk2, exk2⟩ : ∃ y : Int32, y = xs (i.toNatClampNeg + 2) := ⟨_, rfl⟩
  obtain ⟨xk3, exk3⟩ : ∃ y : Int32, y = xs (i.toNatClampNeg + 3) := ⟨_, rfl⟩
  refine lv_aload_n hx hb dL_law_916 rfl (lv_at hl 1 rfl) ?_
  refine lv_aload_n hx hb dL_law_917 rfl (lv_at hl 0 rfl) ?_
  refine lv_iload_n hx hb dL_law_918 rfl (lv_at hl 3 rfl) ?_
  refine lv_iconst (v := 1) hx hb dL_law_919 (by decide) ?_
  refine lv_iadd hx hb dL_law_920 ?_
  refine lv_topi (fun v1 ev1 => ?_)
  try have tv1 : v1.toInt = i.toInt + 1 := by rw [ev1]; exact (i_add (x := i) (y := (1 : Int32)) (by rw [k1]; omega) (by rw [k1]; omega)).trans (by rw [k1])
  refine va_sld hx hb hX hbl hbA hS (i_in (by omega) (by omega)) dL_law_921 ?_
  refine lv_topi (fun a2 ea2 => ?_)
  replace ea2 : xk1 = a2 := (ea2.trans (by rw [exk1]; congr 1; have := i_cl (x := v1) (by omega); have := i_cl (x := i) (by omega); omega)).symm
  subst ea2
  refine lv_i2l hx hb dL_law_922 rfl ?_
  refine lv_bipush (v := 32) hx hb dL_law_923 (by decide) ?_
  refine lv_lshl hx hb dL_law_925 rfl ?_
  refine lv_topl (fun z3 ez3 => ?_)
  refine lv_aload_n hx hb dL_law_926 rfl (lv_at hl 0 rfl) ?_
  refine lv_iload_n hx hb dL_law_927 rfl (lv_at hl 3 rfl) ?_
  refine lv_iconst (v := 2) hx hb dL_law_928 (by decide) ?_
  refine lv_iadd hx hb dL_law_929 ?_
  refine lv_topi (fun v4 ev4 => ?_)
  try have tv4 : v4.toInt = i.toInt + 2 := by rw [ev4]; exact (i_add (x := i) (y := (2 : Int32)) (by rw [k2]; omega) (by rw [k2]; omega)).trans (by rw [k2])
  refine va_sld hx hb hX hbl hbA hS (i_in (by omega) (by omega)) dL_law_930 ?_
  refine lv_topi (fun a5 ea5 => ?_)
  replace ea5 : xk2 = a5 := (ea5.trans (by rw [exk2]; congr 1; have := i_cl (x := v4) (by omega); have := i_cl (x := i) (by omega); omega)).symm
  subst ea5
  refine lv_i2l hx hb dL_law_931 rfl ?_
  refine lv_ldc2 hx hb hown (hts (Cond.constantLong RL 90 (4294967295)) (List.mem_append_left _ (List.mem_append_left _ (List.mem_append_left _ (List.mem_append_left _ (List.mem_append_left _ (List.mem_append_left _ (List.mem_append_left _ (List.mem_append_left _ (List.mem_append_left _ (List.mem_append_left _ (List.mem_append_left _ (List.mem_append_left _ (List.mem_append_left _ (List.mem_append_left _ (List.mem_of_getElem? (i := 6) rfl)))))))))))))))) dL_law_932 ?_
  refine lv_land hx hb dL_law_935 ?_
  refine lv_topl (fun z6 ez6 => ?_)
  refine lv_lor hx hb dL_law_936 ?_
  refine lv_topl (fun z7 ez7 => ?_)
  refine lv_aload_n hx hb dL_law_937 rfl (lv_at hl 0 rfl) ?_
  refine lv_iload_n hx hb dL_law_938 rfl (lv_at hl 3 rfl) ?_
  refine lv_iconst (v := 3) hx hb dL_law_939 (by decide) ?_
  refine lv_iadd hx hb dL_law_940 ?_
  refine lv_topi (fun v8 ev8 => ?_)
  try have tv8 : v8.toInt = i.toInt + 3 := by rw [ev8]; exact (i_add (x := i) (y := (3 : Int32)) (by rw [k3]; omega) (by rw [k3]; omega)).trans (by rw [k3])
  refine va_sld hx hb hX hbl hbA hS (i_in (by omega) (by omega)) dL_law_941 ?_
  refine lv_topi (fun a9 ea9 => ?_)
  replace ea9 : xk3 = a9 := (ea9.trans (by rw [exk3]; congr 1; have := i_cl (x := v8) (by omega); have := i_cl (x := i) (by omega); omega)).symm
  subst ea9
  refine st_iQ (wr := [((ad 11), .inl (cI, 16, .inl (fx 0))), ((rw 0), .inl (cI, 60, .inl (rs 0))), ((rw 1), .inl (cI, 60, .inl (rs 1))), ((rw 2), .inl (cI, 60, .inl (rs 2))), ((rw 3), .inl (cI, 60, .inl (rs 3))), ((rw 4), .inl (cI, 60, .inl (rs 4))), ((rw 5), .inl (cI, 60, .inl (rs 5))), ((rw 6), .inl (cI, 60, .inl (rs 6))), ((rw 7), .inl (cI, 60, .inl (rs 7))), ((ad 1), .inr (9, [.ref (ad 12), .ref (ad 13), .ref (ad 14)])), ((ad 12), .inl (cQ, 8, .inr (.inr (.inr (.inr (fun i => if i < 8 then some (rw i) else none)))))), ((ad 13), .inl (cI, 8, .inl (fx 1))), ((ad 14), .inl (cI, 8, .inl (fx 2))), ((ad 2), .inr (3, [.ref (ad 23), .ref (ad 24), .ref (ad 25), .ref (ad 26), .int (nx 3), .ref (ad 27), .ref (ad 28), .ref (ad 29), .ref (ad 30)])), ((ad 23), .inl (cI, 40, .inl (fx 3))), ((ad 24), .inl (cI, 40, .inl (fx 4))), ((ad 25), .inl (cI, 40, .inl (fx 5))), ((ad 26), .inl (cI, 40, .inl (fx 6))), ((ad 27), .inl (cI, 200, .inl (fx 7))), ((ad 28), .inl (cI, 200, .inl (fx 8))), ((ad 29), .inl (cI, 20, .inl (fx 9))), ((ad 30), .inl (cI, 10, .inl (fx 10))), ((ad 3), .inr (1, [.ref (ad 31), .ref (ad 32), .ref (ad 33), .int (nx 4), .ref (ad 34), .ref (ad 35)])), ((ad 31), .inl (cI, 12, .inl (fx 11))), ((ad 32), .inl (cI, 12, .inl (fx 12))), ((ad 33), .inl (cI, 12, .inl (fx 13))), ((ad 34), .inl (cI, 6, .inl (fx 14))), ((ad 35), .inl (cI, 6, .inl (fx 15))), ((ad 4), .inr (7, [.ref (ad 36), .ref (ad 37), .ref (ad 38), .ref (ad 39), .ref (ad 40), .ref (ad 41), .int (nx 5)])), ((ad 36), .inl (cI, 40, .inl (fx 16))), ((ad 37), .inl (cI, 40, .inl (fx 17))), ((ad 38), .inl (cI, 40, .inl (fx 18))), ((ad 39), .inl (cI, 40, .inl (fx 19))), ((ad 40), .inl (cI, 40, .inl (fx 20))), ((ad 41), .inl (cI, 40, .inl (fx 21))), ((ad 5), .inr (8, [.ref (ad 42), .ref (ad 43), .ref (ad 44), .ref (ad 45), .int (nx 6), .ref (ad 46)])), ((ad 42), .inl (cI, 40, .inl (fx 22))), ((ad 43), .inl (cI, 40, .inl (fx 23))), ((ad 44), .inl (cI, 40, .inl (fx 24))), ((ad 45), .inl (cI, 40, .inl (fx 25))), ((ad 46), .inl (cI, 40, .inl (fx 26))), ((ad 48), .inl (cI, 12, .inl (fx 28))), ((ad 49), .inl (cI, 12, .inl (fx 29))), ((ad 50), .inl (cI, 12, .inl (fx 30))), ((ad 51), .inl (cI, 12, .inl (fx 31))), ((ad 52), .inl (cI, 12, .inl (fx 32))), ((ad 53), .inl (cI, 12, .inl (fx 33))), ((ad 7), .inr (0, [.ref (ad 54), .ref (ad 55), .ref (ad 56), .ref (ad 57), .int (nx 15)])), ((ad 54), .inl (cI, 60, .inl (fx 34))), ((ad 55), .inl (cI, 60, .inl (fx 35))), ((ad 56), .inl (cI, 60, .inl (fx 36))), ((ad 57), .inl (cI, 60, .inl (fx 37))), ((ad 8), .inr (5, [.int sd, .ref (ad 58)])), ((ad 58), .inl (cJ, 12, .inr (.inl lo))), ((ad 9), .inr (6, [.ref (ad 59), .ref (ad 60), .ref (ad 61), .ref (ad 62), .int (nx 16)])), ((ad 59), .inl (cI, 60, .inl (fx 38))), ((ad 60), .inl (cI, 60, .inl (fx 39))), ((ad 61), .inl (cI, 60, .inl (fx 40))), ((ad 62), .inl (cI, 60, .inl (fx 41))), ((ad 10), .inr (4, [.ref (ad 63), .ref (ad 64), .ref (ad 65), .int (nx 17)])), ((ad 63), .inl (cI, 20, .inl (fx 42))), ((ad 64), .inl (cI, 20, .inl (fx 43))), ((ad 65), .inl (cI, 20, .inl (fx 44)))]) (va_runV (C := RX10) (As := [.long z7, .int xk3]) (rest := []) ⟨hx, hb, hml, hown, hts⟩ (ct_X10_feed l D cI cY cJ cQ _ ad (nx 0) (nx 1) (nx 2) (nx 7) (nx 8) (nx 9) (nx 10) (nx 11) (nx 12) (nx 13) (nx 14) (fx 27) z7 xk3 (by omega) (by omega)) (cwV 2 hts gL_law_X10_feed rfl rfl rfl ⟨rfl, cdX10_feed⟩ ⟨Nat.le_of_ble_eq_true rfl, Nat.le_of_ble_eq_true rfl⟩) (cPreV (hP.sub [0, 42, 43] rfl) hK (hD.sub [0, 42, 43] (by decide +kernel) rfl) hN (ci := 10) (q0 := 0) rfl rfl) rfl rfl hl.1 rfl (lv_room (Nat.le_of_ble_eq_true rfl)) dL_law_942 ⟨Nat.le_of_ble_eq_true rfl, Nat.le_of_ble_eq_true rfl⟩) hP hD hS hA [0, 42, 43] [1, 2, 3, 4, 5, 6, 7, 8, 9, 10, 11, 12, 13, 14, 15, 16, 17, 18, 19, 20, 21, 22, 23, 24, 25, 26, 27, 28, 29, 30, 31, 32, 33, 34, 35, 36, 37, 38, 39, 40, 41, 44, 45, 46, 47, 48, 49, 50, 51, 52, 53, 54, 55, 56, 57, 58, 59, 60, 61, 62, 63, 64, 65] rfl rfl (by decide +kernel) (by decide +kernel) (fun r12 u10 H locs hw11 hP hD hS => ?_)
  obtain ⟨ln_13, tp_14⟩ := u10
  replace hw11 : r12 = sp_feed (nx 7) xk3 ∧ ln_13 = sq_feed (nx 7) xk3 := hw11
  obtain ⟨hw11r, hw11n⟩ := hw11
  have hw11k := sq_feed_ok (n := xk3) Xlna Xlnb
  rw [← hw11n] at hw11k
  refine lv_pop hx hb dL_law_945 rfl ?_
  have hPx : va_P D vwCl (wX ad rw sd cI cY cJ cQ (upd nx 7 ln_13) (upR fx 27 tp_14) rs lo ++ wM md sd cI cY cJ cQ ny fy fl) H := hP.part [63, 0, 1, 2, 3, 4, 5, 6, 7, 8, 9, 10, 11, 12, 13, 14, 15, 16, 17, 18, 19, 20, 21, 22, 23, 24, 25, 26, 27, 28, 29, 30, 31, 32, 33, 34, 35, 36, 37, 38, 39, 40, 64, 65, 41, 42, 43, 44, 45, 46, 47, 48, 49, 50, 51, 52, 53, 54, 55, 56, 57, 58, 59, 60, 61, 62] rfl
  have hDx : va_D (fun q : Nat => s.heap.size ≤ q) (wX ad rw sd cI cY cJ cQ (upd nx 7 ln_13) (upR fx 27 tp_14) rs lo ++ wM md sd cI cY cJ cQ ny fy fl) := hD.part [63, 0, 1, 2, 3, 4, 5, 6, 7, 8, 9, 10, 11, 12, 13, 14, 15, 16, 17, 18, 19, 20, 21, 22, 23, 24, 25, 26, 27, 28, 29, 30, 31, 32, 33, 34, 35, 36, 37, 38, 39, 40, 64, 65, 41, 42, 43, 44, 45, 46, 47, 48, 49, 50, 51, 52, 53, 54, 55, 56, 57, 58, 59, 60, 61, 62] (by decide +kernel) rfl
  have hP := hPx.comm
  have hD := hDx.comm
  refine lv_aload_n hx hb dL_law_946 rfl (lv_at hl 2 rfl) ?_
  refine lv_aload_n hx hb dL_law_947 rfl (lv_at hl 0 rfl) ?_
  refine lv_iload_n hx hb dL_law_948 rfl (lv_at hl 3 rfl) ?_
  refine lv_iconst (v := 1) hx hb dL_law_949 (by decide) ?_
  refine lv_iadd hx hb dL_law_950 ?_
  refine lv_topi (fun v15 ev15 => ?_)
  try have tv15 : v15.toInt = i.toInt + 1 := by rw [ev15]; exact (i_add (x := i) (y := (1 : Int32)) (by rw [k1]; omega) (by rw [k1]; omega)).trans (by rw [k1])
  refine va_sld hx hb hX hbl hbA hS (i_in (by omega) (by omega)) dL_law_951 ?_
  refine lv_topi (fun a16 ea16 => ?_)
  replace ea16 : xk1 = a16 := (ea16.trans (by rw [exk1]; congr 1; have := i_cl (x := v15) (by omega); have := i_cl (x := i) (by omega); omega)).symm
  subst ea16
  refine lv_i2l hx hb dL_law_952 rfl ?_
  refine lv_bipush (v := 32) hx hb dL_law_953 (by decide) ?_
  refine lv_lshl hx hb dL_law_955 rfl ?_
  refine lv_topl (fun z17 ez17 => ?_)
  refine lv_aload_n hx hb dL_law_956 rfl (lv_at hl 0 rfl) ?_
  refine lv_iload_n hx hb dL_law_957 rfl (lv_at hl 3 rfl) ?_
  refine lv_iconst (v := 2) hx hb dL_law_958 (by decide) ?_
  refine lv_iadd hx hb dL_law_959 ?_
  refine lv_topi (fun v18 ev18 => ?_)
  try have tv18 : v18.toInt = i.toInt + 2 := by rw [ev18]; exact (i_add (x := i) (y := (2 : Int32)) (by rw [k2]; omega) (by rw [k2]; omega)).trans (by rw [k2])
  refine va_sld hx hb hX hbl hbA hS (i_in (by omega) (by omega)) dL_law_960 ?_
  refine lv_topi (fun a19 ea19 => ?_)
  replace ea19 : xk2 = a19 := (ea19.trans (by rw [exk2]; congr 1; have := i_cl (x := v18) (by omega); have := i_cl (x := i) (by omega); omega)).symm
  subst ea19
  refine lv_i2l hx hb dL_law_961 rfl ?_
  refine lv_ldc2 hx hb hown (hts (Cond.constantLong RL 90 (4294967295)) (List.mem_append_left _ (List.mem_append_left _ (List.mem_append_left _ (List.mem_append_left _ (List.mem_append_left _ (List.mem_append_left _ (List.mem_append_left _ (List.mem_append_left _ (List.mem_append_left _ (List.mem_append_left _ (List.mem_append_left _ (List.mem_append_left _ (List.mem_append_left _ (List.mem_append_left _ (List.mem_of_getElem? (i := 6) rfl)))))))))))))))) dL_law_962 ?_
  refine lv_land hx hb dL_law_965 ?_
  refine lv_topl (fun z20 ez20 => ?_)
  refine lv_lor hx hb dL_law_966 ?_
  refine lv_topl (fun z21 ez21 => ?_)
  refine lv_aload_n hx hb dL_law_967 rfl (lv_at hl 0 rfl) ?_
  refine lv_iload_n hx hb dL_law_968 rfl (lv_at hl 3 rfl) ?_
  refine lv_iconst (v := 3) hx hb dL_law_969 (by decide) ?_
  refine lv_iadd hx hb dL_law_970 ?_
  refine lv_topi (fun v22 ev22 => ?_)
  try have tv22 : v22.toInt = i.toInt + 3 := by rw [ev22]; exact (i_add (x := i) (y := (3 : Int32)) (by rw [k3]; omega) (by rw [k3]; omega)).trans (by rw [k3])
  refine va_sld hx hb hX hbl hbA hS (i_in (by omega) (by omega)) dL_law_971 ?_
  refine lv_topi (fun a23 ea23 => ?_)
  replace ea23 : xk3 = a23 := (ea23.trans (by rw [exk3]; congr 1; have := i_cl (x := v22) (by omega); have := i_cl (x := i) (by omega); omega)).symm
  subst ea23
  refine st_iQ (wr := [((md 3), .inl (cI, 8, .inl (fy 0))), ((md 4), .inl (cI, 8, .inl (fy 1))), ((md 5), .inl (cI, 480, .inl (fy 2))), ((md 7), .inl (cI, 40, .inl (fy 3))), ((md 8), .inl (cI, 40, .inl (fy 4))), ((md 9), .inl (cI, 40, .inl (fy 5))), ((md 10), .inl (cI, 40, .inl (fy 6))), ((md 11), .inl (cI, 200, .inl (fy 7))), ((md 12), .inl (cI, 12, .inl (fy 8))), ((md 13), .inl (cI, 12, .inl (fy 9))), ((md 14), .inl (cJ, 12, .inr (.inl fl))), ((md 16), .inl (cI, 12, .inl (fy 10))), ((md 17), .inl (cI, 12, .inl (fy 11))), ((md 19), .inl (cI, 40, .inl (fy 12))), ((md 20), .inl (cI, 40, .inl (fy 13))), ((md 21), .inl (cI, 40, .inl (fy 14))), ((md 22), .inl (cI, 40, .inl (fy 15))), ((md 23), .inl (cI, 40, .inl (fy 16))), ((md 26), .inl (cI, 40, .inl (fy 17))), ((md 27), .inl (cI, 40, .inl (fy 18))), ((md 28), .inl (cI, 40, .inl (fy 19))), ((md 29), .inl (cI, 40, .inl (fy 20))), ((md 31), .inl (cI, 36, .inl (fy 21))), ((md 33), .inl (cI, 36, .inl (fy 22))), ((md 45), .inl (cI, 60, .inl (fy 24))), ((md 46), .inl (cI, 60, .inl (fy 25))), ((md 47), .inl (cI, 60, .inl (fy 26))), ((md 48), .inl (cI, 60, .inl (fy 27))), ((md 49), .inl (cI, 6, .inl (fy 28))), ((md 50), .inl (cI, 6, .inl (fy 29))), ((md 51), .inl (cI, 12, .inl (fy 30))), ((md 53), .inl (cI, 60, .inl (fy 31))), ((md 54), .inl (cI, 60, .inl (fy 32))), ((md 55), .inl (cI, 60, .inl (fy 33))), ((md 56), .inl (cI, 60, .inl (fy 34))), ((md 58), .inl (cI, 20, .inl (fy 35))), ((md 59), .inl (cI, 20, .inl (fy 36))), ((md 60), .inl (cI, 20, .inl (fy 37))), ((md 62), .inl (cI, 16, .inl (fy 38)))]) (va_runV (C := RX11) (As := [.long z21, .int xk3]) (rest := []) ⟨hx, hb, hml, hown, hts⟩ (ct_X11_feed l D cI cY cJ cQ _ md sd (ny 0) (ny 1) (ny 2) (ny 3) (ny 4) (ny 5) (ny 6) (ny 7) (ny 8) (ny 9) (ny 10) (ny 11) (ny 12) (ny 13) (ny 14) (ny 15) (ny 16) (ny 17) (ny 18) (ny 19) (ny 20) (ny 21) (ny 22) (fy 23) z21 xk3 (by omega) (by omega)) (cwV 2 hts gL_law_X11_feed rfl rfl rfl ⟨rfl, cdX11_feed⟩ ⟨Nat.le_of_ble_eq_true rfl, Nat.le_of_ble_eq_true rfl⟩) (cPreV (hP.sub [0, 25] rfl) hK (hD.sub [0, 25] (by decide +kernel) rfl) hN (ci := 11) (q0 := 0) rfl rfl) rfl rfl hl.1 rfl (lv_room (Nat.le_of_ble_eq_true rfl)) dL_law_972 ⟨Nat.le_of_ble_eq_true rfl, Nat.le_of_ble_eq_true rfl⟩) hP hD hS hA [0, 25] [1, 2, 3, 4, 5, 6, 7, 8, 9, 10, 11, 12, 13, 14, 15, 16, 17, 18, 19, 20, 21, 22, 23, 24, 26, 27, 28, 29, 30, 31, 32, 33, 34, 35, 36, 37, 38, 39, 40] rfl rfl (by decide +kernel) (by decide +kernel) (fun r26 u24 H locs hw25 hP hD hS => ?_)
  obtain ⟨ln_27, mtp_28⟩ := u24
  replace hw25 : r26 = sp_feed (ny 9) xk3 ∧ ln_27 = sq_feed (ny 9) xk3 := hw25
  rw [Cln] at hw25
  obtain ⟨hw25r, hw25n⟩ := hw25
  have e90 := hw11r.trans hw25r.symm
  refine lv_pop hx hb dL_law_975 rfl ?_
  refine lv_goto (tgt := 1652) hx hb dL_law_976 (by decide) ?_
  have hPm : va_P D vwCl (wM md sd cI cY cJ cQ (upd (upd ny 0 0) 9 ln_27) (upR fy 23 mtp_28) fl ++ wX ad rw sd cI cY cJ cQ (upd nx 7 ln_13) (upR fx 27 tp_14) rs lo) H := hP.part [39, 0, 1, 2, 3, 4, 5, 6, 7, 8, 9, 10, 11, 12, 13, 14, 15, 16, 17, 18, 19, 20, 21, 22, 23, 40, 24, 25, 26, 27, 28, 29, 30, 31, 32, 33, 34, 35, 36, 37, 38] rfl
  have hDm : va_D (fun q : Nat => s.heap.size ≤ q) (wM md sd cI cY cJ cQ (upd (upd ny 0 0) 9 ln_27) (upR fy 23 mtp_28) fl ++ wX ad rw sd cI cY cJ cQ (upd nx 7 ln_13) (upR fx 27 tp_14) rs lo) := hD.part [39, 0, 1, 2, 3, 4, 5, 6, 7, 8, 9, 10, 11, 12, 13, 14, 15, 16, 17, 18, 19, 20, 21, 22, 23, 40, 24, 25, 26, 27, 28, 29, 30, 31, 32, 33, 34, 35, 36, 37, 38] (by decide +kernel) rfl
  exact kk (upd nx 7 ln_13) (upR fx 27 tp_14) rs lo (upd (upd ny 0 0) 9 ln_27) (upR fy 23 mtp_28) fl H locs ls ⟨Xhna, Xhnb, XH, Xcna, Xcnb, Xpna, Xpnb, XO, Xgna, Xgnb, (by show 0 ≤ (ln_13).toInt; omega), (by show (ln_13).toInt ≤ 300; omega), Xdla, Xdlb, Xana, Xanb, Xuna, Xunb, Xlca, Xlcb, Xtna, Xtnb, XS, Mhna, Mhnb, MH, MS, Mmlna, Mmlnb, Mmtna, Mmtnb, Ccn, Cfo, Cwo, Cpn, Cpk, Cpf, Cpo, Cpd, Cpe, Cgn, Cgk, Cgs, Cgd, Cge, Can, Cak, Cah, Cay, Caz, Cun, Cuk, Cuy, Cuw, Cum, Clc, Clp, Cla, Clb, Caw, Ciw, (show (ln_27) = (ln_13) from hw25n.trans hw11n.symm), Ctd⟩ hPm.comm hDm.comm hS hl

set_option maxHeartbeats 4000000 in
set_option maxRecDepth 100000 in
theorem law_case_17 {p : Program} {l : Launch} {e : Env} {s : State} {m : MethodId} {below : List Frame} {meth : Method} {c : Code} {D : va_G} {cI cY cJ cQ : ClassId} {b L aK aV : Nat} {xs : Nat → Int32} {ad rw md : Nat → Nat} {sd i : Int32} {nx : Nat → Int32} {fx rs : Nat → Nat → Int32} {lo : Nat → Int64} {ny : Nat → Int32} {fy : Nat → Nat → Int32} {fl : Nat → Int64} {H : Heap} {locs : List Loc} {ls : Array Slot} (C0 : lawC p s m meth c b L xs D cI cY cJ cQ aK aV) (I : inv nx fx ny fy) (hP : va_P D vwCl (wX ad rw sd cI cY cJ cQ nx fx rs lo ++ wM md sd cI cY cJ cQ ny fy fl) H) (hD : va_D (fun q : Nat => s.heap.size ≤ q) (wX ad rw sd cI cY cJ cQ nx fx rs lo ++ wM md sd cI cY cJ cQ ny fy fl)) (hS : va_S (fun q : Nat => s.heap.size ≤ q) s.heap H locs) (hl : lv_has ls 4 [(0, .ref b), (1, .ref (ad 0)), (2, .ref (md 64)), (3, .int i)]) (hi1 : 1 ≤ i.toInt) (hi2 : i.toInt + 5 < L) (kk : ∀ (nx : Nat → Int32) (fx rs : Nat → Nat → Int32) (lo : Nat → Int64) (ny : Nat → Int32) (fy : Nat → Nat → Int32) (fl : Nat → Int64) (H : Heap) (locs : List Loc) (ls : Array Slot), inv nx fx ny fy → va_P D vwCl (wX ad rw sd cI cY cJ cQ nx fx rs lo ++ wM md sd cI cY cJ cQ ny fy fl) H → va_D (fun q : Nat => s.heap.size ≤ q) (wX ad rw sd cI cY cJ cQ nx fx rs lo ++ wM md sd cI cY cJ cQ ny fy fl) → va_S (fun q : Nat => s.heap.size ≤ q) s.heap H locs → lv_has ls 4 [(0, .ref b), (1, .ref (ad 0)), (2, .ref (md 64)), (3, .int i)] → W p l e room_1 s m #[Value.ref b] below meth c H locs 107 4890 (lw_Z below #[Value.ref b] s) (F0 m 1652 ls [])) : W p l e room_1 s m #[Value.ref b] below meth c H locs 107 4890 (lw_Z below #[Value.ref b] s) (F0 m 979 ls []) := by
  obtain ⟨C1, hK, hN, hT, hL⟩ := C0
  obtain ⟨hx, hb, hr, hml, hown, hts0, hX, hbl, hlocks, hgv⟩ := C1
  have hA : ∀ q : Nat, s.heap.size ≤ q → (fun q : Nat => s.heap.size ≤ q) q := fun _ h => h
  have hbA : ¬ (fun q : Nat => s.heap.size ≤ q) b := Nat.not_le.mpr hbl
  have hts : ∀ w ∈ wsL_law, w.before #[Value.ref b] s = true := fun w h => hts0 w (wsL_law_in w h)
  replace hown : s.vm.findClass RL = some m.cls := hown
  replace hb : c.code = cL_law := hb
  obtain ⟨Xhna, Xhnb, XH, Xcna, Xcnb, Xpna, Xpnb, XO, Xgna, Xgnb, Xlna, Xlnb, Xdla, Xdlb, Xana, Xanb, Xuna, Xunb, Xlca, Xlcb, Xtna, Xtnb, XS, Mhna, Mhnb, MH, MS, Mmlna, Mmlnb, Mmtna, Mmtnb, Ccn, Cfo, Cwo, Cpn, Cpk, Cpf, Cpo, Cpd, Cpe, Cgn, Cgk, Cgs, Cgd, Cge, Can, Cak, Cah, Cay, Caz, Cun, Cuk, Cuy, Cuw, Cum, Clc, Clp, Cla, Clb, Caw, Ciw, Cln, Ctd⟩ := I
  have Tcn := i_eq Ccn
  have Tpn := i_eq Cpn
  have Tgn := i_eq Cgn
  have Tan := i_eq Can
  have Tun := i_eq Cun
  have Tlc := i_eq Clc
  have Tln := i_eq Cln
  have k0 : (0 : Int32).toInt = 0 := by decide
  refine lv_aload_n hx hb dL_law_979 rfl (lv_at hl 1 rfl) ?_
  refine st_iQ (wr := [((ad 11), .inl (cI, 16, .inl (fx 0))), ((rw 0), .inl (cI, 60, .inl (rs 0))), ((rw 1), .inl (cI, 60, .inl (rs 1))), ((rw 2), .inl (cI, 60, .inl (rs 2))), ((rw 3), .inl (cI, 60, .inl (rs 3))), ((rw 4), .inl (cI, 60, .inl (rs 4))), ((rw 5), .inl (cI, 60, .inl (rs 5))), ((rw 6), .inl (cI, 60, .inl (rs 6))), ((rw 7), .inl (cI, 60, .inl (rs 7))), ((ad 1), .inr (9, [.ref (ad 12), .ref (ad 13), .ref (ad 14)])), ((ad 12), .inl (cQ, 8, .inr (.inr (.inr (.inr (fun i => if i < 8 then some (rw i) else none)))))), ((ad 13), .inl (cI, 8, .inl (fx 1))), ((ad 14), .inl (cI, 8, .inl (fx 2))), ((ad 2), .inr (3, [.ref (ad 23), .ref (ad 24), .ref (ad 25), .ref (ad 26), .int (nx 3), .ref (ad 27), .ref (ad 28), .ref (ad 29), .ref (ad 30)])), ((ad 23), .inl (cI, 40, .inl (fx 3))), ((ad 24), .inl (cI, 40, .inl (fx 4))), ((ad 25), .inl (cI, 40, .inl (fx 5))), ((ad 26), .inl (cI, 40, .inl (fx 6))), ((ad 27), .inl (cI, 200, .inl (fx 7))), ((ad 28), .inl (cI, 200, .inl (fx 8))), ((ad 29), .inl (cI, 20, .inl (fx 9))), ((ad 30), .inl (cI, 10, .inl (fx 10))), ((ad 3), .inr (1, [.ref (ad 31), .ref (ad 32), .ref (ad 33), .int (nx 4), .ref (ad 34), .ref (ad 35)])), ((ad 31), .inl (cI, 12, .inl (fx 11))), ((ad 32), .inl (cI, 12, .inl (fx 12))), ((ad 33), .inl (cI, 12, .inl (fx 13))), ((ad 34), .inl (cI, 6, .inl (fx 14))), ((ad 35), .inl (cI, 6, .inl (fx 15))), ((ad 4), .inr (7, [.ref (ad 36), .ref (ad 37), .ref (ad 38), .ref (ad 39), .ref (ad 40), .ref (ad 41), .int (nx 5)])), ((ad 36), .inl (cI, 40, .inl (fx 16))), ((ad 37), .inl (cI, 40, .inl (fx 17))), ((ad 38), .inl (cI, 40, .inl (fx 18))), ((ad 39), .inl (cI, 40, .inl (fx 19))), ((ad 40), .inl (cI, 40, .inl (fx 20))), ((ad 41), .inl (cI, 40, .inl (fx 21))), ((ad 5), .inr (8, [.ref (ad 42), .ref (ad 43), .ref (ad 44), .ref (ad 45), .int (nx 6), .ref (ad 46)])), ((ad 42), .inl (cI, 40, .inl (fx 22))), ((ad 43), .inl (cI, 40, .inl (fx 23))), ((ad 44), .inl (cI, 40, .inl (fx 24))), ((ad 45), .inl (cI, 40, .inl (fx 25))), ((ad 46), .inl (cI, 40, .inl (fx 26))), ((ad 7), .inr (0, [.ref (ad 54), .ref (ad 55), .ref (ad 56), .ref (ad 57), .int (nx 15)])), ((ad 54), .inl (cI, 60, .inl (fx 34))), ((ad 55), .inl (cI, 60, .inl (fx 35))), ((ad 56), .inl (cI, 60, .inl (fx 36))), ((ad 57), .inl (cI, 60, .inl (fx 37))), ((ad 8), .inr (5, [.int sd, .ref (ad 58)])), ((ad 58), .inl (cJ, 12, .inr (.inl lo))), ((ad 9), .inr (6, [.ref (ad 59), .ref (ad 60), .ref (ad 61), .ref (ad 62), .int (nx 16)])), ((ad 59), .inl (cI, 60, .inl (fx 38))), ((ad 60), .inl (cI, 60, .inl (fx 39))), ((ad 61), .inl (cI, 60, .inl (fx 40))), ((ad 62), .inl (cI, 60, .inl (fx 41))), ((ad 10), .inr (4, [.ref (ad 63), .ref (ad 64), .ref (ad 65), .int (nx 17)])), ((ad 63), .inl (cI, 20, .inl (fx 42))), ((ad 64), .inl (cI, 20, .inl (fx 43))), ((ad 65), .inl (cI, 20, .inl (fx 44)))]) (va_runV (C := RX10) (As := []) (rest := []) ⟨hx, hb, hml, hown, hts⟩ (ct_X10_duties l D cI cY cJ cQ _ aK aV ad (nx 0) (nx 1) (nx 2) (nx 7) (nx 8) (nx 9) (nx 10) (nx 11) (nx 12) (nx 13) (nx 14) (fx 27) (fx 28) (fx 29) (fx 30) (fx 31) (fx 32) (fx 33) (by omega) (by omega) (by omega) (by omega)) (cwV 0 hts gL_law_X10_duties rfl rfl rfl ⟨rfl, cdX10_duties⟩ ⟨Nat.le_of_ble_eq_true rfl, Nat.le_of_ble_eq_true rfl⟩) (cPreTV (hP.sub [0, 42, 43, 44, 45, 46, 47, 48, 49] rfl) hK (hD.sub [0, 42, 43, 44, 45, 46, 47, 48, 49] (by decide +kernel) rfl) hN hS (va_free hD hS hA [0, 42, 43, 44, 45, 46, 47, 48, 49] rfl) hT (ci := 10) (q0 := 0) rfl rfl) rfl rfl hl.1 rfl (lv_room (Nat.le_of_ble_eq_true rfl)) dL_law_980 ⟨Nat.le_of_ble_eq_true rfl, Nat.le_of_ble_eq_true rfl⟩) hP hD hS hA [0, 42, 43, 44, 45, 46, 47, 48, 49] [1, 2, 3, 4, 5, 6, 7, 8, 9, 10, 11, 12, 13, 14, 15, 16, 17, 18, 19, 20, 21, 22, 23, 24, 25, 26, 27, 28, 29, 30, 31, 32, 33, 34, 35, 36, 37, 38, 39, 40, 41, 50, 51, 52, 53, 54, 55, 56, 57, 58, 59, 60, 61, 62, 63, 64, 65] rfl rfl (by decide +kernel) (by decide +kernel) (fun r3 u1 H locs hw2 hP hD hS => ?_)
  obtain ⟨lfa_4, dl_5, dw_6, dd_7, dp_8, xw_9, xd_10, xp_11, dr_12, bs_13, be_14, tk_15, nb_16⟩ := u1
  replace hw2 : 0 ≤ dl_5.toInt ∧ dl_5.toInt ≤ 12 := hw2
  refine lv_pop hx hb dL_law_983 rfl ?_
  have hPx : va_P D vwCl (wX ad rw sd cI cY cJ cQ (upd (upd (upd (upd (upd (upd (upd (upd nx 7 0) 8 lfa_4) 9 dl_5) 10 dr_12) 11 bs_13) 12 be_14) 13 tk_15) 14 nb_16) (upR (upR (upR (upR (upR (upR fx 28 dw_6) 29 dd_7) 30 dp_8) 31 xw_9) 32 xd_10) 33 xp_11) rs lo ++ wM md sd cI cY cJ cQ ny fy fl) H := hP.part [57, 0, 1, 2, 3, 4, 5, 6, 7, 8, 9, 10, 11, 12, 13, 14, 15, 16, 17, 18, 19, 20, 21, 22, 23, 24, 25, 26, 27, 28, 29, 30, 31, 32, 33, 34, 35, 36, 37, 38, 39, 40, 58, 59, 60, 61, 62, 63, 64, 65, 41, 42, 43, 44, 45, 46, 47, 48, 49, 50, 51, 52, 53, 54, 55, 56] rfl
  have hDx : va_D (fun q : Nat => s.heap.size ≤ q) (wX ad rw sd cI cY cJ cQ (upd (upd (upd (upd (upd (upd (upd (upd nx 7 0) 8 lfa_4) 9 dl_5) 10 dr_12) 11 bs_13) 12 be_14) 13 tk_15) 14 nb_16) (upR (upR (upR (upR (upR (upR fx 28 dw_6) 29 dd_7) 30 dp_8) 31 xw_9) 32 xd_10) 33 xp_11) rs lo ++ wM md sd cI cY cJ cQ ny fy fl) := hD.part [57, 0, 1, 2, 3, 4, 5, 6, 7, 8, 9, 10, 11, 12, 13, 14, 15, 16, 17, 18, 19, 20, 21, 22, 23, 24, 25, 26, 27, 28, 29, 30, 31, 32, 33, 34, 35, 36, 37, 38, 39, 40, 58, 59, 60, 61, 62, 63, 64, 65, 41, 42, 43, 44, 45, 46, 47, 48, 49, 50, 51, 52, 53, 54, 55, 56] (by decide +kernel) rfl
  have hP := hPx.comm
  have hD := hDx.comm
  refine lv_aload_n hx hb dL_law_984 rfl (lv_at hl 2 rfl) ?_
  refine st_iQ (wr := [((md 3), .inl (cI, 8, .inl (fy 0))), ((md 4), .inl (cI, 8, .inl (fy 1))), ((md 5), .inl (cI, 480, .inl (fy 2))), ((md 7), .inl (cI, 40, .inl (fy 3))), ((md 8), .inl (cI, 40, .inl (fy 4))), ((md 9), .inl (cI, 40, .inl (fy 5))), ((md 10), .inl (cI, 40, .inl (fy 6))), ((md 11), .inl (cI, 200, .inl (fy 7))), ((md 12), .inl (cI, 12, .inl (fy 8))), ((md 13), .inl (cI, 12, .inl (fy 9))), ((md 14), .inl (cJ, 12, .inr (.inl fl))), ((md 16), .inl (cI, 12, .inl (fy 10))), ((md 17), .inl (cI, 12, .inl (fy 11))), ((md 19), .inl (cI, 40, .inl (fy 12))), ((md 20), .inl (cI, 40, .inl (fy 13))), ((md 21), .inl (cI, 40, .inl (fy 14))), ((md 22), .inl (cI, 40, .inl (fy 15))), ((md 23), .inl (cI, 40, .inl (fy 16))), ((md 26), .inl (cI, 40, .inl (fy 17))), ((md 27), .inl (cI, 40, .inl (fy 18))), ((md 28), .inl (cI, 40, .inl (fy 19))), ((md 29), .inl (cI, 40, .inl (fy 20))), ((md 45), .inl (cI, 60, .inl (fy 24))), ((md 46), .inl (cI, 60, .inl (fy 25))), ((md 47), .inl (cI, 60, .inl (fy 26))), ((md 48), .inl (cI, 60, .inl (fy 27))), ((md 49), .inl (cI, 6, .inl (fy 28))), ((md 50), .inl (cI, 6, .inl (fy 29))), ((md 51), .inl (cI, 12, .inl (fy 30))), ((md 53), .inl (cI, 60, .inl (fy 31))), ((md 54), .inl (cI, 60, .inl (fy 32))), ((md 55), .inl (cI, 60, .inl (fy 33))), ((md 56), .inl (cI, 60, .inl (fy 34))), ((md 58), .inl (cI, 20, .inl (fy 35))), ((md 59), .inl (cI, 20, .inl (fy 36))), ((md 60), .inl (cI, 20, .inl (fy 37))), ((md 62), .inl (cI, 16, .inl (fy 38)))]) (va_runV (C := RX11) (As := []) (rest := []) ⟨hx, hb, hml, hown, hts⟩ (ct_X11_duties l D cI cY cJ cQ _ md sd (ny 0) (ny 1) (ny 2) (ny 3) (ny 4) (ny 5) (ny 6) (ny 7) (ny 8) (ny 9) (ny 10) (ny 11) (ny 12) (ny 13) (ny 14) (ny 15) (ny 16) (ny 17) (ny 18) (ny 19) (ny 20) (ny 21) (ny 22) (fy 21) (fy 22) (fy 23) (by omega) (by omega) (by omega) (by omega)) (cwV 0 hts gL_law_X11_duties rfl rfl rfl ⟨rfl, cdX11_duties⟩ ⟨Nat.le_of_ble_eq_true rfl, Nat.le_of_ble_eq_true rfl⟩) (cPreV (hP.sub [0, 23, 24, 25] rfl) hK (hD.sub [0, 23, 24, 25] (by decide +kernel) rfl) hN (ci := 11) (q0 := 0) rfl rfl) rfl rfl hl.1 rfl (lv_room (Nat.le_of_ble_eq_true rfl)) dL_law_985 ⟨Nat.le_of_ble_eq_true rfl, Nat.le_of_ble_eq_true rfl⟩) hP hD hS hA [0, 23, 24, 25] [1, 2, 3, 4, 5, 6, 7, 8, 9, 10, 11, 12, 13, 14, 15, 16, 17, 18, 19, 20, 21, 22, 26, 27, 28, 29, 30, 31, 32, 33, 34, 35, 36, 37, 38, 39, 40] rfl rfl (by decide +kernel) (by decide +kernel) (fun r19 u17 H locs hw18 hP hD hS => ?_)
  obtain ⟨mln_20, mli_21, mnn_22, mnl_23, mlt_24, msz_25, mcu_26, mtk_27, mfr_28, mti_29, mfa_30, mfb_31⟩ := u17
  replace hw18 : 0 ≤ mln_20.toInt ∧ mln_20.toInt ≤ 12 := hw18
  refine lv_pop hx hb dL_law_988 rfl ?_
  refine lv_goto (tgt := 1652) hx hb dL_law_989 (by decide) ?_
  have hPm : va_P D vwCl (wM md sd cI cY cJ cQ (upd (upd (upd (upd (upd (upd (upd (upd (upd (upd (upd (upd ny 0 0) 7 mln_20) 8 mnn_22) 9 0) 10 mlt_24) 11 msz_25) 12 mcu_26) 13 mtk_27) 14 mfr_28) 15 mti_29) 16 mfa_30) 17 mfb_31) (upR (upR fy 21 mli_21) 22 mnl_23) fl ++ wX ad rw sd cI cY cJ cQ (upd (upd (upd (upd (upd (upd (upd (upd nx 7 0) 8 lfa_4) 9 dl_5) 10 dr_12) 11 bs_13) 12 be_14) 13 tk_15) 14 nb_16) (upR (upR (upR (upR (upR (upR fx 28 dw_6) 29 dd_7) 30 dp_8) 31 xw_9) 32 xd_10) 33 xp_11) rs lo) H := hP.part [37, 0, 1, 2, 3, 4, 5, 6, 7, 8, 9, 10, 11, 12, 13, 14, 15, 16, 17, 18, 19, 20, 21, 38, 39, 40, 22, 23, 24, 25, 26, 27, 28, 29, 30, 31, 32, 33, 34, 35, 36] rfl
  have hDm : va_D (fun q : Nat => s.heap.size ≤ q) (wM md sd cI cY cJ cQ (upd (upd (upd (upd (upd (upd (upd (upd (upd (upd (upd (upd ny 0 0) 7 mln_20) 8 mnn_22) 9 0) 10 mlt_24) 11 msz_25) 12 mcu_26) 13 mtk_27) 14 mfr_28) 15 mti_29) 16 mfa_30) 17 mfb_31) (upR (upR fy 21 mli_21) 22 mnl_23) fl ++ wX ad rw sd cI cY cJ cQ (upd (upd (upd (upd (upd (upd (upd (upd nx 7 0) 8 lfa_4) 9 dl_5) 10 dr_12) 11 bs_13) 12 be_14) 13 tk_15) 14 nb_16) (upR (upR (upR (upR (upR (upR fx 28 dw_6) 29 dd_7) 30 dp_8) 31 xw_9) 32 xd_10) 33 xp_11) rs lo) := hD.part [37, 0, 1, 2, 3, 4, 5, 6, 7, 8, 9, 10, 11, 12, 13, 14, 15, 16, 17, 18, 19, 20, 21, 38, 39, 40, 22, 23, 24, 25, 26, 27, 28, 29, 30, 31, 32, 33, 34, 35, 36] (by decide +kernel) rfl
  exact kk (upd (upd (upd (upd (upd (upd (upd (upd nx 7 0) 8 lfa_4) 9 dl_5) 10 dr_12) 11 bs_13) 12 be_14) 13 tk_15) 14 nb_16) (upR (upR (upR (upR (upR (upR fx 28 dw_6) 29 dd_7) 30 dp_8) 31 xw_9) 32 xd_10) 33 xp_11) rs lo (upd (upd (upd (upd (upd (upd (upd (upd (upd (upd (upd (upd ny 0 0) 7 mln_20) 8 mnn_22) 9 0) 10 mlt_24) 11 msz_25) 12 mcu_26) 13 mtk_27) 14 mfr_28) 15 mti_29) 16 mfa_30) 17 mfb_31) (upR (upR fy 21 mli_21) 22 mnl_23) fl H locs ls ⟨Xhna, Xhnb, XH, Xcna, Xcnb, Xpna, Xpnb, XO, Xgna, Xgnb, (by show 0 ≤ (0 : Int32).toInt; omega), (by show (0 : Int32).toInt ≤ 300; omega), (by show 0 ≤ (dl_5).toInt; omega), (by show (dl_5).toInt ≤ 12; omega), Xana, Xanb, Xuna, Xunb, Xlca, Xlcb, Xtna, Xtnb, XS, Mhna, Mhnb, MH, MS, (by show 0 ≤ (mln_20).toInt; omega), (by show (mln_20).toInt ≤ 12; omega), Mmtna, Mmtnb, Ccn, Cfo, Cwo, Cpn, Cpk, Cpf, Cpo, Cpd, Cpe, Cgn, Cgk, Cgs, Cgd, Cge, Can, Cak, Cah, Cay, Caz, Cun, Cuk, Cuy, Cuw, Cum, Clc, Clp, Cla, Clb, Caw, Ciw, (show (0 : Int32) = (0 : Int32) from rfl), Ctd⟩ hPm.comm hDm.comm hS hl

set_option maxHeartbeats 4000000 in
set_option maxRecDepth 100000 in
theorem law_case_18 {p : Program} {l : Launch} {e : Env} {s : State} {m : MethodId} {below : List Frame} {meth : Method} {c : Code} {D : va_G} {cI cY cJ cQ : ClassId} {b L aK aV : Nat} {xs : Nat → Int32} {ad rw md : Nat → Nat} {sd i : Int32} {nx : Nat → Int32} {fx rs : Nat → Nat → Int32} {lo : Nat → Int64} {ny : Nat → Int32} {fy : Nat → Nat → Int32} {fl : Nat → Int64} {H : Heap} {locs : List Loc} {ls : Array Slot} (C0 : lawC p s m meth c b L xs D cI cY cJ cQ aK aV) (I : inv nx fx ny fy) (hP : va_P D vwCl (wX ad rw sd cI cY cJ cQ nx fx rs lo ++ wM md sd cI cY cJ cQ ny fy fl) H) (hD : va_D (fun q : Nat => s.heap.size ≤ q) (wX ad rw sd cI cY cJ cQ nx fx rs lo ++ wM md sd cI cY cJ cQ ny fy fl)) (hS : va_S (fun q : Nat => s.heap.size ≤ q) s.heap H locs) (hl : lv_has ls 4 [(0, .ref b), (1, .ref (ad 0)), (2, .ref (md 64)), (3, .int i)]) (hi1 : 1 ≤ i.toInt) (hi2 : i.toInt + 5 < L) (kk : ∀ (nx : Nat → Int32) (fx rs : Nat → Nat → Int32) (lo : Nat → Int64) (ny : Nat → Int32) (fy : Nat → Nat → Int32) (fl : Nat → Int64) (H : Heap) (locs : List Loc) (ls : Array Slot), inv nx fx ny fy → va_P D vwCl (wX ad rw sd cI cY cJ cQ nx fx rs lo ++ wM md sd cI cY cJ cQ ny fy fl) H → va_D (fun q : Nat => s.heap.size ≤ q) (wX ad rw sd cI cY cJ cQ nx fx rs lo ++ wM md sd cI cY cJ cQ ny fy fl) → va_S (fun q : Nat => s.heap.size ≤ q) s.heap H locs → lv_has ls 4 [(0, .ref b), (1, .ref (ad 0)), (2, .ref (md 64)), (3, .int i)] → W p l e room_1 s m #[Value.ref b] below meth c H locs 107 4890 (lw_Z below #[Value.ref b] s) (F0 m 1652 ls [])) : W p l e room_1 s m #[Value.ref b] below meth c H locs 107 4890 (lw_Z below #[Value.ref b] s) (F0 m 992 ls []) := by
  obtain ⟨C1, hK, hN, hT, hL⟩ := C0
  obtain ⟨hx, hb, hr, hml, hown, hts0, hX, hbl, hlocks, hgv⟩ := C1
  have hA : ∀ q : Nat, s.heap.size ≤ q → (fun q : Nat => s.heap.size ≤ q) q := fun _ h => h
  have hbA : ¬ (fun q : Nat => s.heap.size ≤ q) b := Nat.not_le.mpr hbl
  have hts : ∀ w ∈ wsL_law, w.before #[Value.ref b] s = true := fun w h => hts0 w (wsL_law_in w h)
  replace hown : s.vm.findClass RL = some m.cls := hown
  replace hb : c.code = cL_law := hb
  obtain ⟨Xhna, Xhnb, XH, Xcna, Xcnb, Xpna, Xpnb, XO, Xgna, Xgnb, Xlna, Xlnb, Xdla, Xdlb, Xana, Xanb, Xuna, Xunb, Xlca, Xlcb, Xtna, Xtnb, XS, Mhna, Mhnb, MH, MS, Mmlna, Mmlnb, Mmtna, Mmtnb, Ccn, Cfo, Cwo, Cpn, Cpk, Cpf, Cpo, Cpd, Cpe, Cgn, Cgk, Cgs, Cgd, Cge, Can, Cak, Cah, Cay, Caz, Cun, Cuk, Cuy, Cuw, Cum, Clc, Clp, Cla, Clb, Caw, Ciw, Cln, Ctd⟩ := I
  have Tcn := i_eq Ccn
  have Tpn := i_eq Cpn
  have Tgn := i_eq Cgn
  have Tan := i_eq Can
  have Tun := i_eq Cun
  have Tlc := i_eq Clc
  have Tln := i_eq Cln
  refine lv_aload_n hx hb dL_law_992 rfl (lv_at hl 1 rfl) ?_
  refine st_iQ (wr := [((ad 11), .inl (cI, 16, .inl (fx 0))), ((rw 0), .inl (cI, 60, .inl (rs 0))), ((rw 1), .inl (cI, 60, .inl (rs 1))), ((rw 2), .inl (cI, 60, .inl (rs 2))), ((rw 3), .inl (cI, 60, .inl (rs 3))), ((rw 4), .inl (cI, 60, .inl (rs 4))), ((rw 5), .inl (cI, 60, .inl (rs 5))), ((rw 6), .inl (cI, 60, .inl (rs 6))), ((rw 7), .inl (cI, 60, .inl (rs 7))), ((ad 1), .inr (9, [.ref (ad 12), .ref (ad 13), .ref (ad 14)])), ((ad 12), .inl (cQ, 8, .inr (.inr (.inr (.inr (fun i => if i < 8 then some (rw i) else none)))))), ((ad 13), .inl (cI, 8, .inl (fx 1))), ((ad 14), .inl (cI, 8, .inl (fx 2))), ((ad 2), .inr (3, [.ref (ad 23), .ref (ad 24), .ref (ad 25), .ref (ad 26), .int (nx 3), .ref (ad 27), .ref (ad 28), .ref (ad 29), .ref (ad 30)])), ((ad 23), .inl (cI, 40, .inl (fx 3))), ((ad 24), .inl (cI, 40, .inl (fx 4))), ((ad 25), .inl (cI, 40, .inl (fx 5))), ((ad 26), .inl (cI, 40, .inl (fx 6))), ((ad 27), .inl (cI, 200, .inl (fx 7))), ((ad 28), .inl (cI, 200, .inl (fx 8))), ((ad 29), .inl (cI, 20, .inl (fx 9))), ((ad 30), .inl (cI, 10, .inl (fx 10))), ((ad 3), .inr (1, [.ref (ad 31), .ref (ad 32), .ref (ad 33), .int (nx 4), .ref (ad 34), .ref (ad 35)])), ((ad 31), .inl (cI, 12, .inl (fx 11))), ((ad 32), .inl (cI, 12, .inl (fx 12))), ((ad 33), .inl (cI, 12, .inl (fx 13))), ((ad 34), .inl (cI, 6, .inl (fx 14))), ((ad 35), .inl (cI, 6, .inl (fx 15))), ((ad 4), .inr (7, [.ref (ad 36), .ref (ad 37), .ref (ad 38), .ref (ad 39), .ref (ad 40), .ref (ad 41), .int (nx 5)])), ((ad 36), .inl (cI, 40, .inl (fx 16))), ((ad 37), .inl (cI, 40, .inl (fx 17))), ((ad 38), .inl (cI, 40, .inl (fx 18))), ((ad 39), .inl (cI, 40, .inl (fx 19))), ((ad 40), .inl (cI, 40, .inl (fx 20))), ((ad 41), .inl (cI, 40, .inl (fx 21))), ((ad 5), .inr (8, [.ref (ad 42), .ref (ad 43), .ref (ad 44), .ref (ad 45), .int (nx 6), .ref (ad 46)])), ((ad 42), .inl (cI, 40, .inl (fx 22))), ((ad 43), .inl (cI, 40, .inl (fx 23))), ((ad 44), .inl (cI, 40, .inl (fx 24))), ((ad 45), .inl (cI, 40, .inl (fx 25))), ((ad 46), .inl (cI, 40, .inl (fx 26))), ((ad 47), .inl (cY, 300, .inl (fx 27))), ((ad 48), .inl (cI, 12, .inl (fx 28))), ((ad 49), .inl (cI, 12, .inl (fx 29))), ((ad 50), .inl (cI, 12, .inl (fx 30))), ((ad 51), .inl (cI, 12, .inl (fx 31))), ((ad 52), .inl (cI, 12, .inl (fx 32))), ((ad 53), .inl (cI, 12, .inl (fx 33))), ((ad 7), .inr (0, [.ref (ad 54), .ref (ad 55), .ref (ad 56), .ref (ad 57), .int (nx 15)])), ((ad 54), .inl (cI, 60, .inl (fx 34))), ((ad 55), .inl (cI, 60, .inl (fx 35))), ((ad 56), .inl (cI, 60, .inl (fx 36))), ((ad 57), .inl (cI, 60, .inl (fx 37))), ((ad 8), .inr (5, [.int sd, .ref (ad 58)])), ((ad 58), .inl (cJ, 12, .inr (.inl lo))), ((ad 9), .inr (6, [.ref (ad 59), .ref (ad 60), .ref (ad 61), .ref (ad 62), .int (nx 16)])), ((ad 59), .inl (cI, 60, .inl (fx 38))), ((ad 60), .inl (cI, 60, .inl (fx 39))), ((ad 61), .inl (cI, 60, .inl (fx 40))), ((ad 62), .inl (cI, 60, .inl (fx 41))), ((ad 10), .inr (4, [.ref (ad 63), .ref (ad 64), .ref (ad 65), .int (nx 17)])), ((ad 63), .inl (cI, 20, .inl (fx 42))), ((ad 64), .inl (cI, 20, .inl (fx 43))), ((ad 65), .inl (cI, 20, .inl (fx 44)))]) (va_runV (C := RX10) (As := []) (rest := []) ⟨hx, hb, hml, hown, hts⟩ (ct_X10_fault l D cI cY cJ cQ _ ad (nx 0) (nx 1) (nx 2) (nx 7) (nx 8) (nx 9) (nx 10) (nx 11) (nx 12) (nx 13) (nx 14)) (cwV 0 hts gL_law_X10_fault rfl rfl rfl ⟨rfl, cdX10_fault⟩ ⟨Nat.le_of_ble_eq_true rfl, Nat.le_of_ble_eq_true rfl⟩) (cPreV (hP.sub [0, 42] rfl) hK (hD.sub [0, 42] (by decide +kernel) rfl) hN (ci := 10) (q0 := 0) rfl rfl) rfl rfl hl.1 rfl (lv_room (Nat.le_of_ble_eq_true rfl)) dL_law_993 ⟨Nat.le_of_ble_eq_true rfl, Nat.le_of_ble_eq_true rfl⟩) hP hD hS hA [0, 42] [1, 2, 3, 4, 5, 6, 7, 8, 9, 10, 11, 12, 13, 14, 15, 16, 17, 18, 19, 20, 21, 22, 23, 24, 25, 26, 27, 28, 29, 30, 31, 32, 33, 34, 35, 36, 37, 38, 39, 40, 41, 43, 44, 45, 46, 47, 48, 49, 50, 51, 52, 53, 54, 55, 56, 57, 58, 59, 60, 61, 62, 63, 64, 65] rfl rfl (by decide +kernel) (by decide +kernel) (fun r3 u1 H locs hw2 hP hD hS => ?_)
  replace hw2 : r3 = (nx 8) := hw2
  refine lv_pop hx hb dL_law_996 rfl ?_
  have hPx : va_P D vwCl (wX ad rw sd cI cY cJ cQ nx fx rs lo ++ wM md sd cI cY cJ cQ ny fy fl) H := hP.part [64, 0, 1, 2, 3, 4, 5, 6, 7, 8, 9, 10, 11, 12, 13, 14, 15, 16, 17, 18, 19, 20, 21, 22, 23, 24, 25, 26, 27, 28, 29, 30, 31, 32, 33, 34, 35, 36, 37, 38, 39, 40, 65, 41, 42, 43, 44, 45, 46, 47, 48, 49, 50, 51, 52, 53, 54, 55, 56, 57, 58, 59, 60, 61, 62, 63] rfl
  have hDx : va_D (fun q : Nat => s.heap.size ≤ q) (wX ad rw sd cI cY cJ cQ nx fx rs lo ++ wM md sd cI cY cJ cQ ny fy fl) := hD.part [64, 0, 1, 2, 3, 4, 5, 6, 7, 8, 9, 10, 11, 12, 13, 14, 15, 16, 17, 18, 19, 20, 21, 22, 23, 24, 25, 26, 27, 28, 29, 30, 31, 32, 33, 34, 35, 36, 37, 38, 39, 40, 65, 41, 42, 43, 44, 45, 46, 47, 48, 49, 50, 51, 52, 53, 54, 55, 56, 57, 58, 59, 60, 61, 62, 63] (by decide +kernel) rfl
  have hP := hPx.comm
  have hD := hDx.comm
  refine lv_aload_n hx hb dL_law_997 rfl (lv_at hl 2 rfl) ?_
  refine st_iQ (wr := [((md 3), .inl (cI, 8, .inl (fy 0))), ((md 4), .inl (cI, 8, .inl (fy 1))), ((md 5), .inl (cI, 480, .inl (fy 2))), ((md 7), .inl (cI, 40, .inl (fy 3))), ((md 8), .inl (cI, 40, .inl (fy 4))), ((md 9), .inl (cI, 40, .inl (fy 5))), ((md 10), .inl (cI, 40, .inl (fy 6))), ((md 11), .inl (cI, 200, .inl (fy 7))), ((md 12), .inl (cI, 12, .inl (fy 8))), ((md 13), .inl (cI, 12, .inl (fy 9))), ((md 14), .inl (cJ, 12, .inr (.inl fl))), ((md 16), .inl (cI, 12, .inl (fy 10))), ((md 17), .inl (cI, 12, .inl (fy 11))), ((md 19), .inl (cI, 40, .inl (fy 12))), ((md 20), .inl (cI, 40, .inl (fy 13))), ((md 21), .inl (cI, 40, .inl (fy 14))), ((md 22), .inl (cI, 40, .inl (fy 15))), ((md 23), .inl (cI, 40, .inl (fy 16))), ((md 26), .inl (cI, 40, .inl (fy 17))), ((md 27), .inl (cI, 40, .inl (fy 18))), ((md 28), .inl (cI, 40, .inl (fy 19))), ((md 29), .inl (cI, 40, .inl (fy 20))), ((md 31), .inl (cI, 36, .inl (fy 21))), ((md 33), .inl (cI, 36, .inl (fy 22))), ((md 34), .inl (cI, 300, .inl (fy 23))), ((md 45), .inl (cI, 60, .inl (fy 24))), ((md 46), .inl (cI, 60, .inl (fy 25))), ((md 47), .inl (cI, 60, .inl (fy 26))), ((md 48), .inl (cI, 60, .inl (fy 27))), ((md 49), .inl (cI, 6, .inl (fy 28))), ((md 50), .inl (cI, 6, .inl (fy 29))), ((md 51), .inl (cI, 12, .inl (fy 30))), ((md 53), .inl (cI, 60, .inl (fy 31))), ((md 54), .inl (cI, 60, .inl (fy 32))), ((md 55), .inl (cI, 60, .inl (fy 33))), ((md 56), .inl (cI, 60, .inl (fy 34))), ((md 58), .inl (cI, 20, .inl (fy 35))), ((md 59), .inl (cI, 20, .inl (fy 36))), ((md 60), .inl (cI, 20, .inl (fy 37))), ((md 62), .inl (cI, 16, .inl (fy 38)))]) (va_runV (C := RX11) (As := []) (rest := []) ⟨hx, hb, hml, hown, hts⟩ (ct_X11_fault l D cI cY cJ cQ _ md sd (ny 0) (ny 1) (ny 2) (ny 3) (ny 4) (ny 5) (ny 6) (ny 7) (ny 8) (ny 9) (ny 10) (ny 11) (ny 12) (ny 13) (ny 14) (ny 15) (ny 16) (ny 17) (ny 18) (ny 19) (ny 20) (ny 21) (ny 22)) (cwV 0 hts gL_law_X11_fault rfl rfl rfl ⟨rfl, cdX11_fault⟩ ⟨Nat.le_of_ble_eq_true rfl, Nat.le_of_ble_eq_true rfl⟩) (cPreV (hP.sub [0] rfl) hK (hD.sub [0] (by decide +kernel) rfl) hN (ci := 11) (q0 := 0) rfl rfl) rfl rfl hl.1 rfl (lv_room (Nat.le_of_ble_eq_true rfl)) dL_law_998 ⟨Nat.le_of_ble_eq_true rfl, Nat.le_of_ble_eq_true rfl⟩) hP hD hS hA [0] [1, 2, 3, 4, 5, 6, 7, 8, 9, 10, 11, 12, 13, 14, 15, 16, 17, 18, 19, 20, 21, 22, 23, 24, 25, 26, 27, 28, 29, 30, 31, 32, 33, 34, 35, 36, 37, 38, 39, 40] rfl rfl (by decide +kernel) (by decide +kernel) (fun r6 u4 H locs hw5 hP hD hS => ?_)
  replace hw5 : r6 = (ny 10) := hw5
  refine lv_pop hx hb dL_law_1001 rfl ?_
  refine lv_goto (tgt := 1652) hx hb dL_law_1002 (by decide) ?_
  have hPm : va_P D vwCl (wM md sd cI cY cJ cQ (upd ny 0 0) fy fl ++ wX ad rw sd cI cY cJ cQ nx fx rs lo) H := hP.part [40, 0, 1, 2, 3, 4, 5, 6, 7, 8, 9, 10, 11, 12, 13, 14, 15, 16, 17, 18, 19, 20, 21, 22, 23, 24, 25, 26, 27, 28, 29, 30, 31, 32, 33, 34, 35, 36, 37, 38, 39] rfl
  have hDm : va_D (fun q : Nat => s.heap.size ≤ q) (wM md sd cI cY cJ cQ (upd ny 0 0) fy fl ++ wX ad rw sd cI cY cJ cQ nx fx rs lo) := hD.part [40, 0, 1, 2, 3, 4, 5, 6, 7, 8, 9, 10, 11, 12, 13, 14, 15, 16, 17, 18, 19, 20, 21, 22, 23, 24, 25, 26, 27, 28, 29, 30, 31, 32, 33, 34, 35, 36, 37, 38, 39] (by decide +kernel) rfl
  exact kk nx fx rs lo (upd ny 0 0) fy fl H locs ls ⟨Xhna, Xhnb, XH, Xcna, Xcnb, Xpna, Xpnb, XO, Xgna, Xgnb, Xlna, Xlnb, Xdla, Xdlb, Xana, Xanb, Xuna, Xunb, Xlca, Xlcb, Xtna, Xtnb, XS, Mhna, Mhnb, MH, MS, Mmlna, Mmlnb, Mmtna, Mmtnb, Ccn, Cfo, Cwo, Cpn, Cpk, Cpf, Cpo, Cpd, Cpe, Cgn, Cgk, Cgs, Cgd, Cge, Can, Cak, Cah, Cay, Caz, Cun, Cuk, Cuy, Cuw, Cum, Clc, Clp, Cla, Clb, Caw, Ciw, Cln, Ctd⟩ hPm.comm hDm.comm hS hl

set_option maxHeartbeats 4000000 in
set_option maxRecDepth 100000 in
theorem law_case_19 {p : Program} {l : Launch} {e : Env} {s : State} {m : MethodId} {below : List Frame} {meth : Method} {c : Code} {D : va_G} {cI cY cJ cQ : ClassId} {b L aK aV : Nat} {xs : Nat → Int32} {ad rw md : Nat → Nat} {sd i : Int32} {nx : Nat → Int32} {fx rs : Nat → Nat → Int32} {lo : Nat → Int64} {ny : Nat → Int32} {fy : Nat → Nat → Int32} {fl : Nat → Int64} {H : Heap} {locs : List Loc} {ls : Array Slot} (C0 : lawC p s m meth c b L xs D cI cY cJ cQ aK aV) (I : inv nx fx ny fy) (hP : va_P D vwCl (wX ad rw sd cI cY cJ cQ nx fx rs lo ++ wM md sd cI cY cJ cQ ny fy fl) H) (hD : va_D (fun q : Nat => s.heap.size ≤ q) (wX ad rw sd cI cY cJ cQ nx fx rs lo ++ wM md sd cI cY cJ cQ ny fy fl)) (hS : va_S (fun q : Nat => s.heap.size ≤ q) s.heap H locs) (hl : lv_has ls 4 [(0, .ref b), (1, .ref (ad 0)), (2, .ref (md 64)), (3, .int i)]) (hi1 : 1 ≤ i.toInt) (hi2 : i.toInt + 5 < L) (kk : ∀ (nx : Nat → Int32) (fx rs : Nat → Nat → Int32) (lo : Nat → Int64) (ny : Nat → Int32) (fy : Nat → Nat → Int32) (fl : Nat → Int64) (H : Heap) (locs : List Loc) (ls : Array Slot), inv nx fx ny fy → va_P D vwCl (wX ad rw sd cI cY cJ cQ nx fx rs lo ++ wM md sd cI cY cJ cQ ny fy fl) H → va_D (fun q : Nat => s.heap.size ≤ q) (wX ad rw sd cI cY cJ cQ nx fx rs lo ++ wM md sd cI cY cJ cQ ny fy fl) → va_S (fun q : Nat => s.heap.size ≤ q) s.heap H locs → lv_has ls 4 [(0, .ref b), (1, .ref (ad 0)), (2, .ref (md 64)), (3, .int i)] → W p l e room_1 s m #[Value.ref b] below meth c H locs 107 4890 (lw_Z below #[Value.ref b] s) (F0 m 1652 ls [])) : W p l e room_1 s m #[Value.ref b] below meth c H locs 107 4890 (lw_Z below #[Value.ref b] s) (F0 m 1005 ls []) := by
  obtain ⟨C1, hK, hN, hT, hL⟩ := C0
  obtain ⟨hx, hb, hr, hml, hown, hts0, hX, hbl, hlocks, hgv⟩ := C1
  have hA : ∀ q : Nat, s.heap.size ≤ q → (fun q : Nat => s.heap.size ≤ q) q := fun _ h => h
  have hbA : ¬ (fun q : Nat => s.heap.size ≤ q) b := Nat.not_le.mpr hbl
  have hts : ∀ w ∈ wsL_law, w.before #[Value.ref b] s = true := fun w h => hts0 w (wsL_law_in w h)
  replace hown : s.vm.findClass RL = some m.cls := hown
  replace hb : c.code = cL_law := hb
  obtain ⟨Xhna, Xhnb, XH, Xcna, Xcnb, Xpna, Xpnb, XO, Xgna, Xgnb, Xlna, Xlnb, Xdla, Xdlb, Xana, Xanb, Xuna, Xunb, Xlca, Xlcb, Xtna, Xtnb, XS, Mhna, Mhnb, MH, MS, Mmlna, Mmlnb, Mmtna, Mmtnb, Ccn, Cfo, Cwo, Cpn, Cpk, Cpf, Cpo, Cpd, Cpe, Cgn, Cgk, Cgs, Cgd, Cge, Can, Cak, Cah, Cay, Caz, Cun, Cuk, Cuy, Cuw, Cum, Clc, Clp, Cla, Clb, Caw, Ciw, Cln, Ctd⟩ := I
  have Tcn := i_eq Ccn
  have Tpn := i_eq Cpn
  have Tgn := i_eq Cgn
  have Tan := i_eq Can
  have Tun := i_eq Cun
  have Tlc := i_eq Clc
  have Tln := i_eq Cln
  have k1 : (1 : Int32).toInt = 1 := by decide
  have k2 : (2 : Int32).toInt = 2 := by decide
  have k3 : (3 : Int32).toInt = 3 := by decide
  have k4 : (4 : Int32).toInt = 4 := by decide
  obtain ⟨xk1, exk1⟩ : ∃ y : Int32, y = xs (i.toNatClampNeg + 1) := ⟨_, rfl⟩
  obtain ⟨xk2, exk2⟩ : ∃ y : Int32, y = xs (i.toNatClampNeg + 2) := ⟨_, rfl⟩
  obtain ⟨xk3, exk3⟩ : ∃ y : Int32, y = xs (i.toNatClampNeg + 3) := ⟨_, rfl⟩
  obtain ⟨xk4, exk4⟩ : ∃ y : Int32, y = xs (i.toNatClampNeg + 4) := ⟨_, rfl⟩
  refine lv_aload_n hx hb dL_law_1005 rfl (lv_at hl 1 rfl) ?_
  refine lv_aload_n hx hb dL_law_1006 rfl (lv_at hl 0 rfl) ?_
  refine lv_iload_n hx hb dL_law_1007 rfl (lv_at hl 3 rfl) ?_
  refine lv_iconst (v := 1) hx hb dL_law_1008 (by decide) ?_
  refine lv_iadd hx hb dL_law_1009 ?_
  refine lv_topi (fun v1 ev1 => ?_)
  try have tv1 : v1.toInt = i.toInt + 1 := by rw [ev1]; exact (i_add (x := i) (y := (1 : Int32)) (by rw [k1]; omega) (by rw [k1]; omega)).trans (by rw [k1])
  refine va_sld hx hb hX hbl hbA hS (i_in (by omega) (by omega)) dL_law_1010 ?_
  refine lv_topi (fun a2 ea2 => ?_)
  replace ea2 : xk1 = a2 := (ea2.trans (by rw [exk1]; congr 1; have := i_cl (x := v1) (by omega); have := i_cl (x := i) (by omega); omega)).symm
  subst ea2
  refine lv_aload_n hx hb dL_law_1011 rfl (lv_at hl 0 rfl) ?_
  refine lv_iload_n hx hb dL_law_1012 rfl (lv_at hl 3 rfl) ?_
  refine lv_iconst (v := 2) hx hb dL_law_1013 (by decide) ?_
  refine lv_iadd hx hb dL_law_1014 ?_
  refine lv_topi (fun v3 ev3 => ?_)
  try have tv3 : v3.toInt = i.toInt + 2 := by rw [ev3]; exact (i_add (x := i) (y := (2 : Int32)) (by rw [k2]; omega) (by rw [k2]; omega)).trans (by rw [k2])
  refine va_sld hx hb hX hbl hbA hS (i_in (by omega) (by omega)) dL_law_1015 ?_
  refine lv_topi (fun a4 ea4 => ?_)
  replace ea4 : xk2 = a4 := (ea4.trans (by rw [exk2]; congr 1; have := i_cl (x := v3) (by omega); have := i_cl (x := i) (by omega); omega)).symm
  subst ea4
  refine lv_aload_n hx hb dL_law_1016 rfl (lv_at hl 0 rfl) ?_
  refine lv_iload_n hx hb dL_law_1017 rfl (lv_at hl 3 rfl) ?_
  refine lv_iconst (v := 3) hx hb dL_law_1018 (by decide) ?_
  refine lv_iadd hx hb dL_law_1019 ?_
  refine lv_topi (fun v5 ev5 => ?_)
  try have tv5 : v5.toInt = i.toInt + 3 := by rw [ev5]; exact (i_add (x := i) (y := (3 : Int32)) (by rw [k3]; omega) (by rw [k3]; omega)).trans (by rw [k3])
  refine va_sld hx hb hX hbl hbA hS (i_in (by omega) (by omega)) dL_law_1020 ?_
  refine lv_topi (fun a6 ea6 => ?_)
  replace ea6 : xk3 = a6 := (ea6.trans (by rw [exk3]; congr 1; have := i_cl (x := v5) (by omega); have := i_cl (x := i) (by omega); omega)).symm
  subst ea6
  refine lv_aload_n hx hb dL_law_1021 rfl (lv_at hl 0 rfl) ?_
  refine lv_iload_n hx hb dL_law_1022 rfl (lv_at hl 3 rfl) ?_
  refine lv_iconst (v := 4) hx hb dL_law_1023 (by decide) ?_
  refine lv_iadd hx hb dL_law_1024 ?_
  refine lv_topi (fun v7 ev7 => ?_)
  try have tv7 : v7.toInt = i.toInt + 4 := by rw [ev7]; exact (i_add (x := i) (y := (4 : Int32)) (by rw [k4]; omega) (by rw [k4]; omega)).trans (by rw [k4])
  refine va_sld hx hb hX hbl hbA hS (i_in (by omega) (by omega)) dL_law_1025 ?_
  refine lv_topi (fun a8 ea8 => ?_)
  replace ea8 : xk4 = a8 := (ea8.trans (by rw [exk4]; congr 1; have := i_cl (x := v7) (by omega); have := i_cl (x := i) (by omega); omega)).symm
  subst ea8
  refine st_iQ (wr := [((ad 11), .inl (cI, 16, .inl (fx 0))), ((rw 0), .inl (cI, 60, .inl (rs 0))), ((rw 1), .inl (cI, 60, .inl (rs 1))), ((rw 2), .inl (cI, 60, .inl (rs 2))), ((rw 3), .inl (cI, 60, .inl (rs 3))), ((rw 4), .inl (cI, 60, .inl (rs 4))), ((rw 5), .inl (cI, 60, .inl (rs 5))), ((rw 6), .inl (cI, 60, .inl (rs 6))), ((rw 7), .inl (cI, 60, .inl (rs 7))), ((ad 1), .inr (9, [.ref (ad 12), .ref (ad 13), .ref (ad 14)])), ((ad 12), .inl (cQ, 8, .inr (.inr (.inr (.inr (fun i => if i < 8 then some (rw i) else none)))))), ((ad 13), .inl (cI, 8, .inl (fx 1))), ((ad 14), .inl (cI, 8, .inl (fx 2))), ((ad 2), .inr (3, [.ref (ad 23), .ref (ad 24), .ref (ad 25), .ref (ad 26), .int (nx 3), .ref (ad 27), .ref (ad 28), .ref (ad 29), .ref (ad 30)])), ((ad 23), .inl (cI, 40, .inl (fx 3))), ((ad 24), .inl (cI, 40, .inl (fx 4))), ((ad 25), .inl (cI, 40, .inl (fx 5))), ((ad 26), .inl (cI, 40, .inl (fx 6))), ((ad 27), .inl (cI, 200, .inl (fx 7))), ((ad 28), .inl (cI, 200, .inl (fx 8))), ((ad 29), .inl (cI, 20, .inl (fx 9))), ((ad 30), .inl (cI, 10, .inl (fx 10))), ((ad 31), .inl (cI, 12, .inl (fx 11))), ((ad 32), .inl (cI, 12, .inl (fx 12))), ((ad 33), .inl (cI, 12, .inl (fx 13))), ((ad 34), .inl (cI, 6, .inl (fx 14))), ((ad 35), .inl (cI, 6, .inl (fx 15))), ((ad 4), .inr (7, [.ref (ad 36), .ref (ad 37), .ref (ad 38), .ref (ad 39), .ref (ad 40), .ref (ad 41), .int (nx 5)])), ((ad 36), .inl (cI, 40, .inl (fx 16))), ((ad 37), .inl (cI, 40, .inl (fx 17))), ((ad 38), .inl (cI, 40, .inl (fx 18))), ((ad 39), .inl (cI, 40, .inl (fx 19))), ((ad 40), .inl (cI, 40, .inl (fx 20))), ((ad 41), .inl (cI, 40, .inl (fx 21))), ((ad 5), .inr (8, [.ref (ad 42), .ref (ad 43), .ref (ad 44), .ref (ad 45), .int (nx 6), .ref (ad 46)])), ((ad 42), .inl (cI, 40, .inl (fx 22))), ((ad 43), .inl (cI, 40, .inl (fx 23))), ((ad 44), .inl (cI, 40, .inl (fx 24))), ((ad 45), .inl (cI, 40, .inl (fx 25))), ((ad 46), .inl (cI, 40, .inl (fx 26))), ((ad 6), .inr (2, [.ref (ad 47), .int (nx 7), .int (nx 8), .ref (ad 48), .ref (ad 49), .ref (ad 50), .int (nx 9), .ref (ad 51), .ref (ad 52), .ref (ad 53), .int (nx 10), .int (nx 11), .int (nx 12), .int (nx 13), .int (nx 14)])), ((ad 47), .inl (cY, 300, .inl (fx 27))), ((ad 48), .inl (cI, 12, .inl (fx 28))), ((ad 49), .inl (cI, 12, .inl (fx 29))), ((ad 50), .inl (cI, 12, .inl (fx 30))), ((ad 51), .inl (cI, 12, .inl (fx 31))), ((ad 52), .inl (cI, 12, .inl (fx 32))), ((ad 53), .inl (cI, 12, .inl (fx 33))), ((ad 8), .inr (5, [.int sd, .ref (ad 58)])), ((ad 58), .inl (cJ, 12, .inr (.inl lo))), ((ad 9), .inr (6, [.ref (ad 59), .ref (ad 60), .ref (ad 61), .ref (ad 62), .int (nx 16)])), ((ad 59), .inl (cI, 60, .inl (fx 38))), ((ad 60), .inl (cI, 60, .inl (fx 39))), ((ad 61), .inl (cI, 60, .inl (fx 40))), ((ad 62), .inl (cI, 60, .inl (fx 41))), ((ad 10), .inr (4, [.ref (ad 63), .ref (ad 64), .ref (ad 65), .int (nx 17)])), ((ad 63), .inl (cI, 20, .inl (fx 42))), ((ad 64), .inl (cI, 20, .inl (fx 43))), ((ad 65), .inl (cI, 20, .inl (fx 44)))]) (va_runV (C := RX10) (As := [.int xk1, .int xk2, .int xk3, .int xk4]) (rest := []) ⟨hx, hb, hml, hown, hts⟩ (ct_X10_act l D cI cY cJ cQ _ ad (nx 0) (nx 1) (nx 2) (nx 4) (nx 15) (fx 34) (fx 35) (fx 36) (fx 37) xk1 xk2 xk3 xk4 (by omega) (by omega)) (cwV 4 hts gL_law_X10_act rfl rfl rfl ⟨rfl, cdX10_act⟩ ⟨Nat.le_of_ble_eq_true rfl, Nat.le_of_ble_eq_true rfl⟩) (cPreV (hP.sub [0, 23, 50, 51, 52, 53, 54] rfl) hK (hD.sub [0, 23, 50, 51, 52, 53, 54] (by decide +kernel) rfl) hN (ci := 10) (q0 := 0) rfl rfl) rfl rfl hl.1 rfl (lv_room (Nat.le_of_ble_eq_true rfl)) dL_law_1026 ⟨Nat.le_of_ble_eq_true rfl, Nat.le_of_ble_eq_true rfl⟩) hP hD hS hA [0, 23, 50, 51, 52, 53, 54] [1, 2, 3, 4, 5, 6, 7, 8, 9, 10, 11, 12, 13, 14, 15, 16, 17, 18, 19, 20, 21, 22, 24, 25, 26, 27, 28, 29, 30, 31, 32, 33, 34, 35, 36, 37, 38, 39, 40, 41, 42, 43, 44, 45, 46, 47, 48, 49, 55, 56, 57, 58, 59, 60, 61, 62, 63, 64, 65] rfl rfl (by decide +kernel) (by decide +kernel) (fun r11 u9 H locs hw10 hP hD hS => ?_)
  obtain ⟨an_12, ak_13, ah_14, ay_15, az_16⟩ := u9
  replace hw10 : (r11, (an_12, ak_13, ah_14, ay_15, az_16)) = sp_act (nx 15) (fx 34) (fx 35) (fx 36) (fx 37) (nx 4) xk1 xk2 xk3 xk4 := hw10
  obtain ⟨hw10a, hw10b⟩ := sp_act_ok hw10 (by omega) (by omega)
  refine lv_pop hx hb dL_law_1029 rfl ?_
  have hPx : va_P D vwCl (wX ad rw sd cI cY cJ cQ (upd nx 15 an_12) (upR (upR (upR (upR fx 34 ak_13) 35 ah_14) 36 ay_15) 37 az_16) rs lo ++ wM md sd cI cY cJ cQ ny fy fl) H := hP.part [59, 0, 1, 2, 3, 4, 5, 6, 7, 8, 9, 10, 11, 12, 13, 14, 15, 16, 17, 18, 19, 20, 21, 60, 22, 23, 24, 25, 26, 27, 28, 29, 30, 31, 32, 33, 34, 35, 36, 37, 38, 39, 40, 41, 42, 43, 44, 45, 46, 47, 61, 62, 63, 64, 65, 48, 49, 50, 51, 52, 53, 54, 55, 56, 57, 58] rfl
  have hDx : va_D (fun q : Nat => s.heap.size ≤ q) (wX ad rw sd cI cY cJ cQ (upd nx 15 an_12) (upR (upR (upR (upR fx 34 ak_13) 35 ah_14) 36 ay_15) 37 az_16) rs lo ++ wM md sd cI cY cJ cQ ny fy fl) := hD.part [59, 0, 1, 2, 3, 4, 5, 6, 7, 8, 9, 10, 11, 12, 13, 14, 15, 16, 17, 18, 19, 20, 21, 60, 22, 23, 24, 25, 26, 27, 28, 29, 30, 31, 32, 33, 34, 35, 36, 37, 38, 39, 40, 41, 42, 43, 44, 45, 46, 47, 61, 62, 63, 64, 65, 48, 49, 50, 51, 52, 53, 54, 55, 56, 57, 58] (by decide +kernel) rfl
  have hP := hPx.comm
  have hD := hDx.comm
  refine lv_aload_n hx hb dL_law_1030 rfl (lv_at hl 2 rfl) ?_
  refine lv_aload_n hx hb dL_law_1031 rfl (lv_at hl 0 rfl) ?_
  refine lv_iload_n hx hb dL_law_1032 rfl (lv_at hl 3 rfl) ?_
  refine lv_iconst (v := 1) hx hb dL_law_1033 (by decide) ?_
  refine lv_iadd hx hb dL_law_1034 ?_
  refine lv_topi (fun v17 ev17 => ?_)
  try have tv17 : v17.toInt = i.toInt + 1 := by rw [ev17]; exact (i_add (x := i) (y := (1 : Int32)) (by rw [k1]; omega) (by rw [k1]; omega)).trans (by rw [k1])
  refine va_sld hx hb hX hbl hbA hS (i_in (by omega) (by omega)) dL_law_1035 ?_
  refine lv_topi (fun a18 ea18 => ?_)
  replace ea18 : xk1 = a18 := (ea18.trans (by rw [exk1]; congr 1; have := i_cl (x := v17) (by omega); have := i_cl (x := i) (by omega); omega)).symm
  subst ea18
  refine lv_aload_n hx hb dL_law_1036 rfl (lv_at hl 0 rfl) ?_
  refine lv_iload_n hx hb dL_law_1037 rfl (lv_at hl 3 rfl) ?_
  refine lv_iconst (v := 2) hx hb dL_law_1038 (by decide) ?_
  refine lv_iadd hx hb dL_law_1039 ?_
  refine lv_topi (fun v19 ev19 => ?_)
  try have tv19 : v19.toInt = i.toInt + 2 := by rw [ev19]; exact (i_add (x := i) (y := (2 : Int32)) (by rw [k2]; omega) (by rw [k2]; omega)).trans (by rw [k2])
  refine va_sld hx hb hX hbl hbA hS (i_in (by omega) (by omega)) dL_law_1040 ?_
  refine lv_topi (fun a20 ea20 => ?_)
  replace ea20 : xk2 = a20 := (ea20.trans (by rw [exk2]; congr 1; have := i_cl (x := v19) (by omega); have := i_cl (x := i) (by omega); omega)).symm
  subst ea20
  refine lv_aload_n hx hb dL_law_1041 rfl (lv_at hl 0 rfl) ?_
  refine lv_iload_n hx hb dL_law_1042 rfl (lv_at hl 3 rfl) ?_
  refine lv_iconst (v := 3) hx hb dL_law_1043 (by decide) ?_
  refine lv_iadd hx hb dL_law_1044 ?_
  refine lv_topi (fun v21 ev21 => ?_)
  try have tv21 : v21.toInt = i.toInt + 3 := by rw [ev21]; exact (i_add (x := i) (y := (3 : Int32)) (by rw [k3]; omega) (by rw [k3]; omega)).trans (by rw [k3])
  refine va_sld hx hb hX hbl hbA hS (i_in (by omega) (by omega)) dL_law_1045 ?_
  refine lv_topi (fun a22 ea22 => ?_)
  replace ea22 : xk3 = a22 := (ea22.trans (by rw [exk3]; congr 1; have := i_cl (x := v21) (by omega); have := i_cl (x := i) (by omega); omega)).symm
  subst ea22
  refine lv_aload_n hx hb dL_law_1046 rfl (lv_at hl 0 rfl) ?_
  refine lv_iload_n hx hb dL_law_1047 rfl (lv_at hl 3 rfl) ?_
  refine lv_iconst (v := 4) hx hb dL_law_1048 (by decide) ?_
  refine lv_iadd hx hb dL_law_1049 ?_
  refine lv_topi (fun v23 ev23 => ?_)
  try have tv23 : v23.toInt = i.toInt + 4 := by rw [ev23]; exact (i_add (x := i) (y := (4 : Int32)) (by rw [k4]; omega) (by rw [k4]; omega)).trans (by rw [k4])
  refine va_sld hx hb hX hbl hbA hS (i_in (by omega) (by omega)) dL_law_1050 ?_
  refine lv_topi (fun a24 ea24 => ?_)
  replace ea24 : xk4 = a24 := (ea24.trans (by rw [exk4]; congr 1; have := i_cl (x := v23) (by omega); have := i_cl (x := i) (by omega); omega)).symm
  subst ea24
  refine st_iQ (wr := [((md 3), .inl (cI, 8, .inl (fy 0))), ((md 4), .inl (cI, 8, .inl (fy 1))), ((md 5), .inl (cI, 480, .inl (fy 2))), ((md 7), .inl (cI, 40, .inl (fy 3))), ((md 8), .inl (cI, 40, .inl (fy 4))), ((md 9), .inl (cI, 40, .inl (fy 5))), ((md 10), .inl (cI, 40, .inl (fy 6))), ((md 11), .inl (cI, 200, .inl (fy 7))), ((md 12), .inl (cI, 12, .inl (fy 8))), ((md 13), .inl (cI, 12, .inl (fy 9))), ((md 14), .inl (cJ, 12, .inr (.inl fl))), ((md 16), .inl (cI, 12, .inl (fy 10))), ((md 17), .inl (cI, 12, .inl (fy 11))), ((md 19), .inl (cI, 40, .inl (fy 12))), ((md 20), .inl (cI, 40, .inl (fy 13))), ((md 21), .inl (cI, 40, .inl (fy 14))), ((md 22), .inl (cI, 40, .inl (fy 15))), ((md 23), .inl (cI, 40, .inl (fy 16))), ((md 26), .inl (cI, 40, .inl (fy 17))), ((md 27), .inl (cI, 40, .inl (fy 18))), ((md 28), .inl (cI, 40, .inl (fy 19))), ((md 29), .inl (cI, 40, .inl (fy 20))), ((md 31), .inl (cI, 36, .inl (fy 21))), ((md 33), .inl (cI, 36, .inl (fy 22))), ((md 34), .inl (cI, 300, .inl (fy 23))), ((md 49), .inl (cI, 6, .inl (fy 28))), ((md 50), .inl (cI, 6, .inl (fy 29))), ((md 51), .inl (cI, 12, .inl (fy 30))), ((md 53), .inl (cI, 60, .inl (fy 31))), ((md 54), .inl (cI, 60, .inl (fy 32))), ((md 55), .inl (cI, 60, .inl (fy 33))), ((md 56), .inl (cI, 60, .inl (fy 34))), ((md 58), .inl (cI, 20, .inl (fy 35))), ((md 59), .inl (cI, 20, .inl (fy 36))), ((md 60), .inl (cI, 20, .inl (fy 37))), ((md 62), .inl (cI, 16, .inl (fy 38)))]) (va_runV (C := RX11) (As := [.int xk1, .int xk2, .int xk3, .int xk4]) (rest := []) ⟨hx, hb, hml, hown, hts⟩ (ct_X11_act l D cI cY cJ cQ _ md sd (ny 0) (ny 1) (ny 2) (ny 3) (ny 4) (ny 5) (ny 6) (ny 7) (ny 8) (ny 9) (ny 10) (ny 11) (ny 12) (ny 13) (ny 14) (ny 15) (ny 16) (ny 17) (ny 18) (ny 19) (ny 20) (ny 21) (ny 22) (fy 24) (fy 25) (fy 26) (fy 27) xk1 xk2 xk3 xk4 (by omega) (by omega) (by omega) (by omega)) (cwV 4 hts gL_law_X11_act rfl rfl rfl ⟨rfl, cdX11_act⟩ ⟨Nat.le_of_ble_eq_true rfl, Nat.le_of_ble_eq_true rfl⟩) (cPreV (hP.sub [0, 26, 27, 28, 29] rfl) hK (hD.sub [0, 26, 27, 28, 29] (by decide +kernel) rfl) hN (ci := 11) (q0 := 0) rfl rfl) rfl rfl hl.1 rfl (lv_room (Nat.le_of_ble_eq_true rfl)) dL_law_1051 ⟨Nat.le_of_ble_eq_true rfl, Nat.le_of_ble_eq_true rfl⟩) hP hD hS hA [0, 26, 27, 28, 29] [1, 2, 3, 4, 5, 6, 7, 8, 9, 10, 11, 12, 13, 14, 15, 16, 17, 18, 19, 20, 21, 22, 23, 24, 25, 30, 31, 32, 33, 34, 35, 36, 37, 38, 39, 40] rfl rfl (by decide +kernel) (by decide +kernel) (fun r27 u25 H locs hw26 hP hD hS => ?_)
  obtain ⟨an_28, ak_29, ah_30, ay_31, az_32⟩ := u25
  replace hw26 : (r27, (an_28, ak_29, ah_30, ay_31, az_32)) = sp_act (ny 18) (fy 24) (fy 25) (fy 26) (fy 27) (ny 3) xk1 xk2 xk3 xk4 := hw26
  rw [Can, Cak, Cah, Cay, Caz, Ccn] at hw26
  have e9 := hw10.trans hw26.symm
  simp only [Prod.mk.injEq] at e9
  obtain ⟨e90, e9an, e9ak, e9ah, e9ay, e9az⟩ := e9
  refine lv_pop hx hb dL_law_1054 rfl ?_
  refine lv_goto (tgt := 1652) hx hb dL_law_1055 (by decide) ?_
  have hPm : va_P D vwCl (wM md sd cI cY cJ cQ (upd (upd ny 0 0) 18 an_28) (upR (upR (upR (upR fy 24 ak_29) 25 ah_30) 26 ay_31) 27 az_32) fl ++ wX ad rw sd cI cY cJ cQ (upd nx 15 an_12) (upR (upR (upR (upR fx 34 ak_13) 35 ah_14) 36 ay_15) 37 az_16) rs lo) H := hP.part [36, 0, 1, 2, 3, 4, 5, 6, 7, 8, 9, 10, 11, 12, 13, 14, 15, 16, 17, 18, 19, 20, 21, 22, 23, 24, 37, 38, 39, 40, 25, 26, 27, 28, 29, 30, 31, 32, 33, 34, 35] rfl
  have hDm : va_D (fun q : Nat => s.heap.size ≤ q) (wM md sd cI cY cJ cQ (upd (upd ny 0 0) 18 an_28) (upR (upR (upR (upR fy 24 ak_29) 25 ah_30) 26 ay_31) 27 az_32) fl ++ wX ad rw sd cI cY cJ cQ (upd nx 15 an_12) (upR (upR (upR (upR fx 34 ak_13) 35 ah_14) 36 ay_15) 37 az_16) rs lo) := hD.part [36, 0, 1, 2, 3, 4, 5, 6, 7, 8, 9, 10, 11, 12, 13, 14, 15, 16, 17, 18, 19, 20, 21, 22, 23, 24, 37, 38, 39, 40, 25, 26, 27, 28, 29, 30, 31, 32, 33, 34, 35] (by decide +kernel) rfl
  exact kk (upd nx 15 an_12) (upR (upR (upR (upR fx 34 ak_13) 35 ah_14) 36 ay_15) 37 az_16) rs lo (upd (upd ny 0 0) 18 an_28) (upR (upR (upR (upR fy 24 ak_29) 25 ah_30) 26 ay_31) 27 az_32) fl H locs ls ⟨Xhna, Xhnb, XH, Xcna, Xcnb, Xpna, Xpnb, XO, Xgna, Xgnb, Xlna, Xlnb, Xdla, Xdlb, (by show 0 ≤ (an_12).toInt; omega), (by show (an_12).toInt ≤ 60; omega), Xuna, Xunb, Xlca, Xlcb, Xtna, Xtnb, XS, Mhna, Mhnb, MH, MS, Mmlna, Mmlnb, Mmtna, Mmtnb, Ccn, Cfo, Cwo, Cpn, Cpk, Cpf, Cpo, Cpd, Cpe, Cgn, Cgk, Cgs, Cgd, Cge, (show (an_28) = (an_12) from e9an.symm), (show (ak_29) = (ak_13) from e9ak.symm), (show (ah_30) = (ah_14) from e9ah.symm), (show (ay_31) = (ay_15) from e9ay.symm), (show (az_32) = (az_16) from e9az.symm), Cun, Cuk, Cuy, Cuw, Cum, Clc, Clp, Cla, Clb, Caw, Ciw, Cln, Ctd⟩ hPm.comm hDm.comm hS hl
