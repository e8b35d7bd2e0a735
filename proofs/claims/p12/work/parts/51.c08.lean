theorem cdX10_kind : yX10_kind.cls ≠ "java/lang/invoke/MethodHandle" ∧ yX10_kind.cls ≠ "java/lang/invoke/VarHandle" ∧ (parseMethodDescriptor yX10_kind.desc).map (fun d => d.parameters.length) = some 1 := by decide +kernel
theorem cdX10_as : yX10_as.cls ≠ "java/lang/invoke/MethodHandle" ∧ yX10_as.cls ≠ "java/lang/invoke/VarHandle" ∧ (parseMethodDescriptor yX10_as.desc).map (fun d => d.parameters.length) = some 2 := by decide +kernel
theorem cdX10_ask : yX10_ask.cls ≠ "java/lang/invoke/MethodHandle" ∧ yX10_ask.cls ≠ "java/lang/invoke/VarHandle" ∧ (parseMethodDescriptor yX10_ask.desc).map (fun d => d.parameters.length) = some 2 := by decide +kernel
theorem cdX10_trace : yX10_trace.cls ≠ "java/lang/invoke/MethodHandle" ∧ yX10_trace.cls ≠ "java/lang/invoke/VarHandle" ∧ (parseMethodDescriptor yX10_trace.desc).map (fun d => d.parameters.length) = some 1 := by decide +kernel
theorem cdX11_kind : yX11_kind.cls ≠ "java/lang/invoke/MethodHandle" ∧ yX11_kind.cls ≠ "java/lang/invoke/VarHandle" ∧ (parseMethodDescriptor yX11_kind.desc).map (fun d => d.parameters.length) = some 1 := by decide +kernel
theorem cdX11_as : yX11_as.cls ≠ "java/lang/invoke/MethodHandle" ∧ yX11_as.cls ≠ "java/lang/invoke/VarHandle" ∧ (parseMethodDescriptor yX11_as.desc).map (fun d => d.parameters.length) = some 2 := by decide +kernel
theorem cdX11_ask : yX11_ask.cls ≠ "java/lang/invoke/MethodHandle" ∧ yX11_ask.cls ≠ "java/lang/invoke/VarHandle" ∧ (parseMethodDescriptor yX11_ask.desc).map (fun d => d.parameters.length) = some 2 := by decide +kernel
theorem cdX11_trace : yX11_trace.cls ≠ "java/lang/invoke/MethodHandle" ∧ yX11_trace.cls ≠ "java/lang/invoke/VarHandle" ∧ (parseMethodDescriptor yX11_trace.desc).map (fun d => d.parameters.length) = some 1 := by decide +kernel
set_option maxRecDepth 20000 in
theorem ggL_law_X10_kind : GoodIn wsL_law wsX10_kind := goodIn_ch _ [(41, 22), (8, 8), (19, 9), (19, 10), (19, 11), (0, 2), (19, 12), (1, 4), (18, 16), (8, 9), (8, 10), (8, 11), (41, 23), (42, 0), (42, 1), (42, 2), (41, 13), (1, 12), (22, 16), (40, 15), (40, 16), (40, 17), (40, 18), (2, 4), (1, 8), (20, 14), (1, 0), (40, 19), (40, 20), (40, 21), (40, 22), (2, 3), (40, 23), (40, 5), (5, 20), (5, 21), (5, 19), (20, 15), (20, 16), (20, 17), (1, 7), (20, 18), (19, 20), (4, 6), (4, 4), (4, 2), (4, 3), (20, 19), (20, 20), (20, 21), (20, 22), (4, 1), (4, 5), (14, 12), (14, 13), (14, 14), (0, 23), (14, 15), (3, 6), (3, 7), (12, 22), (3, 2), (3, 3), (3, 5), (3, 4), (14, 16), (2, 20), (2, 21), (2, 22), (14, 17), (14, 18), (14, 19), (14, 20), (14, 21), (14, 22), (14, 23), (3, 8), (15, 0), (15, 1), (15, 2), (15, 3), (3, 9), (15, 4), (11, 1), (11, 2), (11, 3), (15, 5), (15, 6), (18, 6), (15, 23), (16, 0), (16, 1), (16, 2), (16, 3), (16, 4), (16, 5), (16, 6), (16, 7), (16, 8), (16, 9), (16, 10), (16, 11), (16, 12), (16, 13), (16, 14), (16, 15), (16, 16), (15, 8), (15, 9), (15, 10), (42, 3), (42, 4), (42, 5), (1, 11), (42, 6), (22, 5), (4, 11), (22, 21), (22, 22), (22, 23), (23, 0), (4, 10), (4, 13), (48, 0), (48, 1), (48, 2), (48, 3), (48, 4), (48, 5), (48, 6), (48, 7), (48, 8), (48, 9), (48, 10), (48, 11), (48, 12), (48, 13), (52, 0), (52, 1), (52, 2), (52, 3), (52, 4), (52, 5), (58, 0), (58, 1), (58, 2), (58, 3), (53, 0), (53, 1), (53, 2), (53, 3), (53, 4), (53, 5), (53, 6), (51, 0), (51, 1), (51, 2), (51, 3), (51, 4), (51, 5), (51, 6), (51, 7), (51, 8), (54, 0), (54, 1), (54, 2), (54, 3), (54, 4), (54, 5)] rfl (by decide +kernel)
set_option maxRecDepth 20000 in
theorem gL_law_X10_kind : GoodIn wsL_law (wsV RL 158 RX10 yX10_kind wsX10_kind) := goodIn_app (goodIn_ch _ [(41, 19), (41, 20), (41, 21), (0, 2)] rfl (by decide +kernel)) ggL_law_X10_kind
set_option maxRecDepth 20000 in
theorem ggL_law_X11_kind : GoodIn wsL_law wsX11_kind := goodIn_ch _ [(42, 10), (9, 6), (9, 8), (20, 6), (20, 7), (20, 8), (0, 5), (20, 9), (19, 3), (9, 14), (9, 15), (9, 16), (42, 11), (42, 12), (42, 13), (42, 14), (41, 18), (6, 21), (42, 15), (42, 16), (42, 17), (42, 18), (22, 10), (7, 3), (7, 6), (7, 4), (41, 4), (41, 5), (41, 6), (41, 7), (40, 10), (7, 22), (7, 23), (7, 21), (41, 8), (21, 3), (21, 4), (21, 5), (21, 6), (6, 20), (21, 7), (8, 2), (20, 5), (6, 22), (7, 2), (7, 1), (6, 23), (7, 0), (17, 1), (17, 2), (17, 3), (17, 4), (17, 5), (17, 6), (17, 7), (17, 8), (17, 9), (6, 16), (15, 15), (15, 16), (15, 17), (15, 18), (13, 8), (6, 12), (6, 13), (6, 15), (6, 14), (17, 10), (17, 11), (17, 12), (17, 13), (6, 17), (6, 19), (17, 14), (6, 18), (13, 7), (17, 15), (49, 0), (49, 1), (49, 2), (49, 3), (49, 4), (49, 5), (49, 6), (49, 7), (49, 8), (49, 9), (49, 10), (49, 11), (49, 12), (49, 13), (49, 14), (49, 15), (49, 16), (49, 17), (49, 18), (49, 19), (49, 20), (49, 21), (49, 22), (49, 23), (49, 24), (49, 25), (49, 26), (49, 27), (49, 28), (49, 29), (49, 30), (49, 31), (49, 32), (49, 33), (49, 34), (49, 35), (49, 36), (49, 37), (49, 38), (49, 39), (49, 40), (49, 41), (49, 42), (49, 43), (49, 44), (49, 45), (49, 46), (49, 47), (49, 48), (49, 49), (49, 50), (49, 51), (49, 52), (49, 53), (49, 54), (49, 55), (49, 56), (49, 57), (49, 58), (49, 59), (49, 60), (49, 61), (49, 62), (49, 63)] rfl (by decide +kernel)
set_option maxRecDepth 20000 in
theorem gL_law_X11_kind : GoodIn wsL_law (wsV RL 161 RX11 yX11_kind wsX11_kind) := goodIn_app (goodIn_ch _ [(42, 7), (42, 8), (42, 9), (0, 5)] rfl (by decide +kernel)) ggL_law_X11_kind
set_option maxRecDepth 20000 in
theorem ggL_law_X10_as : GoodIn wsL_law wsX10_as := goodIn_ch _ [(42, 22), (8, 8), (1, 4), (22, 16), (19, 9), (19, 10), (19, 11), (0, 2), (19, 12), (18, 16), (8, 9), (8, 10), (8, 11), (41, 23), (42, 0), (42, 1), (42, 2), (41, 13), (1, 12), (40, 15), (40, 16), (40, 17), (40, 18), (2, 4), (1, 8), (20, 14), (1, 0), (40, 19), (40, 20), (40, 21), (40, 22), (2, 3), (40, 23), (40, 5), (5, 20), (5, 21), (5, 19), (20, 15), (20, 16), (20, 17), (1, 7), (20, 18), (19, 20), (4, 6), (4, 4), (4, 2), (4, 3), (20, 19), (20, 20), (20, 21), (20, 22), (4, 1), (4, 5), (14, 12), (14, 13), (14, 14), (0, 23), (14, 15), (3, 6), (3, 7), (12, 22), (3, 2), (3, 3), (3, 5), (3, 4), (14, 16), (2, 20), (2, 21), (2, 22), (14, 17), (14, 18), (14, 19), (14, 20), (14, 21), (14, 22), (14, 23), (3, 8), (15, 0), (15, 1), (15, 2), (15, 3), (3, 9), (15, 4), (11, 1), (11, 2), (11, 3), (15, 5), (15, 6), (18, 6), (15, 23), (16, 0), (16, 1), (16, 2), (16, 3), (16, 4), (16, 5), (16, 6), (16, 7), (16, 8), (16, 9), (16, 10), (16, 11), (16, 12), (16, 13), (16, 14), (16, 15), (16, 16), (15, 8), (15, 9), (15, 10), (42, 3), (42, 4), (42, 5), (1, 11), (42, 6), (22, 5), (4, 11), (22, 21), (22, 22), (22, 23), (23, 0), (4, 10), (4, 13), (42, 23), (43, 0), (43, 1), (8, 12), (8, 13), (8, 14), (8, 15), (8, 16), (8, 17), (8, 22), (8, 23), (9, 0), (9, 1), (48, 0), (48, 1), (48, 2), (48, 3), (48, 4), (48, 5), (48, 6), (48, 7), (48, 8), (48, 9), (48, 10), (48, 11), (48, 12), (48, 13), (52, 0), (52, 1), (52, 2), (52, 3), (52, 4), (52, 5), (58, 0), (58, 1), (58, 2), (58, 3), (53, 0), (53, 1), (53, 2), (53, 3), (53, 4), (53, 5), (53, 6), (51, 0), (51, 1), (51, 2), (51, 3), (51, 4), (51, 5), (51, 6), (51, 7), (51, 8), (54, 0), (54, 1), (54, 2), (54, 3), (54, 4), (54, 5)] rfl (by decide +kernel)
set_option maxRecDepth 20000 in
theorem gL_law_X10_as : GoodIn wsL_law (wsV RL 162 RX10 yX10_as wsX10_as) := goodIn_app (goodIn_ch _ [(42, 19), (42, 20), (42, 21), (0, 2)] rfl (by decide +kernel)) ggL_law_X10_as
set_option maxRecDepth 20000 in
theorem ggL_law_X11_as : GoodIn wsL_law wsX11_as := goodIn_ch _ [(43, 5), (9, 6), (43, 6), (9, 8), (9, 9), (6, 21), (20, 6), (20, 7), (20, 8), (0, 5), (20, 9), (19, 3), (9, 14), (9, 15), (9, 16), (42, 11), (42, 12), (42, 13), (42, 14), (41, 18), (42, 15), (42, 16), (42, 17), (42, 18), (22, 10), (7, 3), (7, 6), (7, 4), (41, 4), (41, 5), (41, 6), (41, 7), (40, 10), (7, 22), (7, 23), (7, 21), (41, 8), (21, 3), (21, 4), (21, 5), (21, 6), (6, 20), (21, 7), (8, 2), (20, 5), (6, 22), (7, 2), (7, 1), (6, 23), (7, 0), (17, 1), (17, 2), (17, 3), (17, 4), (17, 5), (17, 6), (17, 7), (17, 8), (17, 9), (6, 16), (15, 15), (15, 16), (15, 17), (15, 18), (13, 8), (6, 12), (6, 13), (6, 15), (6, 14), (17, 10), (17, 11), (17, 12), (17, 13), (6, 17), (6, 19), (17, 14), (6, 18), (13, 7), (17, 15), (43, 7), (43, 8), (43, 9), (9, 17), (9, 18), (9, 19), (9, 20), (9, 21), (49, 0), (49, 1), (49, 2), (49, 3), (49, 4), (49, 5), (49, 6), (49, 7), (49, 8), (49, 9), (49, 10), (49, 11), (49, 12), (49, 13), (49, 14), (49, 15), (49, 16), (49, 17), (49, 18), (49, 19), (49, 20), (49, 21), (49, 22), (49, 23), (49, 24), (49, 25), (49, 26), (49, 27), (49, 28), (49, 29), (49, 30), (49, 31), (49, 32), (49, 33), (49, 34), (49, 35), (49, 36), (49, 37), (49, 38), (49, 39), (49, 40), (49, 41), (49, 42), (49, 43), (49, 44), (49, 45), (49, 46), (49, 47), (49, 48), (49, 49), (49, 50), (49, 51), (49, 52), (49, 53), (49, 54), (49, 55), (49, 56), (49, 57), (49, 58), (49, 59), (49, 60), (49, 61), (49, 62), (49, 63)] rfl (by decide +kernel)
set_option maxRecDepth 20000 in
theorem gL_law_X11_as : GoodIn wsL_law (wsV RL 165 RX11 yX11_as wsX11_as) := goodIn_app (goodIn_ch _ [(43, 2), (43, 3), (43, 4), (0, 5)] rfl (by decide +kernel)) ggL_law_X11_as
set_option maxRecDepth 20000 in
theorem ggL_law_X10_ask : GoodIn wsL_law wsX10_ask := goodIn_ch _ [(43, 13), (8, 8), (43, 14), (19, 9), (19, 10), (19, 11), (0, 2), (19, 12), (1, 4), (18, 16), (8, 9), (8, 10), (8, 11), (41, 23), (42, 0), (42, 1), (42, 2), (41, 13), (1, 12), (22, 16), (40, 15), (40, 16), (40, 17), (40, 18), (2, 4), (1, 8), (20, 14), (1, 0), (40, 19), (40, 20), (40, 21), (40, 22), (2, 3), (40, 23), (40, 5), (5, 20), (5, 21), (5, 19), (20, 15), (20, 16), (20, 17), (1, 7), (20, 18), (19, 20), (4, 6), (4, 4), (4, 2), (4, 3), (20, 19), (20, 20), (20, 21), (20, 22), (4, 1), (4, 5), (14, 12), (14, 13), (14, 14), (0, 23), (14, 15), (3, 6), (3, 7), (12, 22), (3, 2), (3, 3), (3, 5), (3, 4), (14, 16), (2, 20), (2, 21), (2, 22), (14, 17), (14, 18), (14, 19), (14, 20), (14, 21), (14, 22), (14, 23), (3, 8), (15, 0), (15, 1), (15, 2), (15, 3), (3, 9), (15, 4), (11, 1), (11, 2), (11, 3), (15, 5), (15, 6), (18, 6), (15, 23), (16, 0), (16, 1), (16, 2), (16, 3), (16, 4), (16, 5), (16, 6), (16, 7), (16, 8), (16, 9), (16, 10), (16, 11), (16, 12), (16, 13), (16, 14), (16, 15), (16, 16), (15, 8), (15, 9), (15, 10), (42, 3), (42, 4), (42, 5), (1, 11), (42, 6), (22, 5), (4, 11), (22, 21), (22, 22), (22, 23), (23, 0), (4, 10), (4, 13), (43, 15), (43, 16), (43, 17), (43, 18), (43, 19), (43, 20), (43, 21), (43, 22), (43, 23), (44, 0), (44, 1), (44, 2), (2, 6), (44, 3), (44, 4), (44, 5), (44, 6), (44, 7), (44, 8), (44, 9), (44, 10), (44, 11), (44, 12), (44, 13), (44, 14), (44, 15), (44, 16), (44, 17), (44, 18), (44, 19), (44, 20), (44, 21), (44, 22), (44, 23), (45, 0), (45, 1), (45, 2), (45, 3), (45, 4), (45, 5), (45, 6), (45, 7), (45, 8), (45, 9), (45, 10), (48, 0), (48, 1), (48, 2), (48, 3), (48, 4), (48, 5), (48, 6), (48, 7), (48, 8), (48, 9), (48, 10), (48, 11), (48, 12), (48, 13), (52, 0), (52, 1), (52, 2), (52, 3), (52, 4), (52, 5), (58, 0), (58, 1), (58, 2), (58, 3), (53, 0), (53, 1), (53, 2), (53, 3), (53, 4), (53, 5), (53, 6), (51, 0), (51, 1), (51, 2), (51, 3), (51, 4), (51, 5), (51, 6), (51, 7), (51, 8), (54, 0), (54, 1), (54, 2), (54, 3), (54, 4), (54, 5)] rfl (by decide +kernel)
set_option maxRecDepth 20000 in
theorem gL_law_X10_ask : GoodIn wsL_law (wsV RL 166 RX10 yX10_ask wsX10_ask) := goodIn_app (goodIn_ch _ [(43, 10), (43, 11), (43, 12), (0, 2)] rfl (by decide +kernel)) ggL_law_X10_ask
set_option maxRecDepth 20000 in
theorem ggL_law_X11_ask : GoodIn wsL_law wsX11_ask := goodIn_ch _ [(45, 14), (9, 6), (9, 8), (45, 15), (20, 6), (20, 7), (20, 8), (0, 5), (20, 9), (19, 3), (9, 14), (9, 15), (9, 16), (42, 11), (42, 12), (42, 13), (42, 14), (41, 18), (6, 21), (42, 15), (42, 16), (42, 17), (42, 18), (22, 10), (7, 3), (7, 6), (7, 4), (41, 4), (41, 5), (41, 6), (41, 7), (40, 10), (7, 22), (7, 23), (7, 21), (41, 8), (21, 3), (21, 4), (21, 5), (21, 6), (6, 20), (21, 7), (8, 2), (20, 5), (6, 22), (7, 2), (7, 1), (6, 23), (7, 0), (17, 1), (17, 2), (17, 3), (17, 4), (17, 5), (17, 6), (17, 7), (17, 8), (17, 9), (6, 16), (15, 15), (15, 16), (15, 17), (15, 18), (13, 8), (6, 12), (6, 13), (6, 15), (6, 14), (17, 10), (17, 11), (17, 12), (17, 13), (6, 17), (6, 19), (17, 14), (6, 18), (13, 7), (17, 15), (45, 16), (45, 17), (45, 18), (45, 19), (45, 20), (45, 21), (45, 22), (45, 23), (8, 0), (46, 0), (46, 1), (46, 2), (46, 3), (43, 7), (43, 8), (43, 9), (46, 4), (46, 5), (46, 6), (46, 7), (49, 0), (49, 1), (49, 2), (49, 3), (49, 4), (49, 5), (49, 6), (49, 7), (49, 8), (49, 9), (49, 10), (49, 11), (49, 12), (49, 13), (49, 14), (49, 15), (49, 16), (49, 17), (49, 18), (49, 19), (49, 20), (49, 21), (49, 22), (49, 23), (49, 24), (49, 25), (49, 26), (49, 27), (49, 28), (49, 29), (49, 30), (49, 31), (49, 32), (49, 33), (49, 34), (49, 35), (49, 36), (49, 37), (49, 38), (49, 39), (49, 40), (49, 41), (49, 42), (49, 43), (49, 44), (49, 45), (49, 46), (49, 47), (49, 48), (49, 49), (49, 50), (49, 51), (49, 52), (49, 53), (49, 54), (49, 55), (49, 56), (49, 57), (49, 58), (49, 59), (49, 60), (49, 61), (49, 62), (49, 63)] rfl (by decide +kernel)
set_option maxRecDepth 20000 in
theorem gL_law_X11_ask : GoodIn wsL_law (wsV RL 169 RX11 yX11_ask wsX11_ask) := goodIn_app (goodIn_ch _ [(45, 11), (45, 12), (45, 13), (0, 5)] rfl (by decide +kernel)) ggL_law_X11_ask
set_option maxRecDepth 20000 in
theorem ggL_law_X10_trace : GoodIn wsL_law wsX10_trace := goodIn_ch _ [(46, 11), (43, 14), (2, 6), (17, 20), (8, 9), (8, 10), (0, 2), (8, 11), (48, 0), (48, 1), (48, 2), (48, 3), (48, 4), (48, 5), (48, 6), (48, 7), (48, 8), (48, 9), (48, 10), (48, 11), (48, 12), (48, 13)] rfl (by decide +kernel)
set_option maxRecDepth 20000 in
theorem gL_law_X10_trace : GoodIn wsL_law (wsV RL 170 RX10 yX10_trace wsX10_trace) := goodIn_app (goodIn_ch _ [(46, 8), (46, 9), (46, 10), (0, 2)] rfl (by decide +kernel)) ggL_law_X10_trace
set_option maxRecDepth 20000 in
theorem ggL_law_X11_trace : GoodIn wsL_law wsX11_trace := goodIn_ch _ [(46, 15), (9, 6), (45, 15), (8, 0), (8, 2), (9, 14), (9, 15), (0, 5), (9, 16), (49, 0), (49, 1), (49, 2), (49, 3), (49, 4), (49, 5), (49, 6), (49, 7), (49, 8), (49, 9), (49, 10), (49, 11), (49, 12), (49, 13), (49, 14), (49, 15), (49, 16), (49, 17), (49, 18), (49, 19), (49, 20), (49, 21), (49, 22), (49, 23), (49, 24), (49, 25), (49, 26), (49, 27), (49, 28), (49, 29), (49, 30), (49, 31), (49, 32), (49, 33), (49, 34), (49, 35), (49, 36), (49, 37), (49, 38), (49, 39), (49, 40), (49, 41), (49, 42), (49, 43), (49, 44), (49, 45), (49, 46), (49, 47), (49, 48), (49, 49), (49, 50), (49, 51), (49, 52), (49, 53), (49, 54), (49, 55), (49, 56), (49, 57), (49, 58), (49, 59), (49, 60), (49, 61), (49, 62), (49, 63)] rfl (by decide +kernel)
set_option maxRecDepth 20000 in
theorem gL_law_X11_trace : GoodIn wsL_law (wsV RL 173 RX11 yX11_trace wsX11_trace) := goodIn_app (goodIn_ch _ [(46, 12), (46, 13), (46, 14), (0, 5)] rfl (by decide +kernel)) ggL_law_X11_trace
theorem dL_law_1504 : decode cL_law 1504 = .ok (.aload_n 1, 1) := dL_law_all93.2.2.2.2.2.2.2.2.2.2.1
theorem dL_law_1505 : decode cL_law 1505 = .ok (.aload_n 0, 1) := dL_law_all93.2.2.2.2.2.2.2.2.2.2.2
theorem dL_law_all94 : decode cL_law 1506 = .ok (.iload_n 3, 1) ∧ decode cL_law 1507 = .ok (.iconst 1, 1) ∧ decode cL_law 1508 = .ok (.iadd, 1) ∧ decode cL_law 1509 = .ok (.iaload, 1) ∧ decode cL_law 1510 = .ok (.invokevirtual 158, 3) ∧ decode cL_law 1513 = .ok (.pop, 1) ∧ decode cL_law 1514 = .ok (.aload_n 2, 1) ∧ decode cL_law 1515 = .ok (.aload_n 0, 1) ∧ decode cL_law 1516 = .ok (.iload_n 3, 1) ∧ decode cL_law 1517 = .ok (.iconst 1, 1) ∧ decode cL_law 1518 = .ok (.iadd, 1) ∧ decode cL_law 1519 = .ok (.iaload, 1) := by decide +kernel
theorem dL_law_1506 : decode cL_law 1506 = .ok (.iload_n 3, 1) := dL_law_all94.1
theorem dL_law_1507 : decode cL_law 1507 = .ok (.iconst 1, 1) := dL_law_all94.2.1
theorem dL_law_1508 : decode cL_law 1508 = .ok (.iadd, 1) := dL_law_all94.2.2.1
theorem dL_law_1509 : decode cL_law 1509 = .ok (.iaload, 1) := dL_law_all94.2.2.2.1
theorem dL_law_1510 : decode cL_law 1510 = .ok (.invokevirtual 158, 3) := dL_law_all94.2.2.2.2.1
theorem dL_law_1513 : decode cL_law 1513 = .ok (.pop, 1) := dL_law_all94.2.2.2.2.2.1
theorem dL_law_1514 : decode cL_law 1514 = .ok (.aload_n 2, 1) := dL_law_all94.2.2.2.2.2.2.1
theorem dL_law_1515 : decode cL_law 1515 = .ok (.aload_n 0, 1) := dL_law_all94.2.2.2.2.2.2.2.1
theorem dL_law_1516 : decode cL_law 1516 = .ok (.iload_n 3, 1) := dL_law_all94.2.2.2.2.2.2.2.2.1
theorem dL_law_1517 : decode cL_law 1517 = .ok (.iconst 1, 1) := dL_law_all94.2.2.2.2.2.2.2.2.2.1
theorem dL_law_1518 : decode cL_law 1518 = .ok (.iadd, 1) := dL_law_all94.2.2.2.2.2.2.2.2.2.2.1
theorem dL_law_1519 : decode cL_law 1519 = .ok (.iaload, 1) := dL_law_all94.2.2.2.2.2.2.2.2.2.2.2
theorem dL_law_all95 : decode cL_law 1520 = .ok (.invokevirtual 161, 3) ∧ decode cL_law 1523 = .ok (.pop, 1) ∧ decode cL_law 1524 = .ok (.goto 128, 3) ∧ decode cL_law 1527 = .ok (.aload_n 1, 1) ∧ decode cL_law 1528 = .ok (.aload_n 0, 1) ∧ decode cL_law 1529 = .ok (.iload_n 3, 1) ∧ decode cL_law 1530 = .ok (.iconst 1, 1) ∧ decode cL_law 1531 = .ok (.iadd, 1) ∧ decode cL_law 1532 = .ok (.iaload, 1) ∧ decode cL_law 1533 = .ok (.aload_n 0, 1) ∧ decode cL_law 1534 = .ok (.iload_n 3, 1) ∧ decode cL_law 1535 = .ok (.iconst 2, 1) := by decide +kernel
theorem dL_law_1520 : decode cL_law 1520 = .ok (.invokevirtual 161, 3) := dL_law_all95.1
theorem dL_law_1523 : decode cL_law 1523 = .ok (.pop, 1) := dL_law_all95.2.1
theorem dL_law_1524 : decode cL_law 1524 = .ok (.goto 128, 3) := dL_law_all95.2.2.1
theorem dL_law_1527 : decode cL_law 1527 = .ok (.aload_n 1, 1) := dL_law_all95.2.2.2.1
theorem dL_law_1528 : decode cL_law 1528 = .ok (.aload_n 0, 1) := dL_law_all95.2.2.2.2.1
theorem dL_law_1529 : decode cL_law 1529 = .ok (.iload_n 3, 1) := dL_law_all95.2.2.2.2.2.1
theorem dL_law_1530 : decode cL_law 1530 = .ok (.iconst 1, 1) := dL_law_all95.2.2.2.2.2.2.1
theorem dL_law_1531 : decode cL_law 1531 = .ok (.iadd, 1) := dL_law_all95.2.2.2.2.2.2.2.1
theorem dL_law_1532 : decode cL_law 1532 = .ok (.iaload, 1) := dL_law_all95.2.2.2.2.2.2.2.2.1
theorem dL_law_1533 : decode cL_law 1533 = .ok (.aload_n 0, 1) := dL_law_all95.2.2.2.2.2.2.2.2.2.1
theorem dL_law_1534 : decode cL_law 1534 = .ok (.iload_n 3, 1) := dL_law_all95.2.2.2.2.2.2.2.2.2.2.1
theorem dL_law_1535 : decode cL_law 1535 = .ok (.iconst 2, 1) := dL_law_all95.2.2.2.2.2.2.2.2.2.2.2
theorem dL_law_all96 : decode cL_law 1536 = .ok (.iadd, 1) ∧ decode cL_law 1537 = .ok (.iaload, 1) ∧ decode cL_law 1538 = .ok (.invokevirtual 162, 3) ∧ decode cL_law 1541 = .ok (.pop, 1) ∧ decode cL_law 1542 = .ok (.aload_n 2, 1) ∧ decode cL_law 1543 = .ok (.aload_n 0, 1) ∧ decode cL_law 1544 = .ok (.iload_n 3, 1) ∧ decode cL_law 1545 = .ok (.iconst 1, 1) ∧ decode cL_law 1546 = .ok (.iadd, 1) ∧ decode cL_law 1547 = .ok (.iaload, 1) ∧ decode cL_law 1548 = .ok (.aload_n 0, 1) ∧ decode cL_law 1549 = .ok (.iload_n 3, 1) := by decide +kernel
theorem dL_law_1536 : decode cL_law 1536 = .ok (.iadd, 1) := dL_law_all96.1
theorem dL_law_1537 : decode cL_law 1537 = .ok (.iaload, 1) := dL_law_all96.2.1
theorem dL_law_1538 : decode cL_law 1538 = .ok (.invokevirtual 162, 3) := dL_law_all96.2.2.1
theorem dL_law_1541 : decode cL_law 1541 = .ok (.pop, 1) := dL_law_all96.2.2.2.1
theorem dL_law_1542 : decode cL_law 1542 = .ok (.aload_n 2, 1) := dL_law_all96.2.2.2.2.1
theorem dL_law_1543 : decode cL_law 1543 = .ok (.aload_n 0, 1) := dL_law_all96.2.2.2.2.2.1
theorem dL_law_1544 : decode cL_law 1544 = .ok (.iload_n 3, 1) := dL_law_all96.2.2.2.2.2.2.1
theorem dL_law_1545 : decode cL_law 1545 = .ok (.iconst 1, 1) := dL_law_all96.2.2.2.2.2.2.2.1
theorem dL_law_1546 : decode cL_law 1546 = .ok (.iadd, 1) := dL_law_all96.2.2.2.2.2.2.2.2.1
theorem dL_law_1547 : decode cL_law 1547 = .ok (.iaload, 1) := dL_law_all96.2.2.2.2.2.2.2.2.2.1
theorem dL_law_1548 : decode cL_law 1548 = .ok (.aload_n 0, 1) := dL_law_all96.2.2.2.2.2.2.2.2.2.2.1
theorem dL_law_1549 : decode cL_law 1549 = .ok (.iload_n 3, 1) := dL_law_all96.2.2.2.2.2.2.2.2.2.2.2
theorem dL_law_all97 : decode cL_law 1550 = .ok (.iconst 2, 1) ∧ decode cL_law 1551 = .ok (.iadd, 1) ∧ decode cL_law 1552 = .ok (.iaload, 1) ∧ decode cL_law 1553 = .ok (.invokevirtual 165, 3) ∧ decode cL_law 1556 = .ok (.pop, 1) ∧ decode cL_law 1557 = .ok (.goto 95, 3) ∧ decode cL_law 1560 = .ok (.aload_n 1, 1) ∧ decode cL_law 1561 = .ok (.aload_n 0, 1) ∧ decode cL_law 1562 = .ok (.iload_n 3, 1) ∧ decode cL_law 1563 = .ok (.iconst 1, 1) ∧ decode cL_law 1564 = .ok (.iadd, 1) ∧ decode cL_law 1565 = .ok (.iaload, 1) := by decide +kernel
theorem dL_law_1550 : decode cL_law 1550 = .ok (.iconst 2, 1) := dL_law_all97.1
theorem dL_law_1551 : decode cL_law 1551 = .ok (.iadd, 1) := dL_law_all97.2.1
theorem dL_law_1552 : decode cL_law 1552 = .ok (.iaload, 1) := dL_law_all97.2.2.1
theorem dL_law_1553 : decode cL_law 1553 = .ok (.invokevirtual 165, 3) := dL_law_all97.2.2.2.1
theorem dL_law_1556 : decode cL_law 1556 = .ok (.pop, 1) := dL_law_all97.2.2.2.2.1
theorem dL_law_1557 : decode cL_law 1557 = .ok (.goto 95, 3) := dL_law_all97.2.2.2.2.2.1
theorem dL_law_1560 : decode cL_law 1560 = .ok (.aload_n 1, 1) := dL_law_all97.2.2.2.2.2.2.1
theorem dL_law_1561 : decode cL_law 1561 = .ok (.aload_n 0, 1) := dL_law_all97.2.2.2.2.2.2.2.1
theorem dL_law_1562 : decode cL_law 1562 = .ok (.iload_n 3, 1) := dL_law_all97.2.2.2.2.2.2.2.2.1
theorem dL_law_1563 : decode cL_law 1563 = .ok (.iconst 1, 1) := dL_law_all97.2.2.2.2.2.2.2.2.2.1
theorem dL_law_1564 : decode cL_law 1564 = .ok (.iadd, 1) := dL_law_all97.2.2.2.2.2.2.2.2.2.2.1
theorem dL_law_1565 : decode cL_law 1565 = .ok (.iaload, 1) := dL_law_all97.2.2.2.2.2.2.2.2.2.2.2
theorem dL_law_all98 : decode cL_law 1566 = .ok (.aload_n 0, 1) ∧ decode cL_law 1567 = .ok (.iload_n 3, 1) ∧ decode cL_law 1568 = .ok (.iconst 2, 1) ∧ decode cL_law 1569 = .ok (.iadd, 1) ∧ decode cL_law 1570 = .ok (.iaload, 1) ∧ decode cL_law 1571 = .ok (.invokevirtual 166, 3) ∧ decode cL_law 1574 = .ok (.pop, 1) ∧ decode cL_law 1575 = .ok (.aload_n 2, 1) ∧ decode cL_law 1576 = .ok (.aload_n 0, 1) ∧ decode cL_law 1577 = .ok (.iload_n 3, 1) ∧ decode cL_law 1578 = .ok (.iconst 1, 1) ∧ decode cL_law 1579 = .ok (.iadd, 1) := by decide +kernel
theorem dL_law_1566 : decode cL_law 1566 = .ok (.aload_n 0, 1) := dL_law_all98.1
theorem dL_law_1567 : decode cL_law 1567 = .ok (.iload_n 3, 1) := dL_law_all98.2.1
theorem dL_law_1568 : decode cL_law 1568 = .ok (.iconst 2, 1) := dL_law_all98.2.2.1
theorem dL_law_1569 : decode cL_law 1569 = .ok (.iadd, 1) := dL_law_all98.2.2.2.1
theorem dL_law_1570 : decode cL_law 1570 = .ok (.iaload, 1) := dL_law_all98.2.2.2.2.1
theorem dL_law_1571 : decode cL_law 1571 = .ok (.invokevirtual 166, 3) := dL_law_all98.2.2.2.2.2.1
theorem dL_law_1574 : decode cL_law 1574 = .ok (.pop, 1) := dL_law_all98.2.2.2.2.2.2.1
theorem dL_law_1575 : decode cL_law 1575 = .ok (.aload_n 2, 1) := dL_law_all98.2.2.2.2.2.2.2.1
theorem dL_law_1576 : decode cL_law 1576 = .ok (.aload_n 0, 1) := dL_law_all98.2.2.2.2.2.2.2.2.1
theorem dL_law_1577 : decode cL_law 1577 = .ok (.iload_n 3, 1) := dL_law_all98.2.2.2.2.2.2.2.2.2.1
theorem dL_law_1578 : decode cL_law 1578 = .ok (.iconst 1, 1) := dL_law_all98.2.2.2.2.2.2.2.2.2.2.1
theorem dL_law_1579 : decode cL_law 1579 = .ok (.iadd, 1) := dL_law_all98.2.2.2.2.2.2.2.2.2.2.2
theorem dL_law_all99 : decode cL_law 1580 = .ok (.iaload, 1) ∧ decode cL_law 1581 = .ok (.aload_n 0, 1) ∧ decode cL_law 1582 = .ok (.iload_n 3, 1) ∧ decode cL_law 1583 = .ok (.iconst 2, 1) ∧ decode cL_law 1584 = .ok (.iadd, 1) ∧ decode cL_law 1585 = .ok (.iaload, 1) ∧ decode cL_law 1586 = .ok (.invokevirtual 169, 3) ∧ decode cL_law 1589 = .ok (.pop, 1) ∧ decode cL_law 1590 = .ok (.goto 62, 3) ∧ decode cL_law 1593 = .ok (.aload_n 1, 1) ∧ decode cL_law 1594 = .ok (.aload_n 0, 1) ∧ decode cL_law 1595 = .ok (.iload_n 3, 1) := by decide +kernel
theorem dL_law_1580 : decode cL_law 1580 = .ok (.iaload, 1) := dL_law_all99.1
theorem dL_law_1581 : decode cL_law 1581 = .ok (.aload_n 0, 1) := dL_law_all99.2.1
theorem dL_law_1582 : decode cL_law 1582 = .ok (.iload_n 3, 1) := dL_law_all99.2.2.1
theorem dL_law_1583 : decode cL_law 1583 = .ok (.iconst 2, 1) := dL_law_all99.2.2.2.1
theorem dL_law_1584 : decode cL_law 1584 = .ok (.iadd, 1) := dL_law_all99.2.2.2.2.1
theorem dL_law_1585 : decode cL_law 1585 = .ok (.iaload, 1) := dL_law_all99.2.2.2.2.2.1
theorem dL_law_1586 : decode cL_law 1586 = .ok (.invokevirtual 169, 3) := dL_law_all99.2.2.2.2.2.2.1
theorem dL_law_1589 : decode cL_law 1589 = .ok (.pop, 1) := dL_law_all99.2.2.2.2.2.2.2.1
theorem dL_law_1590 : decode cL_law 1590 = .ok (.goto 62, 3) := dL_law_all99.2.2.2.2.2.2.2.2.1
theorem dL_law_1593 : decode cL_law 1593 = .ok (.aload_n 1, 1) := dL_law_all99.2.2.2.2.2.2.2.2.2.1
theorem dL_law_1594 : decode cL_law 1594 = .ok (.aload_n 0, 1) := dL_law_all99.2.2.2.2.2.2.2.2.2.2.1
theorem dL_law_1595 : decode cL_law 1595 = .ok (.iload_n 3, 1) := dL_law_all99.2.2.2.2.2.2.2.2.2.2.2
theorem dL_law_all100 : decode cL_law 1596 = .ok (.iconst 1, 1) ∧ decode cL_law 1597 = .ok (.iadd, 1) ∧ decode cL_law 1598 = .ok (.iaload, 1) ∧ decode cL_law 1599 = .ok (.invokevirtual 170, 3) ∧ decode cL_law 1602 = .ok (.pop, 1) ∧ decode cL_law 1603 = .ok (.aload_n 2, 1) ∧ decode cL_law 1604 = .ok (.aload_n 0, 1) ∧ decode cL_law 1605 = .ok (.iload_n 3, 1) ∧ decode cL_law 1606 = .ok (.iconst 1, 1) ∧ decode cL_law 1607 = .ok (.iadd, 1) ∧ decode cL_law 1608 = .ok (.iaload, 1) ∧ decode cL_law 1609 = .ok (.invokevirtual 173, 3) := by decide +kernel
theorem dL_law_1596 : decode cL_law 1596 = .ok (.iconst 1, 1) := dL_law_all100.1
theorem dL_law_1597 : decode cL_law 1597 = .ok (.iadd, 1) := dL_law_all100.2.1
theorem dL_law_1598 : decode cL_law 1598 = .ok (.iaload, 1) := dL_law_all100.2.2.1
theorem dL_law_1599 : decode cL_law 1599 = .ok (.invokevirtual 170, 3) := dL_law_all100.2.2.2.1
theorem dL_law_1602 : decode cL_law 1602 = .ok (.pop, 1) := dL_law_all100.2.2.2.2.1
theorem dL_law_1603 : decode cL_law 1603 = .ok (.aload_n 2, 1) := dL_law_all100.2.2.2.2.2.1
theorem dL_law_1604 : decode cL_law 1604 = .ok (.aload_n 0, 1) := dL_law_all100.2.2.2.2.2.2.1
theorem dL_law_1605 : decode cL_law 1605 = .ok (.iload_n 3, 1) := dL_law_all100.2.2.2.2.2.2.2.1
theorem dL_law_1606 : decode cL_law 1606 = .ok (.iconst 1, 1) := dL_law_all100.2.2.2.2.2.2.2.2.1
theorem dL_law_1607 : decode cL_law 1607 = .ok (.iadd, 1) := dL_law_all100.2.2.2.2.2.2.2.2.2.1
theorem dL_law_1608 : decode cL_law 1608 = .ok (.iaload, 1) := dL_law_all100.2.2.2.2.2.2.2.2.2.2.1
theorem dL_law_1609 : decode cL_law 1609 = .ok (.invokevirtual 173, 3) := dL_law_all100.2.2.2.2.2.2.2.2.2.2.2
theorem dL_law_all101 : decode cL_law 1612 = .ok (.pop, 1) ∧ decode cL_law 1613 = .ok (.goto 39, 3) ∧ decode cL_law 1616 = .ok (.aload_n 1, 1) ∧ decode cL_law 1617 = .ok (.aload_n 0, 1) ∧ decode cL_law 1618 = .ok (.iload_n 3, 1) ∧ decode cL_law 1619 = .ok (.iconst 1, 1) ∧ decode cL_law 1620 = .ok (.iadd, 1) ∧ decode cL_law 1621 = .ok (.iaload, 1) ∧ decode cL_law 1622 = .ok (.invokevirtual 174, 3) ∧ decode cL_law 1625 = .ok (.pop, 1) ∧ decode cL_law 1626 = .ok (.aload_n 2, 1) ∧ decode cL_law 1627 = .ok (.aload_n 0, 1) := by decide +kernel
theorem dL_law_1612 : decode cL_law 1612 = .ok (.pop, 1) := dL_law_all101.1
theorem dL_law_1613 : decode cL_law 1613 = .ok (.goto 39, 3) := dL_law_all101.2.1
set_option maxHeartbeats 4000000 in
set_option maxRecDepth 100000 in
theorem law_case_32 {p : Program} {l : Launch} {e : Env} {s : State} {m : MethodId} {below : List Frame} {meth : Method} {c : Code} {D : va_G} {cI cY cJ cQ : ClassId} {b L aK aV : Nat} {xs : Nat → Int32} {ad rw md : Nat → Nat} {sd i : Int32} {nx : Nat → Int32} {fx rs : Nat → Nat → Int32} {lo : Nat → Int64} {ny : Nat → Int32} {fy : Nat → Nat → Int32} {fl : Nat → Int64} {H : Heap} {locs : List Loc} {ls : Array Slot} (C0 : lawC p s m meth c b L xs D cI cY cJ cQ aK aV) (I : inv nx fx ny fy) (hP : va_P D vwCl (wX ad rw sd cI cY cJ cQ nx fx rs lo ++ wM md sd cI cY cJ cQ ny fy fl) H) (hD : va_D (fun q : Nat => s.heap.size ≤ q) (wX ad rw sd cI cY cJ cQ nx fx rs lo ++ wM md sd cI cY cJ cQ ny fy fl)) (hS : va_S (fun q : Nat => s.heap.size ≤ q) s.heap H locs) (hl : lv_has ls 4 [(0, .ref b), (1, .ref (ad 0)), (2, .ref (md 64)), (3, .int i)]) (hi1 : 1 ≤ i.toInt) (hi2 : i.toInt + 5 < L) (kk : ∀ (nx : Nat → Int32) (fx rs : Nat → Nat → Int32) (lo : Nat → Int64) (ny : Nat → Int32) (fy : Nat → Nat → Int32) (fl : Nat → Int64) (H : Heap) (locs : List Loc) (ls : Array Slot), inv nx fx ny fy → va_P D vwCl (wX ad rw sd cI cY cJ cQ nx fx rs lo ++ wM md sd cI cY cJ cQ ny fy fl) H → va_D (fun q : Nat => s.heap.size ≤ q) (wX ad rw sd cI cY cJ cQ nx fx rs lo ++ wM md sd cI cY cJ cQ ny fy fl) → va_S (fun q : Nat => s.heap.size ≤ q) s.heap H locs → lv_has ls 4 [(0, .ref b), (1, .ref (ad 0)), (2, .ref (md 64)), (3, .int i)] → W p l e room_1 s m #[Value.ref b] below meth c H locs 107 4890 (lw_Z below #[Value.ref b] s) (F0 m 1652 ls [])) : W p l e room_1 s m #[Value.ref b] below meth c H locs 107 4890 (lw_Z below #[Value.ref b] s) (F0 m 1504 ls []) := by
  obtain ⟨C1, hK, hN, hT, hL⟩ := C0
  obtain ⟨hx, hb, hr, hml, hown, hts0, hX, hbl, hlocks, hgv⟩ := C1
  have hA : ∀ q : Nat, s.heap.size ≤ q → (fun q : Nat => s.heap.size ≤ q) q := fun _ h => h
  have hbA : ¬ (fun q : Nat => s.heap.size ≤ q) b := Nat.not_le.mpr hbl
  have hts : ∀ w ∈ wsL_law, w.before #[Value.ref b] s = true := fun w h => hts0 w (wsL_law_in w h)
  replace hown : s.vm.findClass RL = some m.cls := hown
  replace hb : c.code = cL_law := hb
  obtain ⟨Xhna, Xhnb, XH, Xcna, Xcnb, Xpna, Xpnb, XO, Xgna, Xgnb, Xlna, Xlnb, Xdla, Xdlb, Xana, Xanb, Xuna, Xunb, Xlca, Xlcb, Xtna, Xtnb, XS, Mhna, Mhnb, MH, MS, Mmlna, Mmlnb, Mmtna, Mmtnb, Ccn, Cfo, Cwo, Cpn, Cpk, Cpf, Cpo, Cpd, Cpe, Cgn, Cgk, Cgs, Cgd, Cge, Can, Cak, Cah, Cay, Caz, Cun, Cuk, Cuy, Cuw, Cum, Clc, Clp, Cla, Clb, Caw, Ciw, Cln, Ctd⟩ := I
  have Tcn := i_eq Ccn
  have Tpn := i_eq Cpn
  have Tgn := i_eq Cgn
  have Tan := i_eq Can
  have Tun := i_eq Cun
  have Tlc := i_eq Clc
  have Tln := i_eq Cln
  have k1 : (1 : Int32).toInt = 1 := by decide
  obtain ⟨xk1, exk1⟩ : ∃ y : Int32, y = xs (i.toNatClampNeg + 1) := ⟨_, rfl⟩
  refine lv_aload_n hx hb dL_law_1504 rfl (lv_at hl 1 rfl) ?_
  refine lv_aload_n hx hb dL_law_1505 rfl (lv_at hl 0 rfl) ?_
  refine lv_iload_n hx hb dL_law_1506 rfl (lv_at hl 3 rfl) ?_
  refine lv_iconst (v := 1) hx hb dL_law_1507 (by decide) ?_
  refine lv_iadd hx hb dL_law_1508 ?_
  refine lv_topi (fun v1 ev1 => ?_)
  try have tv1 : v1.toInt = i.toInt + 1 := by rw [ev1]; exact (i_add (x := i) (y := (1 : Int32)) (by rw [k1]; omega) (by rw [k1]; omega)).trans (by rw [k1])
  refine va_sld hx hb hX hbl hbA hS (i_in (by omega) (by omega)) dL_law_1509 ?_
  refine lv_topi (fun a2 ea2 => ?_)
  replace ea2 : xk1 = a2 := (ea2.trans (by rw [exk1]; congr 1; have := i_cl (x := v1) (by omega); have := i_cl (x := i) (by omega); omega)).symm
  subst ea2
  refine st_iQ (wr := [((ad 11), .inl (cI, 16, .inl (fx 0))), ((rw 0), .inl (cI, 60, .inl (rs 0))), ((rw 1), .inl (cI, 60, .inl (rs 1))), ((rw 2), .inl (cI, 60, .inl (rs 2))), ((rw 3), .inl (cI, 60, .inl (rs 3))), ((rw 4), .inl (cI, 60, .inl (rs 4))), ((rw 5), .inl (cI, 60, .inl (rs 5))), ((rw 6), .inl (cI, 60, .inl (rs 6))), ((rw 7), .inl (cI, 60, .inl (rs 7))), ((ad 1), .inr (9, [.ref (ad 12), .ref (ad 13), .ref (ad 14)])), ((ad 12), .inl (cQ, 8, .inr (.inr (.inr (.inr (fun i => if i < 8 then some (rw i) else none)))))), ((ad 13), .inl (cI, 8, .inl (fx 1))), ((ad 14), .inl (cI, 8, .inl (fx 2))), ((ad 33), .inl (cI, 12, .inl (fx 13))), ((ad 34), .inl (cI, 6, .inl (fx 14))), ((ad 35), .inl (cI, 6, .inl (fx 15))), ((ad 46), .inl (cI, 40, .inl (fx 26))), ((ad 6), .inr (2, [.ref (ad 47), .int (nx 7), .int (nx 8), .ref (ad 48), .ref (ad 49), .ref (ad 50), .int (nx 9), .ref (ad 51), .ref (ad 52), .ref (ad 53), .int (nx 10), .int (nx 11), .int (nx 12), .int (nx 13), .int (nx 14)])), ((ad 47), .inl (cY, 300, .inl (fx 27))), ((ad 48), .inl (cI, 12, .inl (fx 28))), ((ad 49), .inl (cI, 12, .inl (fx 29))), ((ad 50), .inl (cI, 12, .inl (fx 30))), ((ad 51), .inl (cI, 12, .inl (fx 31))), ((ad 52), .inl (cI, 12, .inl (fx 32))), ((ad 53), .inl (cI, 12, .inl (fx 33))), ((ad 7), .inr (0, [.ref (ad 54), .ref (ad 55), .ref (ad 56), .ref (ad 57), .int (nx 15)])), ((ad 54), .inl (cI, 60, .inl (fx 34))), ((ad 55), .inl (cI, 60, .inl (fx 35))), ((ad 56), .inl (cI, 60, .inl (fx 36))), ((ad 57), .inl (cI, 60, .inl (fx 37))), ((ad 8), .inr (5, [.int sd, .ref (ad 58)])), ((ad 58), .inl (cJ, 12, .inr (.inl lo))), ((ad 9), .inr (6, [.ref (ad 59), .ref (ad 60), .ref (ad 61), .ref (ad 62), .int (nx 16)])), ((ad 59), .inl (cI, 60, .inl (fx 38))), ((ad 60), .inl (cI, 60, .inl (fx 39))), ((ad 61), .inl (cI, 60, .inl (fx 40))), ((ad 62), .inl (cI, 60, .inl (fx 41)))]) (va_runV (C := RX10) (As := [.int xk1]) (rest := []) ⟨hx, hb, hml, hown, hts⟩ (ct_X10_kind l D cI cY cJ cQ _ ad (nx 0) (nx 1) (nx 2) (nx 4) (nx 5) (nx 3) (nx 17) (nx 6) (fx 11) (fx 16) (fx 17) (fx 18) (fx 19) (fx 20) (fx 21) (fx 3) (fx 4) (fx 5) (fx 6) (fx 7) (fx 8) (fx 9) (fx 10) (fx 42) (fx 43) (fx 44) (fx 12) (fx 22) (fx 23) (fx 24) (fx 25) xk1 (by omega) (by omega) (by omega) (by omega) (by assumption) (by omega) (by omega) (by assumption) (by omega) (by omega) (by omega) (by omega)) (cwV 1 hts gL_law_X10_kind rfl rfl rfl ⟨rfl, cdX10_kind⟩ ⟨Nat.le_of_ble_eq_true rfl, Nat.le_of_ble_eq_true rfl⟩) (cPreV (hP.sub [0, 23, 24, 29, 30, 31, 32, 33, 34, 35, 14, 15, 16, 17, 18, 19, 20, 21, 22, 62, 63, 64, 65, 25, 36, 37, 38, 39, 40] rfl) hK (hD.sub [0, 23, 24, 29, 30, 31, 32, 33, 34, 35, 14, 15, 16, 17, 18, 19, 20, 21, 22, 62, 63, 64, 65, 25, 36, 37, 38, 39, 40] (by decide +kernel) rfl) hN (ci := 10) (q0 := 0) rfl rfl) rfl rfl hl.1 rfl (lv_room (Nat.le_of_ble_eq_true rfl)) dL_law_1510 ⟨Nat.le_of_ble_eq_true rfl, Nat.le_of_ble_eq_true rfl⟩) hP hD hS hA [0, 23, 24, 29, 30, 31, 32, 33, 34, 35, 14, 15, 16, 17, 18, 19, 20, 21, 22, 62, 63, 64, 65, 25, 36, 37, 38, 39, 40] [1, 2, 3, 4, 5, 6, 7, 8, 9, 10, 11, 12, 13, 26, 27, 28, 41, 42, 43, 44, 45, 46, 47, 48, 49, 50, 51, 52, 53, 54, 55, 56, 57, 58, 59, 60, 61] rfl rfl (by decide +kernel) (by decide +kernel) (fun r5 u3 H locs hw4 hP hD hS => ?_)
  obtain ⟨pt_6, ps_7, ha_8, re_9⟩ := u3
  replace hw4 : True := hw4
  refine lv_pop hx hb dL_law_1513 rfl ?_
  have hPx : va_P D vwCl (wX ad rw sd cI cY cJ cQ nx (upR (upR (upR (upR fx 7 pt_6) 8 ps_7) 9 ha_8) 10 re_9) rs lo ++ wM md sd cI cY cJ cQ ny fy fl) H := hP.part [37, 0, 1, 2, 3, 4, 5, 6, 7, 8, 9, 10, 11, 12, 47, 48, 49, 50, 51, 52, 53, 54, 55, 38, 39, 60, 13, 14, 15, 40, 41, 42, 43, 44, 45, 46, 61, 62, 63, 64, 65, 16, 17, 18, 19, 20, 21, 22, 23, 24, 25, 26, 27, 28, 29, 30, 31, 32, 33, 34, 35, 36, 56, 57, 58, 59] rfl
  have hDx : va_D (fun q : Nat => s.heap.size ≤ q) (wX ad rw sd cI cY cJ cQ nx (upR (upR (upR (upR fx 7 pt_6) 8 ps_7) 9 ha_8) 10 re_9) rs lo ++ wM md sd cI cY cJ cQ ny fy fl) := hD.part [37, 0, 1, 2, 3, 4, 5, 6, 7, 8, 9, 10, 11, 12, 47, 48, 49, 50, 51, 52, 53, 54, 55, 38, 39, 60, 13, 14, 15, 40, 41, 42, 43, 44, 45, 46, 61, 62, 63, 64, 65, 16, 17, 18, 19, 20, 21, 22, 23, 24, 25, 26, 27, 28, 29, 30, 31, 32, 33, 34, 35, 36, 56, 57, 58, 59] (by decide +kernel) rfl
  have hP := hPx.comm
  have hD := hDx.comm
  refine lv_aload_n hx hb dL_law_1514 rfl (lv_at hl 2 rfl) ?_
  refine lv_aload_n hx hb dL_law_1515 rfl (lv_at hl 0 rfl) ?_
  refine lv_iload_n hx hb dL_law_1516 rfl (lv_at hl 3 rfl) ?_
  refine lv_iconst (v := 1) hx hb dL_law_1517 (by decide) ?_
  refine lv_iadd hx hb dL_law_1518 ?_
  refine lv_topi (fun v10 ev10 => ?_)
  try have tv10 : v10.toInt = i.toInt + 1 := by rw [ev10]; exact (i_add (x := i) (y := (1 : Int32)) (by rw [k1]; omega) (by rw [k1]; omega)).trans (by rw [k1])
  refine va_sld hx hb hX hbl hbA hS (i_in (by omega) (by omega)) dL_law_1519 ?_
  refine lv_topi (fun a11 ea11 => ?_)
  replace ea11 : xk1 = a11 := (ea11.trans (by rw [exk1]; congr 1; have := i_cl (x := v10) (by omega); have := i_cl (x := i) (by omega); omega)).symm
  subst ea11
  refine st_iQ (wr := [((md 3), .inl (cI, 8, .inl (fy 0))), ((md 4), .inl (cI, 8, .inl (fy 1))), ((md 5), .inl (cI, 480, .inl (fy 2))), ((md 31), .inl (cI, 36, .inl (fy 21))), ((md 33), .inl (cI, 36, .inl (fy 22))), ((md 34), .inl (cI, 300, .inl (fy 23))), ((md 45), .inl (cI, 60, .inl (fy 24))), ((md 46), .inl (cI, 60, .inl (fy 25))), ((md 47), .inl (cI, 60, .inl (fy 26))), ((md 48), .inl (cI, 60, .inl (fy 27))), ((md 49), .inl (cI, 6, .inl (fy 28))), ((md 50), .inl (cI, 6, .inl (fy 29))), ((md 51), .inl (cI, 12, .inl (fy 30))), ((md 53), .inl (cI, 60, .inl (fy 31))), ((md 54), .inl (cI, 60, .inl (fy 32))), ((md 55), .inl (cI, 60, .inl (fy 33))), ((md 56), .inl (cI, 60, .inl (fy 34))), ((md 62), .inl (cI, 16, .inl (fy 38)))]) (va_runV (C := RX11) (As := [.int xk1]) (rest := []) ⟨hx, hb, hml, hown, hts⟩ (ct_X11_kind l D cI cY cJ cQ _ md sd (ny 0) (ny 1) (ny 2) (ny 3) (ny 4) (ny 5) (ny 6) (ny 7) (ny 8) (ny 9) (ny 10) (ny 11) (ny 12) (ny 13) (ny 14) (ny 15) (ny 16) (ny 17) (ny 18) (ny 19) (ny 20) (ny 21) (ny 22) (fy 10) (fy 12) (fy 13) (fy 14) (fy 15) (fy 16) (fy 35) (fy 36) (fy 37) (fy 3) (fy 4) (fy 5) (fy 6) (fy 7) (fy 8) (fy 9) (fy 11) (fy 17) (fy 18) (fy 19) (fy 20) fl xk1 (by omega) (by omega) (by omega) (by omega) (by omega) (by omega) (by omega) (by omega) (by omega) (by omega)) (cwV 1 hts gL_law_X11_kind rfl rfl rfl ⟨rfl, cdX11_kind⟩ ⟨Nat.le_of_ble_eq_true rfl, Nat.le_of_ble_eq_true rfl⟩) (cPreV (hP.sub [0, 12, 14, 15, 16, 17, 18, 37, 38, 39, 4, 5, 6, 7, 8, 9, 10, 11, 13, 19, 20, 21, 22] rfl) hK (hD.sub [0, 12, 14, 15, 16, 17, 18, 37, 38, 39, 4, 5, 6, 7, 8, 9, 10, 11, 13, 19, 20, 21, 22] (by decide +kernel) rfl) hN (ci := 11) (q0 := 0) rfl rfl) rfl rfl hl.1 rfl (lv_room (Nat.le_of_ble_eq_true rfl)) dL_law_1520 ⟨Nat.le_of_ble_eq_true rfl, Nat.le_of_ble_eq_true rfl⟩) hP hD hS hA [0, 12, 14, 15, 16, 17, 18, 37, 38, 39, 4, 5, 6, 7, 8, 9, 10, 11, 13, 19, 20, 21, 22] [1, 2, 3, 23, 24, 25, 26, 27, 28, 29, 30, 31, 32, 33, 34, 35, 36, 40] rfl rfl (by decide +kernel) (by decide +kernel) (fun r14 u12 H locs hw13 hP hD hS => ?_)
  obtain ⟨mq_15, mh_16, mp_17, mt_18, mf_19⟩ := u12
  replace hw13 : True := hw13
  refine lv_pop hx hb dL_law_1523 rfl ?_
  refine lv_goto (tgt := 1652) hx hb dL_law_1524 (by decide) ?_
  have hPm : va_P D vwCl (wM md sd cI cY cJ cQ (upd (upd ny 0 0) 5 mq_15) (upR (upR (upR fy 7 mh_16) 8 mp_17) 9 mt_18) mf_19 ++ wX ad rw sd cI cY cJ cQ nx (upR (upR (upR (upR fx 7 pt_6) 8 ps_7) 9 ha_8) 10 re_9) rs lo) H := hP.part [18, 0, 1, 2, 28, 29, 30, 31, 32, 33, 34, 35, 19, 36, 20, 21, 22, 23, 24, 37, 38, 39, 40, 3, 4, 5, 6, 7, 8, 9, 10, 11, 12, 13, 14, 15, 16, 25, 26, 27, 17] rfl
  have hDm : va_D (fun q : Nat => s.heap.size ≤ q) (wM md sd cI cY cJ cQ (upd (upd ny 0 0) 5 mq_15) (upR (upR (upR fy 7 mh_16) 8 mp_17) 9 mt_18) mf_19 ++ wX ad rw sd cI cY cJ cQ nx (upR (upR (upR (upR fx 7 pt_6) 8 ps_7) 9 ha_8) 10 re_9) rs lo) := hD.part [18, 0, 1, 2, 28, 29, 30, 31, 32, 33, 34, 35, 19, 36, 20, 21, 22, 23, 24, 37, 38, 39, 40, 3, 4, 5, 6, 7, 8, 9, 10, 11, 12, 13, 14, 15, 16, 25, 26, 27, 17] (by decide +kernel) rfl
  exact kk nx (upR (upR (upR (upR fx 7 pt_6) 8 ps_7) 9 ha_8) 10 re_9) rs lo (upd (upd ny 0 0) 5 mq_15) (upR (upR (upR fy 7 mh_16) 8 mp_17) 9 mt_18) mf_19 H locs ls ⟨Xhna, Xhnb, XH, Xcna, Xcnb, Xpna, Xpnb, XO, Xgna, Xgnb, Xlna, Xlnb, Xdla, Xdlb, Xana, Xanb, Xuna, Xunb, Xlca, Xlcb, Xtna, Xtnb, XS, Mhna, Mhnb, MH, MS, Mmlna, Mmlnb, Mmtna, Mmtnb, Ccn, Cfo, Cwo, Cpn, Cpk, Cpf, Cpo, Cpd, Cpe, Cgn, Cgk, Cgs, Cgd, Cge, Can, Cak, Cah, Cay, Caz, Cun, Cuk, Cuy, Cuw, Cum, Clc, Clp, Cla, Clb, Caw, Ciw, Cln, Ctd⟩ hPm.comm hDm.comm hS hl

set_option maxHeartbeats 4000000 in
set_option maxRecDepth 100000 in
theorem law_case_33 {p : Program} {l : Launch} {e : Env} {s : State} {m : MethodId} {below : List Frame} {meth : Method} {c : Code} {D : va_G} {cI cY cJ cQ : ClassId} {b L aK aV : Nat} {xs : Nat → Int32} {ad rw md : Nat → Nat} {sd i : Int32} {nx : Nat → Int32} {fx rs : Nat → Nat → Int32} {lo : Nat → Int64} {ny : Nat → Int32} {fy : Nat → Nat → Int32} {fl : Nat → Int64} {H : Heap} {locs : List Loc} {ls : Array Slot} (C0 : lawC p s m meth c b L xs D cI cY cJ cQ aK aV) (I : inv nx fx ny fy) (hP : va_P D vwCl (wX ad rw sd cI cY cJ cQ nx fx rs lo ++ wM md sd cI cY cJ cQ ny fy fl) H) (hD : va_D (fun q : Nat => s.heap.size ≤ q) (wX ad rw sd cI cY cJ cQ nx fx rs lo ++ wM md sd cI cY cJ cQ ny fy fl)) (hS : va_S (fun q : Nat => s.heap.size ≤ q) s.heap H locs) (hl : lv_has ls 4 [(0, .ref b), (1, .ref (ad 0)), (2, .ref (md 64)), (3, .int i)]) (hi1 : 1 ≤ i.toInt) (hi2 : i.toInt + 5 < L) (kk : ∀ (nx : Nat → Int32) (fx rs : Nat → Nat → Int32) (lo : Nat → Int64) (ny : Nat → Int32) (fy : Nat → Nat → Int32) (fl : Nat → Int64) (H : Heap) (locs : List Loc) (ls : Array Slot), inv nx fx ny fy → va_P D vwCl (wX ad rw sd cI cY cJ cQ nx fx rs lo ++ wM md sd cI cY cJ cQ ny fy fl) H → va_D (fun q : Nat => s.heap.size ≤ q) (wX ad rw sd cI cY cJ cQ nx fx rs lo ++ wM md sd cI cY cJ cQ ny fy fl) → va_S (fun q : Nat => s.heap.size ≤ q) s.heap H locs → lv_has ls 4 [(0, .ref b), (1, .ref (ad 0)), (2, .ref (md 64)), (3, .int i)] → W p l e room_1 s m #[Value.ref b] below meth c H locs 107 4890 (lw_Z below #[Value.ref b] s) (F0 m 1652 ls [])) : W p l e room_1 s m #[Value.ref b] below meth c H locs 107 4890 (lw_Z below #[Value.ref b] s) (F0 m 1527 ls []) := by
  obtain ⟨C1, hK, hN, hT, hL⟩ := C0
  obtain ⟨hx, hb, hr, hml, hown, hts0, hX, hbl, hlocks, hgv⟩ := C1
  have hA : ∀ q : Nat, s.heap.size ≤ q → (fun q : Nat => s.heap.size ≤ q) q := fun _ h => h
  have hbA : ¬ (fun q : Nat => s.heap.size ≤ q) b := Nat.not_le.mpr hbl
  have hts : ∀ w ∈ wsL_law, w.before #[Value.ref b] s = true := fun w h => hts0 w (wsL_law_in w h)
  replace hown : s.vm.findClass RL = some m.cls := hown
  replace hb : c.code = cL_law := hb
  obtain ⟨Xhna, Xhnb, XH, Xcna, Xcnb, Xpna, Xpnb, XO, Xgna, Xgnb, Xlna, Xlnb, Xdla, Xdlb, Xana, Xanb, Xuna, Xunb, Xlca, Xlcb, Xtna, Xtnb, XS, Mhna, Mhnb, MH, MS, Mmlna, Mmlnb, Mmtna, Mmtnb, Ccn, Cfo, Cwo, Cpn, Cpk, Cpf, Cpo, Cpd, Cpe, Cgn, Cgk, Cgs, Cgd, Cge, Can, Cak, Cah, Cay, Caz, Cun, Cuk, Cuy, Cuw, Cum, Clc, Clp, Cla, Clb, Caw, Ciw, Cln, Ctd⟩ := I
  have Tcn := i_eq Ccn
  have Tpn := i_eq Cpn
  have Tgn := i_eq Cgn
  have Tan := i_eq Can
  have Tun := i_eq Cun
  have Tlc := i_eq Clc
  have Tln := i_eq Cln
  have k1 : (1 : Int32).toInt = 1 := by decide
  have k2 : (2 : Int32).toInt = 2 := by decide
  obtain ⟨xk1, exk1⟩ : ∃ y : Int32, y = xs (i.toNatClampNeg + 1) := ⟨_, rfl⟩
  obtain ⟨xk2, exk2⟩ : ∃ y : Int32, y = xs (i.toNatClampNeg + 2) := ⟨_, rfl⟩
  refine lv_aload_n hx hb dL_law_1527 rfl (lv_at hl 1 rfl) ?_
  refine lv_aload_n hx hb dL_law_1528 rfl (lv_at hl 0 rfl) ?_
  refine lv_iload_n hx hb dL_law_1529 rfl (lv_at hl 3 rfl) ?_
  refine lv_iconst (v := 1) hx hb dL_law_1530 (by decide) ?_
  refine lv_iadd hx hb dL_law_1531 ?_
  refine lv_topi (fun v1 ev1 => ?_)
  try have tv1 : v1.toInt = i.toInt + 1 := by rw [ev1]; exact (i_add (x := i) (y := (1 : Int32)) (by rw [k1]; omega) (by rw [k1]; omega)).trans (by rw [k1])
  refine va_sld hx hb hX hbl hbA hS (i_in (by omega) (by omega)) dL_law_1532 ?_
  refine lv_topi (fun a2 ea2 => ?_)
  replace ea2 : xk1 = a2 := (ea2.trans (by rw [exk1]; congr 1; have := i_cl (x := v1) (by omega); have := i_cl (x := i) (by omega); omega)).symm
  subst ea2
  refine lv_aload_n hx hb dL_law_1533 rfl (lv_at hl 0 rfl) ?_
  refine lv_iload_n hx hb dL_law_1534 rfl (lv_at hl 3 rfl) ?_
  refine lv_iconst (v := 2) hx hb dL_law_1535 (by decide) ?_
  refine lv_iadd hx hb dL_law_1536 ?_
  refine lv_topi (fun v3 ev3 => ?_)
  try have tv3 : v3.toInt = i.toInt + 2 := by rw [ev3]; exact (i_add (x := i) (y := (2 : Int32)) (by rw [k2]; omega) (by rw [k2]; omega)).trans (by rw [k2])
  refine va_sld hx hb hX hbl hbA hS (i_in (by omega) (by omega)) dL_law_1537 ?_
  refine lv_topi (fun a4 ea4 => ?_)
  replace ea4 : xk2 = a4 := (ea4.trans (by rw [exk2]; congr 1; have := i_cl (x := v3) (by omega); have := i_cl (x := i) (by omega); omega)).symm
  subst ea4
  refine st_iQ (wr := [((ad 11), .inl (cI, 16, .inl (fx 0))), ((rw 0), .inl (cI, 60, .inl (rs 0))), ((rw 1), .inl (cI, 60, .inl (rs 1))), ((rw 2), .inl (cI, 60, .inl (rs 2))), ((rw 3), .inl (cI, 60, .inl (rs 3))), ((rw 4), .inl (cI, 60, .inl (rs 4))), ((rw 5), .inl (cI, 60, .inl (rs 5))), ((rw 6), .inl (cI, 60, .inl (rs 6))), ((rw 7), .inl (cI, 60, .inl (rs 7))), ((ad 1), .inr (9, [.ref (ad 12), .ref (ad 13), .ref (ad 14)])), ((ad 12), .inl (cQ, 8, .inr (.inr (.inr (.inr (fun i => if i < 8 then some (rw i) else none)))))), ((ad 13), .inl (cI, 8, .inl (fx 1))), ((ad 14), .inl (cI, 8, .inl (fx 2))), ((ad 33), .inl (cI, 12, .inl (fx 13))), ((ad 34), .inl (cI, 6, .inl (fx 14))), ((ad 35), .inl (cI, 6, .inl (fx 15))), ((ad 46), .inl (cI, 40, .inl (fx 26))), ((ad 6), .inr (2, [.ref (ad 47), .int (nx 7), .int (nx 8), .ref (ad 48), .ref (ad 49), .ref (ad 50), .int (nx 9), .ref (ad 51), .ref (ad 52), .ref (ad 53), .int (nx 10), .int (nx 11), .int (nx 12), .int (nx 13), .int (nx 14)])), ((ad 47), .inl (cY, 300, .inl (fx 27))), ((ad 48), .inl (cI, 12, .inl (fx 28))), ((ad 49), .inl (cI, 12, .inl (fx 29))), ((ad 50), .inl (cI, 12, .inl (fx 30))), ((ad 51), .inl (cI, 12, .inl (fx 31))), ((ad 52), .inl (cI, 12, .inl (fx 32))), ((ad 53), .inl (cI, 12, .inl (fx 33))), ((ad 7), .inr (0, [.ref (ad 54), .ref (ad 55), .ref (ad 56), .ref (ad 57), .int (nx 15)])), ((ad 54), .inl (cI, 60, .inl (fx 34))), ((ad 55), .inl (cI, 60, .inl (fx 35))), ((ad 56), .inl (cI, 60, .inl (fx 36))), ((ad 57), .inl (cI, 60, .inl (fx 37))), ((ad 8), .inr (5, [.int sd, .ref (ad 58)])), ((ad 58), .inl (cJ, 12, .inr (.inl lo))), ((ad 9), .inr (6, [.ref (ad 59), .ref (ad 60), .ref (ad 61), .ref (ad 62), .int (nx 16)])), ((ad 59), .inl (cI, 60, .inl (fx 38))), ((ad 60), .inl (cI, 60, .inl (fx 39))), ((ad 61), .inl (cI, 60, .inl (fx 40))), ((ad 62), .inl (cI, 60, .inl (fx 41)))]) (va_runV (C := RX10) (As := [.int xk1, .int xk2]) (rest := []) ⟨hx, hb, hml, hown, hts⟩ (ct_X10_as l D cI cY cJ cQ _ ad (nx 0) (nx 1) (nx 2) (nx 4) (nx 5) (nx 3) (nx 17) (nx 6) (fx 11) (fx 16) (fx 17) (fx 18) (fx 19) (fx 20) (fx 21) (fx 3) (fx 4) (fx 5) (fx 6) (fx 7) (fx 8) (fx 9) (fx 10) (fx 42) (fx 43) (fx 44) (fx 12) (fx 22) (fx 23) (fx 24) (fx 25) xk1 xk2 (by omega) (by omega) (by omega) (by omega) (by assumption) (by omega) (by omega) (by assumption) (by omega) (by omega) (by omega) (by omega)) (cwV 2 hts gL_law_X10_as rfl rfl rfl ⟨rfl, cdX10_as⟩ ⟨Nat.le_of_ble_eq_true rfl, Nat.le_of_ble_eq_true rfl⟩) (cPreV (hP.sub [0, 23, 24, 29, 30, 31, 32, 33, 34, 35, 14, 15, 16, 17, 18, 19, 20, 21, 22, 62, 63, 64, 65, 25, 36, 37, 38, 39, 40] rfl) hK (hD.sub [0, 23, 24, 29, 30, 31, 32, 33, 34, 35, 14, 15, 16, 17, 18, 19, 20, 21, 22, 62, 63, 64, 65, 25, 36, 37, 38, 39, 40] (by decide +kernel) rfl) hN (ci := 10) (q0 := 0) rfl rfl) rfl rfl hl.1 rfl (lv_room (Nat.le_of_ble_eq_true rfl)) dL_law_1538 ⟨Nat.le_of_ble_eq_true rfl, Nat.le_of_ble_eq_true rfl⟩) hP hD hS hA [0, 23, 24, 29, 30, 31, 32, 33, 34, 35, 14, 15, 16, 17, 18, 19, 20, 21, 22, 62, 63, 64, 65, 25, 36, 37, 38, 39, 40] [1, 2, 3, 4, 5, 6, 7, 8, 9, 10, 11, 12, 13, 26, 27, 28, 41, 42, 43, 44, 45, 46, 47, 48, 49, 50, 51, 52, 53, 54, 55, 56, 57, 58, 59, 60, 61] rfl rfl (by decide +kernel) (by decide +kernel) (fun r7 u5 H locs hw6 hP hD hS => ?_)
  obtain ⟨lf_8, pt_9, ps_10, ha_11, re_12⟩ := u5
  replace hw6 : True := hw6
  refine lv_pop hx hb dL_law_1541 rfl ?_
  have hPx : va_P D vwCl (wX ad rw sd cI cY cJ cQ (upd nx 2 lf_8) (upR (upR (upR (upR fx 7 pt_9) 8 ps_10) 9 ha_11) 10 re_12) rs lo ++ wM md sd cI cY cJ cQ ny fy fl) H := hP.part [37, 0, 1, 2, 3, 4, 5, 6, 7, 8, 9, 10, 11, 12, 47, 48, 49, 50, 51, 52, 53, 54, 55, 38, 39, 60, 13, 14, 15, 40, 41, 42, 43, 44, 45, 46, 61, 62, 63, 64, 65, 16, 17, 18, 19, 20, 21, 22, 23, 24, 25, 26, 27, 28, 29, 30, 31, 32, 33, 34, 35, 36, 56, 57, 58, 59] rfl
  have hDx : va_D (fun q : Nat => s.heap.size ≤ q) (wX ad rw sd cI cY cJ cQ (upd nx 2 lf_8) (upR (upR (upR (upR fx 7 pt_9) 8 ps_10) 9 ha_11) 10 re_12) rs lo ++ wM md sd cI cY cJ cQ ny fy fl) := hD.part [37, 0, 1, 2, 3, 4, 5, 6, 7, 8, 9, 10, 11, 12, 47, 48, 49, 50, 51, 52, 53, 54, 55, 38, 39, 60, 13, 14, 15, 40, 41, 42, 43, 44, 45, 46, 61, 62, 63, 64, 65, 16, 17, 18, 19, 20, 21, 22, 23, 24, 25, 26, 27, 28, 29, 30, 31, 32, 33, 34, 35, 36, 56, 57, 58, 59] (by decide +kernel) rfl
  have hP := hPx.comm
  have hD := hDx.comm
  refine lv_aload_n hx hb dL_law_1542 rfl (lv_at hl 2 rfl) ?_
  refine lv_aload_n hx hb dL_law_1543 rfl (lv_at hl 0 rfl) ?_
  refine lv_iload_n hx hb dL_law_1544 rfl (lv_at hl 3 rfl) ?_
  refine lv_iconst (v := 1) hx hb dL_law_1545 (by decide) ?_
  refine lv_iadd hx hb dL_law_1546 ?_
  refine lv_topi (fun v13 ev13 => ?_)
  try have tv13 : v13.toInt = i.toInt + 1 := by rw [ev13]; exact (i_add (x := i) (y := (1 : Int32)) (by rw [k1]; omega) (by rw [k1]; omega)).trans (by rw [k1])
  refine va_sld hx hb hX hbl hbA hS (i_in (by omega) (by omega)) dL_law_1547 ?_
  refine lv_topi (fun a14 ea14 => ?_)
  replace ea14 : xk1 = a14 := (ea14.trans (by rw [exk1]; congr 1; have := i_cl (x := v13) (by omega); have := i_cl (x := i) (by omega); omega)).symm
  subst ea14
  refine lv_aload_n hx hb dL_law_1548 rfl (lv_at hl 0 rfl) ?_
  refine lv_iload_n hx hb dL_law_1549 rfl (lv_at hl 3 rfl) ?_
  refine lv_iconst (v := 2) hx hb dL_law_1550 (by decide) ?_
  refine lv_iadd hx hb dL_law_1551 ?_
  refine lv_topi (fun v15 ev15 => ?_)
  try have tv15 : v15.toInt = i.toInt + 2 := by rw [ev15]; exact (i_add (x := i) (y := (2 : Int32)) (by rw [k2]; omega) (by rw [k2]; omega)).trans (by rw [k2])
  refine va_sld hx hb hX hbl hbA hS (i_in (by omega) (by omega)) dL_law_1552 ?_
  refine lv_topi (fun a16 ea16 => ?_)
  replace ea16 : xk2 = a16 := (ea16.trans (by rw [exk2]; congr 1; have := i_cl (x := v15) (by omega); have := i_cl (x := i) (by omega); omega)).symm
  subst ea16
  refine st_iQ (wr := [((md 3), .inl (cI, 8, .inl (fy 0))), ((md 4), .inl (cI, 8, .inl (fy 1))), ((md 5), .inl (cI, 480, .inl (fy 2))), ((md 31), .inl (cI, 36, .inl (fy 21))), ((md 33), .inl (cI, 36, .inl (fy 22))), ((md 34), .inl (cI, 300, .inl (fy 23))), ((md 45), .inl (cI, 60, .inl (fy 24))), ((md 46), .inl (cI, 60, .inl (fy 25))), ((md 47), .inl (cI, 60, .inl (fy 26))), ((md 48), .inl (cI, 60, .inl (fy 27))), ((md 49), .inl (cI, 6, .inl (fy 28))), ((md 50), .inl (cI, 6, .inl (fy 29))), ((md 51), .inl (cI, 12, .inl (fy 30))), ((md 53), .inl (cI, 60, .inl (fy 31))), ((md 54), .inl (cI, 60, .inl (fy 32))), ((md 55), .inl (cI, 60, .inl (fy 33))), ((md 56), .inl (cI, 60, .inl (fy 34))), ((md 62), .inl (cI, 16, .inl (fy 38)))]) (va_runV (C := RX11) (As := [.int xk1, .int xk2]) (rest := []) ⟨hx, hb, hml, hown, hts⟩ (ct_X11_as l D cI cY cJ cQ _ md sd (ny 0) (ny 1) (ny 2) (ny 3) (ny 4) (ny 5) (ny 6) (ny 7) (ny 8) (ny 9) (ny 10) (ny 11) (ny 12) (ny 13) (ny 14) (ny 15) (ny 16) (ny 17) (ny 18) (ny 19) (ny 20) (ny 21) (ny 22) (fy 10) (fy 12) (fy 13) (fy 14) (fy 15) (fy 16) (fy 35) (fy 36) (fy 37) (fy 3) (fy 4) (fy 5) (fy 6) (fy 7) (fy 8) (fy 9) (fy 11) (fy 17) (fy 18) (fy 19) (fy 20) fl xk1 xk2 (by omega) (by omega) (by omega) (by omega) (by omega) (by omega) (by omega) (by omega) (by omega) (by omega)) (cwV 2 hts gL_law_X11_as rfl rfl rfl ⟨rfl, cdX11_as⟩ ⟨Nat.le_of_ble_eq_true rfl, Nat.le_of_ble_eq_true rfl⟩) (cPreV (hP.sub [0, 12, 14, 15, 16, 17, 18, 37, 38, 39, 4, 5, 6, 7, 8, 9, 10, 11, 13, 19, 20, 21, 22] rfl) hK (hD.sub [0, 12, 14, 15, 16, 17, 18, 37, 38, 39, 4, 5, 6, 7, 8, 9, 10, 11, 13, 19, 20, 21, 22] (by decide +kernel) rfl) hN (ci := 11) (q0 := 0) rfl rfl) rfl rfl hl.1 rfl (lv_room (Nat.le_of_ble_eq_true rfl)) dL_law_1553 ⟨Nat.le_of_ble_eq_true rfl, Nat.le_of_ble_eq_true rfl⟩) hP hD hS hA [0, 12, 14, 15, 16, 17, 18, 37, 38, 39, 4, 5, 6, 7, 8, 9, 10, 11, 13, 19, 20, 21, 22] [1, 2, 3, 23, 24, 25, 26, 27, 28, 29, 30, 31, 32, 33, 34, 35, 36, 40] rfl rfl (by decide +kernel) (by decide +kernel) (fun r19 u17 H locs hw18 hP hD hS => ?_)
  obtain ⟨mst_20, mq_21, mh_22, mp_23, mt_24, mf_25⟩ := u17
  replace hw18 : True := hw18
  refine lv_pop hx hb dL_law_1556 rfl ?_
  refine lv_goto (tgt := 1652) hx hb dL_law_1557 (by decide) ?_
  have hPm : va_P D vwCl (wM md sd cI cY cJ cQ (upd (upd (upd ny 0 0) 1 mst_20) 5 mq_21) (upR (upR (upR fy 7 mh_22) 8 mp_23) 9 mt_24) mf_25 ++ wX ad rw sd cI cY cJ cQ (upd nx 2 lf_8) (upR (upR (upR (upR fx 7 pt_9) 8 ps_10) 9 ha_11) 10 re_12) rs lo) H := hP.part [18, 0, 1, 2, 28, 29, 30, 31, 32, 33, 34, 35, 19, 36, 20, 21, 22, 23, 24, 37, 38, 39, 40, 3, 4, 5, 6, 7, 8, 9, 10, 11, 12, 13, 14, 15, 16, 25, 26, 27, 17] rfl
  have hDm : va_D (fun q : Nat => s.heap.size ≤ q) (wM md sd cI cY cJ cQ (upd (upd (upd ny 0 0) 1 mst_20) 5 mq_21) (upR (upR (upR fy 7 mh_22) 8 mp_23) 9 mt_24) mf_25 ++ wX ad rw sd cI cY cJ cQ (upd nx 2 lf_8) (upR (upR (upR (upR fx 7 pt_9) 8 ps_10) 9 ha_11) 10 re_12) rs lo) := hD.part [18, 0, 1, 2, 28, 29, 30, 31, 32, 33, 34, 35, 19, 36, 20, 21, 22, 23, 24, 37, 38, 39, 40, 3, 4, 5, 6, 7, 8, 9, 10, 11, 12, 13, 14, 15, 16, 25, 26, 27, 17] (by decide +kernel) rfl
  exact kk (upd nx 2 lf_8) (upR (upR (upR (upR fx 7 pt_9) 8 ps_10) 9 ha_11) 10 re_12) rs lo (upd (upd (upd ny 0 0) 1 mst_20) 5 mq_21) (upR (upR (upR fy 7 mh_22) 8 mp_23) 9 mt_24) mf_25 H locs ls ⟨Xhna, Xhnb, XH, Xcna, Xcnb, Xpna, Xpnb, XO, Xgna, Xgnb, Xlna, Xlnb, Xdla, Xdlb, Xana, Xanb, Xuna, Xunb, Xlca, Xlcb, Xtna, Xtnb, XS, Mhna, Mhnb, MH, MS, Mmlna, Mmlnb, Mmtna, Mmtnb, Ccn, Cfo, Cwo, Cpn, Cpk, Cpf, Cpo, Cpd, Cpe, Cgn, Cgk, Cgs, Cgd, Cge, Can, Cak, Cah, Cay, Caz, Cun, Cuk, Cuy, Cuw, Cum, Clc, Clp, Cla, Clb, Caw, Ciw, Cln, Ctd⟩ hPm.comm hDm.comm hS hl

set_option maxHeartbeats 4000000 in
set_option maxRecDepth 100000 in
theorem law_case_34 {p : Program} {l : Launch} {e : Env} {s : State} {m : MethodId} {below : List Frame} {meth : Method} {c : Code} {D : va_G} {cI cY cJ cQ : ClassId} {b L aK aV : Nat} {xs : Nat → Int32} {ad rw md : Nat → Nat} {sd i : Int32} {nx : Nat → Int32} {fx rs : Nat → Nat → Int32} {lo : Nat → Int64} {ny : Nat → Int32} {fy : Nat → Nat → Int32} {fl : Nat → Int64} {H : Heap} {locs : List Loc} {ls : Array Slot} (C0 : lawC p s m meth c b L xs D cI cY cJ cQ aK aV) (I : inv nx fx ny fy) (hP : va_P D vwCl (wX ad rw sd cI cY cJ cQ nx fx rs lo ++ wM md sd cI cY cJ cQ ny fy fl) H) (hD : va_D (fun q : Nat => s.heap.size ≤ q) (wX ad rw sd cI cY cJ cQ nx fx rs lo ++ wM md sd cI cY cJ cQ ny fy fl)) (hS : va_S (fun q : Nat => s.heap.size ≤ q) s.heap H locs) (hl : lv_has ls 4 [(0, .ref b), (1, .ref (ad 0)), (2, .ref (md 64)), (3, .int i)]) (hi1 : 1 ≤ i.toInt) (hi2 : i.toInt + 5 < L) (kk : ∀ (nx : Nat → Int32) (fx rs : Nat → Nat → Int32) (lo : Nat → Int64) (ny : Nat → Int32) (fy : Nat → Nat → Int32) (fl : Nat → Int64) (H : Heap) (locs : List Loc) (ls : Array Slot), inv nx fx ny fy → va_P D vwCl (wX ad rw sd cI cY cJ cQ nx fx rs lo ++ wM md sd cI cY cJ cQ ny fy fl) H → va_D (fun q : Nat => s.heap.size ≤ q) (wX ad rw sd cI cY cJ cQ nx fx rs lo ++ wM md sd cI cY cJ cQ ny fy fl) → va_S (fun q : Nat => s.heap.size ≤ q) s.heap H locs → lv_has ls 4 [(0, .ref b), (1, .ref (ad 0)), (2, .ref (md 64)), (3, .int i)] → W p l e room_1 s m #[Value.ref b] below meth c H locs 107 4890 (lw_Z below #[Value.ref b] s) (F0 m 1652 ls [])) : W p l e room_1 s m #[Value.ref b] below meth c H locs 107 4890 (lw_Z below #[Value.ref b] s) (F0 m 1560 ls []) := by
  obtain ⟨C1, hK, hN, hT, hL⟩ := C0
  obtain ⟨hx, hb, hr, hml, hown, hts0, hX, hbl, hlocks, hgv⟩ := C1
  have hA : ∀ q : Nat, s.heap.size ≤ q → (fun q : Nat => s.heap.size ≤ q) q := fun _ h => h
  have hbA : ¬ (fun q : Nat => s.heap.size ≤ q) b := Nat.not_le.mpr hbl
  have hts : ∀ w ∈ wsL_law, w.before #[Value.ref b] s = true := fun w h => hts0 w (wsL_law_in w h)
  replace hown : s.vm.findClass RL = some m.cls := hown
  replace hb : c.code = cL_law := hb
  obtain ⟨Xhna, Xhnb, XH, Xcna, Xcnb, Xpna, Xpnb, XO, Xgna, Xgnb, Xlna, Xlnb, Xdla, Xdlb, Xana, Xanb, Xuna, Xunb, Xlca, Xlcb, Xtna, Xtnb, XS, Mhna, Mhnb, MH, MS, Mmlna, Mmlnb, Mmtna, Mmtnb, Ccn, Cfo, Cwo, Cpn, Cpk, Cpf, Cpo, Cpd, Cpe, Cgn, Cgk, Cgs, Cgd, Cge, Can, Cak, Cah, Cay, Caz, Cun, Cuk, Cuy, Cuw, Cum, Clc, Clp, Cla, Clb, Caw, Ciw, Cln, Ctd⟩ := I
  have Tcn := i_eq Ccn
  have Tpn := i_eq Cpn
  have Tgn := i_eq Cgn
  have Tan := i_eq Can
  have Tun := i_eq Cun
  have Tlc := i_eq Clc
  have Tln := i_eq Cln
  have k1 : (1 : Int32).toInt = 1 := by decide
  have k2 : (2 : Int32).toInt = 2 := by decide
  obtain ⟨xk1, exk1⟩ : ∃ y : Int32, y = xs (i.toNatClampNeg + 1) := ⟨_, rfl⟩
  obtain ⟨xk2, exk2⟩ : ∃ y : Int32, y = xs (i.toNatClampNeg + 2) := ⟨_, rfl⟩
  refine lv_aload_n hx hb dL_law_1560 rfl (lv_at hl 1 rfl) ?_
  refine lv_aload_n hx hb dL_law_1561 rfl (lv_at hl 0 rfl) ?_
  refine lv_iload_n hx hb dL_law_1562 rfl (lv_at hl 3 rfl) ?_
  refine lv_iconst (v := 1) hx hb dL_law_1563 (by decide) ?_
  refine lv_iadd hx hb dL_law_1564 ?_
  refine lv_topi (fun v1 ev1 => ?_)
  try have tv1 : v1.toInt = i.toInt + 1 := by rw [ev1]; exact (i_add (x := i) (y := (1 : Int32)) (by rw [k1]; omega) (by rw [k1]; omega)).trans (by rw [k1])
  refine va_sld hx hb hX hbl hbA hS (i_in (by omega) (by omega)) dL_law_1565 ?_
  refine lv_topi (fun a2 ea2 => ?_)
  replace ea2 : xk1 = a2 := (ea2.trans (by rw [exk1]; congr 1; have := i_cl (x := v1) (by omega); have := i_cl (x := i) (by omega); omega)).symm
  subst ea2
  refine lv_aload_n hx hb dL_law_1566 rfl (lv_at hl 0 rfl) ?_
  refine lv_iload_n hx hb dL_law_1567 rfl (lv_at hl 3 rfl) ?_
  refine lv_iconst (v := 2) hx hb dL_law_1568 (by decide) ?_
  refine lv_iadd hx hb dL_law_1569 ?_
  refine lv_topi (fun v3 ev3 => ?_)
  try have tv3 : v3.toInt = i.toInt + 2 := by rw [ev3]; exact (i_add (x := i) (y := (2 : Int32)) (by rw [k2]; omega) (by rw [k2]; omega)).trans (by rw [k2])
  refine va_sld hx hb hX hbl hbA hS (i_in (by omega) (by omega)) dL_law_1570 ?_
  refine lv_topi (fun a4 ea4 => ?_)
  replace ea4 : xk2 = a4 := (ea4.trans (by rw [exk2]; congr 1; have := i_cl (x := v3) (by omega); have := i_cl (x := i) (by omega); omega)).symm
  subst ea4
  refine st_iQ (wr := [((rw 0), .inl (cI, 60, .inl (rs 0))), ((rw 1), .inl (cI, 60, .inl (rs 1))), ((rw 2), .inl (cI, 60, .inl (rs 2))), ((rw 3), .inl (cI, 60, .inl (rs 3))), ((rw 4), .inl (cI, 60, .inl (rs 4))), ((rw 5), .inl (cI, 60, .inl (rs 5))), ((rw 6), .inl (cI, 60, .inl (rs 6))), ((rw 7), .inl (cI, 60, .inl (rs 7))), ((ad 1), .inr (9, [.ref (ad 12), .ref (ad 13), .ref (ad 14)])), ((ad 12), .inl (cQ, 8, .inr (.inr (.inr (.inr (fun i => if i < 8 then some (rw i) else none)))))), ((ad 13), .inl (cI, 8, .inl (fx 1))), ((ad 14), .inl (cI, 8, .inl (fx 2))), ((ad 33), .inl (cI, 12, .inl (fx 13))), ((ad 34), .inl (cI, 6, .inl (fx 14))), ((ad 35), .inl (cI, 6, .inl (fx 15))), ((ad 46), .inl (cI, 40, .inl (fx 26))), ((ad 6), .inr (2, [.ref (ad 47), .int (nx 7), .int (nx 8), .ref (ad 48), .ref (ad 49), .ref (ad 50), .int (nx 9), .ref (ad 51), .ref (ad 52), .ref (ad 53), .int (nx 10), .int (nx 11), .int (nx 12), .int (nx 13), .int (nx 14)])), ((ad 47), .inl (cY, 300, .inl (fx 27))), ((ad 48), .inl (cI, 12, .inl (fx 28))), ((ad 49), .inl (cI, 12, .inl (fx 29))), ((ad 50), .inl (cI, 12, .inl (fx 30))), ((ad 51), .inl (cI, 12, .inl (fx 31))), ((ad 52), .inl (cI, 12, .inl (fx 32))), ((ad 53), .inl (cI, 12, .inl (fx 33))), ((ad 7), .inr (0, [.ref (ad 54), .ref (ad 55), .ref (ad 56), .ref (ad 57), .int (nx 15)])), ((ad 54), .inl (cI, 60, .inl (fx 34))), ((ad 55), .inl (cI, 60, .inl (fx 35))), ((ad 56), .inl (cI, 60, .inl (fx 36))), ((ad 57), .inl (cI, 60, .inl (fx 37))), ((ad 8), .inr (5, [.int sd, .ref (ad 58)])), ((ad 58), .inl (cJ, 12, .inr (.inl lo))), ((ad 9), .inr (6, [.ref (ad 59), .ref (ad 60), .ref (ad 61), .ref (ad 62), .int (nx 16)])), ((ad 59), .inl (cI, 60, .inl (fx 38))), ((ad 60), .inl (cI, 60, .inl (fx 39))), ((ad 61), .inl (cI, 60, .inl (fx 40))), ((ad 62), .inl (cI, 60, .inl (fx 41)))]) (va_runV (C := RX10) (As := [.int xk1, .int xk2]) (rest := []) ⟨hx, hb, hml, hown, hts⟩ (ct_X10_ask l D cI cY cJ cQ _ ad (nx 0) (nx 1) (nx 2) (nx 4) (nx 5) (nx 3) (nx 17) (nx 6) (fx 11) (fx 16) (fx 17) (fx 18) (fx 19) (fx 20) (fx 21) (fx 3) (fx 4) (fx 5) (fx 6) (fx 7) (fx 8) (fx 9) (fx 10) (fx 42) (fx 43) (fx 44) (fx 12) (fx 22) (fx 23) (fx 24) (fx 25) (fx 0) xk1 xk2 (by omega) (by omega) (by omega) (by omega) (by assumption) (by omega) (by omega) (by assumption) (by omega) (by omega) (by omega) (by omega) (by omega) (by omega)) (cwV 2 hts gL_law_X10_ask rfl rfl rfl ⟨rfl, cdX10_ask⟩ ⟨Nat.le_of_ble_eq_true rfl, Nat.le_of_ble_eq_true rfl⟩) (cPreV (hP.sub [0, 23, 24, 29, 30, 31, 32, 33, 34, 35, 14, 15, 16, 17, 18, 19, 20, 21, 22, 62, 63, 64, 65, 25, 36, 37, 38, 39, 40, 1] rfl) hK (hD.sub [0, 23, 24, 29, 30, 31, 32, 33, 34, 35, 14, 15, 16, 17, 18, 19, 20, 21, 22, 62, 63, 64, 65, 25, 36, 37, 38, 39, 40, 1] (by decide +kernel) rfl) hN (ci := 10) (q0 := 0) rfl rfl) rfl rfl hl.1 rfl (lv_room (Nat.le_of_ble_eq_true rfl)) dL_law_1571 ⟨Nat.le_of_ble_eq_true rfl, Nat.le_of_ble_eq_true rfl⟩) hP hD hS hA [0, 23, 24, 29, 30, 31, 32, 33, 34, 35, 14, 15, 16, 17, 18, 19, 20, 21, 22, 62, 63, 64, 65, 25, 36, 37, 38, 39, 40, 1] [2, 3, 4, 5, 6, 7, 8, 9, 10, 11, 12, 13, 26, 27, 28, 41, 42, 43, 44, 45, 46, 47, 48, 49, 50, 51, 52, 53, 54, 55, 56, 57, 58, 59, 60, 61] rfl rfl (by decide +kernel) (by decide +kernel) (fun r7 u5 H locs hw6 hP hD hS => ?_)
  obtain ⟨tn_8, tr_9, pt_10, ps_11, ha_12, re_13⟩ := u5
  replace hw6 : 0 ≤ tn_8.toInt ∧ tn_8.toInt ≤ 16 := hw6
  refine lv_pop hx hb dL_law_1574 rfl ?_
  have hPx : va_P D vwCl (wX ad rw sd cI cY cJ cQ (upd nx 0 tn_8) (upR (upR (upR (upR (upR fx 0 tr_9) 7 pt_10) 8 ps_11) 9 ha_12) 10 re_13) rs lo ++ wM md sd cI cY cJ cQ ny fy fl) H := hP.part [36, 65, 0, 1, 2, 3, 4, 5, 6, 7, 8, 9, 10, 11, 46, 47, 48, 49, 50, 51, 52, 53, 54, 37, 38, 59, 12, 13, 14, 39, 40, 41, 42, 43, 44, 45, 60, 61, 62, 63, 64, 15, 16, 17, 18, 19, 20, 21, 22, 23, 24, 25, 26, 27, 28, 29, 30, 31, 32, 33, 34, 35, 55, 56, 57, 58] rfl
  have hDx : va_D (fun q : Nat => s.heap.size ≤ q) (wX ad rw sd cI cY cJ cQ (upd nx 0 tn_8) (upR (upR (upR (upR (upR fx 0 tr_9) 7 pt_10) 8 ps_11) 9 ha_12) 10 re_13) rs lo ++ wM md sd cI cY cJ cQ ny fy fl) := hD.part [36, 65, 0, 1, 2, 3, 4, 5, 6, 7, 8, 9, 10, 11, 46, 47, 48, 49, 50, 51, 52, 53, 54, 37, 38, 59, 12, 13, 14, 39, 40, 41, 42, 43, 44, 45, 60, 61, 62, 63, 64, 15, 16, 17, 18, 19, 20, 21, 22, 23, 24, 25, 26, 27, 28, 29, 30, 31, 32, 33, 34, 35, 55, 56, 57, 58] (by decide +kernel) rfl
  have hP := hPx.comm
  have hD := hDx.comm
  refine lv_aload_n hx hb dL_law_1575 rfl (lv_at hl 2 rfl) ?_
  refine lv_aload_n hx hb dL_law_1576 rfl (lv_at hl 0 rfl) ?_
  refine lv_iload_n hx hb dL_law_1577 rfl (lv_at hl 3 rfl) ?_
  refine lv_iconst (v := 1) hx hb dL_law_1578 (by decide) ?_
  refine lv_iadd hx hb dL_law_1579 ?_
  refine lv_topi (fun v14 ev14 => ?_)
  try have tv14 : v14.toInt = i.toInt + 1 := by rw [ev14]; exact (i_add (x := i) (y := (1 : Int32)) (by rw [k1]; omega) (by rw [k1]; omega)).trans (by rw [k1])
  refine va_sld hx hb hX hbl hbA hS (i_in (by omega) (by omega)) dL_law_1580 ?_
  refine lv_topi (fun a15 ea15 => ?_)
  replace ea15 : xk1 = a15 := (ea15.trans (by rw [exk1]; congr 1; have := i_cl (x := v14) (by omega); have := i_cl (x := i) (by omega); omega)).symm
  subst ea15
  refine lv_aload_n hx hb dL_law_1581 rfl (lv_at hl 0 rfl) ?_
  refine lv_iload_n hx hb dL_law_1582 rfl (lv_at hl 3 rfl) ?_
  refine lv_iconst (v := 2) hx hb dL_law_1583 (by decide) ?_
  refine lv_iadd hx hb dL_law_1584 ?_
  refine lv_topi (fun v16 ev16 => ?_)
  try have tv16 : v16.toInt = i.toInt + 2 := by rw [ev16]; exact (i_add (x := i) (y := (2 : Int32)) (by rw [k2]; omega) (by rw [k2]; omega)).trans (by rw [k2])
  refine va_sld hx hb hX hbl hbA hS (i_in (by omega) (by omega)) dL_law_1585 ?_
  refine lv_topi (fun a17 ea17 => ?_)
  replace ea17 : xk2 = a17 := (ea17.trans (by rw [exk2]; congr 1; have := i_cl (x := v16) (by omega); have := i_cl (x := i) (by omega); omega)).symm
  subst ea17
  refine st_iQ (wr := [((md 3), .inl (cI, 8, .inl (fy 0))), ((md 4), .inl (cI, 8, .inl (fy 1))), ((md 5), .inl (cI, 480, .inl (fy 2))), ((md 31), .inl (cI, 36, .inl (fy 21))), ((md 33), .inl (cI, 36, .inl (fy 22))), ((md 34), .inl (cI, 300, .inl (fy 23))), ((md 45), .inl (cI, 60, .inl (fy 24))), ((md 46), .inl (cI, 60, .inl (fy 25))), ((md 47), .inl (cI, 60, .inl (fy 26))), ((md 48), .inl (cI, 60, .inl (fy 27))), ((md 49), .inl (cI, 6, .inl (fy 28))), ((md 50), .inl (cI, 6, .inl (fy 29))), ((md 51), .inl (cI, 12, .inl (fy 30))), ((md 53), .inl (cI, 60, .inl (fy 31))), ((md 54), .inl (cI, 60, .inl (fy 32))), ((md 55), .inl (cI, 60, .inl (fy 33))), ((md 56), .inl (cI, 60, .inl (fy 34)))]) (va_runV (C := RX11) (As := [.int xk1, .int xk2]) (rest := []) ⟨hx, hb, hml, hown, hts⟩ (ct_X11_ask l D cI cY cJ cQ _ md sd (ny 0) (ny 1) (ny 2) (ny 3) (ny 4) (ny 5) (ny 6) (ny 7) (ny 8) (ny 9) (ny 10) (ny 11) (ny 12) (ny 13) (ny 14) (ny 15) (ny 16) (ny 17) (ny 18) (ny 19) (ny 20) (ny 21) (ny 22) (fy 10) (fy 12) (fy 13) (fy 14) (fy 15) (fy 16) (fy 35) (fy 36) (fy 37) (fy 3) (fy 4) (fy 5) (fy 6) (fy 7) (fy 8) (fy 9) (fy 11) (fy 17) (fy 18) (fy 19) (fy 20) (fy 38) fl xk1 xk2 (by omega) (by omega) (by omega) (by omega) (by omega) (by omega) (by omega) (by omega) (by omega) (by omega) (by omega) (by omega)) (cwV 2 hts gL_law_X11_ask rfl rfl rfl ⟨rfl, cdX11_ask⟩ ⟨Nat.le_of_ble_eq_true rfl, Nat.le_of_ble_eq_true rfl⟩) (cPreV (hP.sub [0, 12, 14, 15, 16, 17, 18, 37, 38, 39, 4, 5, 6, 7, 8, 9, 10, 11, 13, 19, 20, 21, 22, 40] rfl) hK (hD.sub [0, 12, 14, 15, 16, 17, 18, 37, 38, 39, 4, 5, 6, 7, 8, 9, 10, 11, 13, 19, 20, 21, 22, 40] (by decide +kernel) rfl) hN (ci := 11) (q0 := 0) rfl rfl) rfl rfl hl.1 rfl (lv_room (Nat.le_of_ble_eq_true rfl)) dL_law_1586 ⟨Nat.le_of_ble_eq_true rfl, Nat.le_of_ble_eq_true rfl⟩) hP hD hS hA [0, 12, 14, 15, 16, 17, 18, 37, 38, 39, 4, 5, 6, 7, 8, 9, 10, 11, 13, 19, 20, 21, 22, 40] [1, 2, 3, 23, 24, 25, 26, 27, 28, 29, 30, 31, 32, 33, 34, 35, 36] rfl rfl (by decide +kernel) (by decide +kernel) (fun r20 u18 H locs hw19 hP hD hS => ?_)
  obtain ⟨mtn_21, mtr_22, mq_23, mh_24, mp_25, mt_26, mf_27⟩ := u18
  replace hw19 : 0 ≤ mtn_21.toInt ∧ mtn_21.toInt ≤ 16 := hw19
  refine lv_pop hx hb dL_law_1589 rfl ?_
  refine lv_goto (tgt := 1652) hx hb dL_law_1590 (by decide) ?_
  have hPm : va_P D vwCl (wM md sd cI cY cJ cQ (upd (upd (upd ny 0 0) 5 mq_23) 22 mtn_21) (upR (upR (upR (upR fy 7 mh_24) 8 mp_25) 9 mt_26) 38 mtr_22) mf_27 ++ wX ad rw sd cI cY cJ cQ (upd nx 0 tn_8) (upR (upR (upR (upR (upR fx 0 tr_9) 7 pt_10) 8 ps_11) 9 ha_12) 10 re_13) rs lo) H := hP.part [17, 0, 1, 2, 27, 28, 29, 30, 31, 32, 33, 34, 18, 35, 19, 20, 21, 22, 23, 36, 37, 38, 39, 3, 4, 5, 6, 7, 8, 9, 10, 11, 12, 13, 14, 15, 16, 24, 25, 26, 40] rfl
  have hDm : va_D (fun q : Nat => s.heap.size ≤ q) (wM md sd cI cY cJ cQ (upd (upd (upd ny 0 0) 5 mq_23) 22 mtn_21) (upR (upR (upR (upR fy 7 mh_24) 8 mp_25) 9 mt_26) 38 mtr_22) mf_27 ++ wX ad rw sd cI cY cJ cQ (upd nx 0 tn_8) (upR (upR (upR (upR (upR fx 0 tr_9) 7 pt_10) 8 ps_11) 9 ha_12) 10 re_13) rs lo) := hD.part [17, 0, 1, 2, 27, 28, 29, 30, 31, 32, 33, 34, 18, 35, 19, 20, 21, 22, 23, 36, 37, 38, 39, 3, 4, 5, 6, 7, 8, 9, 10, 11, 12, 13, 14, 15, 16, 24, 25, 26, 40] (by decide +kernel) rfl
  exact kk (upd nx 0 tn_8) (upR (upR (upR (upR (upR fx 0 tr_9) 7 pt_10) 8 ps_11) 9 ha_12) 10 re_13) rs lo (upd (upd (upd ny 0 0) 5 mq_23) 22 mtn_21) (upR (upR (upR (upR fy 7 mh_24) 8 mp_25) 9 mt_26) 38 mtr_22) mf_27 H locs ls ⟨Xhna, Xhnb, XH, Xcna, Xcnb, Xpna, Xpnb, XO, Xgna, Xgnb, Xlna, Xlnb, Xdla, Xdlb, Xana, Xanb, Xuna, Xunb, Xlca, Xlcb, (by show 0 ≤ (tn_8).toInt; omega), (by show (tn_8).toInt ≤ 16; omega), XS, Mhna, Mhnb, MH, MS, Mmlna, Mmlnb, (by show 0 ≤ (mtn_21).toInt; omega), (by show (mtn_21).toInt ≤ 16; omega), Ccn, Cfo, Cwo, Cpn, Cpk, Cpf, Cpo, Cpd, Cpe, Cgn, Cgk, Cgs, Cgd, Cge, Can, Cak, Cah, Cay, Caz, Cun, Cuk, Cuy, Cuw, Cum, Clc, Clp, Cla, Clb, Caw, Ciw, Cln, Ctd⟩ hPm.comm hDm.comm hS hl

set_option maxHeartbeats 4000000 in
set_option maxRecDepth 100000 in
theorem law_case_35 {p : Program} {l : Launch} {e : Env} {s : State} {m : MethodId} {below : List Frame} {meth : Method} {c : Code} {D : va_G} {cI cY cJ cQ : ClassId} {b L aK aV : Nat} {xs : Nat → Int32} {ad rw md : Nat → Nat} {sd i : Int32} {nx : Nat → Int32} {fx rs : Nat → Nat → Int32} {lo : Nat → Int64} {ny : Nat → Int32} {fy : Nat → Nat → Int32} {fl : Nat → Int64} {H : Heap} {locs : List Loc} {ls : Array Slot} (C0 : lawC p s m meth c b L xs D cI cY cJ cQ aK aV) (I : inv nx fx ny fy) (hP : va_P D vwCl (wX ad rw sd cI cY cJ cQ nx fx rs lo ++ wM md sd cI cY cJ cQ ny fy fl) H) (hD : va_D (fun q : Nat => s.heap.size ≤ q) (wX ad rw sd cI cY cJ cQ nx fx rs lo ++ wM md sd cI cY cJ cQ ny fy fl)) (hS : va_S (fun q : Nat => s.heap.size ≤ q) s.heap H locs) (hl : lv_has ls 4 [(0, .ref b), (1, .ref (ad 0)), (2, .ref (md 64)), (3, .int i)]) (hi1 : 1 ≤ i.toInt) (hi2 : i.toInt + 5 < L) (kk : ∀ (nx : Nat → Int32) (fx rs : Nat → Nat → Int32) (lo : Nat → Int64) (ny : Nat → Int32) (fy : Nat → Nat → Int32) (fl : Nat → Int64) (H : Heap) (locs : List Loc) (ls : Array Slot), inv nx fx ny fy → va_P D vwCl (wX ad rw sd cI cY cJ cQ nx fx rs lo ++ wM md sd cI cY cJ cQ ny fy fl) H → va_D (fun q : Nat => s.heap.size ≤ q) (wX ad rw sd cI cY cJ cQ nx fx rs lo ++ wM md sd cI cY cJ cQ ny fy fl) → va_S (fun q : Nat => s.heap.size ≤ q) s.heap H locs → lv_has ls 4 [(0, .ref b), (1, .ref (ad 0)), (2, .ref (md 64)), (3, .int i)] → W p l e room_1 s m #[Value.ref b] below meth c H locs 107 4890 (lw_Z below #[Value.ref b] s) (F0 m 1652 ls [])) : W p l e room_1 s m #[Value.ref b] below meth c H locs 107 4890 (lw_Z below #[Value.ref b] s) (F0 m 1593 ls []) := by
  obtain ⟨C1, hK, hN, hT, hL⟩ := C0
  obtain ⟨hx, hb, hr, hml, hown, hts0, hX, hbl, hlocks, hgv⟩ := C1
  have hA : ∀ q : Nat, s.heap.size ≤ q → (fun q : Nat => s.heap.size ≤ q) q := fun _ h => h
  have hbA : ¬ (fun q : Nat => s.heap.size ≤ q) b := Nat.not_le.mpr hbl
  have hts : ∀ w ∈ wsL_law, w.before #[Value.ref b] s = true := fun w h => hts0 w (wsL_law_in w h)
  replace hown : s.vm.findClass RL = some m.cls := hown
  replace hb : c.code = cL_law := hb
  obtain ⟨Xhna, Xhnb, XH, Xcna, Xcnb, Xpna, Xpnb, XO, Xgna, Xgnb, Xlna, Xlnb, Xdla, Xdlb, Xana, Xanb, Xuna, Xunb, Xlca, Xlcb, Xtna, Xtnb, XS, Mhna, Mhnb, MH, MS, Mmlna, Mmlnb, Mmtna, Mmtnb, Ccn, Cfo, Cwo, Cpn, Cpk, Cpf, Cpo, Cpd, Cpe, Cgn, Cgk, Cgs, Cgd, Cge, Can, Cak, Cah, Cay, Caz, Cun, Cuk, Cuy, Cuw, Cum, Clc, Clp, Cla, Clb, Caw, Ciw, Cln, Ctd⟩ := I
  have Tcn := i_eq Ccn
  have Tpn := i_eq Cpn
  have Tgn := i_eq Cgn
  have Tan := i_eq Can
  have Tun := i_eq Cun
  have Tlc := i_eq Clc
  have Tln := i_eq Cln
  have k1 : (1 : Int32).toInt = 1 := by decide
  obtain ⟨xk1, exk1⟩ : ∃ y : Int32, y = xs (i.toNatClampNeg + 1) := ⟨_, rfl⟩
  refine lv_aload_n hx hb dL_law_1593 rfl (lv_at hl 1 rfl) ?_
  refine lv_aload_n hx hb dL_law_1594 rfl (lv_at hl 0 rfl) ?_
  refine lv_iload_n hx hb dL_law_1595 rfl (lv_at hl 3 rfl) ?_
  refine lv_iconst (v := 1) hx hb dL_law_1596 (by decide) ?_
  refine lv_iadd hx hb dL_law_1597 ?_
  refine lv_topi (fun v1 ev1 => ?_)
  try have tv1 : v1.toInt = i.toInt + 1 := by rw [ev1]; exact (i_add (x := i) (y := (1 : Int32)) (by rw [k1]; omega) (by rw [k1]; omega)).trans (by rw [k1])
  refine va_sld hx hb hX hbl hbA hS (i_in (by omega) (by omega)) dL_law_1598 ?_
  refine lv_topi (fun a2 ea2 => ?_)
  replace ea2 : xk1 = a2 := (ea2.trans (by rw [exk1]; congr 1; have := i_cl (x := v1) (by omega); have := i_cl (x := i) (by omega); omega)).symm
  subst ea2
  refine st_iQ (wr := [((rw 0), .inl (cI, 60, .inl (rs 0))), ((rw 1), .inl (cI, 60, .inl (rs 1))), ((rw 2), .inl (cI, 60, .inl (rs 2))), ((rw 3), .inl (cI, 60, .inl (rs 3))), ((rw 4), .inl (cI, 60, .inl (rs 4))), ((rw 5), .inl (cI, 60, .inl (rs 5))), ((rw 6), .inl (cI, 60, .inl (rs 6))), ((rw 7), .inl (cI, 60, .inl (rs 7))), ((ad 1), .inr (9, [.ref (ad 12), .ref (ad 13), .ref (ad 14)])), ((ad 12), .inl (cQ, 8, .inr (.inr (.inr (.inr (fun i => if i < 8 then some (rw i) else none)))))), ((ad 13), .inl (cI, 8, .inl (fx 1))), ((ad 14), .inl (cI, 8, .inl (fx 2))), ((ad 2), .inr (3, [.ref (ad 23), .ref (ad 24), .ref (ad 25), .ref (ad 26), .int (nx 3), .ref (ad 27), .ref (ad 28), .ref (ad 29), .ref (ad 30)])), ((ad 23), .inl (cI, 40, .inl (fx 3))), ((ad 24), .inl (cI, 40, .inl (fx 4))), ((ad 25), .inl (cI, 40, .inl (fx 5))), ((ad 26), .inl (cI, 40, .inl (fx 6))), ((ad 27), .inl (cI, 200, .inl (fx 7))), ((ad 28), .inl (cI, 200, .inl (fx 8))), ((ad 29), .inl (cI, 20, .inl (fx 9))), ((ad 30), .inl (cI, 10, .inl (fx 10))), ((ad 3), .inr (1, [.ref (ad 31), .ref (ad 32), .ref (ad 33), .int (nx 4), .ref (ad 34), .ref (ad 35)])), ((ad 31), .inl (cI, 12, .inl (fx 11))), ((ad 32), .inl (cI, 12, .inl (fx 12))), ((ad 33), .inl (cI, 12, .inl (fx 13))), ((ad 34), .inl (cI, 6, .inl (fx 14))), ((ad 35), .inl (cI, 6, .inl (fx 15))), ((ad 4), .inr (7, [.ref (ad 36), .ref (ad 37), .ref (ad 38), .ref (ad 39), .ref (ad 40), .ref (ad 41), .int (nx 5)])), ((ad 36), .inl (cI, 40, .inl (fx 16))), ((ad 37), .inl (cI, 40, .inl (fx 17))), ((ad 38), .inl (cI, 40, .inl (fx 18))), ((ad 39), .inl (cI, 40, .inl (fx 19))), ((ad 40), .inl (cI, 40, .inl (fx 20))), ((ad 41), .inl (cI, 40, .inl (fx 21))), ((ad 5), .inr (8, [.ref (ad 42), .ref (ad 43), .ref (ad 44), .ref (ad 45), .int (nx 6), .ref (ad 46)])), ((ad 42), .inl (cI, 40, .inl (fx 22))), ((ad 43), .inl (cI, 40, .inl (fx 23))), ((ad 44), .inl (cI, 40, .inl (fx 24))), ((ad 45), .inl (cI, 40, .inl (fx 25))), ((ad 46), .inl (cI, 40, .inl (fx 26))), ((ad 6), .inr (2, [.ref (ad 47), .int (nx 7), .int (nx 8), .ref (ad 48), .ref (ad 49), .ref (ad 50), .int (nx 9), .ref (ad 51), .ref (ad 52), .ref (ad 53), .int (nx 10), .int (nx 11), .int (nx 12), .int (nx 13), .int (nx 14)])), ((ad 47), .inl (cY, 300, .inl (fx 27))), ((ad 48), .inl (cI, 12, .inl (fx 28))), ((ad 49), .inl (cI, 12, .inl (fx 29))), ((ad 50), .inl (cI, 12, .inl (fx 30))), ((ad 51), .inl (cI, 12, .inl (fx 31))), ((ad 52), .inl (cI, 12, .inl (fx 32))), ((ad 53), .inl (cI, 12, .inl (fx 33))), ((ad 7), .inr (0, [.ref (ad 54), .ref (ad 55), .ref (ad 56), .ref (ad 57), .int (nx 15)])), ((ad 54), .inl (cI, 60, .inl (fx 34))), ((ad 55), .inl (cI, 60, .inl (fx 35))), ((ad 56), .inl (cI, 60, .inl (fx 36))), ((ad 57), .inl (cI, 60, .inl (fx 37))), ((ad 8), .inr (5, [.int sd, .ref (ad 58)])), ((ad 58), .inl (cJ, 12, .inr (.inl lo))), ((ad 9), .inr (6, [.ref (ad 59), .ref (ad 60), .ref (ad 61), .ref (ad 62), .int (nx 16)])), ((ad 59), .inl (cI, 60, .inl (fx 38))), ((ad 60), .inl (cI, 60, .inl (fx 39))), ((ad 61), .inl (cI, 60, .inl (fx 40))), ((ad 62), .inl (cI, 60, .inl (fx 41))), ((ad 10), .inr (4, [.ref (ad 63), .ref (ad 64), .ref (ad 65), .int (nx 17)])), ((ad 63), .inl (cI, 20, .inl (fx 42))), ((ad 64), .inl (cI, 20, .inl (fx 43))), ((ad 65), .inl (cI, 20, .inl (fx 44)))]) (va_runV (C := RX10) (As := [.int xk1]) (rest := []) ⟨hx, hb, hml, hown, hts⟩ (ct_X10_trace l D cI cY cJ cQ _ ad (nx 0) (nx 1) (nx 2) (fx 0) xk1 (by omega) (by omega)) (cwV 1 hts gL_law_X10_trace rfl rfl rfl ⟨rfl, cdX10_trace⟩ ⟨Nat.le_of_ble_eq_true rfl, Nat.le_of_ble_eq_true rfl⟩) (cPreV (hP.sub [0, 1] rfl) hK (hD.sub [0, 1] (by decide +kernel) rfl) hN (ci := 10) (q0 := 0) rfl rfl) rfl rfl hl.1 rfl (lv_room (Nat.le_of_ble_eq_true rfl)) dL_law_1599 ⟨Nat.le_of_ble_eq_true rfl, Nat.le_of_ble_eq_true rfl⟩) hP hD hS hA [0, 1] [2, 3, 4, 5, 6, 7, 8, 9, 10, 11, 12, 13, 14, 15, 16, 17, 18, 19, 20, 21, 22, 23, 24, 25, 26, 27, 28, 29, 30, 31, 32, 33, 34, 35, 36, 37, 38, 39, 40, 41, 42, 43, 44, 45, 46, 47, 48, 49, 50, 51, 52, 53, 54, 55, 56, 57, 58, 59, 60, 61, 62, 63, 64, 65] rfl rfl (by decide +kernel) (by decide +kernel) (fun r5 u3 H locs hw4 hP hD hS => ?_)
  replace hw4 : True := hw4
  refine lv_pop hx hb dL_law_1602 rfl ?_
  have hPx : va_P D vwCl (wX ad rw sd cI cY cJ cQ nx fx rs lo ++ wM md sd cI cY cJ cQ ny fy fl) H := hP.part [64, 65, 0, 1, 2, 3, 4, 5, 6, 7, 8, 9, 10, 11, 12, 13, 14, 15, 16, 17, 18, 19, 20, 21, 22, 23, 24, 25, 26, 27, 28, 29, 30, 31, 32, 33, 34, 35, 36, 37, 38, 39, 40, 41, 42, 43, 44, 45, 46, 47, 48, 49, 50, 51, 52, 53, 54, 55, 56, 57, 58, 59, 60, 61, 62, 63] rfl
  have hDx : va_D (fun q : Nat => s.heap.size ≤ q) (wX ad rw sd cI cY cJ cQ nx fx rs lo ++ wM md sd cI cY cJ cQ ny fy fl) := hD.part [64, 65, 0, 1, 2, 3, 4, 5, 6, 7, 8, 9, 10, 11, 12, 13, 14, 15, 16, 17, 18, 19, 20, 21, 22, 23, 24, 25, 26, 27, 28, 29, 30, 31, 32, 33, 34, 35, 36, 37, 38, 39, 40, 41, 42, 43, 44, 45, 46, 47, 48, 49, 50, 51, 52, 53, 54, 55, 56, 57, 58, 59, 60, 61, 62, 63] (by decide +kernel) rfl
  have hP := hPx.comm
  have hD := hDx.comm
  refine lv_aload_n hx hb dL_law_1603 rfl (lv_at hl 2 rfl) ?_
  refine lv_aload_n hx hb dL_law_1604 rfl (lv_at hl 0 rfl) ?_
  refine lv_iload_n hx hb dL_law_1605 rfl (lv_at hl 3 rfl) ?_
  refine lv_iconst (v := 1) hx hb dL_law_1606 (by decide) ?_
  refine lv_iadd hx hb dL_law_1607 ?_
  refine lv_topi (fun v6 ev6 => ?_)
  try have tv6 : v6.toInt = i.toInt + 1 := by rw [ev6]; exact (i_add (x := i) (y := (1 : Int32)) (by rw [k1]; omega) (by rw [k1]; omega)).trans (by rw [k1])
  refine va_sld hx hb hX hbl hbA hS (i_in (by omega) (by omega)) dL_law_1608 ?_
  refine lv_topi (fun a7 ea7 => ?_)
  replace ea7 : xk1 = a7 := (ea7.trans (by rw [exk1]; congr 1; have := i_cl (x := v6) (by omega); have := i_cl (x := i) (by omega); omega)).symm
  subst ea7
  refine st_iQ (wr := [((md 3), .inl (cI, 8, .inl (fy 0))), ((md 4), .inl (cI, 8, .inl (fy 1))), ((md 5), .inl (cI, 480, .inl (fy 2))), ((md 7), .inl (cI, 40, .inl (fy 3))), ((md 8), .inl (cI, 40, .inl (fy 4))), ((md 9), .inl (cI, 40, .inl (fy 5))), ((md 10), .inl (cI, 40, .inl (fy 6))), ((md 11), .inl (cI, 200, .inl (fy 7))), ((md 12), .inl (cI, 12, .inl (fy 8))), ((md 13), .inl (cI, 12, .inl (fy 9))), ((md 14), .inl (cJ, 12, .inr (.inl fl))), ((md 16), .inl (cI, 12, .inl (fy 10))), ((md 17), .inl (cI, 12, .inl (fy 11))), ((md 19), .inl (cI, 40, .inl (fy 12))), ((md 20), .inl (cI, 40, .inl (fy 13))), ((md 21), .inl (cI, 40, .inl (fy 14))), ((md 22), .inl (cI, 40, .inl (fy 15))), ((md 23), .inl (cI, 40, .inl (fy 16))), ((md 26), .inl (cI, 40, .inl (fy 17))), ((md 27), .inl (cI, 40, .inl (fy 18))), ((md 28), .inl (cI, 40, .inl (fy 19))), ((md 29), .inl (cI, 40, .inl (fy 20))), ((md 31), .inl (cI, 36, .inl (fy 21))), ((md 33), .inl (cI, 36, .inl (fy 22))), ((md 34), .inl (cI, 300, .inl (fy 23))), ((md 45), .inl (cI, 60, .inl (fy 24))), ((md 46), .inl (cI, 60, .inl (fy 25))), ((md 47), .inl (cI, 60, .inl (fy 26))), ((md 48), .inl (cI, 60, .inl (fy 27))), ((md 49), .inl (cI, 6, .inl (fy 28))), ((md 50), .inl (cI, 6, .inl (fy 29))), ((md 51), .inl (cI, 12, .inl (fy 30))), ((md 53), .inl (cI, 60, .inl (fy 31))), ((md 54), .inl (cI, 60, .inl (fy 32))), ((md 55), .inl (cI, 60, .inl (fy 33))), ((md 56), .inl (cI, 60, .inl (fy 34))), ((md 58), .inl (cI, 20, .inl (fy 35))), ((md 59), .inl (cI, 20, .inl (fy 36))), ((md 60), .inl (cI, 20, .inl (fy 37)))]) (va_runV (C := RX11) (As := [.int xk1]) (rest := []) ⟨hx, hb, hml, hown, hts⟩ (ct_X11_trace l D cI cY cJ cQ _ md sd (ny 0) (ny 1) (ny 2) (ny 3) (ny 4) (ny 5) (ny 6) (ny 7) (ny 8) (ny 9) (ny 10) (ny 11) (ny 12) (ny 13) (ny 14) (ny 15) (ny 16) (ny 17) (ny 18) (ny 19) (ny 20) (ny 21) (ny 22) (fy 38) xk1 (by omega) (by omega)) (cwV 1 hts gL_law_X11_trace rfl rfl rfl ⟨rfl, cdX11_trace⟩ ⟨Nat.le_of_ble_eq_true rfl, Nat.le_of_ble_eq_true rfl⟩) (cPreV (hP.sub [0, 40] rfl) hK (hD.sub [0, 40] (by decide +kernel) rfl) hN (ci := 11) (q0 := 0) rfl rfl) rfl rfl hl.1 rfl (lv_room (Nat.le_of_ble_eq_true rfl)) dL_law_1609 ⟨Nat.le_of_ble_eq_true rfl, Nat.le_of_ble_eq_true rfl⟩) hP hD hS hA [0, 40] [1, 2, 3, 4, 5, 6, 7, 8, 9, 10, 11, 12, 13, 14, 15, 16, 17, 18, 19, 20, 21, 22, 23, 24, 25, 26, 27, 28, 29, 30, 31, 32, 33, 34, 35, 36, 37, 38, 39] rfl rfl (by decide +kernel) (by decide +kernel) (fun r10 u8 H locs hw9 hP hD hS => ?_)
  replace hw9 : True := hw9
  refine lv_pop hx hb dL_law_1612 rfl ?_
  refine lv_goto (tgt := 1652) hx hb dL_law_1613 (by decide) ?_
  have hPm : va_P D vwCl (wM md sd cI cY cJ cQ (upd ny 0 0) fy fl ++ wX ad rw sd cI cY cJ cQ nx fx rs lo) H := hP.part [39, 0, 1, 2, 3, 4, 5, 6, 7, 8, 9, 10, 11, 12, 13, 14, 15, 16, 17, 18, 19, 20, 21, 22, 23, 24, 25, 26, 27, 28, 29, 30, 31, 32, 33, 34, 35, 36, 37, 38, 40] rfl
  have hDm : va_D (fun q : Nat => s.heap.size ≤ q) (wM md sd cI cY cJ cQ (upd ny 0 0) fy fl ++ wX ad rw sd cI cY cJ cQ nx fx rs lo) := hD.part [39, 0, 1, 2, 3, 4, 5, 6, 7, 8, 9, 10, 11, 12, 13, 14, 15, 16, 17, 18, 19, 20, 21, 22, 23, 24, 25, 26, 27, 28, 29, 30, 31, 32, 33, 34, 35, 36, 37, 38, 40] (by decide +kernel) rfl
  exact kk nx fx rs lo (upd ny 0 0) fy fl H locs ls ⟨Xhna, Xhnb, XH, Xcna, Xcnb, Xpna, Xpnb, XO, Xgna, Xgnb, Xlna, Xlnb, Xdla, Xdlb, Xana, Xanb, Xuna, Xunb, Xlca, Xlcb, Xtna, Xtnb, XS, Mhna, Mhnb, MH, MS, Mmlna, Mmlnb, Mmtna, Mmtnb, Ccn, Cfo, Cwo, Cpn, Cpk, Cpf, Cpo, Cpd, Cpe, Cgn, Cgk, Cgs, Cgd, Cge, Can, Cak, Cah, Cay, Caz, Cun, Cuk, Cuy, Cuw, Cum, Clc, Clp, Cla, Clb, Caw, Ciw, Cln, Ctd⟩ hPm.comm hDm.comm hS hl
