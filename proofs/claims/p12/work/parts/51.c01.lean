theorem cdX10_holds : yX10_holds.cls ≠ "java/lang/invoke/MethodHandle" ∧ yX10_holds.cls ≠ "java/lang/invoke/VarHandle" ∧ (parseMethodDescriptor yX10_holds.desc).map (fun d => d.parameters.length) = some 3 := by decide +kernel
theorem cdX10_percent : yX10_percent.cls ≠ "java/lang/invoke/MethodHandle" ∧ yX10_percent.cls ≠ "java/lang/invoke/VarHandle" ∧ (parseMethodDescriptor yX10_percent.desc).map (fun d => d.parameters.length) = some 3 := by decide +kernel
theorem cdX10_share : yX10_share.cls ≠ "java/lang/invoke/MethodHandle" ∧ yX10_share.cls ≠ "java/lang/invoke/VarHandle" ∧ (parseMethodDescriptor yX10_share.desc).map (fun d => d.parameters.length) = some 3 := by decide +kernel
theorem cdX11_hold : yX11_hold.cls ≠ "java/lang/invoke/MethodHandle" ∧ yX11_hold.cls ≠ "java/lang/invoke/VarHandle" ∧ (parseMethodDescriptor yX11_hold.desc).map (fun d => d.parameters.length) = some 4 := by decide +kernel
theorem cdX11_holds : yX11_holds.cls ≠ "java/lang/invoke/MethodHandle" ∧ yX11_holds.cls ≠ "java/lang/invoke/VarHandle" ∧ (parseMethodDescriptor yX11_holds.desc).map (fun d => d.parameters.length) = some 3 := by decide +kernel
theorem cdX11_percent : yX11_percent.cls ≠ "java/lang/invoke/MethodHandle" ∧ yX11_percent.cls ≠ "java/lang/invoke/VarHandle" ∧ (parseMethodDescriptor yX11_percent.desc).map (fun d => d.parameters.length) = some 3 := by decide +kernel
theorem cdX11_share : yX11_share.cls ≠ "java/lang/invoke/MethodHandle" ∧ yX11_share.cls ≠ "java/lang/invoke/VarHandle" ∧ (parseMethodDescriptor yX11_share.desc).map (fun d => d.parameters.length) = some 3 := by decide +kernel
set_option maxRecDepth 20000 in
theorem ggL_law_X10_hold : GoodIn wsL_law wsX10_hold := goodIn_ch _ [(12, 0), (8, 8), (1, 0), (12, 1), (12, 2), (12, 3), (12, 4), (0, 2), (12, 5), (12, 6), (12, 7), (12, 8), (8, 9), (8, 10), (8, 11), (12, 9), (12, 10), (12, 11), (12, 12), (12, 13), (12, 14), (12, 15), (12, 16), (12, 17), (12, 18), (12, 19), (12, 20), (0, 23), (12, 21), (3, 2), (12, 22), (3, 3), (3, 4), (3, 5), (48, 0), (48, 1), (48, 2), (48, 3), (48, 4), (48, 5), (48, 6), (48, 7), (48, 8), (48, 9), (48, 10), (48, 11), (48, 12), (48, 13), (51, 0), (51, 1), (51, 2), (51, 3), (51, 4), (51, 5), (51, 6), (51, 7), (51, 8)] rfl (by decide +kernel)
set_option maxRecDepth 20000 in
theorem gL_law_X10_hold : GoodIn wsL_law (wsV RL 40 RX10 yX10_hold wsX10_hold) := goodIn_app (goodIn_ch _ [(11, 21), (11, 22), (11, 23), (0, 2)] rfl (by decide +kernel)) ggL_law_X10_hold
set_option maxRecDepth 20000 in
theorem ggL_law_X11_hold : GoodIn wsL_law wsX11_hold := goodIn_ch _ [(13, 2), (9, 6), (13, 3), (13, 4), (13, 5), (0, 5), (13, 6), (13, 7), (9, 8), (13, 8), (13, 9), (6, 12), (6, 13), (6, 14), (6, 15), (13, 10), (13, 11), (13, 12), (13, 13), (9, 14), (9, 15), (9, 16), (13, 14), (13, 15), (13, 16), (13, 17), (13, 18), (13, 19), (13, 20), (13, 21), (49, 0), (49, 1), (49, 2), (49, 3), (49, 4), (49, 5), (49, 6), (49, 7), (49, 8), (49, 9), (49, 10), (49, 11), (49, 12), (49, 13), (49, 14), (49, 15), (49, 16), (49, 17), (49, 18), (49, 19), (49, 20), (49, 21), (49, 22), (49, 23), (49, 24), (49, 25), (49, 26), (49, 27), (49, 28), (49, 29), (49, 30), (49, 31), (49, 32), (49, 33), (49, 34), (49, 35), (49, 36), (49, 37), (49, 38), (49, 39), (49, 40), (49, 41), (49, 42), (49, 43), (49, 44), (49, 45), (49, 46), (49, 47), (49, 48), (49, 49), (49, 50), (49, 51), (49, 52), (49, 53), (49, 54), (49, 55), (49, 56), (49, 57), (49, 58), (49, 59), (49, 60), (49, 61), (49, 62), (49, 63)] rfl (by decide +kernel)
set_option maxRecDepth 20000 in
theorem gL_law_X11_hold : GoodIn wsL_law (wsV RL 44 RX11 yX11_hold wsX11_hold) := goodIn_app (goodIn_ch _ [(12, 23), (13, 0), (13, 1), (0, 5)] rfl (by decide +kernel)) ggL_law_X11_hold
set_option maxRecDepth 20000 in
theorem ggL_law_X10_holds : GoodIn wsL_law wsX10_holds := goodIn_ch _ [(14, 1), (8, 8), (0, 20), (10, 23), (8, 9), (8, 10), (0, 2), (8, 11), (12, 12), (12, 13), (12, 14), (10, 2), (10, 3), (10, 4), (0, 19), (10, 5), (2, 18), (8, 12), (8, 13), (8, 14), (8, 15), (8, 16), (8, 17), (10, 6), (10, 7), (10, 8), (10, 9), (14, 2), (11, 22), (11, 23), (12, 0), (1, 0), (12, 1), (12, 2), (12, 3), (12, 4), (12, 5), (12, 6), (12, 7), (12, 8), (12, 9), (12, 10), (12, 11), (12, 15), (12, 16), (12, 17), (12, 18), (12, 19), (12, 20), (0, 23), (12, 21), (3, 2), (12, 22), (3, 3), (3, 4), (3, 5), (8, 22), (8, 23), (9, 0), (9, 1), (48, 0), (48, 1), (48, 2), (48, 3), (48, 4), (48, 5), (48, 6), (48, 7), (48, 8), (48, 9), (48, 10), (48, 11), (48, 12), (48, 13), (50, 0), (50, 1), (50, 2), (51, 0), (51, 1), (51, 2), (51, 3), (51, 4), (51, 5), (51, 6), (51, 7), (51, 8)] rfl (by decide +kernel)
set_option maxRecDepth 20000 in
theorem gL_law_X10_holds : GoodIn wsL_law (wsV RL 45 RX10 yX10_holds wsX10_holds) := goodIn_app (goodIn_ch _ [(13, 22), (13, 23), (14, 0), (0, 2)] rfl (by decide +kernel)) ggL_law_X10_holds
set_option maxRecDepth 20000 in
theorem ggL_law_X11_holds : GoodIn wsL_law wsX11_holds := goodIn_ch _ [(14, 6), (9, 6), (14, 7), (9, 8), (9, 9), (6, 9), (6, 10), (6, 11), (9, 10), (9, 11), (0, 5), (9, 12), (9, 13), (9, 14), (9, 15), (9, 16), (9, 17), (9, 18), (9, 19), (9, 20), (9, 21), (13, 3), (13, 4), (13, 5), (13, 6), (13, 7), (13, 8), (13, 9), (6, 12), (6, 13), (6, 14), (6, 15), (13, 10), (13, 11), (13, 12), (13, 13), (13, 14), (13, 15), (13, 16), (13, 17), (13, 18), (13, 19), (13, 20), (13, 21), (49, 0), (49, 1), (49, 2), (49, 3), (49, 4), (49, 5), (49, 6), (49, 7), (49, 8), (49, 9), (49, 10), (49, 11), (49, 12), (49, 13), (49, 14), (49, 15), (49, 16), (49, 17), (49, 18), (49, 19), (49, 20), (49, 21), (49, 22), (49, 23), (49, 24), (49, 25), (49, 26), (49, 27), (49, 28), (49, 29), (49, 30), (49, 31), (49, 32), (49, 33), (49, 34), (49, 35), (49, 36), (49, 37), (49, 38), (49, 39), (49, 40), (49, 41), (49, 42), (49, 43), (49, 44), (49, 45), (49, 46), (49, 47), (49, 48), (49, 49), (49, 50), (49, 51), (49, 52), (49, 53), (49, 54), (49, 55), (49, 56), (49, 57), (49, 58), (49, 59), (49, 60), (49, 61), (49, 62), (49, 63)] rfl (by decide +kernel)
set_option maxRecDepth 20000 in
theorem gL_law_X11_holds : GoodIn wsL_law (wsV RL 48 RX11 yX11_holds wsX11_holds) := goodIn_app (goodIn_ch _ [(14, 3), (14, 4), (14, 5), (0, 5)] rfl (by decide +kernel)) ggL_law_X11_holds
set_option maxRecDepth 20000 in
theorem ggL_law_X10_percent : GoodIn wsL_law wsX10_percent := goodIn_ch _ [(14, 11), (8, 8), (1, 0), (12, 3), (12, 4), (0, 2), (12, 5), (12, 6), (12, 7), (12, 8), (8, 9), (8, 10), (8, 11), (12, 9), (12, 10), (12, 11), (12, 15), (12, 16), (12, 17), (14, 12), (14, 13), (14, 14), (0, 23), (14, 15), (3, 6), (3, 7), (12, 22), (3, 2), (3, 3), (3, 5), (3, 4), (14, 16), (2, 20), (2, 21), (2, 22), (14, 17), (14, 18), (14, 19), (14, 20), (14, 21), (14, 22), (14, 23), (3, 8), (15, 0), (15, 1), (15, 2), (15, 3), (3, 9), (15, 4), (11, 1), (11, 2), (11, 3), (15, 5), (15, 6), (15, 7), (15, 8), (15, 9), (15, 10), (48, 0), (48, 1), (48, 2), (48, 3), (48, 4), (48, 5), (48, 6), (48, 7), (48, 8), (48, 9), (48, 10), (48, 11), (48, 12), (48, 13), (51, 0), (51, 1), (51, 2), (51, 3), (51, 4), (51, 5), (51, 6), (51, 7), (51, 8)] rfl (by decide +kernel)
set_option maxRecDepth 20000 in
theorem gL_law_X10_percent : GoodIn wsL_law (wsV RL 49 RX10 yX10_percent wsX10_percent) := goodIn_app (goodIn_ch _ [(14, 8), (14, 9), (14, 10), (0, 2)] rfl (by decide +kernel)) ggL_law_X10_percent
set_option maxRecDepth 20000 in
theorem ggL_law_X11_percent : GoodIn wsL_law wsX11_percent := goodIn_ch _ [(15, 14), (9, 6), (9, 8), (13, 10), (13, 11), (0, 5), (13, 12), (13, 13), (9, 14), (9, 15), (9, 16), (13, 14), (13, 15), (13, 16), (13, 17), (13, 18), (13, 19), (13, 20), (13, 21), (15, 15), (15, 16), (15, 17), (15, 18), (8, 2), (13, 8), (6, 12), (6, 13), (6, 15), (6, 14), (49, 0), (49, 1), (49, 2), (49, 3), (49, 4), (49, 5), (49, 6), (49, 7), (49, 8), (49, 9), (49, 10), (49, 11), (49, 12), (49, 13), (49, 14), (49, 15), (49, 16), (49, 17), (49, 18), (49, 19), (49, 20), (49, 21), (49, 22), (49, 23), (49, 24), (49, 25), (49, 26), (49, 27), (49, 28), (49, 29), (49, 30), (49, 31), (49, 32), (49, 33), (49, 34), (49, 35), (49, 36), (49, 37), (49, 38), (49, 39), (49, 40), (49, 41), (49, 42), (49, 43), (49, 44), (49, 45), (49, 46), (49, 47), (49, 48), (49, 49), (49, 50), (49, 51), (49, 52), (49, 53), (49, 54), (49, 55), (49, 56), (49, 57), (49, 58), (49, 59), (49, 60), (49, 61), (49, 62), (49, 63)] rfl (by decide +kernel)
set_option maxRecDepth 20000 in
theorem gL_law_X11_percent : GoodIn wsL_law (wsV RL 52 RX11 yX11_percent wsX11_percent) := goodIn_app (goodIn_ch _ [(15, 11), (15, 12), (15, 13), (0, 5)] rfl (by decide +kernel)) ggL_law_X11_percent
set_option maxRecDepth 20000 in
theorem ggL_law_X10_share : GoodIn wsL_law wsX10_share := goodIn_ch _ [(15, 22), (8, 8), (1, 0), (12, 9), (12, 10), (0, 2), (12, 11), (8, 9), (8, 10), (8, 11), (12, 6), (12, 7), (12, 8), (12, 15), (12, 16), (12, 17), (14, 12), (14, 13), (14, 14), (0, 23), (14, 15), (3, 6), (3, 7), (12, 22), (3, 2), (3, 3), (3, 5), (3, 4), (14, 16), (2, 20), (2, 21), (2, 22), (14, 17), (14, 18), (14, 19), (14, 20), (14, 21), (14, 22), (14, 23), (3, 8), (15, 0), (15, 1), (15, 2), (15, 3), (3, 9), (15, 4), (11, 1), (11, 2), (11, 3), (15, 5), (15, 6), (15, 23), (16, 0), (16, 1), (16, 2), (16, 3), (16, 4), (16, 5), (16, 6), (16, 7), (16, 8), (16, 9), (16, 10), (16, 11), (16, 12), (16, 13), (16, 14), (16, 15), (16, 16), (15, 8), (15, 9), (15, 10), (48, 0), (48, 1), (48, 2), (48, 3), (48, 4), (48, 5), (48, 6), (48, 7), (48, 8), (48, 9), (48, 10), (48, 11), (48, 12), (48, 13), (51, 0), (51, 1), (51, 2), (51, 3), (51, 4), (51, 5), (51, 6), (51, 7), (51, 8)] rfl (by decide +kernel)
set_option maxRecDepth 20000 in
theorem gL_law_X10_share : GoodIn wsL_law (wsV RL 53 RX10 yX10_share wsX10_share) := goodIn_app (goodIn_ch _ [(15, 19), (15, 20), (15, 21), (0, 2)] rfl (by decide +kernel)) ggL_law_X10_share
set_option maxRecDepth 20000 in
theorem ggL_law_X11_share : GoodIn wsL_law wsX11_share := goodIn_ch _ [(16, 20), (9, 6), (9, 8), (16, 21), (16, 22), (0, 5), (16, 23), (17, 0), (9, 14), (9, 15), (9, 16), (13, 10), (13, 11), (13, 12), (13, 13), (13, 18), (13, 19), (13, 20), (13, 21), (17, 1), (17, 2), (17, 3), (17, 4), (17, 5), (17, 6), (17, 7), (17, 8), (17, 9), (6, 16), (15, 15), (15, 16), (15, 17), (15, 18), (8, 2), (13, 8), (6, 12), (6, 13), (6, 15), (6, 14), (17, 10), (17, 11), (17, 12), (17, 13), (6, 17), (6, 19), (17, 14), (6, 18), (13, 7), (17, 15), (49, 0), (49, 1), (49, 2), (49, 3), (49, 4), (49, 5), (49, 6), (49, 7), (49, 8), (49, 9), (49, 10), (49, 11), (49, 12), (49, 13), (49, 14), (49, 15), (49, 16), (49, 17), (49, 18), (49, 19), (49, 20), (49, 21), (49, 22), (49, 23), (49, 24), (49, 25), (49, 26), (49, 27), (49, 28), (49, 29), (49, 30), (49, 31), (49, 32), (49, 33), (49, 34), (49, 35), (49, 36), (49, 37), (49, 38), (49, 39), (49, 40), (49, 41), (49, 42), (49, 43), (49, 44), (49, 45), (49, 46), (49, 47), (49, 48), (49, 49), (49, 50), (49, 51), (49, 52), (49, 53), (49, 54), (49, 55), (49, 56), (49, 57), (49, 58), (49, 59), (49, 60), (49, 61), (49, 62), (49, 63)] rfl (by decide +kernel)
set_option maxRecDepth 20000 in
theorem gL_law_X11_share : GoodIn wsL_law (wsV RL 56 RX11 yX11_share wsX11_share) := goodIn_app (goodIn_ch _ [(16, 17), (16, 18), (16, 19), (0, 5)] rfl (by decide +kernel)) ggL_law_X11_share
theorem dL_law_380 : decode cL_law 380 = .ok (.aload_n 1, 1) := dL_law_all14.2.2.2.2.2.2.2.2.1
theorem dL_law_381 : decode cL_law 381 = .ok (.aload_n 0, 1) := dL_law_all14.2.2.2.2.2.2.2.2.2.1
theorem dL_law_382 : decode cL_law 382 = .ok (.iload_n 3, 1) := dL_law_all14.2.2.2.2.2.2.2.2.2.2.1
theorem dL_law_383 : decode cL_law 383 = .ok (.iconst 1, 1) := dL_law_all14.2.2.2.2.2.2.2.2.2.2.2
theorem dL_law_all15 : decode cL_law 384 = .ok (.iadd, 1) ∧ decode cL_law 385 = .ok (.iaload, 1) ∧ decode cL_law 386 = .ok (.aload_n 0, 1) ∧ decode cL_law 387 = .ok (.iload_n 3, 1) ∧ decode cL_law 388 = .ok (.iconst 2, 1) ∧ decode cL_law 389 = .ok (.iadd, 1) ∧ decode cL_law 390 = .ok (.iaload, 1) ∧ decode cL_law 391 = .ok (.aload_n 0, 1) ∧ decode cL_law 392 = .ok (.iload_n 3, 1) ∧ decode cL_law 393 = .ok (.iconst 3, 1) ∧ decode cL_law 394 = .ok (.iadd, 1) ∧ decode cL_law 395 = .ok (.iaload, 1) := by decide +kernel
theorem dL_law_384 : decode cL_law 384 = .ok (.iadd, 1) := dL_law_all15.1
theorem dL_law_385 : decode cL_law 385 = .ok (.iaload, 1) := dL_law_all15.2.1
theorem dL_law_386 : decode cL_law 386 = .ok (.aload_n 0, 1) := dL_law_all15.2.2.1
theorem dL_law_387 : decode cL_law 387 = .ok (.iload_n 3, 1) := dL_law_all15.2.2.2.1
theorem dL_law_388 : decode cL_law 388 = .ok (.iconst 2, 1) := dL_law_all15.2.2.2.2.1
theorem dL_law_389 : decode cL_law 389 = .ok (.iadd, 1) := dL_law_all15.2.2.2.2.2.1
theorem dL_law_390 : decode cL_law 390 = .ok (.iaload, 1) := dL_law_all15.2.2.2.2.2.2.1
theorem dL_law_391 : decode cL_law 391 = .ok (.aload_n 0, 1) := dL_law_all15.2.2.2.2.2.2.2.1
theorem dL_law_392 : decode cL_law 392 = .ok (.iload_n 3, 1) := dL_law_all15.2.2.2.2.2.2.2.2.1
theorem dL_law_393 : decode cL_law 393 = .ok (.iconst 3, 1) := dL_law_all15.2.2.2.2.2.2.2.2.2.1
theorem dL_law_394 : decode cL_law 394 = .ok (.iadd, 1) := dL_law_all15.2.2.2.2.2.2.2.2.2.2.1
theorem dL_law_395 : decode cL_law 395 = .ok (.iaload, 1) := dL_law_all15.2.2.2.2.2.2.2.2.2.2.2
theorem dL_law_all16 : decode cL_law 396 = .ok (.aload_n 0, 1) ∧ decode cL_law 397 = .ok (.iload_n 3, 1) ∧ decode cL_law 398 = .ok (.iconst 4, 1) ∧ decode cL_law 399 = .ok (.iadd, 1) ∧ decode cL_law 400 = .ok (.iaload, 1) ∧ decode cL_law 401 = .ok (.invokevirtual 40, 3) ∧ decode cL_law 404 = .ok (.pop, 1) ∧ decode cL_law 405 = .ok (.aload_n 2, 1) ∧ decode cL_law 406 = .ok (.aload_n 0, 1) ∧ decode cL_law 407 = .ok (.iload_n 3, 1) ∧ decode cL_law 408 = .ok (.iconst 1, 1) ∧ decode cL_law 409 = .ok (.iadd, 1) := by decide +kernel
theorem dL_law_396 : decode cL_law 396 = .ok (.aload_n 0, 1) := dL_law_all16.1
theorem dL_law_397 : decode cL_law 397 = .ok (.iload_n 3, 1) := dL_law_all16.2.1
theorem dL_law_398 : decode cL_law 398 = .ok (.iconst 4, 1) := dL_law_all16.2.2.1
theorem dL_law_399 : decode cL_law 399 = .ok (.iadd, 1) := dL_law_all16.2.2.2.1
theorem dL_law_400 : decode cL_law 400 = .ok (.iaload, 1) := dL_law_all16.2.2.2.2.1
theorem dL_law_401 : decode cL_law 401 = .ok (.invokevirtual 40, 3) := dL_law_all16.2.2.2.2.2.1
theorem dL_law_404 : decode cL_law 404 = .ok (.pop, 1) := dL_law_all16.2.2.2.2.2.2.1
theorem dL_law_405 : decode cL_law 405 = .ok (.aload_n 2, 1) := dL_law_all16.2.2.2.2.2.2.2.1
theorem dL_law_406 : decode cL_law 406 = .ok (.aload_n 0, 1) := dL_law_all16.2.2.2.2.2.2.2.2.1
theorem dL_law_407 : decode cL_law 407 = .ok (.iload_n 3, 1) := dL_law_all16.2.2.2.2.2.2.2.2.2.1
theorem dL_law_408 : decode cL_law 408 = .ok (.iconst 1, 1) := dL_law_all16.2.2.2.2.2.2.2.2.2.2.1
theorem dL_law_409 : decode cL_law 409 = .ok (.iadd, 1) := dL_law_all16.2.2.2.2.2.2.2.2.2.2.2
theorem dL_law_all17 : decode cL_law 410 = .ok (.iaload, 1) ∧ decode cL_law 411 = .ok (.aload_n 0, 1) ∧ decode cL_law 412 = .ok (.iload_n 3, 1) ∧ decode cL_law 413 = .ok (.iconst 2, 1) ∧ decode cL_law 414 = .ok (.iadd, 1) ∧ decode cL_law 415 = .ok (.iaload, 1) ∧ decode cL_law 416 = .ok (.aload_n 0, 1) ∧ decode cL_law 417 = .ok (.iload_n 3, 1) ∧ decode cL_law 418 = .ok (.iconst 3, 1) ∧ decode cL_law 419 = .ok (.iadd, 1) ∧ decode cL_law 420 = .ok (.iaload, 1) ∧ decode cL_law 421 = .ok (.aload_n 0, 1) := by decide +kernel
theorem dL_law_410 : decode cL_law 410 = .ok (.iaload, 1) := dL_law_all17.1
theorem dL_law_411 : decode cL_law 411 = .ok (.aload_n 0, 1) := dL_law_all17.2.1
theorem dL_law_412 : decode cL_law 412 = .ok (.iload_n 3, 1) := dL_law_all17.2.2.1
theorem dL_law_413 : decode cL_law 413 = .ok (.iconst 2, 1) := dL_law_all17.2.2.2.1
theorem dL_law_414 : decode cL_law 414 = .ok (.iadd, 1) := dL_law_all17.2.2.2.2.1
theorem dL_law_415 : decode cL_law 415 = .ok (.iaload, 1) := dL_law_all17.2.2.2.2.2.1
theorem dL_law_416 : decode cL_law 416 = .ok (.aload_n 0, 1) := dL_law_all17.2.2.2.2.2.2.1
theorem dL_law_417 : decode cL_law 417 = .ok (.iload_n 3, 1) := dL_law_all17.2.2.2.2.2.2.2.1
theorem dL_law_418 : decode cL_law 418 = .ok (.iconst 3, 1) := dL_law_all17.2.2.2.2.2.2.2.2.1
theorem dL_law_419 : decode cL_law 419 = .ok (.iadd, 1) := dL_law_all17.2.2.2.2.2.2.2.2.2.1
theorem dL_law_420 : decode cL_law 420 = .ok (.iaload, 1) := dL_law_all17.2.2.2.2.2.2.2.2.2.2.1
theorem dL_law_421 : decode cL_law 421 = .ok (.aload_n 0, 1) := dL_law_all17.2.2.2.2.2.2.2.2.2.2.2
theorem dL_law_all18 : decode cL_law 422 = .ok (.iload_n 3, 1) ∧ decode cL_law 423 = .ok (.iconst 4, 1) ∧ decode cL_law 424 = .ok (.iadd, 1) ∧ decode cL_law 425 = .ok (.iaload, 1) ∧ decode cL_law 426 = .ok (.invokevirtual 44, 3) ∧ decode cL_law 429 = .ok (.pop, 1) ∧ decode cL_law 430 = .ok (.goto 1222, 3) ∧ decode cL_law 433 = .ok (.aload_n 1, 1) ∧ decode cL_law 434 = .ok (.aload_n 0, 1) ∧ decode cL_law 435 = .ok (.iload_n 3, 1) ∧ decode cL_law 436 = .ok (.iconst 1, 1) ∧ decode cL_law 437 = .ok (.iadd, 1) := by decide +kernel
theorem dL_law_422 : decode cL_law 422 = .ok (.iload_n 3, 1) := dL_law_all18.1
theorem dL_law_423 : decode cL_law 423 = .ok (.iconst 4, 1) := dL_law_all18.2.1
theorem dL_law_424 : decode cL_law 424 = .ok (.iadd, 1) := dL_law_all18.2.2.1
theorem dL_law_425 : decode cL_law 425 = .ok (.iaload, 1) := dL_law_all18.2.2.2.1
theorem dL_law_426 : decode cL_law 426 = .ok (.invokevirtual 44, 3) := dL_law_all18.2.2.2.2.1
theorem dL_law_429 : decode cL_law 429 = .ok (.pop, 1) := dL_law_all18.2.2.2.2.2.1
theorem dL_law_430 : decode cL_law 430 = .ok (.goto 1222, 3) := dL_law_all18.2.2.2.2.2.2.1
theorem dL_law_433 : decode cL_law 433 = .ok (.aload_n 1, 1) := dL_law_all18.2.2.2.2.2.2.2.1
theorem dL_law_434 : decode cL_law 434 = .ok (.aload_n 0, 1) := dL_law_all18.2.2.2.2.2.2.2.2.1
theorem dL_law_435 : decode cL_law 435 = .ok (.iload_n 3, 1) := dL_law_all18.2.2.2.2.2.2.2.2.2.1
theorem dL_law_436 : decode cL_law 436 = .ok (.iconst 1, 1) := dL_law_all18.2.2.2.2.2.2.2.2.2.2.1
theorem dL_law_437 : decode cL_law 437 = .ok (.iadd, 1) := dL_law_all18.2.2.2.2.2.2.2.2.2.2.2
theorem dL_law_all19 : decode cL_law 438 = .ok (.iaload, 1) ∧ decode cL_law 439 = .ok (.aload_n 0, 1) ∧ decode cL_law 440 = .ok (.iload_n 3, 1) ∧ decode cL_law 441 = .ok (.iconst 2, 1) ∧ decode cL_law 442 = .ok (.iadd, 1) ∧ decode cL_law 443 = .ok (.iaload, 1) ∧ decode cL_law 444 = .ok (.aload_n 0, 1) ∧ decode cL_law 445 = .ok (.iload_n 3, 1) ∧ decode cL_law 446 = .ok (.iconst 3, 1) ∧ decode cL_law 447 = .ok (.iadd, 1) ∧ decode cL_law 448 = .ok (.iaload, 1) ∧ decode cL_law 449 = .ok (.invokevirtual 45, 3) := by decide +kernel
theorem dL_law_438 : decode cL_law 438 = .ok (.iaload, 1) := dL_law_all19.1
theorem dL_law_439 : decode cL_law 439 = .ok (.aload_n 0, 1) := dL_law_all19.2.1
theorem dL_law_440 : decode cL_law 440 = .ok (.iload_n 3, 1) := dL_law_all19.2.2.1
theorem dL_law_441 : decode cL_law 441 = .ok (.iconst 2, 1) := dL_law_all19.2.2.2.1
theorem dL_law_442 : decode cL_law 442 = .ok (.iadd, 1) := dL_law_all19.2.2.2.2.1
theorem dL_law_443 : decode cL_law 443 = .ok (.iaload, 1) := dL_law_all19.2.2.2.2.2.1
theorem dL_law_444 : decode cL_law 444 = .ok (.aload_n 0, 1) := dL_law_all19.2.2.2.2.2.2.1
theorem dL_law_445 : decode cL_law 445 = .ok (.iload_n 3, 1) := dL_law_all19.2.2.2.2.2.2.2.1
theorem dL_law_446 : decode cL_law 446 = .ok (.iconst 3, 1) := dL_law_all19.2.2.2.2.2.2.2.2.1
theorem dL_law_447 : decode cL_law 447 = .ok (.iadd, 1) := dL_law_all19.2.2.2.2.2.2.2.2.2.1
theorem dL_law_448 : decode cL_law 448 = .ok (.iaload, 1) := dL_law_all19.2.2.2.2.2.2.2.2.2.2.1
theorem dL_law_449 : decode cL_law 449 = .ok (.invokevirtual 45, 3) := dL_law_all19.2.2.2.2.2.2.2.2.2.2.2
theorem dL_law_all20 : decode cL_law 452 = .ok (.pop, 1) ∧ decode cL_law 453 = .ok (.aload_n 2, 1) ∧ decode cL_law 454 = .ok (.aload_n 0, 1) ∧ decode cL_law 455 = .ok (.iload_n 3, 1) ∧ decode cL_law 456 = .ok (.iconst 1, 1) ∧ decode cL_law 457 = .ok (.iadd, 1) ∧ decode cL_law 458 = .ok (.iaload, 1) ∧ decode cL_law 459 = .ok (.aload_n 0, 1) ∧ decode cL_law 460 = .ok (.iload_n 3, 1) ∧ decode cL_law 461 = .ok (.iconst 2, 1) ∧ decode cL_law 462 = .ok (.iadd, 1) ∧ decode cL_law 463 = .ok (.iaload, 1) := by decide +kernel
theorem dL_law_452 : decode cL_law 452 = .ok (.pop, 1) := dL_law_all20.1
theorem dL_law_453 : decode cL_law 453 = .ok (.aload_n 2, 1) := dL_law_all20.2.1
theorem dL_law_454 : decode cL_law 454 = .ok (.aload_n 0, 1) := dL_law_all20.2.2.1
theorem dL_law_455 : decode cL_law 455 = .ok (.iload_n 3, 1) := dL_law_all20.2.2.2.1
theorem dL_law_456 : decode cL_law 456 = .ok (.iconst 1, 1) := dL_law_all20.2.2.2.2.1
theorem dL_law_457 : decode cL_law 457 = .ok (.iadd, 1) := dL_law_all20.2.2.2.2.2.1
theorem dL_law_458 : decode cL_law 458 = .ok (.iaload, 1) := dL_law_all20.2.2.2.2.2.2.1
theorem dL_law_459 : decode cL_law 459 = .ok (.aload_n 0, 1) := dL_law_all20.2.2.2.2.2.2.2.1
theorem dL_law_460 : decode cL_law 460 = .ok (.iload_n 3, 1) := dL_law_all20.2.2.2.2.2.2.2.2.1
theorem dL_law_461 : decode cL_law 461 = .ok (.iconst 2, 1) := dL_law_all20.2.2.2.2.2.2.2.2.2.1
theorem dL_law_462 : decode cL_law 462 = .ok (.iadd, 1) := dL_law_all20.2.2.2.2.2.2.2.2.2.2.1
theorem dL_law_463 : decode cL_law 463 = .ok (.iaload, 1) := dL_law_all20.2.2.2.2.2.2.2.2.2.2.2
theorem dL_law_all21 : decode cL_law 464 = .ok (.aload_n 0, 1) ∧ decode cL_law 465 = .ok (.iload_n 3, 1) ∧ decode cL_law 466 = .ok (.iconst 3, 1) ∧ decode cL_law 467 = .ok (.iadd, 1) ∧ decode cL_law 468 = .ok (.iaload, 1) ∧ decode cL_law 469 = .ok (.invokevirtual 48, 3) ∧ decode cL_law 472 = .ok (.pop, 1) ∧ decode cL_law 473 = .ok (.goto 1179, 3) ∧ decode cL_law 476 = .ok (.aload_n 1, 1) ∧ decode cL_law 477 = .ok (.aload_n 0, 1) ∧ decode cL_law 478 = .ok (.iload_n 3, 1) ∧ decode cL_law 479 = .ok (.iconst 1, 1) := by decide +kernel
theorem dL_law_464 : decode cL_law 464 = .ok (.aload_n 0, 1) := dL_law_all21.1
theorem dL_law_465 : decode cL_law 465 = .ok (.iload_n 3, 1) := dL_law_all21.2.1
theorem dL_law_466 : decode cL_law 466 = .ok (.iconst 3, 1) := dL_law_all21.2.2.1
theorem dL_law_467 : decode cL_law 467 = .ok (.iadd, 1) := dL_law_all21.2.2.2.1
theorem dL_law_468 : decode cL_law 468 = .ok (.iaload, 1) := dL_law_all21.2.2.2.2.1
theorem dL_law_469 : decode cL_law 469 = .ok (.invokevirtual 48, 3) := dL_law_all21.2.2.2.2.2.1
theorem dL_law_472 : decode cL_law 472 = .ok (.pop, 1) := dL_law_all21.2.2.2.2.2.2.1
theorem dL_law_473 : decode cL_law 473 = .ok (.goto 1179, 3) := dL_law_all21.2.2.2.2.2.2.2.1
theorem dL_law_476 : decode cL_law 476 = .ok (.aload_n 1, 1) := dL_law_all21.2.2.2.2.2.2.2.2.1
theorem dL_law_477 : decode cL_law 477 = .ok (.aload_n 0, 1) := dL_law_all21.2.2.2.2.2.2.2.2.2.1
theorem dL_law_478 : decode cL_law 478 = .ok (.iload_n 3, 1) := dL_law_all21.2.2.2.2.2.2.2.2.2.2.1
theorem dL_law_479 : decode cL_law 479 = .ok (.iconst 1, 1) := dL_law_all21.2.2.2.2.2.2.2.2.2.2.2
theorem dL_law_all22 : decode cL_law 480 = .ok (.iadd, 1) ∧ decode cL_law 481 = .ok (.iaload, 1) ∧ decode cL_law 482 = .ok (.aload_n 0, 1) ∧ decode cL_law 483 = .ok (.iload_n 3, 1) ∧ decode cL_law 484 = .ok (.iconst 2, 1) ∧ decode cL_law 485 = .ok (.iadd, 1) ∧ decode cL_law 486 = .ok (.iaload, 1) ∧ decode cL_law 487 = .ok (.aload_n 0, 1) ∧ decode cL_law 488 = .ok (.iload_n 3, 1) ∧ decode cL_law 489 = .ok (.iconst 3, 1) ∧ decode cL_law 490 = .ok (.iadd, 1) ∧ decode cL_law 491 = .ok (.iaload, 1) := by decide +kernel
theorem dL_law_480 : decode cL_law 480 = .ok (.iadd, 1) := dL_law_all22.1
theorem dL_law_481 : decode cL_law 481 = .ok (.iaload, 1) := dL_law_all22.2.1
theorem dL_law_482 : decode cL_law 482 = .ok (.aload_n 0, 1) := dL_law_all22.2.2.1
theorem dL_law_483 : decode cL_law 483 = .ok (.iload_n 3, 1) := dL_law_all22.2.2.2.1
theorem dL_law_484 : decode cL_law 484 = .ok (.iconst 2, 1) := dL_law_all22.2.2.2.2.1
theorem dL_law_485 : decode cL_law 485 = .ok (.iadd, 1) := dL_law_all22.2.2.2.2.2.1
theorem dL_law_486 : decode cL_law 486 = .ok (.iaload, 1) := dL_law_all22.2.2.2.2.2.2.1
theorem dL_law_487 : decode cL_law 487 = .ok (.aload_n 0, 1) := dL_law_all22.2.2.2.2.2.2.2.1
theorem dL_law_488 : decode cL_law 488 = .ok (.iload_n 3, 1) := dL_law_all22.2.2.2.2.2.2.2.2.1
theorem dL_law_489 : decode cL_law 489 = .ok (.iconst 3, 1) := dL_law_all22.2.2.2.2.2.2.2.2.2.1
theorem dL_law_490 : decode cL_law 490 = .ok (.iadd, 1) := dL_law_all22.2.2.2.2.2.2.2.2.2.2.1
theorem dL_law_491 : decode cL_law 491 = .ok (.iaload, 1) := dL_law_all22.2.2.2.2.2.2.2.2.2.2.2
theorem dL_law_all23 : decode cL_law 492 = .ok (.invokevirtual 49, 3) ∧ decode cL_law 495 = .ok (.pop, 1) ∧ decode cL_law 496 = .ok (.aload_n 2, 1) ∧ decode cL_law 497 = .ok (.aload_n 0, 1) ∧ decode cL_law 498 = .ok (.iload_n 3, 1) ∧ decode cL_law 499 = .ok (.iconst 1, 1) ∧ decode cL_law 500 = .ok (.iadd, 1) ∧ decode cL_law 501 = .ok (.iaload, 1) ∧ decode cL_law 502 = .ok (.aload_n 0, 1) ∧ decode cL_law 503 = .ok (.iload_n 3, 1) ∧ decode cL_law 504 = .ok (.iconst 2, 1) ∧ decode cL_law 505 = .ok (.iadd, 1) := by decide +kernel
theorem dL_law_492 : decode cL_law 492 = .ok (.invokevirtual 49, 3) := dL_law_all23.1
theorem dL_law_495 : decode cL_law 495 = .ok (.pop, 1) := dL_law_all23.2.1
theorem dL_law_496 : decode cL_law 496 = .ok (.aload_n 2, 1) := dL_law_all23.2.2.1
theorem dL_law_497 : decode cL_law 497 = .ok (.aload_n 0, 1) := dL_law_all23.2.2.2.1
theorem dL_law_498 : decode cL_law 498 = .ok (.iload_n 3, 1) := dL_law_all23.2.2.2.2.1
theorem dL_law_499 : decode cL_law 499 = .ok (.iconst 1, 1) := dL_law_all23.2.2.2.2.2.1
theorem dL_law_500 : decode cL_law 500 = .ok (.iadd, 1) := dL_law_all23.2.2.2.2.2.2.1
theorem dL_law_501 : decode cL_law 501 = .ok (.iaload, 1) := dL_law_all23.2.2.2.2.2.2.2.1
theorem dL_law_502 : decode cL_law 502 = .ok (.aload_n 0, 1) := dL_law_all23.2.2.2.2.2.2.2.2.1
theorem dL_law_503 : decode cL_law 503 = .ok (.iload_n 3, 1) := dL_law_all23.2.2.2.2.2.2.2.2.2.1
theorem dL_law_504 : decode cL_law 504 = .ok (.iconst 2, 1) := dL_law_all23.2.2.2.2.2.2.2.2.2.2.1
theorem dL_law_505 : decode cL_law 505 = .ok (.iadd, 1) := dL_law_all23.2.2.2.2.2.2.2.2.2.2.2
theorem dL_law_all24 : decode cL_law 506 = .ok (.iaload, 1) ∧ decode cL_law 507 = .ok (.aload_n 0, 1) ∧ decode cL_law 508 = .ok (.iload_n 3, 1) ∧ decode cL_law 509 = .ok (.iconst 3, 1) ∧ decode cL_law 510 = .ok (.iadd, 1) ∧ decode cL_law 511 = .ok (.iaload, 1) ∧ decode cL_law 512 = .ok (.invokevirtual 52, 3) ∧ decode cL_law 515 = .ok (.pop, 1) ∧ decode cL_law 516 = .ok (.goto 1136, 3) ∧ decode cL_law 519 = .ok (.aload_n 1, 1) ∧ decode cL_law 520 = .ok (.aload_n 0, 1) ∧ decode cL_law 521 = .ok (.iload_n 3, 1) := by decide +kernel
theorem dL_law_506 : decode cL_law 506 = .ok (.iaload, 1) := dL_law_all24.1
theorem dL_law_507 : decode cL_law 507 = .ok (.aload_n 0, 1) := dL_law_all24.2.1
theorem dL_law_508 : decode cL_law 508 = .ok (.iload_n 3, 1) := dL_law_all24.2.2.1
theorem dL_law_509 : decode cL_law 509 = .ok (.iconst 3, 1) := dL_law_all24.2.2.2.1
theorem dL_law_510 : decode cL_law 510 = .ok (.iadd, 1) := dL_law_all24.2.2.2.2.1
theorem dL_law_511 : decode cL_law 511 = .ok (.iaload, 1) := dL_law_all24.2.2.2.2.2.1
theorem dL_law_512 : decode cL_law 512 = .ok (.invokevirtual 52, 3) := dL_law_all24.2.2.2.2.2.2.1
theorem dL_law_515 : decode cL_law 515 = .ok (.pop, 1) := dL_law_all24.2.2.2.2.2.2.2.1
theorem dL_law_516 : decode cL_law 516 = .ok (.goto 1136, 3) := dL_law_all24.2.2.2.2.2.2.2.2.1
theorem dL_law_519 : decode cL_law 519 = .ok (.aload_n 1, 1) := dL_law_all24.2.2.2.2.2.2.2.2.2.1
theorem dL_law_520 : decode cL_law 520 = .ok (.aload_n 0, 1) := dL_law_all24.2.2.2.2.2.2.2.2.2.2.1
theorem dL_law_521 : decode cL_law 521 = .ok (.iload_n 3, 1) := dL_law_all24.2.2.2.2.2.2.2.2.2.2.2
theorem dL_law_all25 : decode cL_law 522 = .ok (.iconst 1, 1) ∧ decode cL_law 523 = .ok (.iadd, 1) ∧ decode cL_law 524 = .ok (.iaload, 1) ∧ decode cL_law 525 = .ok (.aload_n 0, 1) ∧ decode cL_law 526 = .ok (.iload_n 3, 1) ∧ decode cL_law 527 = .ok (.iconst 2, 1) ∧ decode cL_law 528 = .ok (.iadd, 1) ∧ decode cL_law 529 = .ok (.iaload, 1) ∧ decode cL_law 530 = .ok (.aload_n 0, 1) ∧ decode cL_law 531 = .ok (.iload_n 3, 1) ∧ decode cL_law 532 = .ok (.iconst 3, 1) ∧ decode cL_law 533 = .ok (.iadd, 1) := by decide +kernel
theorem dL_law_522 : decode cL_law 522 = .ok (.iconst 1, 1) := dL_law_all25.1
theorem dL_law_523 : decode cL_law 523 = .ok (.iadd, 1) := dL_law_all25.2.1
theorem dL_law_524 : decode cL_law 524 = .ok (.iaload, 1) := dL_law_all25.2.2.1
theorem dL_law_525 : decode cL_law 525 = .ok (.aload_n 0, 1) := dL_law_all25.2.2.2.1
theorem dL_law_526 : decode cL_law 526 = .ok (.iload_n 3, 1) := dL_law_all25.2.2.2.2.1
theorem dL_law_527 : decode cL_law 527 = .ok (.iconst 2, 1) := dL_law_all25.2.2.2.2.2.1
theorem dL_law_528 : decode cL_law 528 = .ok (.iadd, 1) := dL_law_all25.2.2.2.2.2.2.1
theorem dL_law_529 : decode cL_law 529 = .ok (.iaload, 1) := dL_law_all25.2.2.2.2.2.2.2.1
theorem dL_law_530 : decode cL_law 530 = .ok (.aload_n 0, 1) := dL_law_all25.2.2.2.2.2.2.2.2.1
theorem dL_law_531 : decode cL_law 531 = .ok (.iload_n 3, 1) := dL_law_all25.2.2.2.2.2.2.2.2.2.1
theorem dL_law_532 : decode cL_law 532 = .ok (.iconst 3, 1) := dL_law_all25.2.2.2.2.2.2.2.2.2.2.1
theorem dL_law_533 : decode cL_law 533 = .ok (.iadd, 1) := dL_law_all25.2.2.2.2.2.2.2.2.2.2.2
theorem dL_law_all26 : decode cL_law 534 = .ok (.iaload, 1) ∧ decode cL_law 535 = .ok (.invokevirtual 53, 3) ∧ decode cL_law 538 = .ok (.pop, 1) ∧ decode cL_law 539 = .ok (.aload_n 2, 1) ∧ decode cL_law 540 = .ok (.aload_n 0, 1) ∧ decode cL_law 541 = .ok (.iload_n 3, 1) ∧ decode cL_law 542 = .ok (.iconst 1, 1) ∧ decode cL_law 543 = .ok (.iadd, 1) ∧ decode cL_law 544 = .ok (.iaload, 1) ∧ decode cL_law 545 = .ok (.aload_n 0, 1) ∧ decode cL_law 546 = .ok (.iload_n 3, 1) ∧ decode cL_law 547 = .ok (.iconst 2, 1) := by decide +kernel
theorem dL_law_534 : decode cL_law 534 = .ok (.iaload, 1) := dL_law_all26.1
theorem dL_law_535 : decode cL_law 535 = .ok (.invokevirtual 53, 3) := dL_law_all26.2.1
theorem dL_law_538 : decode cL_law 538 = .ok (.pop, 1) := dL_law_all26.2.2.1
theorem dL_law_539 : decode cL_law 539 = .ok (.aload_n 2, 1) := dL_law_all26.2.2.2.1
theorem dL_law_540 : decode cL_law 540 = .ok (.aload_n 0, 1) := dL_law_all26.2.2.2.2.1
theorem dL_law_541 : decode cL_law 541 = .ok (.iload_n 3, 1) := dL_law_all26.2.2.2.2.2.1
theorem dL_law_542 : decode cL_law 542 = .ok (.iconst 1, 1) := dL_law_all26.2.2.2.2.2.2.1
theorem dL_law_543 : decode cL_law 543 = .ok (.iadd, 1) := dL_law_all26.2.2.2.2.2.2.2.1
theorem dL_law_544 : decode cL_law 544 = .ok (.iaload, 1) := dL_law_all26.2.2.2.2.2.2.2.2.1
theorem dL_law_545 : decode cL_law 545 = .ok (.aload_n 0, 1) := dL_law_all26.2.2.2.2.2.2.2.2.2.1
theorem dL_law_546 : decode cL_law 546 = .ok (.iload_n 3, 1) := dL_law_all26.2.2.2.2.2.2.2.2.2.2.1
theorem dL_law_547 : decode cL_law 547 = .ok (.iconst 2, 1) := dL_law_all26.2.2.2.2.2.2.2.2.2.2.2
theorem dL_law_all27 : decode cL_law 548 = .ok (.iadd, 1) ∧ decode cL_law 549 = .ok (.iaload, 1) ∧ decode cL_law 550 = .ok (.aload_n 0, 1) ∧ decode cL_law 551 = .ok (.iload_n 3, 1) ∧ decode cL_law 552 = .ok (.iconst 3, 1) ∧ decode cL_law 553 = .ok (.iadd, 1) ∧ decode cL_law 554 = .ok (.iaload, 1) ∧ decode cL_law 555 = .ok (.invokevirtual 56, 3) ∧ decode cL_law 558 = .ok (.pop, 1) ∧ decode cL_law 559 = .ok (.goto 1093, 3) ∧ decode cL_law 562 = .ok (.aload_n 1, 1) ∧ decode cL_law 563 = .ok (.aload_n 0, 1) := by decide +kernel
theorem dL_law_548 : decode cL_law 548 = .ok (.iadd, 1) := dL_law_all27.1
theorem dL_law_549 : decode cL_law 549 = .ok (.iaload, 1) := dL_law_all27.2.1
theorem dL_law_550 : decode cL_law 550 = .ok (.aload_n 0, 1) := dL_law_all27.2.2.1
theorem dL_law_551 : decode cL_law 551 = .ok (.iload_n 3, 1) := dL_law_all27.2.2.2.1
theorem dL_law_552 : decode cL_law 552 = .ok (.iconst 3, 1) := dL_law_all27.2.2.2.2.1
theorem dL_law_553 : decode cL_law 553 = .ok (.iadd, 1) := dL_law_all27.2.2.2.2.2.1
theorem dL_law_554 : decode cL_law 554 = .ok (.iaload, 1) := dL_law_all27.2.2.2.2.2.2.1
theorem dL_law_555 : decode cL_law 555 = .ok (.invokevirtual 56, 3) := dL_law_all27.2.2.2.2.2.2.2.1
theorem dL_law_558 : decode cL_law 558 = .ok (.pop, 1) := dL_law_all27.2.2.2.2.2.2.2.2.1
theorem dL_law_559 : decode cL_law 559 = .ok (.goto 1093, 3) := dL_law_all27.2.2.2.2.2.2.2.2.2.1
set_option maxHeartbeats 4000000 in
set_option maxRecDepth 100000 in
theorem law_case_4 {p : Program} {l : Launch} {e : Env} {s : State} {m : MethodId} {below : List Frame} {meth : Method} {c : Code} {D : va_G} {cI cY cJ cQ : ClassId} {b L aK aV : Nat} {xs : Nat → Int32} {ad rw md : Nat → Nat} {sd i : Int32} {nx : Nat → Int32} {fx rs : Nat → Nat → Int32} {lo : Nat → Int64} {ny : Nat → Int32} {fy : Nat → Nat → Int32} {fl : Nat → Int64} {H : Heap} {locs : List Loc} {ls : Array Slot} (C0 : lawC p s m meth c b L xs D cI cY cJ cQ aK aV) (I : inv nx fx ny fy) (hP : va_P D vwCl (wX ad rw sd cI cY cJ cQ nx fx rs lo ++ wM md sd cI cY cJ cQ ny fy fl) H) (hD : va_D (fun q : Nat => s.heap.size ≤ q) (wX ad rw sd cI cY cJ cQ nx fx rs lo ++ wM md sd cI cY cJ cQ ny fy fl)) (hS : va_S (fun q : Nat => s.heap.size ≤ q) s.heap H locs) (hl : lv_has ls 4 [(0, .ref b), (1, .ref (ad 0)), (2, .ref (md 64)), (3, .int i)]) (hi1 : 1 ≤ i.toInt) (hi2 : i.toInt + 5 < L) (kk : ∀ (nx : Nat → Int32) (fx rs : Nat → Nat → Int32) (lo : Nat → Int64) (ny : Nat → Int32) (fy : Nat → Nat → Int32) (fl : Nat → Int64) (H : Heap) (locs : List Loc) (ls : Array Slot), inv nx fx ny fy → va_P D vwCl (wX ad rw sd cI cY cJ cQ nx fx rs lo ++ wM md sd cI cY cJ cQ ny fy fl) H → va_D (fun q : Nat => s.heap.size ≤ q) (wX ad rw sd cI cY cJ cQ nx fx rs lo ++ wM md sd cI cY cJ cQ ny fy fl) → va_S (fun q : Nat => s.heap.size ≤ q) s.heap H locs → lv_has ls 4 [(0, .ref b), (1, .ref (ad 0)), (2, .ref (md 64)), (3, .int i)] → W p l e room_1 s m #[Value.ref b] below meth c H locs 107 4890 (lw_Z below #[Value.ref b] s) (F0 m 1652 ls [])) : W p l e room_1 s m #[Value.ref b] below meth c H locs 107 4890 (lw_Z below #[Value.ref b] s) (F0 m 380 ls []) := by
  obtain ⟨C1, hK, hN, hT, hL⟩ := C0
  obtain ⟨hx, hb, hr, hml, hown, hts0, hX, hbl, hlocks, hgv⟩ := C1
  have hA : ∀ q : Nat, s.heap.size ≤ q → (fun q : Nat => s.heap.size ≤ q) q := fun _ h => h
  have hbA : ¬ (fun q : Nat => s.heap.size ≤ q) b := Nat.not_le.mpr hbl
  have hts : ∀ w ∈ wsL_law, w.before #[Value.ref b] s = true := fun w h => hts0 w (wsL_law_in w h)
  replace hown : s.vm.findClass RL = some m.cls := hown
  replace hb : c.code = cL_law := hb
  obtain ⟨Xhna, Xhnb, XH, Xcna, Xcnb, Xpna, Xpnb, XO, Xgna, Xgnb, Xlna, Xlnb, Xdla, Xdlb, Xana, Xanb, Xuna, Xunb, Xlca, Xlcb, Xtna, Xtnb, XS, Mhna, Mhnb, MH, MS, Mmlna, Mmlnb, Mmtna, Mmtnb, Ccn, Cfo, Cwo, Cpn, Cpk, Cpf, Cpo, Cpd, Cpe, Cgn, Cgk, Cgs, Cgd, Cge, Can, Cak, Cah, Cay, Caz, Cun, Cuk, Cuy, Cuw, Cum, Clc, Clp, Cla, Clb, Caw, Ciw, Cln, Ctd⟩ := I
  have Tcn := i_eq Ccn
  have Tpn := i_eq Cpn
  have Tgn := i_eq Cgn
  have Tan := i_eq Can
  have Tun := i_eq Cun
  have Tlc := i_eq Clc
  have Tln := i_eq Cln
  have k1 : (1 : Int32).toInt = 1 := by decide
  have k2 : (2 : Int32).toInt = 2 := by decide
  have k3 : (3 : Int32).toInt = 3 := by decide
  have k4 : (4 : Int32).toInt = 4 := by decide
  obtain ⟨xk1, exk1⟩ : ∃ y : Int32, y = xs (i.toNatClampNeg + 1) := ⟨_, rfl⟩
  obtain ⟨xk2, exk2⟩ : ∃ y : Int32, y = xs (i.toNatClampNeg + 2) := ⟨_, rfl⟩
  obtain ⟨xk3, exk3⟩ : ∃ y : Int32, y = xs (i.toNatClampNeg + 3) := ⟨_, rfl⟩
  obtain ⟨xk4, exk4⟩ : ∃ y : Int32, y = xs (i.toNatClampNeg + 4) := ⟨_, rfl⟩
  refine lv_aload_n hx hb dL_law_380 rfl (lv_at hl 1 rfl) ?_
  refine lv_aload_n hx hb dL_law_381 rfl (lv_at hl 0 rfl) ?_
  refine lv_iload_n hx hb dL_law_382 rfl (lv_at hl 3 rfl) ?_
  refine lv_iconst (v := 1) hx hb dL_law_383 (by decide) ?_
  refine lv_iadd hx hb dL_law_384 ?_
  refine lv_topi (fun v1 ev1 => ?_)
  try have tv1 : v1.toInt = i.toInt + 1 := by rw [ev1]; exact (i_add (x := i) (y := (1 : Int32)) (by rw [k1]; omega) (by rw [k1]; omega)).trans (by rw [k1])
  refine va_sld hx hb hX hbl hbA hS (i_in (by omega) (by omega)) dL_law_385 ?_
  refine lv_topi (fun a2 ea2 => ?_)
  replace ea2 : xk1 = a2 := (ea2.trans (by rw [exk1]; congr 1; have := i_cl (x := v1) (by omega); have := i_cl (x := i) (by omega); omega)).symm
  subst ea2
  refine lv_aload_n hx hb dL_law_386 rfl (lv_at hl 0 rfl) ?_
  refine lv_iload_n hx hb dL_law_387 rfl (lv_at hl 3 rfl) ?_
  refine lv_iconst (v := 2) hx hb dL_law_388 (by decide) ?_
  refine lv_iadd hx hb dL_law_389 ?_
  refine lv_topi (fun v3 ev3 => ?_)
  try have tv3 : v3.toInt = i.toInt + 2 := by rw [ev3]; exact (i_add (x := i) (y := (2 : Int32)) (by rw [k2]; omega) (by rw [k2]; omega)).trans (by rw [k2])
  refine va_sld hx hb hX hbl hbA hS (i_in (by omega) (by omega)) dL_law_390 ?_
  refine lv_topi (fun a4 ea4 => ?_)
  replace ea4 : xk2 = a4 := (ea4.trans (by rw [exk2]; congr 1; have := i_cl (x := v3) (by omega); have := i_cl (x := i) (by omega); omega)).symm
  subst ea4
  refine lv_aload_n hx hb dL_law_391 rfl (lv_at hl 0 rfl) ?_
  refine lv_iload_n hx hb dL_law_392 rfl (lv_at hl 3 rfl) ?_
  refine lv_iconst (v := 3) hx hb dL_law_393 (by decide) ?_
  refine lv_iadd hx hb dL_law_394 ?_
  refine lv_topi (fun v5 ev5 => ?_)
  try have tv5 : v5.toInt = i.toInt + 3 := by rw [ev5]; exact (i_add (x := i) (y := (3 : Int32)) (by rw [k3]; omega) (by rw [k3]; omega)).trans (by rw [k3])
  refine va_sld hx hb hX hbl hbA hS (i_in (by omega) (by omega)) dL_law_395 ?_
  refine lv_topi (fun a6 ea6 => ?_)
  replace ea6 : xk3 = a6 := (ea6.trans (by rw [exk3]; congr 1; have := i_cl (x := v5) (by omega); have := i_cl (x := i) (by omega); omega)).symm
  subst ea6
  refine lv_aload_n hx hb dL_law_396 rfl (lv_at hl 0 rfl) ?_
  refine lv_iload_n hx hb dL_law_397 rfl (lv_at hl 3 rfl) ?_
  refine lv_iconst (v := 4) hx hb dL_law_398 (by decide) ?_
  refine lv_iadd hx hb dL_law_399 ?_
  refine lv_topi (fun v7 ev7 => ?_)
  try have tv7 : v7.toInt = i.toInt + 4 := by rw [ev7]; exact (i_add (x := i) (y := (4 : Int32)) (by rw [k4]; omega) (by rw [k4]; omega)).trans (by rw [k4])
  refine va_sld hx hb hX hbl hbA hS (i_in (by omega) (by omega)) dL_law_400 ?_
  refine lv_topi (fun a8 ea8 => ?_)
  replace ea8 : xk4 = a8 := (ea8.trans (by rw [exk4]; congr 1; have := i_cl (x := v7) (by omega); have := i_cl (x := i) (by omega); omega)).symm
  subst ea8
  refine st_iQ (wr := [((ad 11), .inl (cI, 16, .inl (fx 0))), ((rw 0), .inl (cI, 60, .inl (rs 0))), ((rw 1), .inl (cI, 60, .inl (rs 1))), ((rw 2), .inl (cI, 60, .inl (rs 2))), ((rw 3), .inl (cI, 60, .inl (rs 3))), ((rw 4), .inl (cI, 60, .inl (rs 4))), ((rw 5), .inl (cI, 60, .inl (rs 5))), ((rw 6), .inl (cI, 60, .inl (rs 6))), ((rw 7), .inl (cI, 60, .inl (rs 7))), ((ad 1), .inr (9, [.ref (ad 12), .ref (ad 13), .ref (ad 14)])), ((ad 12), .inl (cQ, 8, .inr (.inr (.inr (.inr (fun i => if i < 8 then some (rw i) else none)))))), ((ad 13), .inl (cI, 8, .inl (fx 1))), ((ad 14), .inl (cI, 8, .inl (fx 2))), ((ad 27), .inl (cI, 200, .inl (fx 7))), ((ad 28), .inl (cI, 200, .inl (fx 8))), ((ad 29), .inl (cI, 20, .inl (fx 9))), ((ad 30), .inl (cI, 10, .inl (fx 10))), ((ad 3), .inr (1, [.ref (ad 31), .ref (ad 32), .ref (ad 33), .int (nx 4), .ref (ad 34), .ref (ad 35)])), ((ad 31), .inl (cI, 12, .inl (fx 11))), ((ad 32), .inl (cI, 12, .inl (fx 12))), ((ad 33), .inl (cI, 12, .inl (fx 13))), ((ad 34), .inl (cI, 6, .inl (fx 14))), ((ad 35), .inl (cI, 6, .inl (fx 15))), ((ad 4), .inr (7, [.ref (ad 36), .ref (ad 37), .ref (ad 38), .ref (ad 39), .ref (ad 40), .ref (ad 41), .int (nx 5)])), ((ad 36), .inl (cI, 40, .inl (fx 16))), ((ad 37), .inl (cI, 40, .inl (fx 17))), ((ad 38), .inl (cI, 40, .inl (fx 18))), ((ad 39), .inl (cI, 40, .inl (fx 19))), ((ad 40), .inl (cI, 40, .inl (fx 20))), ((ad 41), .inl (cI, 40, .inl (fx 21))), ((ad 5), .inr (8, [.ref (ad 42), .ref (ad 43), .ref (ad 44), .ref (ad 45), .int (nx 6), .ref (ad 46)])), ((ad 42), .inl (cI, 40, .inl (fx 22))), ((ad 43), .inl (cI, 40, .inl (fx 23))), ((ad 44), .inl (cI, 40, .inl (fx 24))), ((ad 45), .inl (cI, 40, .inl (fx 25))), ((ad 46), .inl (cI, 40, .inl (fx 26))), ((ad 6), .inr (2, [.ref (ad 47), .int (nx 7), .int (nx 8), .ref (ad 48), .ref (ad 49), .ref (ad 50), .int (nx 9), .ref (ad 51), .ref (ad 52), .ref (ad 53), .int (nx 10), .int (nx 11), .int (nx 12), .int (nx 13), .int (nx 14)])), ((ad 47), .inl (cY, 300, .inl (fx 27))), ((ad 48), .inl (cI, 12, .inl (fx 28))), ((ad 49), .inl (cI, 12, .inl (fx 29))), ((ad 50), .inl (cI, 12, .inl (fx 30))), ((ad 51), .inl (cI, 12, .inl (fx 31))), ((ad 52), .inl (cI, 12, .inl (fx 32))), ((ad 53), .inl (cI, 12, .inl (fx 33))), ((ad 7), .inr (0, [.ref (ad 54), .ref (ad 55), .ref (ad 56), .ref (ad 57), .int (nx 15)])), ((ad 54), .inl (cI, 60, .inl (fx 34))), ((ad 55), .inl (cI, 60, .inl (fx 35))), ((ad 56), .inl (cI, 60, .inl (fx 36))), ((ad 57), .inl (cI, 60, .inl (fx 37))), ((ad 8), .inr (5, [.int sd, .ref (ad 58)])), ((ad 58), .inl (cJ, 12, .inr (.inl lo))), ((ad 9), .inr (6, [.ref (ad 59), .ref (ad 60), .ref (ad 61), .ref (ad 62), .int (nx 16)])), ((ad 59), .inl (cI, 60, .inl (fx 38))), ((ad 60), .inl (cI, 60, .inl (fx 39))), ((ad 61), .inl (cI, 60, .inl (fx 40))), ((ad 62), .inl (cI, 60, .inl (fx 41))), ((ad 10), .inr (4, [.ref (ad 63), .ref (ad 64), .ref (ad 65), .int (nx 17)])), ((ad 63), .inl (cI, 20, .inl (fx 42))), ((ad 64), .inl (cI, 20, .inl (fx 43))), ((ad 65), .inl (cI, 20, .inl (fx 44)))]) (va_runV (C := RX10) (As := [.int xk1, .int xk2, .int xk3, .int xk4]) (rest := []) ⟨hx, hb, hml, hown, hts⟩ (ct_X10_hold l D cI cY cJ cQ _ ad (nx 0) (nx 1) (nx 2) (nx 3) (fx 3) (fx 4) (fx 5) (fx 6) xk1 xk2 xk3 xk4 (by omega) (by omega)) (cwV 4 hts gL_law_X10_hold rfl rfl rfl ⟨rfl, cdX10_hold⟩ ⟨Nat.le_of_ble_eq_true rfl, Nat.le_of_ble_eq_true rfl⟩) (cPreV (hP.sub [0, 14, 15, 16, 17, 18] rfl) hK (hD.sub [0, 14, 15, 16, 17, 18] (by decide +kernel) rfl) hN (ci := 10) (q0 := 0) rfl rfl) rfl rfl hl.1 rfl (lv_room (Nat.le_of_ble_eq_true rfl)) dL_law_401 ⟨Nat.le_of_ble_eq_true rfl, Nat.le_of_ble_eq_true rfl⟩) hP hD hS hA [0, 14, 15, 16, 17, 18] [1, 2, 3, 4, 5, 6, 7, 8, 9, 10, 11, 12, 13, 19, 20, 21, 22, 23, 24, 25, 26, 27, 28, 29, 30, 31, 32, 33, 34, 35, 36, 37, 38, 39, 40, 41, 42, 43, 44, 45, 46, 47, 48, 49, 50, 51, 52, 53, 54, 55, 56, 57, 58, 59, 60, 61, 62, 63, 64, 65] rfl rfl (by decide +kernel) (by decide +kernel) (fun r11 u9 H locs hw10 hP hD hS => ?_)
  obtain ⟨hn_12, ho_13, hc_14, hp_15, hs_16⟩ := u9
  replace hw10 : (r11, (hn_12, ho_13, hc_14, hp_15, hs_16)) = sp_hold (nx 3) (fx 3) (fx 4) (fx 5) (fx 6) xk1 xk2 xk3 xk4 := hw10
  obtain ⟨hw10a, hw10b, hw10c⟩ := sp_hold_ok hw10 (by omega) (by omega) XH
  refine lv_pop hx hb dL_law_404 rfl ?_
  have hPx : va_P D vwCl (wX ad rw sd cI cY cJ cQ (upd nx 3 hn_12) (upR (upR (upR (upR fx 3 ho_13) 4 hc_14) 5 hp_15) 6 hs_16) rs lo ++ wM md sd cI cY cJ cQ ny fy fl) H := hP.part [60, 0, 1, 2, 3, 4, 5, 6, 7, 8, 9, 10, 11, 12, 61, 62, 63, 64, 65, 13, 14, 15, 16, 17, 18, 19, 20, 21, 22, 23, 24, 25, 26, 27, 28, 29, 30, 31, 32, 33, 34, 35, 36, 37, 38, 39, 40, 41, 42, 43, 44, 45, 46, 47, 48, 49, 50, 51, 52, 53, 54, 55, 56, 57, 58, 59] rfl
  have hDx : va_D (fun q : Nat => s.heap.size ≤ q) (wX ad rw sd cI cY cJ cQ (upd nx 3 hn_12) (upR (upR (upR (upR fx 3 ho_13) 4 hc_14) 5 hp_15) 6 hs_16) rs lo ++ wM md sd cI cY cJ cQ ny fy fl) := hD.part [60, 0, 1, 2, 3, 4, 5, 6, 7, 8, 9, 10, 11, 12, 61, 62, 63, 64, 65, 13, 14, 15, 16, 17, 18, 19, 20, 21, 22, 23, 24, 25, 26, 27, 28, 29, 30, 31, 32, 33, 34, 35, 36, 37, 38, 39, 40, 41, 42, 43, 44, 45, 46, 47, 48, 49, 50, 51, 52, 53, 54, 55, 56, 57, 58, 59] (by decide +kernel) rfl
  have hP := hPx.comm
  have hD := hDx.comm
  refine lv_aload_n hx hb dL_law_405 rfl (lv_at hl 2 rfl) ?_
  refine lv_aload_n hx hb dL_law_406 rfl (lv_at hl 0 rfl) ?_
  refine lv_iload_n hx hb dL_law_407 rfl (lv_at hl 3 rfl) ?_
  refine lv_iconst (v := 1) hx hb dL_law_408 (by decide) ?_
  refine lv_iadd hx hb dL_law_409 ?_
  refine lv_topi (fun v17 ev17 => ?_)
  try have tv17 : v17.toInt = i.toInt + 1 := by rw [ev17]; exact (i_add (x := i) (y := (1 : Int32)) (by rw [k1]; omega) (by rw [k1]; omega)).trans (by rw [k1])
  refine va_sld hx hb hX hbl hbA hS (i_in (by omega) (by omega)) dL_law_410 ?_
  refine lv_topi (fun a18 ea18 => ?_)
  replace ea18 : xk1 = a18 := (ea18.trans (by rw [exk1]; congr 1; have := i_cl (x := v17) (by omega); have := i_cl (x := i) (by omega); omega)).symm
  subst ea18
  refine lv_aload_n hx hb dL_law_411 rfl (lv_at hl 0 rfl) ?_
  refine lv_iload_n hx hb dL_law_412 rfl (lv_at hl 3 rfl) ?_
  refine lv_iconst (v := 2) hx hb dL_law_413 (by decide) ?_
  refine lv_iadd hx hb dL_law_414 ?_
  refine lv_topi (fun v19 ev19 => ?_)
  try have tv19 : v19.toInt = i.toInt + 2 := by rw [ev19]; exact (i_add (x := i) (y := (2 : Int32)) (by rw [k2]; omega) (by rw [k2]; omega)).trans (by rw [k2])
  refine va_sld hx hb hX hbl hbA hS (i_in (by omega) (by omega)) dL_law_415 ?_
  refine lv_topi (fun a20 ea20 => ?_)
  replace ea20 : xk2 = a20 := (ea20.trans (by rw [exk2]; congr 1; have := i_cl (x := v19) (by omega); have := i_cl (x := i) (by omega); omega)).symm
  subst ea20
  refine lv_aload_n hx hb dL_law_416 rfl (lv_at hl 0 rfl) ?_
  refine lv_iload_n hx hb dL_law_417 rfl (lv_at hl 3 rfl) ?_
  refine lv_iconst (v := 3) hx hb dL_law_418 (by decide) ?_
  refine lv_iadd hx hb dL_law_419 ?_
  refine lv_topi (fun v21 ev21 => ?_)
  try have tv21 : v21.toInt = i.toInt + 3 := by rw [ev21]; exact (i_add (x := i) (y := (3 : Int32)) (by rw [k3]; omega) (by rw [k3]; omega)).trans (by rw [k3])
  refine va_sld hx hb hX hbl hbA hS (i_in (by omega) (by omega)) dL_law_420 ?_
  refine lv_topi (fun a22 ea22 => ?_)
  replace ea22 : xk3 = a22 := (ea22.trans (by rw [exk3]; congr 1; have := i_cl (x := v21) (by omega); have := i_cl (x := i) (by omega); omega)).symm
  subst ea22
  refine lv_aload_n hx hb dL_law_421 rfl (lv_at hl 0 rfl) ?_
  refine lv_iload_n hx hb dL_law_422 rfl (lv_at hl 3 rfl) ?_
  refine lv_iconst (v := 4) hx hb dL_law_423 (by decide) ?_
  refine lv_iadd hx hb dL_law_424 ?_
  refine lv_topi (fun v23 ev23 => ?_)
  try have tv23 : v23.toInt = i.toInt + 4 := by rw [ev23]; exact (i_add (x := i) (y := (4 : Int32)) (by rw [k4]; omega) (by rw [k4]; omega)).trans (by rw [k4])
  refine va_sld hx hb hX hbl hbA hS (i_in (by omega) (by omega)) dL_law_425 ?_
  refine lv_topi (fun a24 ea24 => ?_)
  replace ea24 : xk4 = a24 := (ea24.trans (by rw [exk4]; congr 1; have := i_cl (x := v23) (by omega); have := i_cl (x := i) (by omega); omega)).symm
  subst ea24
  refine st_iQ (wr := [((md 3), .inl (cI, 8, .inl (fy 0))), ((md 4), .inl (cI, 8, .inl (fy 1))), ((md 5), .inl (cI, 480, .inl (fy 2))), ((md 11), .inl (cI, 200, .inl (fy 7))), ((md 12), .inl (cI, 12, .inl (fy 8))), ((md 13), .inl (cI, 12, .inl (fy 9))), ((md 14), .inl (cJ, 12, .inr (.inl fl))), ((md 16), .inl (cI, 12, .inl (fy 10))), ((md 17), .inl (cI, 12, .inl (fy 11))), ((md 19), .inl (cI, 40, .inl (fy 12))), ((md 20), .inl (cI, 40, .inl (fy 13))), ((md 21), .inl (cI, 40, .inl (fy 14))), ((md 22), .inl (cI, 40, .inl (fy 15))), ((md 23), .inl (cI, 40, .inl (fy 16))), ((md 26), .inl (cI, 40, .inl (fy 17))), ((md 27), .inl (cI, 40, .inl (fy 18))), ((md 28), .inl (cI, 40, .inl (fy 19))), ((md 29), .inl (cI, 40, .inl (fy 20))), ((md 31), .inl (cI, 36, .inl (fy 21))), ((md 33), .inl (cI, 36, .inl (fy 22))), ((md 34), .inl (cI, 300, .inl (fy 23))), ((md 45), .inl (cI, 60, .inl (fy 24))), ((md 46), .inl (cI, 60, .inl (fy 25))), ((md 47), .inl (cI, 60, .inl (fy 26))), ((md 48), .inl (cI, 60, .inl (fy 27))), ((md 49), .inl (cI, 6, .inl (fy 28))), ((md 50), .inl (cI, 6, .inl (fy 29))), ((md 51), .inl (cI, 12, .inl (fy 30))), ((md 53), .inl (cI, 60, .inl (fy 31))), ((md 54), .inl (cI, 60, .inl (fy 32))), ((md 55), .inl (cI, 60, .inl (fy 33))), ((md 56), .inl (cI, 60, .inl (fy 34))), ((md 58), .inl (cI, 20, .inl (fy 35))), ((md 59), .inl (cI, 20, .inl (fy 36))), ((md 60), .inl (cI, 20, .inl (fy 37))), ((md 62), .inl (cI, 16, .inl (fy 38)))]) (va_runV (C := RX11) (As := [.int xk1, .int xk2, .int xk3, .int xk4]) (rest := []) ⟨hx, hb, hml, hown, hts⟩ (ct_X11_hold l D cI cY cJ cQ _ md sd (ny 0) (ny 1) (ny 2) (ny 3) (ny 4) (ny 5) (ny 6) (ny 7) (ny 8) (ny 9) (ny 10) (ny 11) (ny 12) (ny 13) (ny 14) (ny 15) (ny 16) (ny 17) (ny 18) (ny 19) (ny 20) (ny 21) (ny 22) (fy 3) (fy 4) (fy 5) (fy 6) xk1 xk2 xk3 xk4 (by omega) (by omega)) (cwV 4 hts gL_law_X11_hold rfl rfl rfl ⟨rfl, cdX11_hold⟩ ⟨Nat.le_of_ble_eq_true rfl, Nat.le_of_ble_eq_true rfl⟩) (cPreV (hP.sub [0, 4, 5, 6, 7] rfl) hK (hD.sub [0, 4, 5, 6, 7] (by decide +kernel) rfl) hN (ci := 11) (q0 := 0) rfl rfl) rfl rfl hl.1 rfl (lv_room (Nat.le_of_ble_eq_true rfl)) dL_law_426 ⟨Nat.le_of_ble_eq_true rfl, Nat.le_of_ble_eq_true rfl⟩) hP hD hS hA [0, 4, 5, 6, 7] [1, 2, 3, 8, 9, 10, 11, 12, 13, 14, 15, 16, 17, 18, 19, 20, 21, 22, 23, 24, 25, 26, 27, 28, 29, 30, 31, 32, 33, 34, 35, 36, 37, 38, 39, 40] rfl rfl (by decide +kernel) (by decide +kernel) (fun r27 u25 H locs hw26 hP hD hS => ?_)
  obtain ⟨hn_28, ho_29, hc_30, hp_31, hs_32⟩ := u25
  replace hw26 : (r27, (hn_28, ho_29, hc_30, hp_31, hs_32)) = sp_hold (ny 2) (fy 3) (fy 4) (fy 5) (fy 6) xk1 xk2 xk3 xk4 := hw26
  obtain ⟨hw26a, hw26b, hw26c⟩ := sp_hold_ok hw26 (by omega) (by omega) MH
  refine lv_pop hx hb dL_law_429 rfl ?_
  refine lv_goto (tgt := 1652) hx hb dL_law_430 (by decide) ?_
  have hPm : va_P D vwCl (wM md sd cI cY cJ cQ (upd (upd ny 0 0) 2 hn_28) (upR (upR (upR (upR fy 3 ho_29) 4 hc_30) 5 hp_31) 6 hs_32) fl ++ wX ad rw sd cI cY cJ cQ (upd nx 3 hn_12) (upR (upR (upR (upR fx 3 ho_13) 4 hc_14) 5 hp_15) 6 hs_16) rs lo) H := hP.part [36, 0, 1, 2, 37, 38, 39, 40, 3, 4, 5, 6, 7, 8, 9, 10, 11, 12, 13, 14, 15, 16, 17, 18, 19, 20, 21, 22, 23, 24, 25, 26, 27, 28, 29, 30, 31, 32, 33, 34, 35] rfl
  have hDm : va_D (fun q : Nat => s.heap.size ≤ q) (wM md sd cI cY cJ cQ (upd (upd ny 0 0) 2 hn_28) (upR (upR (upR (upR fy 3 ho_29) 4 hc_30) 5 hp_31) 6 hs_32) fl ++ wX ad rw sd cI cY cJ cQ (upd nx 3 hn_12) (upR (upR (upR (upR fx 3 ho_13) 4 hc_14) 5 hp_15) 6 hs_16) rs lo) := hD.part [36, 0, 1, 2, 37, 38, 39, 40, 3, 4, 5, 6, 7, 8, 9, 10, 11, 12, 13, 14, 15, 16, 17, 18, 19, 20, 21, 22, 23, 24, 25, 26, 27, 28, 29, 30, 31, 32, 33, 34, 35] (by decide +kernel) rfl
  exact kk (upd nx 3 hn_12) (upR (upR (upR (upR fx 3 ho_13) 4 hc_14) 5 hp_15) 6 hs_16) rs lo (upd (upd ny 0 0) 2 hn_28) (upR (upR (upR (upR fy 3 ho_29) 4 hc_30) 5 hp_31) 6 hs_32) fl H locs ls ⟨(by show 0 ≤ (hn_12).toInt; omega), (by show (hn_12).toInt ≤ 40; omega), (show okH (hn_12) (ho_13) (hc_14) by assumption), Xcna, Xcnb, Xpna, Xpnb, XO, Xgna, Xgnb, Xlna, Xlnb, Xdla, Xdlb, Xana, Xanb, Xuna, Xunb, Xlca, Xlcb, Xtna, Xtnb, XS, (by show 0 ≤ (hn_28).toInt; omega), (by show (hn_28).toInt ≤ 40; omega), (show okH (hn_28) (ho_29) (hc_30) by assumption), MS, Mmlna, Mmlnb, Mmtna, Mmtnb, Ccn, Cfo, Cwo, Cpn, Cpk, Cpf, Cpo, Cpd, Cpe, Cgn, Cgk, Cgs, Cgd, Cge, Can, Cak, Cah, Cay, Caz, Cun, Cuk, Cuy, Cuw, Cum, Clc, Clp, Cla, Clb, Caw, Ciw, Cln, Ctd⟩ hPm.comm hDm.comm hS hl

set_option maxHeartbeats 4000000 in
set_option maxRecDepth 100000 in
theorem law_case_5 {p : Program} {l : Launch} {e : Env} {s : State} {m : MethodId} {below : List Frame} {meth : Method} {c : Code} {D : va_G} {cI cY cJ cQ : ClassId} {b L aK aV : Nat} {xs : Nat → Int32} {ad rw md : Nat → Nat} {sd i : Int32} {nx : Nat → Int32} {fx rs : Nat → Nat → Int32} {lo : Nat → Int64} {ny : Nat → Int32} {fy : Nat → Nat → Int32} {fl : Nat → Int64} {H : Heap} {locs : List Loc} {ls : Array Slot} (C0 : lawC p s m meth c b L xs D cI cY cJ cQ aK aV) (I : inv nx fx ny fy) (hP : va_P D vwCl (wX ad rw sd cI cY cJ cQ nx fx rs lo ++ wM md sd cI cY cJ cQ ny fy fl) H) (hD : va_D (fun q : Nat => s.heap.size ≤ q) (wX ad rw sd cI cY cJ cQ nx fx rs lo ++ wM md sd cI cY cJ cQ ny fy fl)) (hS : va_S (fun q : Nat => s.heap.size ≤ q) s.heap H locs) (hl : lv_has ls 4 [(0, .ref b), (1, .ref (ad 0)), (2, .ref (md 64)), (3, .int i)]) (hi1 : 1 ≤ i.toInt) (hi2 : i.toInt + 5 < L) (kk : ∀ (nx : Nat → Int32) (fx rs : Nat → Nat → Int32) (lo : Nat → Int64) (ny : Nat → Int32) (fy : Nat → Nat → Int32) (fl : Nat → Int64) (H : Heap) (locs : List Loc) (ls : Array Slot), inv nx fx ny fy → va_P D vwCl (wX ad rw sd cI cY cJ cQ nx fx rs lo ++ wM md sd cI cY cJ cQ ny fy fl) H → va_D (fun q : Nat => s.heap.size ≤ q) (wX ad rw sd cI cY cJ cQ nx fx rs lo ++ wM md sd cI cY cJ cQ ny fy fl) → va_S (fun q : Nat => s.heap.size ≤ q) s.heap H locs → lv_has ls 4 [(0, .ref b), (1, .ref (ad 0)), (2, .ref (md 64)), (3, .int i)] → W p l e room_1 s m #[Value.ref b] below meth c H locs 107 4890 (lw_Z below #[Value.ref b] s) (F0 m 1652 ls [])) : W p l e room_1 s m #[Value.ref b] below meth c H locs 107 4890 (lw_Z below #[Value.ref b] s) (F0 m 433 ls []) := by
  obtain ⟨C1, hK, hN, hT, hL⟩ := C0
  obtain ⟨hx, hb, hr, hml, hown, hts0, hX, hbl, hlocks, hgv⟩ := C1
  have hA : ∀ q : Nat, s.heap.size ≤ q → (fun q : Nat => s.heap.size ≤ q) q := fun _ h => h
  have hbA : ¬ (fun q : Nat => s.heap.size ≤ q) b := Nat.not_le.mpr hbl
  have hts : ∀ w ∈ wsL_law, w.before #[Value.ref b] s = true := fun w h => hts0 w (wsL_law_in w h)
  replace hown : s.vm.findClass RL = some m.cls := hown
  replace hb : c.code = cL_law := hb
  obtain ⟨Xhna, Xhnb, XH, Xcna, Xcnb, Xpna, Xpnb, XO, Xgna, Xgnb, Xlna, Xlnb, Xdla, Xdlb, Xana, Xanb, Xuna, Xunb, Xlca, Xlcb, Xtna, Xtnb, XS, Mhna, Mhnb, MH, MS, Mmlna, Mmlnb, Mmtna, Mmtnb, Ccn, Cfo, Cwo, Cpn, Cpk, Cpf, Cpo, Cpd, Cpe, Cgn, Cgk, Cgs, Cgd, Cge, Can, Cak, Cah, Cay, Caz, Cun, Cuk, Cuy, Cuw, Cum, Clc, Clp, Cla, Clb, Caw, Ciw, Cln, Ctd⟩ := I
  have Tcn := i_eq Ccn
  have Tpn := i_eq Cpn
  have Tgn := i_eq Cgn
  have Tan := i_eq Can
  have Tun := i_eq Cun
  have Tlc := i_eq Clc
  have Tln := i_eq Cln
  have k1 : (1 : Int32).toInt = 1 := by decide
  have k2 : (2 : Int32).toInt = 2 := by decide
  have k3 : (3 : Int32).toInt = 3 := by decide
  obtain ⟨xk1, exk1⟩ : ∃ y : Int32, y = xs (i.toNatClampNeg + 1) := ⟨_, rfl⟩
  obtain ⟨xk2, exk2⟩ : ∃ y : Int32, y = xs (i.toNatClampNeg + 2) := ⟨_, rfl⟩
  obtain ⟨xk3, exk3⟩ : ∃ y : Int32, y = xs (i.toNatClampNeg + 3) := ⟨_, rfl⟩
  refine lv_aload_n hx hb dL_law_433 rfl (lv_at hl 1 rfl) ?_
  refine lv_aload_n hx hb dL_law_434 rfl (lv_at hl 0 rfl) ?_
  refine lv_iload_n hx hb dL_law_435 rfl (lv_at hl 3 rfl) ?_
  refine lv_iconst (v := 1) hx hb dL_law_436 (by decide) ?_
  refine lv_iadd hx hb dL_law_437 ?_
  refine lv_topi (fun v1 ev1 => ?_)
  try have tv1 : v1.toInt = i.toInt + 1 := by rw [ev1]; exact (i_add (x := i) (y := (1 : Int32)) (by rw [k1]; omega) (by rw [k1]; omega)).trans (by rw [k1])
  refine va_sld hx hb hX hbl hbA hS (i_in (by omega) (by omega)) dL_law_438 ?_
  refine lv_topi (fun a2 ea2 => ?_)
  replace ea2 : xk1 = a2 := (ea2.trans (by rw [exk1]; congr 1; have := i_cl (x := v1) (by omega); have := i_cl (x := i) (by omega); omega)).symm
  subst ea2
  refine lv_aload_n hx hb dL_law_439 rfl (lv_at hl 0 rfl) ?_
  refine lv_iload_n hx hb dL_law_440 rfl (lv_at hl 3 rfl) ?_
  refine lv_iconst (v := 2) hx hb dL_law_441 (by decide) ?_
  refine lv_iadd hx hb dL_law_442 ?_
  refine lv_topi (fun v3 ev3 => ?_)
  try have tv3 : v3.toInt = i.toInt + 2 := by rw [ev3]; exact (i_add (x := i) (y := (2 : Int32)) (by rw [k2]; omega) (by rw [k2]; omega)).trans (by rw [k2])
  refine va_sld hx hb hX hbl hbA hS (i_in (by omega) (by omega)) dL_law_443 ?_
  refine lv_topi (fun a4 ea4 => ?_)
  replace ea4 : xk2 = a4 := (ea4.trans (by rw [exk2]; congr 1; have := i_cl (x := v3) (by omega); have := i_cl (x := i) (by omega); omega)).symm
  subst ea4
  refine lv_aload_n hx hb dL_law_444 rfl (lv_at hl 0 rfl) ?_
  refine lv_iload_n hx hb dL_law_445 rfl (lv_at hl 3 rfl) ?_
  refine lv_iconst (v := 3) hx hb dL_law_446 (by decide) ?_
  refine lv_iadd hx hb dL_law_447 ?_
  refine lv_topi (fun v5 ev5 => ?_)
  try have tv5 : v5.toInt = i.toInt + 3 := by rw [ev5]; exact (i_add (x := i) (y := (3 : Int32)) (by rw [k3]; omega) (by rw [k3]; omega)).trans (by rw [k3])
  refine va_sld hx hb hX hbl hbA hS (i_in (by omega) (by omega)) dL_law_448 ?_
  refine lv_topi (fun a6 ea6 => ?_)
  replace ea6 : xk3 = a6 := (ea6.trans (by rw [exk3]; congr 1; have := i_cl (x := v5) (by omega); have := i_cl (x := i) (by omega); omega)).symm
  subst ea6
  refine st_iQ (wr := [((ad 11), .inl (cI, 16, .inl (fx 0))), ((ad 27), .inl (cI, 200, .inl (fx 7))), ((ad 28), .inl (cI, 200, .inl (fx 8))), ((ad 29), .inl (cI, 20, .inl (fx 9))), ((ad 30), .inl (cI, 10, .inl (fx 10))), ((ad 3), .inr (1, [.ref (ad 31), .ref (ad 32), .ref (ad 33), .int (nx 4), .ref (ad 34), .ref (ad 35)])), ((ad 31), .inl (cI, 12, .inl (fx 11))), ((ad 32), .inl (cI, 12, .inl (fx 12))), ((ad 33), .inl (cI, 12, .inl (fx 13))), ((ad 34), .inl (cI, 6, .inl (fx 14))), ((ad 35), .inl (cI, 6, .inl (fx 15))), ((ad 4), .inr (7, [.ref (ad 36), .ref (ad 37), .ref (ad 38), .ref (ad 39), .ref (ad 40), .ref (ad 41), .int (nx 5)])), ((ad 36), .inl (cI, 40, .inl (fx 16))), ((ad 37), .inl (cI, 40, .inl (fx 17))), ((ad 38), .inl (cI, 40, .inl (fx 18))), ((ad 39), .inl (cI, 40, .inl (fx 19))), ((ad 40), .inl (cI, 40, .inl (fx 20))), ((ad 41), .inl (cI, 40, .inl (fx 21))), ((ad 5), .inr (8, [.ref (ad 42), .ref (ad 43), .ref (ad 44), .ref (ad 45), .int (nx 6), .ref (ad 46)])), ((ad 42), .inl (cI, 40, .inl (fx 22))), ((ad 43), .inl (cI, 40, .inl (fx 23))), ((ad 44), .inl (cI, 40, .inl (fx 24))), ((ad 45), .inl (cI, 40, .inl (fx 25))), ((ad 46), .inl (cI, 40, .inl (fx 26))), ((ad 6), .inr (2, [.ref (ad 47), .int (nx 7), .int (nx 8), .ref (ad 48), .ref (ad 49), .ref (ad 50), .int (nx 9), .ref (ad 51), .ref (ad 52), .ref (ad 53), .int (nx 10), .int (nx 11), .int (nx 12), .int (nx 13), .int (nx 14)])), ((ad 47), .inl (cY, 300, .inl (fx 27))), ((ad 48), .inl (cI, 12, .inl (fx 28))), ((ad 49), .inl (cI, 12, .inl (fx 29))), ((ad 50), .inl (cI, 12, .inl (fx 30))), ((ad 51), .inl (cI, 12, .inl (fx 31))), ((ad 52), .inl (cI, 12, .inl (fx 32))), ((ad 53), .inl (cI, 12, .inl (fx 33))), ((ad 7), .inr (0, [.ref (ad 54), .ref (ad 55), .ref (ad 56), .ref (ad 57), .int (nx 15)])), ((ad 54), .inl (cI, 60, .inl (fx 34))), ((ad 55), .inl (cI, 60, .inl (fx 35))), ((ad 56), .inl (cI, 60, .inl (fx 36))), ((ad 57), .inl (cI, 60, .inl (fx 37))), ((ad 8), .inr (5, [.int sd, .ref (ad 58)])), ((ad 58), .inl (cJ, 12, .inr (.inl lo))), ((ad 9), .inr (6, [.ref (ad 59), .ref (ad 60), .ref (ad 61), .ref (ad 62), .int (nx 16)])), ((ad 59), .inl (cI, 60, .inl (fx 38))), ((ad 60), .inl (cI, 60, .inl (fx 39))), ((ad 61), .inl (cI, 60, .inl (fx 40))), ((ad 62), .inl (cI, 60, .inl (fx 41))), ((ad 10), .inr (4, [.ref (ad 63), .ref (ad 64), .ref (ad 65), .int (nx 17)])), ((ad 63), .inl (cI, 20, .inl (fx 42))), ((ad 64), .inl (cI, 20, .inl (fx 43))), ((ad 65), .inl (cI, 20, .inl (fx 44)))]) (va_runV (C := RX10) (As := [.int xk1, .int xk2, .int xk3]) (rest := []) ⟨hx, hb, hml, hown, hts⟩ (ct_X10_holds l D cI cY cJ cQ _ ad rw rs (nx 0) (nx 1) (nx 2) (nx 3) (fx 1) (fx 2) (fx 3) (fx 4) (fx 5) (fx 6) xk1 xk2 xk3 (by omega) (by omega) (by assumption) (by assumption)) (cwV 3 hts gL_law_X10_holds rfl rfl rfl ⟨rfl, cdX10_holds⟩ ⟨Nat.le_of_ble_eq_true rfl, Nat.le_of_ble_eq_true rfl⟩) (cPreV (hP.sub [2, 3, 4, 5, 6, 7, 8, 9, 0, 10, 11, 12, 13, 14, 15, 16, 17, 18] rfl) hK (hD.sub [2, 3, 4, 5, 6, 7, 8, 9, 0, 10, 11, 12, 13, 14, 15, 16, 17, 18] (by decide +kernel) rfl) hN (ci := 10) (q0 := 8) rfl rfl) rfl rfl hl.1 rfl (lv_room (Nat.le_of_ble_eq_true rfl)) dL_law_449 ⟨Nat.le_of_ble_eq_true rfl, Nat.le_of_ble_eq_true rfl⟩) hP hD hS hA [2, 3, 4, 5, 6, 7, 8, 9, 0, 10, 11, 12, 13, 14, 15, 16, 17, 18] [1, 19, 20, 21, 22, 23, 24, 25, 26, 27, 28, 29, 30, 31, 32, 33, 34, 35, 36, 37, 38, 39, 40, 41, 42, 43, 44, 45, 46, 47, 48, 49, 50, 51, 52, 53, 54, 55, 56, 57, 58, 59, 60, 61, 62, 63, 64, 65] rfl rfl (by decide +kernel) (by decide +kernel) (fun r9 u7 H locs hw8 hP hD hS => ?_)
  obtain ⟨lf_10, hn_11, ho_12, hc_13, hp_14, hs_15⟩ := u7
  replace hw8 : 0 ≤ hn_11.toInt ∧ hn_11.toInt ≤ 40 ∧ okH hn_11 ho_12 hc_13 := hw8
  obtain ⟨hw8a, hw8b, hw8c⟩ := hw8
  refine lv_pop hx hb dL_law_452 rfl ?_
  have hPx : va_P D vwCl (wX ad rw sd cI cY cJ cQ (upd (upd nx 2 lf_10) 3 hn_11) (upR (upR (upR (upR fx 3 ho_12) 4 hc_13) 5 hp_14) 6 hs_15) rs lo ++ wM md sd cI cY cJ cQ ny fy fl) H := hP.part [56, 0, 48, 49, 50, 51, 52, 53, 54, 55, 57, 58, 59, 60, 61, 62, 63, 64, 65, 1, 2, 3, 4, 5, 6, 7, 8, 9, 10, 11, 12, 13, 14, 15, 16, 17, 18, 19, 20, 21, 22, 23, 24, 25, 26, 27, 28, 29, 30, 31, 32, 33, 34, 35, 36, 37, 38, 39, 40, 41, 42, 43, 44, 45, 46, 47] rfl
  have hDx : va_D (fun q : Nat => s.heap.size ≤ q) (wX ad rw sd cI cY cJ cQ (upd (upd nx 2 lf_10) 3 hn_11) (upR (upR (upR (upR fx 3 ho_12) 4 hc_13) 5 hp_14) 6 hs_15) rs lo ++ wM md sd cI cY cJ cQ ny fy fl) := hD.part [56, 0, 48, 49, 50, 51, 52, 53, 54, 55, 57, 58, 59, 60, 61, 62, 63, 64, 65, 1, 2, 3, 4, 5, 6, 7, 8, 9, 10, 11, 12, 13, 14, 15, 16, 17, 18, 19, 20, 21, 22, 23, 24, 25, 26, 27, 28, 29, 30, 31, 32, 33, 34, 35, 36, 37, 38, 39, 40, 41, 42, 43, 44, 45, 46, 47] (by decide +kernel) rfl
  have hP := hPx.comm
  have hD := hDx.comm
  refine lv_aload_n hx hb dL_law_453 rfl (lv_at hl 2 rfl) ?_
  refine lv_aload_n hx hb dL_law_454 rfl (lv_at hl 0 rfl) ?_
  refine lv_iload_n hx hb dL_law_455 rfl (lv_at hl 3 rfl) ?_
  refine lv_iconst (v := 1) hx hb dL_law_456 (by decide) ?_
  refine lv_iadd hx hb dL_law_457 ?_
  refine lv_topi (fun v16 ev16 => ?_)
  try have tv16 : v16.toInt = i.toInt + 1 := by rw [ev16]; exact (i_add (x := i) (y := (1 : Int32)) (by rw [k1]; omega) (by rw [k1]; omega)).trans (by rw [k1])
  refine va_sld hx hb hX hbl hbA hS (i_in (by omega) (by omega)) dL_law_458 ?_
  refine lv_topi (fun a17 ea17 => ?_)
  replace ea17 : xk1 = a17 := (ea17.trans (by rw [exk1]; congr 1; have := i_cl (x := v16) (by omega); have := i_cl (x := i) (by omega); omega)).symm
  subst ea17
  refine lv_aload_n hx hb dL_law_459 rfl (lv_at hl 0 rfl) ?_
  refine lv_iload_n hx hb dL_law_460 rfl (lv_at hl 3 rfl) ?_
  refine lv_iconst (v := 2) hx hb dL_law_461 (by decide) ?_
  refine lv_iadd hx hb dL_law_462 ?_
  refine lv_topi (fun v18 ev18 => ?_)
  try have tv18 : v18.toInt = i.toInt + 2 := by rw [ev18]; exact (i_add (x := i) (y := (2 : Int32)) (by rw [k2]; omega) (by rw [k2]; omega)).trans (by rw [k2])
  refine va_sld hx hb hX hbl hbA hS (i_in (by omega) (by omega)) dL_law_463 ?_
  refine lv_topi (fun a19 ea19 => ?_)
  replace ea19 : xk2 = a19 := (ea19.trans (by rw [exk2]; congr 1; have := i_cl (x := v18) (by omega); have := i_cl (x := i) (by omega); omega)).symm
  subst ea19
  refine lv_aload_n hx hb dL_law_464 rfl (lv_at hl 0 rfl) ?_
  refine lv_iload_n hx hb dL_law_465 rfl (lv_at hl 3 rfl) ?_
  refine lv_iconst (v := 3) hx hb dL_law_466 (by decide) ?_
  refine lv_iadd hx hb dL_law_467 ?_
  refine lv_topi (fun v20 ev20 => ?_)
  try have tv20 : v20.toInt = i.toInt + 3 := by rw [ev20]; exact (i_add (x := i) (y := (3 : Int32)) (by rw [k3]; omega) (by rw [k3]; omega)).trans (by rw [k3])
  refine va_sld hx hb hX hbl hbA hS (i_in (by omega) (by omega)) dL_law_468 ?_
  refine lv_topi (fun a21 ea21 => ?_)
  replace ea21 : xk3 = a21 := (ea21.trans (by rw [exk3]; congr 1; have := i_cl (x := v20) (by omega); have := i_cl (x := i) (by omega); omega)).symm
  subst ea21
  refine st_iQ (wr := [((md 11), .inl (cI, 200, .inl (fy 7))), ((md 12), .inl (cI, 12, .inl (fy 8))), ((md 13), .inl (cI, 12, .inl (fy 9))), ((md 14), .inl (cJ, 12, .inr (.inl fl))), ((md 16), .inl (cI, 12, .inl (fy 10))), ((md 17), .inl (cI, 12, .inl (fy 11))), ((md 19), .inl (cI, 40, .inl (fy 12))), ((md 20), .inl (cI, 40, .inl (fy 13))), ((md 21), .inl (cI, 40, .inl (fy 14))), ((md 22), .inl (cI, 40, .inl (fy 15))), ((md 23), .inl (cI, 40, .inl (fy 16))), ((md 26), .inl (cI, 40, .inl (fy 17))), ((md 27), .inl (cI, 40, .inl (fy 18))), ((md 28), .inl (cI, 40, .inl (fy 19))), ((md 29), .inl (cI, 40, .inl (fy 20))), ((md 31), .inl (cI, 36, .inl (fy 21))), ((md 33), .inl (cI, 36, .inl (fy 22))), ((md 34), .inl (cI, 300, .inl (fy 23))), ((md 45), .inl (cI, 60, .inl (fy 24))), ((md 46), .inl (cI, 60, .inl (fy 25))), ((md 47), .inl (cI, 60, .inl (fy 26))), ((md 48), .inl (cI, 60, .inl (fy 27))), ((md 49), .inl (cI, 6, .inl (fy 28))), ((md 50), .inl (cI, 6, .inl (fy 29))), ((md 51), .inl (cI, 12, .inl (fy 30))), ((md 53), .inl (cI, 60, .inl (fy 31))), ((md 54), .inl (cI, 60, .inl (fy 32))), ((md 55), .inl (cI, 60, .inl (fy 33))), ((md 56), .inl (cI, 60, .inl (fy 34))), ((md 58), .inl (cI, 20, .inl (fy 35))), ((md 59), .inl (cI, 20, .inl (fy 36))), ((md 60), .inl (cI, 20, .inl (fy 37))), ((md 62), .inl (cI, 16, .inl (fy 38)))]) (va_runV (C := RX11) (As := [.int xk1, .int xk2, .int xk3]) (rest := []) ⟨hx, hb, hml, hown, hts⟩ (ct_X11_holds l D cI cY cJ cQ _ md sd (ny 0) (ny 1) (ny 2) (ny 3) (ny 4) (ny 5) (ny 6) (ny 7) (ny 8) (ny 9) (ny 10) (ny 11) (ny 12) (ny 13) (ny 14) (ny 15) (ny 16) (ny 17) (ny 18) (ny 19) (ny 20) (ny 21) (ny 22) (fy 0) (fy 1) (fy 2) (fy 3) (fy 4) (fy 5) (fy 6) xk1 xk2 xk3 (by assumption) (by omega) (by omega) (by assumption)) (cwV 3 hts gL_law_X11_holds rfl rfl rfl ⟨rfl, cdX11_holds⟩ ⟨Nat.le_of_ble_eq_true rfl, Nat.le_of_ble_eq_true rfl⟩) (cPreV (hP.sub [0, 1, 2, 3, 4, 5, 6, 7] rfl) hK (hD.sub [0, 1, 2, 3, 4, 5, 6, 7] (by decide +kernel) rfl) hN (ci := 11) (q0 := 0) rfl rfl) rfl rfl hl.1 rfl (lv_room (Nat.le_of_ble_eq_true rfl)) dL_law_469 ⟨Nat.le_of_ble_eq_true rfl, Nat.le_of_ble_eq_true rfl⟩) hP hD hS hA [0, 1, 2, 3, 4, 5, 6, 7] [8, 9, 10, 11, 12, 13, 14, 15, 16, 17, 18, 19, 20, 21, 22, 23, 24, 25, 26, 27, 28, 29, 30, 31, 32, 33, 34, 35, 36, 37, 38, 39, 40] rfl rfl (by decide +kernel) (by decide +kernel) (fun r24 u22 H locs hw23 hP hD hS => ?_)
  obtain ⟨mst_25, hn_26, ho_27, hc_28, hp_29, hs_30⟩ := u22
  replace hw23 : 0 ≤ hn_26.toInt ∧ hn_26.toInt ≤ 40 ∧ okH hn_26 ho_27 hc_28 := hw23
  obtain ⟨hw23a, hw23b, hw23c⟩ := hw23
  refine lv_pop hx hb dL_law_472 rfl ?_
  refine lv_goto (tgt := 1652) hx hb dL_law_473 (by decide) ?_
  have hPm : va_P D vwCl (wM md sd cI cY cJ cQ (upd (upd (upd ny 0 0) 1 mst_25) 2 hn_26) (upR (upR (upR (upR fy 3 ho_27) 4 hc_28) 5 hp_29) 6 hs_30) fl ++ wX ad rw sd cI cY cJ cQ (upd (upd nx 2 lf_10) 3 hn_11) (upR (upR (upR (upR fx 3 ho_12) 4 hc_13) 5 hp_14) 6 hs_15) rs lo) H := hP.part [33, 34, 35, 36, 37, 38, 39, 40, 0, 1, 2, 3, 4, 5, 6, 7, 8, 9, 10, 11, 12, 13, 14, 15, 16, 17, 18, 19, 20, 21, 22, 23, 24, 25, 26, 27, 28, 29, 30, 31, 32] rfl
  have hDm : va_D (fun q : Nat => s.heap.size ≤ q) (wM md sd cI cY cJ cQ (upd (upd (upd ny 0 0) 1 mst_25) 2 hn_26) (upR (upR (upR (upR fy 3 ho_27) 4 hc_28) 5 hp_29) 6 hs_30) fl ++ wX ad rw sd cI cY cJ cQ (upd (upd nx 2 lf_10) 3 hn_11) (upR (upR (upR (upR fx 3 ho_12) 4 hc_13) 5 hp_14) 6 hs_15) rs lo) := hD.part [33, 34, 35, 36, 37, 38, 39, 40, 0, 1, 2, 3, 4, 5, 6, 7, 8, 9, 10, 11, 12, 13, 14, 15, 16, 17, 18, 19, 20, 21, 22, 23, 24, 25, 26, 27, 28, 29, 30, 31, 32] (by decide +kernel) rfl
  exact kk (upd (upd nx 2 lf_10) 3 hn_11) (upR (upR (upR (upR fx 3 ho_12) 4 hc_13) 5 hp_14) 6 hs_15) rs lo (upd (upd (upd ny 0 0) 1 mst_25) 2 hn_26) (upR (upR (upR (upR fy 3 ho_27) 4 hc_28) 5 hp_29) 6 hs_30) fl H locs ls ⟨(by show 0 ≤ (hn_11).toInt; omega), (by show (hn_11).toInt ≤ 40; omega), (show okH (hn_11) (ho_12) (hc_13) by assumption), Xcna, Xcnb, Xpna, Xpnb, XO, Xgna, Xgnb, Xlna, Xlnb, Xdla, Xdlb, Xana, Xanb, Xuna, Xunb, Xlca, Xlcb, Xtna, Xtnb, XS, (by show 0 ≤ (hn_26).toInt; omega), (by show (hn_26).toInt ≤ 40; omega), (show okH (hn_26) (ho_27) (hc_28) by assumption), MS, Mmlna, Mmlnb, Mmtna, Mmtnb, Ccn, Cfo, Cwo, Cpn, Cpk, Cpf, Cpo, Cpd, Cpe, Cgn, Cgk, Cgs, Cgd, Cge, Can, Cak, Cah, Cay, Caz, Cun, Cuk, Cuy, Cuw, Cum, Clc, Clp, Cla, Clb, Caw, Ciw, Cln, Ctd⟩ hPm.comm hDm.comm hS hl

set_option maxHeartbeats 4000000 in
set_option maxRecDepth 100000 in
theorem law_case_6 {p : Program} {l : Launch} {e : Env} {s : State} {m : MethodId} {below : List Frame} {meth : Method} {c : Code} {D : va_G} {cI cY cJ cQ : ClassId} {b L aK aV : Nat} {xs : Nat → Int32} {ad rw md : Nat → Nat} {sd i : Int32} {nx : Nat → Int32} {fx rs : Nat → Nat → Int32} {lo : Nat → Int64} {ny : Nat → Int32} {fy : Nat → Nat → Int32} {fl : Nat → Int64} {H : Heap} {locs : List Loc} {ls : Array Slot} (C0 : lawC p s m meth c b L xs D cI cY cJ cQ aK aV) (I : inv nx fx ny fy) (hP : va_P D vwCl (wX ad rw sd cI cY cJ cQ nx fx rs lo ++ wM md sd cI cY cJ cQ ny fy fl) H) (hD : va_D (fun q : Nat => s.heap.size ≤ q) (wX ad rw sd cI cY cJ cQ nx fx rs lo ++ wM md sd cI cY cJ cQ ny fy fl)) (hS : va_S (fun q : Nat => s.heap.size ≤ q) s.heap H locs) (hl : lv_has ls 4 [(0, .ref b), (1, .ref (ad 0)), (2, .ref (md 64)), (3, .int i)]) (hi1 : 1 ≤ i.toInt) (hi2 : i.toInt + 5 < L) (kk : ∀ (nx : Nat → Int32) (fx rs : Nat → Nat → Int32) (lo : Nat → Int64) (ny : Nat → Int32) (fy : Nat → Nat → Int32) (fl : Nat → Int64) (H : Heap) (locs : List Loc) (ls : Array Slot), inv nx fx ny fy → va_P D vwCl (wX ad rw sd cI cY cJ cQ nx fx rs lo ++ wM md sd cI cY cJ cQ ny fy fl) H → va_D (fun q : Nat => s.heap.size ≤ q) (wX ad rw sd cI cY cJ cQ nx fx rs lo ++ wM md sd cI cY cJ cQ ny fy fl) → va_S (fun q : Nat => s.heap.size ≤ q) s.heap H locs → lv_has ls 4 [(0, .ref b), (1, .ref (ad 0)), (2, .ref (md 64)), (3, .int i)] → W p l e room_1 s m #[Value.ref b] below meth c H locs 107 4890 (lw_Z below #[Value.ref b] s) (F0 m 1652 ls [])) : W p l e room_1 s m #[Value.ref b] below meth c H locs 107 4890 (lw_Z below #[Value.ref b] s) (F0 m 476 ls []) := by
  obtain ⟨C1, hK, hN, hT, hL⟩ := C0
  obtain ⟨hx, hb, hr, hml, hown, hts0, hX, hbl, hlocks, hgv⟩ := C1
  have hA : ∀ q : Nat, s.heap.size ≤ q → (fun q : Nat => s.heap.size ≤ q) q := fun _ h => h
  have hbA : ¬ (fun q : Nat => s.heap.size ≤ q) b := Nat.not_le.mpr hbl
  have hts : ∀ w ∈ wsL_law, w.before #[Value.ref b] s = true := fun w h => hts0 w (wsL_law_in w h)
  replace hown : s.vm.findClass RL = some m.cls := hown
  replace hb : c.code = cL_law := hb
  obtain ⟨Xhna, Xhnb, XH, Xcna, Xcnb, Xpna, Xpnb, XO, Xgna, Xgnb, Xlna, Xlnb, Xdla, Xdlb, Xana, Xanb, Xuna, Xunb, Xlca, Xlcb, Xtna, Xtnb, XS, Mhna, Mhnb, MH, MS, Mmlna, Mmlnb, Mmtna, Mmtnb, Ccn, Cfo, Cwo, Cpn, Cpk, Cpf, Cpo, Cpd, Cpe, Cgn, Cgk, Cgs, Cgd, Cge, Can, Cak, Cah, Cay, Caz, Cun, Cuk, Cuy, Cuw, Cum, Clc, Clp, Cla, Clb, Caw, Ciw, Cln, Ctd⟩ := I
  have Tcn := i_eq Ccn
  have Tpn := i_eq Cpn
  have Tgn := i_eq Cgn
  have Tan := i_eq Can
  have Tun := i_eq Cun
  have Tlc := i_eq Clc
  have Tln := i_eq Cln
  have k1 : (1 : Int32).toInt = 1 := by decide
  have k2 : (2 : Int32).toInt = 2 := by decide
  have k3 : (3 : Int32).toInt = 3 := by decide
  obtain ⟨xk1, exk1⟩ : ∃ y : Int32, y = xs (i.toNatClampNeg + 1) := ⟨_, rfl⟩
  obtain ⟨xk2, exk2⟩ : ∃ y : Int32, y = xs (i.toNatClampNeg + 2) := ⟨_, rfl⟩
  obtain ⟨xk3, exk3⟩ : ∃ y : Int32, y = xs (i.toNatClampNeg + 3) := ⟨_, rfl⟩
  refine lv_aload_n hx hb dL_law_476 rfl (lv_at hl 1 rfl) ?_
  refine lv_aload_n hx hb dL_law_477 rfl (lv_at hl 0 rfl) ?_
  refine lv_iload_n hx hb dL_law_478 rfl (lv_at hl 3 rfl) ?_
  refine lv_iconst (v := 1) hx hb dL_law_479 (by decide) ?_
  refine lv_iadd hx hb dL_law_480 ?_
  refine lv_topi (fun v1 ev1 => ?_)
  try have tv1 : v1.toInt = i.toInt + 1 := by rw [ev1]; exact (i_add (x := i) (y := (1 : Int32)) (by rw [k1]; omega) (by rw [k1]; omega)).trans (by rw [k1])
  refine va_sld hx hb hX hbl hbA hS (i_in (by omega) (by omega)) dL_law_481 ?_
  refine lv_topi (fun a2 ea2 => ?_)
  replace ea2 : xk1 = a2 := (ea2.trans (by rw [exk1]; congr 1; have := i_cl (x := v1) (by omega); have := i_cl (x := i) (by omega); omega)).symm
  subst ea2
  refine lv_aload_n hx hb dL_law_482 rfl (lv_at hl 0 rfl) ?_
  refine lv_iload_n hx hb dL_law_483 rfl (lv_at hl 3 rfl) ?_
  refine lv_iconst (v := 2) hx hb dL_law_484 (by decide) ?_
  refine lv_iadd hx hb dL_law_485 ?_
  refine lv_topi (fun v3 ev3 => ?_)
  try have tv3 : v3.toInt = i.toInt + 2 := by rw [ev3]; exact (i_add (x := i) (y := (2 : Int32)) (by rw [k2]; omega) (by rw [k2]; omega)).trans (by rw [k2])
  refine va_sld hx hb hX hbl hbA hS (i_in (by omega) (by omega)) dL_law_486 ?_
  refine lv_topi (fun a4 ea4 => ?_)
  replace ea4 : xk2 = a4 := (ea4.trans (by rw [exk2]; congr 1; have := i_cl (x := v3) (by omega); have := i_cl (x := i) (by omega); omega)).symm
  subst ea4
  refine lv_aload_n hx hb dL_law_487 rfl (lv_at hl 0 rfl) ?_
  refine lv_iload_n hx hb dL_law_488 rfl (lv_at hl 3 rfl) ?_
  refine lv_iconst (v := 3) hx hb dL_law_489 (by decide) ?_
  refine lv_iadd hx hb dL_law_490 ?_
  refine lv_topi (fun v5 ev5 => ?_)
  try have tv5 : v5.toInt = i.toInt + 3 := by rw [ev5]; exact (i_add (x := i) (y := (3 : Int32)) (by rw [k3]; omega) (by rw [k3]; omega)).trans (by rw [k3])
  refine va_sld hx hb hX hbl hbA hS (i_in (by omega) (by omega)) dL_law_491 ?_
  refine lv_topi (fun a6 ea6 => ?_)
  replace ea6 : xk3 = a6 := (ea6.trans (by rw [exk3]; congr 1; have := i_cl (x := v5) (by omega); have := i_cl (x := i) (by omega); omega)).symm
  subst ea6
  refine st_iQ (wr := [((ad 11), .inl (cI, 16, .inl (fx 0))), ((rw 0), .inl (cI, 60, .inl (rs 0))), ((rw 1), .inl (cI, 60, .inl (rs 1))), ((rw 2), .inl (cI, 60, .inl (rs 2))), ((rw 3), .inl (cI, 60, .inl (rs 3))), ((rw 4), .inl (cI, 60, .inl (rs 4))), ((rw 5), .inl (cI, 60, .inl (rs 5))), ((rw 6), .inl (cI, 60, .inl (rs 6))), ((rw 7), .inl (cI, 60, .inl (rs 7))), ((ad 1), .inr (9, [.ref (ad 12), .ref (ad 13), .ref (ad 14)])), ((ad 12), .inl (cQ, 8, .inr (.inr (.inr (.inr (fun i => if i < 8 then some (rw i) else none)))))), ((ad 13), .inl (cI, 8, .inl (fx 1))), ((ad 14), .inl (cI, 8, .inl (fx 2))), ((ad 3), .inr (1, [.ref (ad 31), .ref (ad 32), .ref (ad 33), .int (nx 4), .ref (ad 34), .ref (ad 35)])), ((ad 31), .inl (cI, 12, .inl (fx 11))), ((ad 32), .inl (cI, 12, .inl (fx 12))), ((ad 33), .inl (cI, 12, .inl (fx 13))), ((ad 34), .inl (cI, 6, .inl (fx 14))), ((ad 35), .inl (cI, 6, .inl (fx 15))), ((ad 4), .inr (7, [.ref (ad 36), .ref (ad 37), .ref (ad 38), .ref (ad 39), .ref (ad 40), .ref (ad 41), .int (nx 5)])), ((ad 36), .inl (cI, 40, .inl (fx 16))), ((ad 37), .inl (cI, 40, .inl (fx 17))), ((ad 38), .inl (cI, 40, .inl (fx 18))), ((ad 39), .inl (cI, 40, .inl (fx 19))), ((ad 40), .inl (cI, 40, .inl (fx 20))), ((ad 41), .inl (cI, 40, .inl (fx 21))), ((ad 5), .inr (8, [.ref (ad 42), .ref (ad 43), .ref (ad 44), .ref (ad 45), .int (nx 6), .ref (ad 46)])), ((ad 42), .inl (cI, 40, .inl (fx 22))), ((ad 43), .inl (cI, 40, .inl (fx 23))), ((ad 44), .inl (cI, 40, .inl (fx 24))), ((ad 45), .inl (cI, 40, .inl (fx 25))), ((ad 46), .inl (cI, 40, .inl (fx 26))), ((ad 6), .inr (2, [.ref (ad 47), .int (nx 7), .int (nx 8), .ref (ad 48), .ref (ad 49), .ref (ad 50), .int (nx 9), .ref (ad 51), .ref (ad 52), .ref (ad 53), .int (nx 10), .int (nx 11), .int (nx 12), .int (nx 13), .int (nx 14)])), ((ad 47), .inl (cY, 300, .inl (fx 27))), ((ad 48), .inl (cI, 12, .inl (fx 28))), ((ad 49), .inl (cI, 12, .inl (fx 29))), ((ad 50), .inl (cI, 12, .inl (fx 30))), ((ad 51), .inl (cI, 12, .inl (fx 31))), ((ad 52), .inl (cI, 12, .inl (fx 32))), ((ad 53), .inl (cI, 12, .inl (fx 33))), ((ad 7), .inr (0, [.ref (ad 54), .ref (ad 55), .ref (ad 56), .ref (ad 57), .int (nx 15)])), ((ad 54), .inl (cI, 60, .inl (fx 34))), ((ad 55), .inl (cI, 60, .inl (fx 35))), ((ad 56), .inl (cI, 60, .inl (fx 36))), ((ad 57), .inl (cI, 60, .inl (fx 37))), ((ad 8), .inr (5, [.int sd, .ref (ad 58)])), ((ad 58), .inl (cJ, 12, .inr (.inl lo))), ((ad 9), .inr (6, [.ref (ad 59), .ref (ad 60), .ref (ad 61), .ref (ad 62), .int (nx 16)])), ((ad 59), .inl (cI, 60, .inl (fx 38))), ((ad 60), .inl (cI, 60, .inl (fx 39))), ((ad 61), .inl (cI, 60, .inl (fx 40))), ((ad 62), .inl (cI, 60, .inl (fx 41))), ((ad 10), .inr (4, [.ref (ad 63), .ref (ad 64), .ref (ad 65), .int (nx 17)])), ((ad 63), .inl (cI, 20, .inl (fx 42))), ((ad 64), .inl (cI, 20, .inl (fx 43))), ((ad 65), .inl (cI, 20, .inl (fx 44)))]) (va_runV (C := RX10) (As := [.int xk1, .int xk2, .int xk3]) (rest := []) ⟨hx, hb, hml, hown, hts⟩ (ct_X10_percent l D cI cY cJ cQ _ ad (nx 0) (nx 1) (nx 2) (nx 3) (fx 3) (fx 4) (fx 5) (fx 6) (fx 7) (fx 8) (fx 9) (fx 10) xk1 xk2 xk3 (by omega) (by omega) (by assumption)) (cwV 3 hts gL_law_X10_percent rfl rfl rfl ⟨rfl, cdX10_percent⟩ ⟨Nat.le_of_ble_eq_true rfl, Nat.le_of_ble_eq_true rfl⟩) (cPreV (hP.sub [0, 14, 15, 16, 17, 18, 19, 20, 21, 22] rfl) hK (hD.sub [0, 14, 15, 16, 17, 18, 19, 20, 21, 22] (by decide +kernel) rfl) hN (ci := 10) (q0 := 0) rfl rfl) rfl rfl hl.1 rfl (lv_room (Nat.le_of_ble_eq_true rfl)) dL_law_492 ⟨Nat.le_of_ble_eq_true rfl, Nat.le_of_ble_eq_true rfl⟩) hP hD hS hA [0, 14, 15, 16, 17, 18, 19, 20, 21, 22] [1, 2, 3, 4, 5, 6, 7, 8, 9, 10, 11, 12, 13, 23, 24, 25, 26, 27, 28, 29, 30, 31, 32, 33, 34, 35, 36, 37, 38, 39, 40, 41, 42, 43, 44, 45, 46, 47, 48, 49, 50, 51, 52, 53, 54, 55, 56, 57, 58, 59, 60, 61, 62, 63, 64, 65] rfl rfl (by decide +kernel) (by decide +kernel) (fun r9 u7 H locs hw8 hP hD hS => ?_)
  obtain ⟨pt_10, ps_11, ha_12, re_13⟩ := u7
  replace hw8 : True := hw8
  refine lv_pop hx hb dL_law_495 rfl ?_
  have hPx : va_P D vwCl (wX ad rw sd cI cY cJ cQ nx (upR (upR (upR (upR fx 7 pt_10) 8 ps_11) 9 ha_12) 10 re_13) rs lo ++ wM md sd cI cY cJ cQ ny fy fl) H := hP.part [56, 0, 1, 2, 3, 4, 5, 6, 7, 8, 9, 10, 11, 12, 57, 58, 59, 60, 61, 62, 63, 64, 65, 13, 14, 15, 16, 17, 18, 19, 20, 21, 22, 23, 24, 25, 26, 27, 28, 29, 30, 31, 32, 33, 34, 35, 36, 37, 38, 39, 40, 41, 42, 43, 44, 45, 46, 47, 48, 49, 50, 51, 52, 53, 54, 55] rfl
  have hDx : va_D (fun q : Nat => s.heap.size ≤ q) (wX ad rw sd cI cY cJ cQ nx (upR (upR (upR (upR fx 7 pt_10) 8 ps_11) 9 ha_12) 10 re_13) rs lo ++ wM md sd cI cY cJ cQ ny fy fl) := hD.part [56, 0, 1, 2, 3, 4, 5, 6, 7, 8, 9, 10, 11, 12, 57, 58, 59, 60, 61, 62, 63, 64, 65, 13, 14, 15, 16, 17, 18, 19, 20, 21, 22, 23, 24, 25, 26, 27, 28, 29, 30, 31, 32, 33, 34, 35, 36, 37, 38, 39, 40, 41, 42, 43, 44, 45, 46, 47, 48, 49, 50, 51, 52, 53, 54, 55] (by decide +kernel) rfl
  have hP := hPx.comm
  have hD := hDx.comm
  refine lv_aload_n hx hb dL_law_496 rfl (lv_at hl 2 rfl) ?_
  refine lv_aload_n hx hb dL_law_497 rfl (lv_at hl 0 rfl) ?_
  refine lv_iload_n hx hb dL_law_498 rfl (lv_at hl 3 rfl) ?_
  refine lv_iconst (v := 1) hx hb dL_law_499 (by decide) ?_
  refine lv_iadd hx hb dL_law_500 ?_
  refine lv_topi (fun v14 ev14 => ?_)
  try have tv14 : v14.toInt = i.toInt + 1 := by rw [ev14]; exact (i_add (x := i) (y := (1 : Int32)) (by rw [k1]; omega) (by rw [k1]; omega)).trans (by rw [k1])
  refine va_sld hx hb hX hbl hbA hS (i_in (by omega) (by omega)) dL_law_501 ?_
  refine lv_topi (fun a15 ea15 => ?_)
  replace ea15 : xk1 = a15 := (ea15.trans (by rw [exk1]; congr 1; have := i_cl (x := v14) (by omega); have := i_cl (x := i) (by omega); omega)).symm
  subst ea15
  refine lv_aload_n hx hb dL_law_502 rfl (lv_at hl 0 rfl) ?_
  refine lv_iload_n hx hb dL_law_503 rfl (lv_at hl 3 rfl) ?_
  refine lv_iconst (v := 2) hx hb dL_law_504 (by decide) ?_
  refine lv_iadd hx hb dL_law_505 ?_
  refine lv_topi (fun v16 ev16 => ?_)
  try have tv16 : v16.toInt = i.toInt + 2 := by rw [ev16]; exact (i_add (x := i) (y := (2 : Int32)) (by rw [k2]; omega) (by rw [k2]; omega)).trans (by rw [k2])
  refine va_sld hx hb hX hbl hbA hS (i_in (by omega) (by omega)) dL_law_506 ?_
  refine lv_topi (fun a17 ea17 => ?_)
  replace ea17 : xk2 = a17 := (ea17.trans (by rw [exk2]; congr 1; have := i_cl (x := v16) (by omega); have := i_cl (x := i) (by omega); omega)).symm
  subst ea17
  refine lv_aload_n hx hb dL_law_507 rfl (lv_at hl 0 rfl) ?_
  refine lv_iload_n hx hb dL_law_508 rfl (lv_at hl 3 rfl) ?_
  refine lv_iconst (v := 3) hx hb dL_law_509 (by decide) ?_
  refine lv_iadd hx hb dL_law_510 ?_
  refine lv_topi (fun v18 ev18 => ?_)
  try have tv18 : v18.toInt = i.toInt + 3 := by rw [ev18]; exact (i_add (x := i) (y := (3 : Int32)) (by rw [k3]; omega) (by rw [k3]; omega)).trans (by rw [k3])
  refine va_sld hx hb hX hbl hbA hS (i_in (by omega) (by omega)) dL_law_511 ?_
  refine lv_topi (fun a19 ea19 => ?_)
  replace ea19 : xk3 = a19 := (ea19.trans (by rw [exk3]; congr 1; have := i_cl (x := v18) (by omega); have := i_cl (x := i) (by omega); omega)).symm
  subst ea19
  refine st_iQ (wr := [((md 3), .inl (cI, 8, .inl (fy 0))), ((md 4), .inl (cI, 8, .inl (fy 1))), ((md 5), .inl (cI, 480, .inl (fy 2))), ((md 11), .inl (cI, 200, .inl (fy 7))), ((md 12), .inl (cI, 12, .inl (fy 8))), ((md 13), .inl (cI, 12, .inl (fy 9))), ((md 14), .inl (cJ, 12, .inr (.inl fl))), ((md 16), .inl (cI, 12, .inl (fy 10))), ((md 17), .inl (cI, 12, .inl (fy 11))), ((md 19), .inl (cI, 40, .inl (fy 12))), ((md 20), .inl (cI, 40, .inl (fy 13))), ((md 21), .inl (cI, 40, .inl (fy 14))), ((md 22), .inl (cI, 40, .inl (fy 15))), ((md 23), .inl (cI, 40, .inl (fy 16))), ((md 26), .inl (cI, 40, .inl (fy 17))), ((md 27), .inl (cI, 40, .inl (fy 18))), ((md 28), .inl (cI, 40, .inl (fy 19))), ((md 29), .inl (cI, 40, .inl (fy 20))), ((md 31), .inl (cI, 36, .inl (fy 21))), ((md 33), .inl (cI, 36, .inl (fy 22))), ((md 34), .inl (cI, 300, .inl (fy 23))), ((md 45), .inl (cI, 60, .inl (fy 24))), ((md 46), .inl (cI, 60, .inl (fy 25))), ((md 47), .inl (cI, 60, .inl (fy 26))), ((md 48), .inl (cI, 60, .inl (fy 27))), ((md 49), .inl (cI, 6, .inl (fy 28))), ((md 50), .inl (cI, 6, .inl (fy 29))), ((md 51), .inl (cI, 12, .inl (fy 30))), ((md 53), .inl (cI, 60, .inl (fy 31))), ((md 54), .inl (cI, 60, .inl (fy 32))), ((md 55), .inl (cI, 60, .inl (fy 33))), ((md 56), .inl (cI, 60, .inl (fy 34))), ((md 58), .inl (cI, 20, .inl (fy 35))), ((md 59), .inl (cI, 20, .inl (fy 36))), ((md 60), .inl (cI, 20, .inl (fy 37))), ((md 62), .inl (cI, 16, .inl (fy 38)))]) (va_runV (C := RX11) (As := [.int xk1, .int xk2, .int xk3]) (rest := []) ⟨hx, hb, hml, hown, hts⟩ (ct_X11_percent l D cI cY cJ cQ _ md sd (ny 0) (ny 1) (ny 2) (ny 3) (ny 4) (ny 5) (ny 6) (ny 7) (ny 8) (ny 9) (ny 10) (ny 11) (ny 12) (ny 13) (ny 14) (ny 15) (ny 16) (ny 17) (ny 18) (ny 19) (ny 20) (ny 21) (ny 22) (fy 3) (fy 4) (fy 5) (fy 6) xk1 xk2 xk3 (by omega) (by omega)) (cwV 3 hts gL_law_X11_percent rfl rfl rfl ⟨rfl, cdX11_percent⟩ ⟨Nat.le_of_ble_eq_true rfl, Nat.le_of_ble_eq_true rfl⟩) (cPreV (hP.sub [0, 4, 5, 6, 7] rfl) hK (hD.sub [0, 4, 5, 6, 7] (by decide +kernel) rfl) hN (ci := 11) (q0 := 0) rfl rfl) rfl rfl hl.1 rfl (lv_room (Nat.le_of_ble_eq_true rfl)) dL_law_512 ⟨Nat.le_of_ble_eq_true rfl, Nat.le_of_ble_eq_true rfl⟩) hP hD hS hA [0, 4, 5, 6, 7] [1, 2, 3, 8, 9, 10, 11, 12, 13, 14, 15, 16, 17, 18, 19, 20, 21, 22, 23, 24, 25, 26, 27, 28, 29, 30, 31, 32, 33, 34, 35, 36, 37, 38, 39, 40] rfl rfl (by decide +kernel) (by decide +kernel) (fun r22 u20 H locs hw21 hP hD hS => ?_)
  replace hw21 : True := hw21
  refine lv_pop hx hb dL_law_515 rfl ?_
  refine lv_goto (tgt := 1652) hx hb dL_law_516 (by decide) ?_
  have hPm : va_P D vwCl (wM md sd cI cY cJ cQ (upd ny 0 0) fy fl ++ wX ad rw sd cI cY cJ cQ nx (upR (upR (upR (upR fx 7 pt_10) 8 ps_11) 9 ha_12) 10 re_13) rs lo) H := hP.part [36, 0, 1, 2, 37, 38, 39, 40, 3, 4, 5, 6, 7, 8, 9, 10, 11, 12, 13, 14, 15, 16, 17, 18, 19, 20, 21, 22, 23, 24, 25, 26, 27, 28, 29, 30, 31, 32, 33, 34, 35] rfl
  have hDm : va_D (fun q : Nat => s.heap.size ≤ q) (wM md sd cI cY cJ cQ (upd ny 0 0) fy fl ++ wX ad rw sd cI cY cJ cQ nx (upR (upR (upR (upR fx 7 pt_10) 8 ps_11) 9 ha_12) 10 re_13) rs lo) := hD.part [36, 0, 1, 2, 37, 38, 39, 40, 3, 4, 5, 6, 7, 8, 9, 10, 11, 12, 13, 14, 15, 16, 17, 18, 19, 20, 21, 22, 23, 24, 25, 26, 27, 28, 29, 30, 31, 32, 33, 34, 35] (by decide +kernel) rfl
  exact kk nx (upR (upR (upR (upR fx 7 pt_10) 8 ps_11) 9 ha_12) 10 re_13) rs lo (upd ny 0 0) fy fl H locs ls ⟨Xhna, Xhnb, XH, Xcna, Xcnb, Xpna, Xpnb, XO, Xgna, Xgnb, Xlna, Xlnb, Xdla, Xdlb, Xana, Xanb, Xuna, Xunb, Xlca, Xlcb, Xtna, Xtnb, XS, Mhna, Mhnb, MH, MS, Mmlna, Mmlnb, Mmtna, Mmtnb, Ccn, Cfo, Cwo, Cpn, Cpk, Cpf, Cpo, Cpd, Cpe, Cgn, Cgk, Cgs, Cgd, Cge, Can, Cak, Cah, Cay, Caz, Cun, Cuk, Cuy, Cuw, Cum, Clc, Clp, Cla, Clb, Caw, Ciw, Cln, Ctd⟩ hPm.comm hDm.comm hS hl

set_option maxHeartbeats 4000000 in
set_option maxRecDepth 100000 in
theorem law_case_7 {p : Program} {l : Launch} {e : Env} {s : State} {m : MethodId} {below : List Frame} {meth : Method} {c : Code} {D : va_G} {cI cY cJ cQ : ClassId} {b L aK aV : Nat} {xs : Nat → Int32} {ad rw md : Nat → Nat} {sd i : Int32} {nx : Nat → Int32} {fx rs : Nat → Nat → Int32} {lo : Nat → Int64} {ny : Nat → Int32} {fy : Nat → Nat → Int32} {fl : Nat → Int64} {H : Heap} {locs : List Loc} {ls : Array Slot} (C0 : lawC p s m meth c b L xs D cI cY cJ cQ aK aV) (I : inv nx fx ny fy) (hP : va_P D vwCl (wX ad rw sd cI cY cJ cQ nx fx rs lo ++ wM md sd cI cY cJ cQ ny fy fl) H) (hD : va_D (fun q : Nat => s.heap.size ≤ q) (wX ad rw sd cI cY cJ cQ nx fx rs lo ++ wM md sd cI cY cJ cQ ny fy fl)) (hS : va_S (fun q : Nat => s.heap.size ≤ q) s.heap H locs) (hl : lv_has ls 4 [(0, .ref b), (1, .ref (ad 0)), (2, .ref (md 64)), (3, .int i)]) (hi1 : 1 ≤ i.toInt) (hi2 : i.toInt + 5 < L) (kk : ∀ (nx : Nat → Int32) (fx rs : Nat → Nat → Int32) (lo : Nat → Int64) (ny : Nat → Int32) (fy : Nat → Nat → Int32) (fl : Nat → Int64) (H : Heap) (locs : List Loc) (ls : Array Slot), inv nx fx ny fy → va_P D vwCl (wX ad rw sd cI cY cJ cQ nx fx rs lo ++ wM md sd cI cY cJ cQ ny fy fl) H → va_D (fun q : Nat => s.heap.size ≤ q) (wX ad rw sd cI cY cJ cQ nx fx rs lo ++ wM md sd cI cY cJ cQ ny fy fl) → va_S (fun q : Nat => s.heap.size ≤ q) s.heap H locs → lv_has ls 4 [(0, .ref b), (1, .ref (ad 0)), (2, .ref (md 64)), (3, .int i)] → W p l e room_1 s m #[Value.ref b] below meth c H locs 107 4890 (lw_Z below #[Value.ref b] s) (F0 m 1652 ls [])) : W p l e room_1 s m #[Value.ref b] below meth c H locs 107 4890 (lw_Z below #[Value.ref b] s) (F0 m 519 ls []) := by
  obtain ⟨C1, hK, hN, hT, hL⟩ := C0
  obtain ⟨hx, hb, hr, hml, hown, hts0, hX, hbl, hlocks, hgv⟩ := C1
  have hA : ∀ q : Nat, s.heap.size ≤ q → (fun q : Nat => s.heap.size ≤ q) q := fun _ h => h
  have hbA : ¬ (fun q : Nat => s.heap.size ≤ q) b := Nat.not_le.mpr hbl
  have hts : ∀ w ∈ wsL_law, w.before #[Value.ref b] s = true := fun w h => hts0 w (wsL_law_in w h)
  replace hown : s.vm.findClass RL = some m.cls := hown
  replace hb : c.code = cL_law := hb
  obtain ⟨Xhna, Xhnb, XH, Xcna, Xcnb, Xpna, Xpnb, XO, Xgna, Xgnb, Xlna, Xlnb, Xdla, Xdlb, Xana, Xanb, Xuna, Xunb, Xlca, Xlcb, Xtna, Xtnb, XS, Mhna, Mhnb, MH, MS, Mmlna, Mmlnb, Mmtna, Mmtnb, Ccn, Cfo, Cwo, Cpn, Cpk, Cpf, Cpo, Cpd, Cpe, Cgn, Cgk, Cgs, Cgd, Cge, Can, Cak, Cah, Cay, Caz, Cun, Cuk, Cuy, Cuw, Cum, Clc, Clp, Cla, Clb, Caw, Ciw, Cln, Ctd⟩ := I
  have Tcn := i_eq Ccn
  have Tpn := i_eq Cpn
  have Tgn := i_eq Cgn
  have Tan := i_eq Can
  have Tun := i_eq Cun
  have Tlc := i_eq Clc
  have Tln := i_eq Cln
  have k1 : (1 : Int32).toInt = 1 := by decide
  have k2 : (2 : Int32).toInt = 2 := by decide
  have k3 : (3 : Int32).toInt = 3 := by decide
  obtain ⟨xk1, exk1⟩ : ∃ y : Int32, y = xs (i.toNatClampNeg + 1) := ⟨_, rfl⟩
  obtain ⟨xk2, exk2⟩ : ∃ y : Int32, y = xs (i.toNatClampNeg + 2) := ⟨_, rfl⟩
  obtain ⟨xk3, exk3⟩ : ∃ y : Int32, y = xs (i.toNatClampNeg + 3) := ⟨_, rfl⟩
  refine lv_aload_n hx hb dL_law_519 rfl (lv_at hl 1 rfl) ?_
  refine lv_aload_n hx hb dL_law_520 rfl (lv_at hl 0 rfl) ?_
  refine lv_iload_n hx hb dL_law_521 rfl (lv_at hl 3 rfl) ?_
  refine lv_iconst (v := 1) hx hb dL_law_522 (by decide) ?_
  refine lv_iadd hx hb dL_law_523 ?_
  refine lv_topi (fun v1 ev1 => ?_)
  try have tv1 : v1.toInt = i.toInt + 1 := by rw [ev1]; exact (i_add (x := i) (y := (1 : Int32)) (by rw [k1]; omega) (by rw [k1]; omega)).trans (by rw [k1])
  refine va_sld hx hb hX hbl hbA hS (i_in (by omega) (by omega)) dL_law_524 ?_
  refine lv_topi (fun a2 ea2 => ?_)
  replace ea2 : xk1 = a2 := (ea2.trans (by rw [exk1]; congr 1; have := i_cl (x := v1) (by omega); have := i_cl (x := i) (by omega); omega)).symm
  subst ea2
  refine lv_aload_n hx hb dL_law_525 rfl (lv_at hl 0 rfl) ?_
  refine lv_iload_n hx hb dL_law_526 rfl (lv_at hl 3 rfl) ?_
  refine lv_iconst (v := 2) hx hb dL_law_527 (by decide) ?_
  refine lv_iadd hx hb dL_law_528 ?_
  refine lv_topi (fun v3 ev3 => ?_)
  try have tv3 : v3.toInt = i.toInt + 2 := by rw [ev3]; exact (i_add (x := i) (y := (2 : Int32)) (by rw [k2]; omega) (by rw [k2]; omega)).trans (by rw [k2])
  refine va_sld hx hb hX hbl hbA hS (i_in (by omega) (by omega)) dL_law_529 ?_
  refine lv_topi (fun a4 ea4 => ?_)
  replace ea4 : xk2 = a4 := (ea4.trans (by rw [exk2]; congr 1; have := i_cl (x := v3) (by omega); have := i_cl (x := i) (by omega); omega)).symm
  subst ea4
  refine lv_aload_n hx hb dL_law_530 rfl (lv_at hl 0 rfl) ?_
  refine lv_iload_n hx hb dL_law_531 rfl (lv_at hl 3 rfl) ?_
  refine lv_iconst (v := 3) hx hb dL_law_532 (by decide) ?_
  refine lv_iadd hx hb dL_law_533 ?_
  refine lv_topi (fun v5 ev5 => ?_)
  try have tv5 : v5.toInt = i.toInt + 3 := by rw [ev5]; exact (i_add (x := i) (y := (3 : Int32)) (by rw [k3]; omega) (by rw [k3]; omega)).trans (by rw [k3])
  refine va_sld hx hb hX hbl hbA hS (i_in (by omega) (by omega)) dL_law_534 ?_
  refine lv_topi (fun a6 ea6 => ?_)
  replace ea6 : xk3 = a6 := (ea6.trans (by rw [exk3]; congr 1; have := i_cl (x := v5) (by omega); have := i_cl (x := i) (by omega); omega)).symm
  subst ea6
  refine st_iQ (wr := [((ad 11), .inl (cI, 16, .inl (fx 0))), ((rw 0), .inl (cI, 60, .inl (rs 0))), ((rw 1), .inl (cI, 60, .inl (rs 1))), ((rw 2), .inl (cI, 60, .inl (rs 2))), ((rw 3), .inl (cI, 60, .inl (rs 3))), ((rw 4), .inl (cI, 60, .inl (rs 4))), ((rw 5), .inl (cI, 60, .inl (rs 5))), ((rw 6), .inl (cI, 60, .inl (rs 6))), ((rw 7), .inl (cI, 60, .inl (rs 7))), ((ad 1), .inr (9, [.ref (ad 12), .ref (ad 13), .ref (ad 14)])), ((ad 12), .inl (cQ, 8, .inr (.inr (.inr (.inr (fun i => if i < 8 then some (rw i) else none)))))), ((ad 13), .inl (cI, 8, .inl (fx 1))), ((ad 14), .inl (cI, 8, .inl (fx 2))), ((ad 3), .inr (1, [.ref (ad 31), .ref (ad 32), .ref (ad 33), .int (nx 4), .ref (ad 34), .ref (ad 35)])), ((ad 31), .inl (cI, 12, .inl (fx 11))), ((ad 32), .inl (cI, 12, .inl (fx 12))), ((ad 33), .inl (cI, 12, .inl (fx 13))), ((ad 34), .inl (cI, 6, .inl (fx 14))), ((ad 35), .inl (cI, 6, .inl (fx 15))), ((ad 4), .inr (7, [.ref (ad 36), .ref (ad 37), .ref (ad 38), .ref (ad 39), .ref (ad 40), .ref (ad 41), .int (nx 5)])), ((ad 36), .inl (cI, 40, .inl (fx 16))), ((ad 37), .inl (cI, 40, .inl (fx 17))), ((ad 38), .inl (cI, 40, .inl (fx 18))), ((ad 39), .inl (cI, 40, .inl (fx 19))), ((ad 40), .inl (cI, 40, .inl (fx 20))), ((ad 41), .inl (cI, 40, .inl (fx 21))), ((ad 5), .inr (8, [.ref (ad 42), .ref (ad 43), .ref (ad 44), .ref (ad 45), .int (nx 6), .ref (ad 46)])), ((ad 42), .inl (cI, 40, .inl (fx 22))), ((ad 43), .inl (cI, 40, .inl (fx 23))), ((ad 44), .inl (cI, 40, .inl (fx 24))), ((ad 45), .inl (cI, 40, .inl (fx 25))), ((ad 46), .inl (cI, 40, .inl (fx 26))), ((ad 6), .inr (2, [.ref (ad 47), .int (nx 7), .int (nx 8), .ref (ad 48), .ref (ad 49), .ref (ad 50), .int (nx 9), .ref (ad 51), .ref (ad 52), .ref (ad 53), .int (nx 10), .int (nx 11), .int (nx 12), .int (nx 13), .int (nx 14)])), ((ad 47), .inl (cY, 300, .inl (fx 27))), ((ad 48), .inl (cI, 12, .inl (fx 28))), ((ad 49), .inl (cI, 12, .inl (fx 29))), ((ad 50), .inl (cI, 12, .inl (fx 30))), ((ad 51), .inl (cI, 12, .inl (fx 31))), ((ad 52), .inl (cI, 12, .inl (fx 32))), ((ad 53), .inl (cI, 12, .inl (fx 33))), ((ad 7), .inr (0, [.ref (ad 54), .ref (ad 55), .ref (ad 56), .ref (ad 57), .int (nx 15)])), ((ad 54), .inl (cI, 60, .inl (fx 34))), ((ad 55), .inl (cI, 60, .inl (fx 35))), ((ad 56), .inl (cI, 60, .inl (fx 36))), ((ad 57), .inl (cI, 60, .inl (fx 37))), ((ad 8), .inr (5, [.int sd, .ref (ad 58)])), ((ad 58), .inl (cJ, 12, .inr (.inl lo))), ((ad 9), .inr (6, [.ref (ad 59), .ref (ad 60), .ref (ad 61), .ref (ad 62), .int (nx 16)])), ((ad 59), .inl (cI, 60, .inl (fx 38))), ((ad 60), .inl (cI, 60, .inl (fx 39))), ((ad 61), .inl (cI, 60, .inl (fx 40))), ((ad 62), .inl (cI, 60, .inl (fx 41))), ((ad 10), .inr (4, [.ref (ad 63), .ref (ad 64), .ref (ad 65), .int (nx 17)])), ((ad 63), .inl (cI, 20, .inl (fx 42))), ((ad 64), .inl (cI, 20, .inl (fx 43))), ((ad 65), .inl (cI, 20, .inl (fx 44)))]) (va_runV (C := RX10) (As := [.int xk1, .int xk2, .int xk3]) (rest := []) ⟨hx, hb, hml, hown, hts⟩ (ct_X10_share l D cI cY cJ cQ _ ad (nx 0) (nx 1) (nx 2) (nx 3) (fx 3) (fx 4) (fx 5) (fx 6) (fx 7) (fx 8) (fx 9) (fx 10) xk1 xk2 xk3 (by omega) (by omega) (by assumption)) (cwV 3 hts gL_law_X10_share rfl rfl rfl ⟨rfl, cdX10_share⟩ ⟨Nat.le_of_ble_eq_true rfl, Nat.le_of_ble_eq_true rfl⟩) (cPreV (hP.sub [0, 14, 15, 16, 17, 18, 19, 20, 21, 22] rfl) hK (hD.sub [0, 14, 15, 16, 17, 18, 19, 20, 21, 22] (by decide +kernel) rfl) hN (ci := 10) (q0 := 0) rfl rfl) rfl rfl hl.1 rfl (lv_room (Nat.le_of_ble_eq_true rfl)) dL_law_535 ⟨Nat.le_of_ble_eq_true rfl, Nat.le_of_ble_eq_true rfl⟩) hP hD hS hA [0, 14, 15, 16, 17, 18, 19, 20, 21, 22] [1, 2, 3, 4, 5, 6, 7, 8, 9, 10, 11, 12, 13, 23, 24, 25, 26, 27, 28, 29, 30, 31, 32, 33, 34, 35, 36, 37, 38, 39, 40, 41, 42, 43, 44, 45, 46, 47, 48, 49, 50, 51, 52, 53, 54, 55, 56, 57, 58, 59, 60, 61, 62, 63, 64, 65] rfl rfl (by decide +kernel) (by decide +kernel) (fun r9 u7 H locs hw8 hP hD hS => ?_)
  obtain ⟨pt_10, ps_11, ha_12, re_13⟩ := u7
  replace hw8 : True := hw8
  refine lv_pop hx hb dL_law_538 rfl ?_
  have hPx : va_P D vwCl (wX ad rw sd cI cY cJ cQ nx (upR (upR (upR (upR fx 7 pt_10) 8 ps_11) 9 ha_12) 10 re_13) rs lo ++ wM md sd cI cY cJ cQ ny fy fl) H := hP.part [56, 0, 1, 2, 3, 4, 5, 6, 7, 8, 9, 10, 11, 12, 57, 58, 59, 60, 61, 62, 63, 64, 65, 13, 14, 15, 16, 17, 18, 19, 20, 21, 22, 23, 24, 25, 26, 27, 28, 29, 30, 31, 32, 33, 34, 35, 36, 37, 38, 39, 40, 41, 42, 43, 44, 45, 46, 47, 48, 49, 50, 51, 52, 53, 54, 55] rfl
  have hDx : va_D (fun q : Nat => s.heap.size ≤ q) (wX ad rw sd cI cY cJ cQ nx (upR (upR (upR (upR fx 7 pt_10) 8 ps_11) 9 ha_12) 10 re_13) rs lo ++ wM md sd cI cY cJ cQ ny fy fl) := hD.part [56, 0, 1, 2, 3, 4, 5, 6, 7, 8, 9, 10, 11, 12, 57, 58, 59, 60, 61, 62, 63, 64, 65, 13, 14, 15, 16, 17, 18, 19, 20, 21, 22, 23, 24, 25, 26, 27, 28, 29, 30, 31, 32, 33, 34, 35, 36, 37, 38, 39, 40, 41, 42, 43, 44, 45, 46, 47, 48, 49, 50, 51, 52, 53, 54, 55] (by decide +kernel) rfl
  have hP := hPx.comm
  have hD := hDx.comm
  refine lv_aload_n hx hb dL_law_539 rfl (lv_at hl 2 rfl) ?_
  refine lv_aload_n hx hb dL_law_540 rfl (lv_at hl 0 rfl) ?_
  refine lv_iload_n hx hb dL_law_541 rfl (lv_at hl 3 rfl) ?_
  refine lv_iconst (v := 1) hx hb dL_law_542 (by decide) ?_
  refine lv_iadd hx hb dL_law_543 ?_
  refine lv_topi (fun v14 ev14 => ?_)
  try have tv14 : v14.toInt = i.toInt + 1 := by rw [ev14]; exact (i_add (x := i) (y := (1 : Int32)) (by rw [k1]; omega) (by rw [k1]; omega)).trans (by rw [k1])
  refine va_sld hx hb hX hbl hbA hS (i_in (by omega) (by omega)) dL_law_544 ?_
  refine lv_topi (fun a15 ea15 => ?_)
  replace ea15 : xk1 = a15 := (ea15.trans (by rw [exk1]; congr 1; have := i_cl (x := v14) (by omega); have := i_cl (x := i) (by omega); omega)).symm
  subst ea15
  refine lv_aload_n hx hb dL_law_545 rfl (lv_at hl 0 rfl) ?_
  refine lv_iload_n hx hb dL_law_546 rfl (lv_at hl 3 rfl) ?_
  refine lv_iconst (v := 2) hx hb dL_law_547 (by decide) ?_
  refine lv_iadd hx hb dL_law_548 ?_
  refine lv_topi (fun v16 ev16 => ?_)
  try have tv16 : v16.toInt = i.toInt + 2 := by rw [ev16]; exact (i_add (x := i) (y := (2 : Int32)) (by rw [k2]; omega) (by rw [k2]; omega)).trans (by rw [k2])
  refine va_sld hx hb hX hbl hbA hS (i_in (by omega) (by omega)) dL_law_549 ?_
  refine lv_topi (fun a17 ea17 => ?_)
  replace ea17 : xk2 = a17 := (ea17.trans (by rw [exk2]; congr 1; have := i_cl (x := v16) (by omega); have := i_cl (x := i) (by omega); omega)).symm
  subst ea17
  refine lv_aload_n hx hb dL_law_550 rfl (lv_at hl 0 rfl) ?_
  refine lv_iload_n hx hb dL_law_551 rfl (lv_at hl 3 rfl) ?_
  refine lv_iconst (v := 3) hx hb dL_law_552 (by decide) ?_
  refine lv_iadd hx hb dL_law_553 ?_
  refine lv_topi (fun v18 ev18 => ?_)
  try have tv18 : v18.toInt = i.toInt + 3 := by rw [ev18]; exact (i_add (x := i) (y := (3 : Int32)) (by rw [k3]; omega) (by rw [k3]; omega)).trans (by rw [k3])
  refine va_sld hx hb hX hbl hbA hS (i_in (by omega) (by omega)) dL_law_554 ?_
  refine lv_topi (fun a19 ea19 => ?_)
  replace ea19 : xk3 = a19 := (ea19.trans (by rw [exk3]; congr 1; have := i_cl (x := v18) (by omega); have := i_cl (x := i) (by omega); omega)).symm
  subst ea19
  refine st_iQ (wr := [((md 3), .inl (cI, 8, .inl (fy 0))), ((md 4), .inl (cI, 8, .inl (fy 1))), ((md 5), .inl (cI, 480, .inl (fy 2))), ((md 16), .inl (cI, 12, .inl (fy 10))), ((md 17), .inl (cI, 12, .inl (fy 11))), ((md 19), .inl (cI, 40, .inl (fy 12))), ((md 20), .inl (cI, 40, .inl (fy 13))), ((md 21), .inl (cI, 40, .inl (fy 14))), ((md 22), .inl (cI, 40, .inl (fy 15))), ((md 23), .inl (cI, 40, .inl (fy 16))), ((md 26), .inl (cI, 40, .inl (fy 17))), ((md 27), .inl (cI, 40, .inl (fy 18))), ((md 28), .inl (cI, 40, .inl (fy 19))), ((md 29), .inl (cI, 40, .inl (fy 20))), ((md 31), .inl (cI, 36, .inl (fy 21))), ((md 33), .inl (cI, 36, .inl (fy 22))), ((md 34), .inl (cI, 300, .inl (fy 23))), ((md 45), .inl (cI, 60, .inl (fy 24))), ((md 46), .inl (cI, 60, .inl (fy 25))), ((md 47), .inl (cI, 60, .inl (fy 26))), ((md 48), .inl (cI, 60, .inl (fy 27))), ((md 49), .inl (cI, 6, .inl (fy 28))), ((md 50), .inl (cI, 6, .inl (fy 29))), ((md 51), .inl (cI, 12, .inl (fy 30))), ((md 53), .inl (cI, 60, .inl (fy 31))), ((md 54), .inl (cI, 60, .inl (fy 32))), ((md 55), .inl (cI, 60, .inl (fy 33))), ((md 56), .inl (cI, 60, .inl (fy 34))), ((md 58), .inl (cI, 20, .inl (fy 35))), ((md 59), .inl (cI, 20, .inl (fy 36))), ((md 60), .inl (cI, 20, .inl (fy 37))), ((md 62), .inl (cI, 16, .inl (fy 38)))]) (va_runV (C := RX11) (As := [.int xk1, .int xk2, .int xk3]) (rest := []) ⟨hx, hb, hml, hown, hts⟩ (ct_X11_share l D cI cY cJ cQ _ md sd (ny 0) (ny 1) (ny 2) (ny 3) (ny 4) (ny 5) (ny 6) (ny 7) (ny 8) (ny 9) (ny 10) (ny 11) (ny 12) (ny 13) (ny 14) (ny 15) (ny 16) (ny 17) (ny 18) (ny 19) (ny 20) (ny 21) (ny 22) (fy 3) (fy 4) (fy 5) (fy 6) (fy 7) (fy 8) (fy 9) fl xk1 xk2 xk3 (by omega) (by omega)) (cwV 3 hts gL_law_X11_share rfl rfl rfl ⟨rfl, cdX11_share⟩ ⟨Nat.le_of_ble_eq_true rfl, Nat.le_of_ble_eq_true rfl⟩) (cPreV (hP.sub [0, 4, 5, 6, 7, 8, 9, 10, 11] rfl) hK (hD.sub [0, 4, 5, 6, 7, 8, 9, 10, 11] (by decide +kernel) rfl) hN (ci := 11) (q0 := 0) rfl rfl) rfl rfl hl.1 rfl (lv_room (Nat.le_of_ble_eq_true rfl)) dL_law_555 ⟨Nat.le_of_ble_eq_true rfl, Nat.le_of_ble_eq_true rfl⟩) hP hD hS hA [0, 4, 5, 6, 7, 8, 9, 10, 11] [1, 2, 3, 12, 13, 14, 15, 16, 17, 18, 19, 20, 21, 22, 23, 24, 25, 26, 27, 28, 29, 30, 31, 32, 33, 34, 35, 36, 37, 38, 39, 40] rfl rfl (by decide +kernel) (by decide +kernel) (fun r22 u20 H locs hw21 hP hD hS => ?_)
  obtain ⟨mh_23, mp_24, mt_25, mf_26⟩ := u20
  replace hw21 : True := hw21
  refine lv_pop hx hb dL_law_558 rfl ?_
  refine lv_goto (tgt := 1652) hx hb dL_law_559 (by decide) ?_
  have hPm : va_P D vwCl (wM md sd cI cY cJ cQ (upd ny 0 0) (upR (upR (upR fy 7 mh_23) 8 mp_24) 9 mt_25) mf_26 ++ wX ad rw sd cI cY cJ cQ nx (upR (upR (upR (upR fx 7 pt_10) 8 ps_11) 9 ha_12) 10 re_13) rs lo) H := hP.part [32, 0, 1, 2, 33, 34, 35, 36, 37, 38, 39, 40, 3, 4, 5, 6, 7, 8, 9, 10, 11, 12, 13, 14, 15, 16, 17, 18, 19, 20, 21, 22, 23, 24, 25, 26, 27, 28, 29, 30, 31] rfl
  have hDm : va_D (fun q : Nat => s.heap.size ≤ q) (wM md sd cI cY cJ cQ (upd ny 0 0) (upR (upR (upR fy 7 mh_23) 8 mp_24) 9 mt_25) mf_26 ++ wX ad rw sd cI cY cJ cQ nx (upR (upR (upR (upR fx 7 pt_10) 8 ps_11) 9 ha_12) 10 re_13) rs lo) := hD.part [32, 0, 1, 2, 33, 34, 35, 36, 37, 38, 39, 40, 3, 4, 5, 6, 7, 8, 9, 10, 11, 12, 13, 14, 15, 16, 17, 18, 19, 20, 21, 22, 23, 24, 25, 26, 27, 28, 29, 30, 31] (by decide +kernel) rfl
  exact kk nx (upR (upR (upR (upR fx 7 pt_10) 8 ps_11) 9 ha_12) 10 re_13) rs lo (upd ny 0 0) (upR (upR (upR fy 7 mh_23) 8 mp_24) 9 mt_25) mf_26 H locs ls ⟨Xhna, Xhnb, XH, Xcna, Xcnb, Xpna, Xpnb, XO, Xgna, Xgnb, Xlna, Xlnb, Xdla, Xdlb, Xana, Xanb, Xuna, Xunb, Xlca, Xlcb, Xtna, Xtnb, XS, Mhna, Mhnb, MH, MS, Mmlna, Mmlnb, Mmtna, Mmtnb, Ccn, Cfo, Cwo, Cpn, Cpk, Cpf, Cpo, Cpd, Cpe, Cgn, Cgk, Cgs, Cgd, Cge, Can, Cak, Cah, Cay, Caz, Cun, Cuk, Cuy, Cuw, Cum, Clc, Clp, Cla, Clb, Caw, Ciw, Cln, Ctd⟩ hPm.comm hDm.comm hS hl
