theorem cdX10_holds : yX10_holds.cls ≠ "java/lang/invoke/MethodHandle" ∧ yX10_holds.cls ≠ "java/lang/invoke/VarHandle" ∧ (parseMethodDescriptor yX10_holds.desc).map (fun d => d.parameters.length) = some 3 := by decide +kernel
theorem cdX10_percent : yX10_percent.cls ≠ "java/lang/invoke/MethodHandle" ∧ yX10_percent.cls ≠ "java/lang/invoke/VarHandle" ∧ (parseMethodDescriptor yX10_percent.desc).map (fun d => d.parameters.length) = some 3 := by decide +kernel
theorem cdX10_share : yX10_share.cls ≠ "java/lang/invoke/MethodHandle" ∧ yX10_share.cls ≠ "java/lang/invoke/VarHandle" ∧ (parseMethodDescriptor yX10_share.desc).map (fun d => d.parameters.length) = some 3 := by decide +kernel
theorem cdX11_hold : yX11_hold.cls ≠ "java/lang/invoke/MethodHandle" ∧ yX11_hold.cls ≠ "java/lang/invoke/VarHandle" ∧ (parseMethodDescriptor yX11_hold.desc).map (fun d => d.parameters.length) = some 4 := by decide +kernel
theorem cdX11_holds : yX11_holds.cls ≠ "java/lang/invoke/MethodHandle" ∧ yX11_holds.cls ≠ "java/lang/invoke/VarHandle" ∧ (parseMethodDescriptor yX11_holds.desc).map (fun d => d.parameters.length) = some 3 := by decide +kernel
theorem cdX11_percent : yX11_percent.cls ≠ "java/lang/invoke/MethodHandle" ∧ yX11_percent.cls ≠ "java/lang/invoke/VarHandle" ∧ (parseMethodDescriptor yX11_percent.desc).map (fun d => d.parameters.length) = some 3 := by decide +kernel
theorem cdX11_share : yX11_share.cls ≠ "java/lang/invoke/MethodHandle" ∧ yX11_share.cls ≠ "java/lang/invoke/VarHandle" ∧ (parseMethodDescriptor yX11_share.desc).map (fun d => d.parameters.length) = some 3 := by decide +kernel
theorem Gd_X10_holds : gdA wsX10_holds := gd_cons (by decide +kernel) (gd_app (gd_all (ws := wsX10_holds_o1) (by decide +kernel)) (gd_app (gd_app (gd_app (gd_app Gd_X100 Gd_X90) Gd_X30) (gd_app Gd_X10_isBelow Gd_X10_isFrom)) (gd_app (gd_app (gd_app Gd_X9_isMissing Gd_X10_finding) Gd_X9_hasPlaces) (gd_app Gd_X10_hold Gd_X10_passed))))
theorem Gd_X10_percent : gdA wsX10_percent := gd_cons (by decide +kernel) (gd_app (gd_all (ws := wsX10_percent_o1) (by decide +kernel)) (gd_app (gd_app (gd_app Gd_X100 Gd_X30) Gd_X10_isPair) (gd_app (gd_app Gd_X10_isDay Gd_X3_lookAt) Gd_X3_partOf)))
theorem Gd_X10_share : gdA wsX10_share := gd_cons (by decide +kernel) (gd_app (gd_all (ws := wsX10_share_o1) (by decide +kernel)) (gd_app (gd_app (gd_app Gd_X100 Gd_X30) (gd_app Gd_X10_isPerson Gd_X10_isOwner)) (gd_app (gd_app Gd_X10_isDay Gd_X3_lookAt) Gd_X3_shareOf)))
theorem Gd_X11_hold : gdA wsX11_hold := gd_cons (by decide +kernel) (gd_app (gd_all (ws := wsX11_hold_o1) (by decide +kernel)) (gd_app Gd_X110 Gd_X11_holding))
theorem Gd_X11_holds : gdA wsX11_holds := gd_cons (by decide +kernel) (gd_app (gd_all (ws := wsX11_holds_o1) (by decide +kernel)) (gd_app (gd_app (gd_app Gd_X110 Gd_X11_isSheet) Gd_X11_in) (gd_app Gd_X11_found Gd_X11_holding)))
theorem Gd_X11_percent : gdA wsX11_percent := gd_cons (by decide +kernel) (gd_app (gd_all (ws := wsX11_percent_o1) (by decide +kernel)) (gd_app (gd_app (gd_app Gd_X110 Gd_X11_isOwner) Gd_X11_isCompany) (gd_app Gd_X11_isDay Gd_X11_percentOf)))
theorem Gd_X11_share : gdA wsX11_share := gd_cons (by decide +kernel) (gd_app (gd_all (ws := wsX11_share_o1) (by decide +kernel)) (gd_app (gd_app (gd_app Gd_X110 Gd_X11_isPerson) Gd_X11_isOwner) (gd_app Gd_X11_isDay Gd_X11_shareOf)))
theorem ggL_law_X10_hold : GoodIn wsL_law wsX10_hold := goodIn_s (fun _ h => (wm_r (wm_l (wm_r (wm_l (wm_l (wm_l (wm_l (wm_l h))))))))) Gd_X10_hold
theorem gL_law_X10_hold : GoodIn wsL_law (wsV RL 40 RX10 yX10_hold wsX10_hold) := goodIn_V (own := RL) (idx := 40) (C := RX10) (y := yX10_hold) (wm_l (wm_l (wm_l (wm_l (wm_r (wm_i 14 rfl)))))) (wm_l (wm_l (wm_l (wm_l (wm_r (wm_i 15 rfl)))))) (wm_r (wm_l (wm_r (wm_l (wm_l (wm_l (wm_r (wm_t (wm_l (wm_i 20 rfl)))))))))) (wm_l (wm_l (wm_l (wm_l (wm_l (wm_i 2 rfl)))))) ggL_law_X10_hold
theorem ggL_law_X11_hold : GoodIn wsL_law wsX11_hold := goodIn_s (fun _ h => (wm_r (wm_l (wm_r (wm_l (wm_l (wm_l (wm_l (wm_r h))))))))) Gd_X11_hold
theorem gL_law_X11_hold : GoodIn wsL_law (wsV RL 44 RX11 yX11_hold wsX11_hold) := goodIn_V (own := RL) (idx := 44) (C := RX11) (y := yX11_hold) (wm_l (wm_l (wm_l (wm_l (wm_r (wm_i 16 rfl)))))) (wm_l (wm_l (wm_l (wm_l (wm_r (wm_i 17 rfl)))))) (wm_l (wm_l (wm_l (wm_l (wm_r (wm_i 18 rfl)))))) (wm_l (wm_l (wm_l (wm_l (wm_l (wm_i 5 rfl)))))) ggL_law_X11_hold
theorem ggL_law_X10_holds : GoodIn wsL_law wsX10_holds := goodIn_s (fun _ h => (wm_r (wm_l (wm_r (wm_l (wm_l (wm_l (wm_r h)))))))) Gd_X10_holds
theorem gL_law_X10_holds : GoodIn wsL_law (wsV RL 45 RX10 yX10_holds wsX10_holds) := goodIn_V (own := RL) (idx := 45) (C := RX10) (y := yX10_holds) (wm_l (wm_l (wm_l (wm_l (wm_r (wm_i 19 rfl)))))) (wm_l (wm_l (wm_l (wm_l (wm_r (wm_i 20 rfl)))))) (wm_l (wm_l (wm_l (wm_l (wm_r (wm_i 21 rfl)))))) (wm_l (wm_l (wm_l (wm_l (wm_l (wm_i 2 rfl)))))) ggL_law_X10_holds
theorem ggL_law_X11_holds : GoodIn wsL_law wsX11_holds := goodIn_s (fun _ h => (wm_r (wm_l (wm_r (wm_l (wm_l (wm_r (wm_l (wm_l h))))))))) Gd_X11_holds
theorem gL_law_X11_holds : GoodIn wsL_law (wsV RL 48 RX11 yX11_holds wsX11_holds) := goodIn_V (own := RL) (idx := 48) (C := RX11) (y := yX11_holds) (wm_l (wm_l (wm_l (wm_l (wm_r (wm_i 22 rfl)))))) (wm_l (wm_l (wm_l (wm_l (wm_r (wm_i 23 rfl)))))) (wm_l (wm_l (wm_l (wm_r (wm_i 0 rfl))))) (wm_l (wm_l (wm_l (wm_l (wm_l (wm_i 5 rfl)))))) ggL_law_X11_holds
theorem ggL_law_X10_percent : GoodIn wsL_law wsX10_percent := goodIn_s (fun _ h => (wm_r (wm_l (wm_r (wm_l (wm_l (wm_r (wm_l (wm_r h))))))))) Gd_X10_percent
theorem gL_law_X10_percent : GoodIn wsL_law (wsV RL 49 RX10 yX10_percent wsX10_percent) := goodIn_V (own := RL) (idx := 49) (C := RX10) (y := yX10_percent) (wm_l (wm_l (wm_l (wm_r (wm_i 1 rfl))))) (wm_l (wm_l (wm_l (wm_r (wm_i 2 rfl))))) (wm_l (wm_l (wm_l (wm_r (wm_i 3 rfl))))) (wm_l (wm_l (wm_l (wm_l (wm_l (wm_i 2 rfl)))))) ggL_law_X10_percent
theorem ggL_law_X11_percent : GoodIn wsL_law wsX11_percent := goodIn_s (fun _ h => (wm_r (wm_l (wm_r (wm_l (wm_l (wm_r (wm_r h)))))))) Gd_X11_percent
theorem gL_law_X11_percent : GoodIn wsL_law (wsV RL 52 RX11 yX11_percent wsX11_percent) := goodIn_V (own := RL) (idx := 52) (C := RX11) (y := yX11_percent) (wm_l (wm_l (wm_l (wm_r (wm_i 4 rfl))))) (wm_l (wm_l (wm_l (wm_r (wm_i 5 rfl))))) (wm_l (wm_l (wm_l (wm_r (wm_i 6 rfl))))) (wm_l (wm_l (wm_l (wm_l (wm_l (wm_i 5 rfl)))))) ggL_law_X11_percent
theorem ggL_law_X10_share : GoodIn wsL_law wsX10_share := goodIn_s (fun _ h => (wm_r (wm_l (wm_r (wm_l (wm_r (wm_l (wm_l (wm_l h))))))))) Gd_X10_share
theorem gL_law_X10_share : GoodIn wsL_law (wsV RL 53 RX10 yX10_share wsX10_share) := goodIn_V (own := RL) (idx := 53) (C := RX10) (y := yX10_share) (wm_l (wm_l (wm_l (wm_r (wm_i 7 rfl))))) (wm_l (wm_l (wm_l (wm_r (wm_i 8 rfl))))) (wm_l (wm_l (wm_l (wm_r (wm_i 9 rfl))))) (wm_l (wm_l (wm_l (wm_l (wm_l (wm_i 2 rfl)))))) ggL_law_X10_share
theorem ggL_law_X11_share : GoodIn wsL_law wsX11_share := goodIn_s (fun _ h => (wm_r (wm_l (wm_r (wm_l (wm_r (wm_l (wm_l (wm_r h))))))))) Gd_X11_share
theorem gL_law_X11_share : GoodIn wsL_law (wsV RL 56 RX11 yX11_share wsX11_share) := goodIn_V (own := RL) (idx := 56) (C := RX11) (y := yX11_share) (wm_l (wm_l (wm_l (wm_r (wm_i 10 rfl))))) (wm_l (wm_l (wm_l (wm_r (wm_i 11 rfl))))) (wm_l (wm_l (wm_l (wm_r (wm_i 12 rfl))))) (wm_l (wm_l (wm_l (wm_l (wm_l (wm_i 5 rfl)))))) ggL_law_X11_share
theorem sB_16 : dqA cL_law 384 sL_16 := dq_next sB_15 24 rfl
theorem sB_17 : dqA cL_law 408 sL_17 := dq_next sB_16 24 rfl
theorem sB_18 : dqA cL_law 432 sL_18 := dq_next sB_17 24 rfl
theorem sB_19 : dqA cL_law 456 sL_19 := dq_next sB_18 24 rfl
theorem sB_20 : dqA cL_law 480 sL_20 := dq_next sB_19 24 rfl
theorem sB_21 : dqA cL_law 504 sL_21 := dq_next sB_20 24 rfl
theorem sB_22 : dqA cL_law 528 sL_22 := dq_next sB_21 24 rfl
theorem sB_23 : dqA cL_law 552 sL_23 := dq_next sB_22 24 rfl
theorem dL_law_380 : decode cL_law 380 = .ok (.aload_n 1, 1) := dL_law_all14.2.2.2.2.2.2.2.2.1
theorem dL_law_381 : decode cL_law 381 = .ok (.aload_n 0, 1) := dL_law_all14.2.2.2.2.2.2.2.2.2.1
theorem dL_law_382 : decode cL_law 382 = .ok (.iload_n 3, 1) := dL_law_all14.2.2.2.2.2.2.2.2.2.2.1
theorem dL_law_383 : decode cL_law 383 = .ok (.iconst 1, 1) := dL_law_all14.2.2.2.2.2.2.2.2.2.2.2
theorem dL_law_all15 : decode cL_law 384 = .ok (.iadd, 1) ∧ decode cL_law 385 = .ok (.iaload, 1) ∧ decode cL_law 386 = .ok (.aload_n 0, 1) ∧ decode cL_law 387 = .ok (.iload_n 3, 1) ∧ decode cL_law 388 = .ok (.iconst 2, 1) ∧ decode cL_law 389 = .ok (.iadd, 1) ∧ decode cL_law 390 = .ok (.iaload, 1) ∧ decode cL_law 391 = .ok (.aload_n 0, 1) ∧ decode cL_law 392 = .ok (.iload_n 3, 1) ∧ decode cL_law 393 = .ok (.iconst 3, 1) ∧ decode cL_law 394 = .ok (.iadd, 1) ∧ decode cL_law 395 = .ok (.iaload, 1) := ⟨dq_96 sB_16 0 rfl, dq_46 sB_16 1 rfl, dq_42 sB_16 2 rfl, dq_29 sB_16 3 rfl, dq_5 sB_16 4 rfl, dq_96 sB_16 5 rfl, dq_46 sB_16 6 rfl, dq_42 sB_16 7 rfl, dq_29 sB_16 8 rfl, dq_6 sB_16 9 rfl, dq_96 sB_16 10 rfl, dq_46 sB_16 11 rfl⟩
theorem dL_law_384 : decode cL_law 384 = .ok (.iadd, 1) := dL_law_all15.1
theorem dL_law_385 : decode cL_law 385 = .ok (.iaload, 1) := dL_law_all15.2.1
theorem dL_law_386 : decode cL_law 386 = .ok (.aload_n 0, 1) := dL_law_all15.2.2.1
theorem dL_law_387 : decode cL_law 387 = .ok (.iload_n 3, 1) := dL_law_all15.2.2.2.1
theorem dL_law_388 : decode cL_law 388 = .ok (.iconst 2, 1) := dL_law_all15.2.2.2.2.1
theorem dL_law_389 : decode cL_law 389 = .ok (.iadd, 1) := dL_law_all15.2.2.2.2.2.1
theorem dL_law_390 : decode cL_law 390 = .ok (.iaload, 1) := dL_law_all15.2.2.2.2.2.2.1
theorem dL_law_391 : decode cL_law 391 = .ok (.aload_n 0, 1) := dL_law_all15.2.2.2.2.2.2.2.1
theorem dL_law_392 : decode cL_law 392 = .ok (.iload_n 3, 1) := dL_law_all15.2.2.2.2.2.2.2.2.1
theorem dL_law_393 : decode cL_law 393 = .ok (.iconst 3, 1) := dL_law_all15.2.2.2.2.2.2.2.2.2.1
theorem dL_law_394 : decode cL_law 394 = .ok (.iadd, 1) := dL_law_all15.2.2.2.2.2.2.2.2.2.2.1
theorem dL_law_395 : decode cL_law 395 = .ok (.iaload, 1) := dL_law_all15.2.2.2.2.2.2.2.2.2.2.2
theorem dL_law_all16 : decode cL_law 396 = .ok (.aload_n 0, 1) ∧ decode cL_law 397 = .ok (.iload_n 3, 1) ∧ decode cL_law 398 = .ok (.iconst 4, 1) ∧ decode cL_law 399 = .ok (.iadd, 1) ∧ decode cL_law 400 = .ok (.iaload, 1) ∧ decode cL_law 401 = .ok (.invokevirtual 40, 3) ∧ decode cL_law 404 = .ok (.pop, 1) ∧ decode cL_law 405 = .ok (.aload_n 2, 1) ∧ decode cL_law 406 = .ok (.aload_n 0, 1) ∧ decode cL_law 407 = .ok (.iload_n 3, 1) ∧ decode cL_law 408 = .ok (.iconst 1, 1) ∧ decode cL_law 409 = .ok (.iadd, 1) := ⟨dq_42 sB_16 12 rfl, dq_29 sB_16 13 rfl, dq_7 sB_16 14 rfl, dq_96 sB_16 15 rfl, dq_46 sB_16 16 rfl, dq_182 sB_16 17 rfl 40 (by decide), dq_87 sB_16 20 rfl, dq_44 sB_16 21 rfl, dq_42 sB_16 22 rfl, dq_29 sB_16 23 rfl, dq_4 sB_17 0 rfl, dq_96 sB_17 1 rfl⟩
theorem dL_law_396 : decode cL_law 396 = .ok (.aload_n 0, 1) := dL_law_all16.1
theorem dL_law_397 : decode cL_law 397 = .ok (.iload_n 3, 1) := dL_law_all16.2.1
theorem dL_law_398 : decode cL_law 398 = .ok (.iconst 4, 1) := dL_law_all16.2.2.1
theorem dL_law_399 : decode cL_law 399 = .ok (.iadd, 1) := dL_law_all16.2.2.2.1
theorem dL_law_400 : decode cL_law 400 = .ok (.iaload, 1) := dL_law_all16.2.2.2.2.1
theorem dL_law_401 : decode cL_law 401 = .ok (.invokevirtual 40, 3) := dL_law_all16.2.2.2.2.2.1
theorem dL_law_404 : decode cL_law 404 = .ok (.pop, 1) := dL_law_all16.2.2.2.2.2.2.1
theorem dL_law_405 : decode cL_law 405 = .ok (.aload_n 2, 1) := dL_law_all16.2.2.2.2.2.2.2.1
theorem dL_law_406 : decode cL_law 406 = .ok (.aload_n 0, 1) := dL_law_all16.2.2.2.2.2.2.2.2.1
theorem dL_law_407 : decode cL_law 407 = .ok (.iload_n 3, 1) := dL_law_all16.2.2.2.2.2.2.2.2.2.1
theorem dL_law_408 : decode cL_law 408 = .ok (.iconst 1, 1) := dL_law_all16.2.2.2.2.2.2.2.2.2.2.1
theorem dL_law_409 : decode cL_law 409 = .ok (.iadd, 1) := dL_law_all16.2.2.2.2.2.2.2.2.2.2.2
theorem dL_law_all17 : decode cL_law 410 = .ok (.iaload, 1) ∧ decode cL_law 411 = .ok (.aload_n 0, 1) ∧ decode cL_law 412 = .ok (.iload_n 3, 1) ∧ decode cL_law 413 = .ok (.iconst 2, 1) ∧ decode cL_law 414 = .ok (.iadd, 1) ∧ decode cL_law 415 = .ok (.iaload, 1) ∧ decode cL_law 416 = .ok (.aload_n 0, 1) ∧ decode cL_law 417 = .ok (.iload_n 3, 1) ∧ decode cL_law 418 = .ok (.iconst 3, 1) ∧ decode cL_law 419 = .ok (.iadd, 1) ∧ decode cL_law 420 = .ok (.iaload, 1) ∧ decode cL_law 421 = .ok (.aload_n 0, 1) := ⟨dq_46 sB_17 2 rfl, dq_42 sB_17 3 rfl, dq_29 sB_17 4 rfl, dq_5 sB_17 5 rfl, dq_96 sB_17 6 rfl, dq_46 sB_17 7 rfl, dq_42 sB_17 8 rfl, dq_29 sB_17 9 rfl, dq_6 sB_17 10 rfl, dq_96 sB_17 11 rfl, dq_46 sB_17 12 rfl, dq_42 sB_17 13 rfl⟩
theorem dL_law_410 : decode cL_law 410 = .ok (.iaload, 1) := dL_law_all17.1
theorem dL_law_411 : decode cL_law 411 = .ok (.aload_n 0, 1) := dL_law_all17.2.1
theorem dL_law_412 : decode cL_law 412 = .ok (.iload_n 3, 1) := dL_law_all17.2.2.1
theorem dL_law_413 : decode cL_law 413 = .ok (.iconst 2, 1) := dL_law_all17.2.2.2.1
theorem dL_law_414 : decode cL_law 414 = .ok (.iadd, 1) := dL_law_all17.2.2.2.2.1
theorem dL_law_415 : decode cL_law 415 = .ok (.iaload, 1) := dL_law_all17.2.2.2.2.2.1
theorem dL_law_416 : decode cL_law 416 = .ok (.aload_n 0, 1) := dL_law_all17.2.2.2.2.2.2.1
theorem dL_law_417 : decode cL_law 417 = .ok (.iload_n 3, 1) := dL_law_all17.2.2.2.2.2.2.2.1
theorem dL_law_418 : decode cL_law 418 = .ok (.iconst 3, 1) := dL_law_all17.2.2.2.2.2.2.2.2.1
theorem dL_law_419 : decode cL_law 419 = .ok (.iadd, 1) := dL_law_all17.2.2.2.2.2.2.2.2.2.1
theorem dL_law_420 : decode cL_law 420 = .ok (.iaload, 1) := dL_law_all17.2.2.2.2.2.2.2.2.2.2.1
theorem dL_law_421 : decode cL_law 421 = .ok (.aload_n 0, 1) := dL_law_all17.2.2.2.2.2.2.2.2.2.2.2
theorem dL_law_all18 : decode cL_law 422 = .ok (.iload_n 3, 1) ∧ decode cL_law 423 = .ok (.iconst 4, 1) ∧ decode cL_law 424 = .ok (.iadd, 1) ∧ decode cL_law 425 = .ok (.iaload, 1) ∧ decode cL_law 426 = .ok (.invokevirtual 44, 3) ∧ decode cL_law 429 = .ok (.pop, 1) ∧ decode cL_law 430 = .ok (.goto 1222, 3) ∧ decode cL_law 433 = .ok (.aload_n 1, 1) ∧ decode cL_law 434 = .ok (.aload_n 0, 1) ∧ decode cL_law 435 = .ok (.iload_n 3, 1) ∧ decode cL_law 436 = .ok (.iconst 1, 1) ∧ decode cL_law 437 = .ok (.iadd, 1) := ⟨dq_29 sB_17 14 rfl, dq_7 sB_17 15 rfl, dq_96 sB_17 16 rfl, dq_46 sB_17 17 rfl, dq_182 sB_17 18 rfl 44 (by decide), dq_87 sB_17 21 rfl, dq_167 sB_17 22 rfl 1222 (by decide), dq_43 sB_18 1 rfl, dq_42 sB_18 2 rfl, dq_29 sB_18 3 rfl, dq_4 sB_18 4 rfl, dq_96 sB_18 5 rfl⟩
theorem dL_law_422 : decode cL_law 422 = .ok (.iload_n 3, 1) := dL_law_all18.1
theorem dL_law_423 : decode cL_law 423 = .ok (.iconst 4, 1) := dL_law_all18.2.1
theorem dL_law_424 : decode cL_law 424 = .ok (.iadd, 1) := dL_law_all18.2.2.1
theorem dL_law_425 : decode cL_law 425 = .ok (.iaload, 1) := dL_law_all18.2.2.2.1
theorem dL_law_426 : decode cL_law 426 = .ok (.invokevirtual 44, 3) := dL_law_all18.2.2.2.2.1
theorem dL_law_429 : decode cL_law 429 = .ok (.pop, 1) := dL_law_all18.2.2.2.2.2.1
theorem dL_law_430 : decode cL_law 430 = .ok (.goto 1222, 3) := dL_law_all18.2.2.2.2.2.2.1
theorem dL_law_433 : decode cL_law 433 = .ok (.aload_n 1, 1) := dL_law_all18.2.2.2.2.2.2.2.1
theorem dL_law_434 : decode cL_law 434 = .ok (.aload_n 0, 1) := dL_law_all18.2.2.2.2.2.2.2.2.1
theorem dL_law_435 : decode cL_law 435 = .ok (.iload_n 3, 1) := dL_law_all18.2.2.2.2.2.2.2.2.2.1
theorem dL_law_436 : decode cL_law 436 = .ok (.iconst 1, 1) := dL_law_all18.2.2.2.2.2.2.2.2.2.2.1
theorem dL_law_437 : decode cL_law 437 = .ok (.iadd, 1) := dL_law_all18.2.2.2.2.2.2.2.2.2.2.2
theorem dL_law_all19 : decode cL_law 438 = .ok (.iaload, 1) ∧ decode cL_law 439 = .ok (.aload_n 0, 1) ∧ decode cL_law 440 = .ok (.iload_n 3, 1) ∧ decode cL_law 441 = .ok (.iconst 2, 1) ∧ decode cL_law 442 = .ok (.iadd, 1) ∧ decode cL_law 443 = .ok (.iaload, 1) ∧ decode cL_law 444 = .ok (.aload_n 0, 1) ∧ decode cL_law 445 = .ok (.iload_n 3, 1) ∧ decode cL_law 446 = .ok (.iconst 3, 1) ∧ decode cL_law 447 = .ok (.iadd, 1) ∧ decode cL_law 448 = .ok (.iaload, 1) ∧ decode cL_law 449 = .ok (.invokevirtual 45, 3) := ⟨dq_46 sB_18 6 rfl, dq_42 sB_18 7 rfl, dq_29 sB_18 8 rfl, dq_5 sB_18 9 rfl, dq_96 sB_18 10 rfl, dq_46 sB_18 11 rfl, dq_42 sB_18 12 rfl, dq_29 sB_18 13 rfl, dq_6 sB_18 14 rfl, dq_96 sB_18 15 rfl, dq_46 sB_18 16 rfl, dq_182 sB_18 17 rfl 45 (by decide)⟩
theorem dL_law_438 : decode cL_law 438 = .ok (.iaload, 1) := dL_law_all19.1
theorem dL_law_439 : decode cL_law 439 = .ok (.aload_n 0, 1) := dL_law_all19.2.1
theorem dL_law_440 : decode cL_law 440 = .ok (.iload_n 3, 1) := dL_law_all19.2.2.1
theorem dL_law_441 : decode cL_law 441 = .ok (.iconst 2, 1) := dL_law_all19.2.2.2.1
theorem dL_law_442 : decode cL_law 442 = .ok (.iadd, 1) := dL_law_all19.2.2.2.2.1
theorem dL_law_443 : decode cL_law 443 = .ok (.iaload, 1) := dL_law_all19.2.2.2.2.2.1
theorem dL_law_444 : decode cL_law 444 = .ok (.aload_n 0, 1) := dL_law_all19.2.2.2.2.2.2.1
theorem dL_law_445 : decode cL_law 445 = .ok (.iload_n 3, 1) := dL_law_all19.2.2.2.2.2.2.2.1
theorem dL_law_446 : decode cL_law 446 = .ok (.iconst 3, 1) := dL_law_all19.2.2.2.2.2.2.2.2.1
theorem dL_law_447 : decode cL_law 447 = .ok (.iadd, 1) := dL_law_all19.2.2.2.2.2.2.2.2.2.1
theorem dL_law_448 : decode cL_law 448 = .ok (.iaload, 1) := dL_law_all19.2.2.2.2.2.2.2.2.2.2.1
theorem dL_law_449 : decode cL_law 449 = .ok (.invokevirtual 45, 3) := dL_law_all19.2.2.2.2.2.2.2.2.2.2.2
theorem dL_law_all20 : decode cL_law 452 = .ok (.pop, 1) ∧ decode cL_law 453 = .ok (.aload_n 2, 1) ∧ decode cL_law 454 = .ok (.aload_n 0, 1) ∧ decode cL_law 455 = .ok (.iload_n 3, 1) ∧ decode cL_law 456 = .ok (.iconst 1, 1) ∧ decode cL_law 457 = .ok (.iadd, 1) ∧ decode cL_law 458 = .ok (.iaload, 1) ∧ decode cL_law 459 = .ok (.aload_n 0, 1) ∧ decode cL_law 460 = .ok (.iload_n 3, 1) ∧ decode cL_law 461 = .ok (.iconst 2, 1) ∧ decode cL_law 462 = .ok (.iadd, 1) ∧ decode cL_law 463 = .ok (.iaload, 1) := ⟨dq_87 sB_18 20 rfl, dq_44 sB_18 21 rfl, dq_42 sB_18 22 rfl, dq_29 sB_18 23 rfl, dq_4 sB_19 0 rfl, dq_96 sB_19 1 rfl, dq_46 sB_19 2 rfl, dq_42 sB_19 3 rfl, dq_29 sB_19 4 rfl, dq_5 sB_19 5 rfl, dq_96 sB_19 6 rfl, dq_46 sB_19 7 rfl⟩
theorem dL_law_452 : decode cL_law 452 = .ok (.pop, 1) := dL_law_all20.1
theorem dL_law_453 : decode cL_law 453 = .ok (.aload_n 2, 1) := dL_law_all20.2.1
theorem dL_law_454 : decode cL_law 454 = .ok (.aload_n 0, 1) := dL_law_all20.2.2.1
theorem dL_law_455 : decode cL_law 455 = .ok (.iload_n 3, 1) := dL_law_all20.2.2.2.1
theorem dL_law_456 : decode cL_law 456 = .ok (.iconst 1, 1) := dL_law_all20.2.2.2.2.1
theorem dL_law_457 : decode cL_law 457 = .ok (.iadd, 1) := dL_law_all20.2.2.2.2.2.1
theorem dL_law_458 : decode cL_law 458 = .ok (.iaload, 1) := dL_law_all20.2.2.2.2.2.2.1
theorem dL_law_459 : decode cL_law 459 = .ok (.aload_n 0, 1) := dL_law_all20.2.2.2.2.2.2.2.1
theorem dL_law_460 : decode cL_law 460 = .ok (.iload_n 3, 1) := dL_law_all20.2.2.2.2.2.2.2.2.1
theorem dL_law_461 : decode cL_law 461 = .ok (.iconst 2, 1) := dL_law_all20.2.2.2.2.2.2.2.2.2.1
theorem dL_law_462 : decode cL_law 462 = .ok (.iadd, 1) := dL_law_all20.2.2.2.2.2.2.2.2.2.2.1
theorem dL_law_463 : decode cL_law 463 = .ok (.iaload, 1) := dL_law_all20.2.2.2.2.2.2.2.2.2.2.2
theorem dL_law_all21 : decode cL_law 464 = .ok (.aload_n 0, 1) ∧ decode cL_law 465 = .ok (.iload_n 3, 1) ∧ decode cL_law 466 = .ok (.iconst 3, 1) ∧ decode cL_law 467 = .ok (.iadd, 1) ∧ decode cL_law 468 = .ok (.iaload, 1) ∧ decode cL_law 469 = .ok (.invokevirtual 48, 3) ∧ decode cL_law 472 = .ok (.pop, 1) ∧ decode cL_law 473 = .ok (.goto 1179, 3) ∧ decode cL_law 476 = .ok (.aload_n 1, 1) ∧ decode cL_law 477 = .ok (.aload_n 0, 1) ∧ decode cL_law 478 = .ok (.iload_n 3, 1) ∧ decode cL_law 479 = .ok (.iconst 1, 1) := ⟨dq_42 sB_19 8 rfl, dq_29 sB_19 9 rfl, dq_6 sB_19 10 rfl, dq_96 sB_19 11 rfl, dq_46 sB_19 12 rfl, dq_182 sB_19 13 rfl 48 (by decide), dq_87 sB_19 16 rfl, dq_167 sB_19 17 rfl 1179 (by decide), dq_43 sB_19 20 rfl, dq_42 sB_19 21 rfl, dq_29 sB_19 22 rfl, dq_4 sB_19 23 rfl⟩
theorem dL_law_464 : decode cL_law 464 = .ok (.aload_n 0, 1) := dL_law_all21.1
theorem dL_law_465 : decode cL_law 465 = .ok (.iload_n 3, 1) := dL_law_all21.2.1
theorem dL_law_466 : decode cL_law 466 = .ok (.iconst 3, 1) := dL_law_all21.2.2.1
theorem dL_law_467 : decode cL_law 467 = .ok (.iadd, 1) := dL_law_all21.2.2.2.1
theorem dL_law_468 : decode cL_law 468 = .ok (.iaload, 1) := dL_law_all21.2.2.2.2.1
theorem dL_law_469 : decode cL_law 469 = .ok (.invokevirtual 48, 3) := dL_law_all21.2.2.2.2.2.1
theorem dL_law_472 : decode cL_law 472 = .ok (.pop, 1) := dL_law_all21.2.2.2.2.2.2.1
theorem dL_law_473 : decode cL_law 473 = .ok (.goto 1179, 3) := dL_law_all21.2.2.2.2.2.2.2.1
theorem dL_law_476 : decode cL_law 476 = .ok (.aload_n 1, 1) := dL_law_all21.2.2.2.2.2.2.2.2.1
theorem dL_law_477 : decode cL_law 477 = .ok (.aload_n 0, 1) := dL_law_all21.2.2.2.2.2.2.2.2.2.1
theorem dL_law_478 : decode cL_law 478 = .ok (.iload_n 3, 1) := dL_law_all21.2.2.2.2.2.2.2.2.2.2.1
theorem dL_law_479 : decode cL_law 479 = .ok (.iconst 1, 1) := dL_law_all21.2.2.2.2.2.2.2.2.2.2.2
theorem dL_law_all22 : decode cL_law 480 = .ok (.iadd, 1) ∧ decode cL_law 481 = .ok (.iaload, 1) ∧ decode cL_law 482 = .ok (.aload_n 0, 1) ∧ decode cL_law 483 = .ok (.iload_n 3, 1) ∧ decode cL_law 484 = .ok (.iconst 2, 1) ∧ decode cL_law 485 = .ok (.iadd, 1) ∧ decode cL_law 486 = .ok (.iaload, 1) ∧ decode cL_law 487 = .ok (.aload_n 0, 1) ∧ decode cL_law 488 = .ok (.iload_n 3, 1) ∧ decode cL_law 489 = .ok (.iconst 3, 1) ∧ decode cL_law 490 = .ok (.iadd, 1) ∧ decode cL_law 491 = .ok (.iaload, 1) := ⟨dq_96 sB_20 0 rfl, dq_46 sB_20 1 rfl, dq_42 sB_20 2 rfl, dq_29 sB_20 3 rfl, dq_5 sB_20 4 rfl, dq_96 sB_20 5 rfl, dq_46 sB_20 6 rfl, dq_42 sB_20 7 rfl, dq_29 sB_20 8 rfl, dq_6 sB_20 9 rfl, dq_96 sB_20 10 rfl, dq_46 sB_20 11 rfl⟩
theorem dL_law_480 : decode cL_law 480 = .ok (.iadd, 1) := dL_law_all22.1
theorem dL_law_481 : decode cL_law 481 = .ok (.iaload, 1) := dL_law_all22.2.1
theorem dL_law_482 : decode cL_law 482 = .ok (.aload_n 0, 1) := dL_law_all22.2.2.1
theorem dL_law_483 : decode cL_law 483 = .ok (.iload_n 3, 1) := dL_law_all22.2.2.2.1
theorem dL_law_484 : decode cL_law 484 = .ok (.iconst 2, 1) := dL_law_all22.2.2.2.2.1
theorem dL_law_485 : decode cL_law 485 = .ok (.iadd, 1) := dL_law_all22.2.2.2.2.2.1
theorem dL_law_486 : decode cL_law 486 = .ok (.iaload, 1) := dL_law_all22.2.2.2.2.2.2.1
theorem dL_law_487 : decode cL_law 487 = .ok (.aload_n 0, 1) := dL_law_all22.2.2.2.2.2.2.2.1
theorem dL_law_488 : decode cL_law 488 = .ok (.iload_n 3, 1) := dL_law_all22.2.2.2.2.2.2.2.2.1
theorem dL_law_489 : decode cL_law 489 = .ok (.iconst 3, 1) := dL_law_all22.2.2.2.2.2.2.2.2.2.1
theorem dL_law_490 : decode cL_law 490 = .ok (.iadd, 1) := dL_law_all22.2.2.2.2.2.2.2.2.2.2.1
theorem dL_law_491 : decode cL_law 491 = .ok (.iaload, 1) := dL_law_all22.2.2.2.2.2.2.2.2.2.2.2
theorem dL_law_all23 : decode cL_law 492 = .ok (.invokevirtual 49, 3) ∧ decode cL_law 495 = .ok (.pop, 1) ∧ decode cL_law 496 = .ok (.aload_n 2, 1) ∧ decode cL_law 497 = .ok (.aload_n 0, 1) ∧ decode cL_law 498 = .ok (.iload_n 3, 1) ∧ decode cL_law 499 = .ok (.iconst 1, 1) ∧ decode cL_law 500 = .ok (.iadd, 1) ∧ decode cL_law 501 = .ok (.iaload, 1) ∧ decode cL_law 502 = .ok (.aload_n 0, 1) ∧ decode cL_law 503 = .ok (.iload_n 3, 1) ∧ decode cL_law 504 = .ok (.iconst 2, 1) ∧ decode cL_law 505 = .ok (.iadd, 1) := ⟨dq_182 sB_20 12 rfl 49 (by decide), dq_87 sB_20 15 rfl, dq_44 sB_20 16 rfl, dq_42 sB_20 17 rfl, dq_29 sB_20 18 rfl, dq_4 sB_20 19 rfl, dq_96 sB_20 20 rfl, dq_46 sB_20 21 rfl, dq_42 sB_20 22 rfl, dq_29 sB_20 23 rfl, dq_5 sB_21 0 rfl, dq_96 sB_21 1 rfl⟩
theorem dL_law_492 : decode cL_law 492 = .ok (.invokevirtual 49, 3) := dL_law_all23.1
theorem dL_law_495 : decode cL_law 495 = .ok (.pop, 1) := dL_law_all23.2.1
theorem dL_law_496 : decode cL_law 496 = .ok (.aload_n 2, 1) := dL_law_all23.2.2.1
theorem dL_law_497 : decode cL_law 497 = .ok (.aload_n 0, 1) := dL_law_all23.2.2.2.1
theorem dL_law_498 : decode cL_law 498 = .ok (.iload_n 3, 1) := dL_law_all23.2.2.2.2.1
theorem dL_law_499 : decode cL_law 499 = .ok (.iconst 1, 1) := dL_law_all23.2.2.2.2.2.1
theorem dL_law_500 : decode cL_law 500 = .ok (.iadd, 1) := dL_law_all23.2.2.2.2.2.2.1
theorem dL_law_501 : decode cL_law 501 = .ok (.iaload, 1) := dL_law_all23.2.2.2.2.2.2.2.1
theorem dL_law_502 : decode cL_law 502 = .ok (.aload_n 0, 1) := dL_law_all23.2.2.2.2.2.2.2.2.1
theorem dL_law_503 : decode cL_law 503 = .ok (.iload_n 3, 1) := dL_law_all23.2.2.2.2.2.2.2.2.2.1
theorem dL_law_504 : decode cL_law 504 = .ok (.iconst 2, 1) := dL_law_all23.2.2.2.2.2.2.2.2.2.2.1
theorem dL_law_505 : decode cL_law 505 = .ok (.iadd, 1) := dL_law_all23.2.2.2.2.2.2.2.2.2.2.2
theorem dL_law_all24 : decode cL_law 506 = .ok (.iaload, 1) ∧ decode cL_law 507 = .ok (.aload_n 0, 1) ∧ decode cL_law 508 = .ok (.iload_n 3, 1) ∧ decode cL_law 509 = .ok (.iconst 3, 1) ∧ decode cL_law 510 = .ok (.iadd, 1) ∧ decode cL_law 511 = .ok (.iaload, 1) ∧ decode cL_law 512 = .ok (.invokevirtual 52, 3) ∧ decode cL_law 515 = .ok (.pop, 1) ∧ decode cL_law 516 = .ok (.goto 1136, 3) ∧ decode cL_law 519 = .ok (.aload_n 1, 1) ∧ decode cL_law 520 = .ok (.aload_n 0, 1) ∧ decode cL_law 521 = .ok (.iload_n 3, 1) := ⟨dq_46 sB_21 2 rfl, dq_42 sB_21 3 rfl, dq_29 sB_21 4 rfl, dq_6 sB_21 5 rfl, dq_96 sB_21 6 rfl, dq_46 sB_21 7 rfl, dq_182 sB_21 8 rfl 52 (by decide), dq_87 sB_21 11 rfl, dq_167 sB_21 12 rfl 1136 (by decide), dq_43 sB_21 15 rfl, dq_42 sB_21 16 rfl, dq_29 sB_21 17 rfl⟩
theorem dL_law_506 : decode cL_law 506 = .ok (.iaload, 1) := dL_law_all24.1
theorem dL_law_507 : decode cL_law 507 = .ok (.aload_n 0, 1) := dL_law_all24.2.1
theorem dL_law_508 : decode cL_law 508 = .ok (.iload_n 3, 1) := dL_law_all24.2.2.1
theorem dL_law_509 : decode cL_law 509 = .ok (.iconst 3, 1) := dL_law_all24.2.2.2.1
theorem dL_law_510 : decode cL_law 510 = .ok (.iadd, 1) := dL_law_all24.2.2.2.2.1
theorem dL_law_511 : decode cL_law 511 = .ok (.iaload, 1) := dL_law_all24.2.2.2.2.2.1
theorem dL_law_512 : decode cL_law 512 = .ok (.invokevirtual 52, 3) := dL_law_all24.2.2.2.2.2.2.1
theorem dL_law_515 : decode cL_law 515 = .ok (.pop, 1) := dL_law_all24.2.2.2.2.2.2.2.1
theorem dL_law_516 : decode cL_law 516 = .ok (.goto 1136, 3) := dL_law_all24.2.2.2.2.2.2.2.2.1
theorem dL_law_519 : decode cL_law 519 = .ok (.aload_n 1, 1) := dL_law_all24.2.2.2.2.2.2.2.2.2.1
theorem dL_law_520 : decode cL_law 520 = .ok (.aload_n 0, 1) := dL_law_all24.2.2.2.2.2.2.2.2.2.2.1
theorem dL_law_521 : decode cL_law 521 = .ok (.iload_n 3, 1) := dL_law_all24.2.2.2.2.2.2.2.2.2.2.2
theorem dL_law_all25 : decode cL_law 522 = .ok (.iconst 1, 1) ∧ decode cL_law 523 = .ok (.iadd, 1) ∧ decode cL_law 524 = .ok (.iaload, 1) ∧ decode cL_law 525 = .ok (.aload_n 0, 1) ∧ decode cL_law 526 = .ok (.iload_n 3, 1) ∧ decode cL_law 527 = .ok (.iconst 2, 1) ∧ decode cL_law 528 = .ok (.iadd, 1) ∧ decode cL_law 529 = .ok (.iaload, 1) ∧ decode cL_law 530 = .ok (.aload_n 0, 1) ∧ decode cL_law 531 = .ok (.iload_n 3, 1) ∧ decode cL_law 532 = .ok (.iconst 3, 1) ∧ decode cL_law 533 = .ok (.iadd, 1) := ⟨dq_4 sB_21 18 rfl, dq_96 sB_21 19 rfl, dq_46 sB_21 20 rfl, dq_42 sB_21 21 rfl, dq_29 sB_21 22 rfl, dq_5 sB_21 23 rfl, dq_96 sB_22 0 rfl, dq_46 sB_22 1 rfl, dq_42 sB_22 2 rfl, dq_29 sB_22 3 rfl, dq_6 sB_22 4 rfl, dq_96 sB_22 5 rfl⟩
theorem dL_law_522 : decode cL_law 522 = .ok (.iconst 1, 1) := dL_law_all25.1
theorem dL_law_523 : decode cL_law 523 = .ok (.iadd, 1) := dL_law_all25.2.1
theorem dL_law_524 : decode cL_law 524 = .ok (.iaload, 1) := dL_law_all25.2.2.1
theorem dL_law_525 : decode cL_law 525 = .ok (.aload_n 0, 1) := dL_law_all25.2.2.2.1
theorem dL_law_526 : decode cL_law 526 = .ok (.iload_n 3, 1) := dL_law_all25.2.2.2.2.1
theorem dL_law_527 : decode cL_law 527 = .ok (.iconst 2, 1) := dL_law_all25.2.2.2.2.2.1
theorem dL_law_528 : decode cL_law 528 = .ok (.iadd, 1) := dL_law_all25.2.2.2.2.2.2.1
theorem dL_law_529 : decode cL_law 529 = .ok (.iaload, 1) := dL_law_all25.2.2.2.2.2.2.2.1
theorem dL_law_530 : decode cL_law 530 = .ok (.aload_n 0, 1) := dL_law_all25.2.2.2.2.2.2.2.2.1
theorem dL_law_531 : decode cL_law 531 = .ok (.iload_n 3, 1) := dL_law_all25.2.2.2.2.2.2.2.2.2.1
theorem dL_law_532 : decode cL_law 532 = .ok (.iconst 3, 1) := dL_law_all25.2.2.2.2.2.2.2.2.2.2.1
theorem dL_law_533 : decode cL_law 533 = .ok (.iadd, 1) := dL_law_all25.2.2.2.2.2.2.2.2.2.2.2
theorem dL_law_all26 : decode cL_law 534 = .ok (.iaload, 1) ∧ decode cL_law 535 = .ok (.invokevirtual 53, 3) ∧ decode cL_law 538 = .ok (.pop, 1) ∧ decode cL_law 539 = .ok (.aload_n 2, 1) ∧ decode cL_law 540 = .ok (.aload_n 0, 1) ∧ decode cL_law 541 = .ok (.iload_n 3, 1) ∧ decode cL_law 542 = .ok (.iconst 1, 1) ∧ decode cL_law 543 = .ok (.iadd, 1) ∧ decode cL_law 544 = .ok (.iaload, 1) ∧ decode cL_law 545 = .ok (.aload_n 0, 1) ∧ decode cL_law 546 = .ok (.iload_n 3, 1) ∧ decode cL_law 547 = .ok (.iconst 2, 1) := ⟨dq_46 sB_22 6 rfl, dq_182 sB_22 7 rfl 53 (by decide), dq_87 sB_22 10 rfl, dq_44 sB_22 11 rfl, dq_42 sB_22 12 rfl, dq_29 sB_22 13 rfl, dq_4 sB_22 14 rfl, dq_96 sB_22 15 rfl, dq_46 sB_22 16 rfl, dq_42 sB_22 17 rfl, dq_29 sB_22 18 rfl, dq_5 sB_22 19 rfl⟩
theorem dL_law_534 : decode cL_law 534 = .ok (.iaload, 1) := dL_law_all26.1
theorem dL_law_535 : decode cL_law 535 = .ok (.invokevirtual 53, 3) := dL_law_all26.2.1
theorem dL_law_538 : decode cL_law 538 = .ok (.pop, 1) := dL_law_all26.2.2.1
theorem dL_law_539 : decode cL_law 539 = .ok (.aload_n 2, 1) := dL_law_all26.2.2.2.1
theorem dL_law_540 : decode cL_law 540 = .ok (.aload_n 0, 1) := dL_law_all26.2.2.2.2.1
theorem dL_law_541 : decode cL_law 541 = .ok (.iload_n 3, 1) := dL_law_all26.2.2.2.2.2.1
theorem dL_law_542 : decode cL_law 542 = .ok (.iconst 1, 1) := dL_law_all26.2.2.2.2.2.2.1
theorem dL_law_543 : decode cL_law 543 = .ok (.iadd, 1) := dL_law_all26.2.2.2.2.2.2.2.1
theorem dL_law_544 : decode cL_law 544 = .ok (.iaload, 1) := dL_law_all26.2.2.2.2.2.2.2.2.1
theorem dL_law_545 : decode cL_law 545 = .ok (.aload_n 0, 1) := dL_law_all26.2.2.2.2.2.2.2.2.2.1
theorem dL_law_546 : decode cL_law 546 = .ok (.iload_n 3, 1) := dL_law_all26.2.2.2.2.2.2.2.2.2.2.1
theorem dL_law_547 : decode cL_law 547 = .ok (.iconst 2, 1) := dL_law_all26.2.2.2.2.2.2.2.2.2.2.2
theorem dL_law_all27 : decode cL_law 548 = .ok (.iadd, 1) ∧ decode cL_law 549 = .ok (.iaload, 1) ∧ decode cL_law 550 = .ok (.aload_n 0, 1) ∧ decode cL_law 551 = .ok (.iload_n 3, 1) ∧ decode cL_law 552 = .ok (.iconst 3, 1) ∧ decode cL_law 553 = .ok (.iadd, 1) ∧ decode cL_law 554 = .ok (.iaload, 1) ∧ decode cL_law 555 = .ok (.invokevirtual 56, 3) ∧ decode cL_law 558 = .ok (.pop, 1) ∧ decode cL_law 559 = .ok (.goto 1093, 3) ∧ decode cL_law 562 = .ok (.aload_n 1, 1) ∧ decode cL_law 563 = .ok (.aload_n 0, 1) := ⟨dq_96 sB_22 20 rfl, dq_46 sB_22 21 rfl, dq_42 sB_22 22 rfl, dq_29 sB_22 23 rfl, dq_6 sB_23 0 rfl, dq_96 sB_23 1 rfl, dq_46 sB_23 2 rfl, dq_182 sB_23 3 rfl 56 (by decide), dq_87 sB_23 6 rfl, dq_167 sB_23 7 rfl 1093 (by decide), dq_43 sB_23 10 rfl, dq_42 sB_23 11 rfl⟩
theorem dL_law_548 : decode cL_law 548 = .ok (.iadd, 1) := dL_law_all27.1
theorem dL_law_549 : decode cL_law 549 = .ok (.iaload, 1) := dL_law_all27.2.1
theorem dL_law_550 : decode cL_law 550 = .ok (.aload_n 0, 1) := dL_law_all27.2.2.1
theorem dL_law_551 : decode cL_law 551 = .ok (.iload_n 3, 1) := dL_law_all27.2.2.2.1
theorem dL_law_552 : decode cL_law 552 = .ok (.iconst 3, 1) := dL_law_all27.2.2.2.2.1
theorem dL_law_553 : decode cL_law 553 = .ok (.iadd, 1) := dL_law_all27.2.2.2.2.2.1
theorem dL_law_554 : decode cL_law 554 = .ok (.iaload, 1) := dL_law_all27.2.2.2.2.2.2.1
theorem dL_law_555 : decode cL_law 555 = .ok (.invokevirtual 56, 3) := dL_law_all27.2.2.2.2.2.2.2.1
theorem dL_law_558 : decode cL_law 558 = .ok (.pop, 1) := dL_law_all27.2.2.2.2.2.2.2.2.1
theorem dL_law_559 : decode cL_law 559 = .ok (.goto 1093, 3) := dL_law_all27.2.2.2.2.2.2.2.2.2.1
set_option maxHeartbeats 4000000 in
set_option maxRecDepth 100000 in
theorem law_case_4 {p : Program} {l : Launch} {e : Env} {s : State} {m : MethodId} {below : List Frame} {meth : Method} {c : Code} {D : va_G} {cI cY cJ cQ : ClassId} {b L aK aV : Nat} {xs : Nat → Int32} {ad rw md : Nat → Nat} {sd i : Int32} {nx : Nat → Int32} {fx rs : Nat → Nat → Int32} {lo : Nat → Int64} {ny : Nat → Int32} {fy : Nat → Nat → Int32} {fl : Nat → Int64} {H : Heap} {locs : List Loc} {ls : Array Slot} (C0 : lawC p s m meth c b L xs D cI cY cJ cQ aK aV) (I : inv nx fx rs ny fy) (hP : va_P D vwCl (wX ad rw sd cI cY cJ cQ nx fx rs lo ++ wM md sd cI cY cJ cQ ny fy fl) H) (hD : va_D (fun q : Nat => s.heap.size ≤ q) (wX ad rw sd cI cY cJ cQ nx fx rs lo ++ wM md sd cI cY cJ cQ ny fy fl)) (hS : va_S (fun q : Nat => s.heap.size ≤ q) s.heap H locs) (hl : lv_has ls 4 [(0, .ref b), (1, .ref (ad 0)), (2, .ref (md 64)), (3, .int i)]) (hi1 : 1 ≤ i.toInt) (hi2 : i.toInt + 5 < L) (kk : ∀ (nx : Nat → Int32) (fx rs : Nat → Nat → Int32) (lo : Nat → Int64) (ny : Nat → Int32) (fy : Nat → Nat → Int32) (fl : Nat → Int64) (H : Heap) (locs : List Loc) (ls : Array Slot), inv nx fx rs ny fy → va_P D vwCl (wX ad rw sd cI cY cJ cQ nx fx rs lo ++ wM md sd cI cY cJ cQ ny fy fl) H → va_D (fun q : Nat => s.heap.size ≤ q) (wX ad rw sd cI cY cJ cQ nx fx rs lo ++ wM md sd cI cY cJ cQ ny fy fl) → va_S (fun q : Nat => s.heap.size ≤ q) s.heap H locs → lv_has ls 4 [(0, .ref b), (1, .ref (ad 0)), (2, .ref (md 64)), (3, .int i)] → W p l e room_1 s m #[Value.ref b] below meth c H locs 107 4890 (lw_Z below #[Value.ref b] s) (F0 m 1652 ls [])) : W p l e room_1 s m #[Value.ref b] below meth c H locs 107 4890 (lw_Z below #[Value.ref b] s) (F0 m 380 ls []) := by
  obtain ⟨C1, hK, hN, hT, hL⟩ := C0
  obtain ⟨hx, hb, hr, hml, hown, hts0, hX, hbl, hlocks, hgv⟩ := C1
  have hA : ∀ q : Nat, s.heap.size ≤ q → (fun q : Nat => s.heap.size ≤ q) q := fun _ h => h
  have hbA : ¬ (fun q : Nat => s.heap.size ≤ q) b := Nat.not_le.mpr hbl
  have hts : ∀ w ∈ wsL_law, w.before #[Value.ref b] s = true := fun w h => hts0 w (wsL_law_in w h)
  replace hown : s.vm.findClass RL = some m.cls := hown
  replace hb : c.code = cL_law := hb
  have hak1 : vp_in (i + 1) L := law_in hi1 hi2 hL (by decide)
  obtain ⟨xk1, exk1⟩ : ∃ y : Int32, y = xs (i + 1).toNatClampNeg := ⟨_, rfl⟩
  have hak2 : vp_in (i + 2) L := law_in hi1 hi2 hL (by decide)
  obtain ⟨xk2, exk2⟩ : ∃ y : Int32, y = xs (i + 2).toNatClampNeg := ⟨_, rfl⟩
  have hak3 : vp_in (i + 3) L := law_in hi1 hi2 hL (by decide)
  obtain ⟨xk3, exk3⟩ : ∃ y : Int32, y = xs (i + 3).toNatClampNeg := ⟨_, rfl⟩
  have hak4 : vp_in (i + 4) L := law_in hi1 hi2 hL (by decide)
  obtain ⟨xk4, exk4⟩ : ∃ y : Int32, y = xs (i + 4).toNatClampNeg := ⟨_, rfl⟩
  refine inv_el I ?_
  intro Xhna Xhnb XH XD XV XN Xcna Xcnb XF Xpna Xpnb XG XO XW Xgna Xgnb XJ Xlna Xlnb Xdla Xdlb Xana Xanb Xuna Xunb XU Xlca Xlcb Xtna Xtnb XS Mhna Mhnb MH MS Mmlna Mmlnb Mmtna Mmtnb Chn Cho Chc Chp Chs Ccn Cfo Cwo Cpn Cpk Cpf Cpo Cpd Cpe Cgn Cgk Cgs Cgd Cge Can Cak Cah Cay Caz Cun Cuk Cuy Cuw Cum Clc Clp Cla Clb Caw Ciw Cln Ctd Cro Cmtn Cmtr Cmst Csh
  have Tcn := i_eq Ccn
  have Tpn := i_eq Cpn
  have Tgn := i_eq Cgn
  have Tan := i_eq Can
  have Tun := i_eq Cun
  have Tlc := i_eq Clc
  have Tln := i_eq Cln
  refine lv_aload_n hx hb dL_law_380 rfl (lv_at hl 1 rfl) ?_
  refine law_arg (v := 1) hx hb hX hbl hbA hS (lv_at hl 0 rfl) (lv_at hl 3 rfl) (by decide) hak1 exk1 dL_law_381 dL_law_382 dL_law_383 dL_law_384 dL_law_385 ?_
  refine law_arg (v := 2) hx hb hX hbl hbA hS (lv_at hl 0 rfl) (lv_at hl 3 rfl) (by decide) hak2 exk2 dL_law_386 dL_law_387 dL_law_388 dL_law_389 dL_law_390 ?_
  refine law_arg (v := 3) hx hb hX hbl hbA hS (lv_at hl 0 rfl) (lv_at hl 3 rfl) (by decide) hak3 exk3 dL_law_391 dL_law_392 dL_law_393 dL_law_394 dL_law_395 ?_
  refine law_arg (v := 4) hx hb hX hbl hbA hS (lv_at hl 0 rfl) (lv_at hl 3 rfl) (by decide) hak4 exk4 dL_law_396 dL_law_397 dL_law_398 dL_law_399 dL_law_400 ?_
  refine st_iU (va_runV (C := RX10) (As := [.int xk1, .int xk2, .int xk3, .int xk4]) (rest := []) ⟨hx, hb, hml, hown, hts⟩ (ct_X10_hold l D cI cY cJ cQ _ ad (nx 0) (nx 1) (nx 2) (nx 3) (fx 3) (fx 4) (fx 5) (fx 6) xk1 xk2 xk3 xk4 Xhna Xhnb) (cwV 4 hts gL_law_X10_hold rfl rfl rfl ⟨rfl, cdX10_hold⟩ ⟨Nat.le_of_ble_eq_true rfl, Nat.le_of_ble_eq_true rfl⟩) (cPreV (hP.sub [0, 14, 15, 16, 17, 18] rfl) hK (hD.sub [0, 14, 15, 16, 17, 18] (by decide +kernel) rfl) hN (ci := 10) (q0 := 0) rfl rfl) rfl rfl hl.1 rfl (lv_room (Nat.le_of_ble_eq_true rfl)) dL_law_401 ⟨Nat.le_of_ble_eq_true rfl, Nat.le_of_ble_eq_true rfl⟩) hP hD hS hA [0, 14, 15, 16, 17, 18] rfl (fun _ => rfl) (fun r3 u1 H locs hw2 => ?_)
  clear hP hS
  intro hP hS
  obtain ⟨hn_4, ho_5, hc_6, hp_7, hs_8⟩ := u1
  replace hw2 : (r3, (hn_4, ho_5, hc_6, hp_7, hs_8)) = sp_hold (nx 3) (fx 3) (fx 4) (fx 5) (fx 6) xk1 xk2 xk3 xk4 := hw2
  obtain ⟨hw2a, hw2b, hw2c⟩ := sp_hold_ok hw2 (by omega) (by omega) XH
  have hw2d := sp_hold_okD hw2 (by omega) (by omega) XD
  obtain ⟨hw2v, hw2n⟩ := sp_hold_okVN hw2 (by omega) (by omega) ⟨XV, XN⟩
  refine lv_pop hx hb dL_law_404 rfl ?_
  have hPx : va_P D vwCl (wX ad rw sd cI cY cJ cQ (upd nx 3 hn_4) (upR (upR (upR (upR fx 3 ho_5) 4 hc_6) 5 hp_7) 6 hs_8) rs lo ++ wM md sd cI cY cJ cQ ny fy fl) H := hP
  have hDx : va_D (fun q : Nat => s.heap.size ≤ q) (wX ad rw sd cI cY cJ cQ (upd nx 3 hn_4) (upR (upR (upR (upR fx 3 ho_5) 4 hc_6) 5 hp_7) 6 hs_8) rs lo ++ wM md sd cI cY cJ cQ ny fy fl) := wXM_D hD
  have hP := hPx.comm
  have hD := hDx.comm
  refine lv_aload_n hx hb dL_law_405 rfl (lv_at hl 2 rfl) ?_
  refine law_arg (v := 1) hx hb hX hbl hbA hS (lv_at hl 0 rfl) (lv_at hl 3 rfl) (by decide) hak1 exk1 dL_law_406 dL_law_407 dL_law_408 dL_law_409 dL_law_410 ?_
  refine law_arg (v := 2) hx hb hX hbl hbA hS (lv_at hl 0 rfl) (lv_at hl 3 rfl) (by decide) hak2 exk2 dL_law_411 dL_law_412 dL_law_413 dL_law_414 dL_law_415 ?_
  refine law_arg (v := 3) hx hb hX hbl hbA hS (lv_at hl 0 rfl) (lv_at hl 3 rfl) (by decide) hak3 exk3 dL_law_416 dL_law_417 dL_law_418 dL_law_419 dL_law_420 ?_
  refine law_arg (v := 4) hx hb hX hbl hbA hS (lv_at hl 0 rfl) (lv_at hl 3 rfl) (by decide) hak4 exk4 dL_law_421 dL_law_422 dL_law_423 dL_law_424 dL_law_425 ?_
  refine st_iU (va_runV (C := RX11) (As := [.int xk1, .int xk2, .int xk3, .int xk4]) (rest := []) ⟨hx, hb, hml, hown, hts⟩ (ct_X11_hold l D cI cY cJ cQ _ md sd (ny 0) (ny 1) (ny 2) (ny 3) (ny 4) (ny 5) (ny 6) (ny 7) (ny 8) (ny 9) (ny 10) (ny 11) (ny 12) (ny 13) (ny 14) (ny 15) (ny 16) (ny 17) (ny 18) (ny 19) (ny 20) (ny 21) (ny 22) (fy 3) (fy 4) (fy 5) (fy 6) xk1 xk2 xk3 xk4 Mhna Mhnb) (cwV 4 hts gL_law_X11_hold rfl rfl rfl ⟨rfl, cdX11_hold⟩ ⟨Nat.le_of_ble_eq_true rfl, Nat.le_of_ble_eq_true rfl⟩) (cPreV (hP.sub [0, 4, 5, 6, 7] rfl) hK (hD.sub [0, 4, 5, 6, 7] (by decide +kernel) rfl) hN (ci := 11) (q0 := 0) rfl rfl) rfl rfl hl.1 rfl (lv_room (Nat.le_of_ble_eq_true rfl)) dL_law_426 ⟨Nat.le_of_ble_eq_true rfl, Nat.le_of_ble_eq_true rfl⟩) hP hD hS hA [0, 4, 5, 6, 7] rfl (fun _ => rfl) (fun r11 u9 H locs hw10 => ?_)
  clear hP hS
  intro hP hS
  obtain ⟨hn_12, ho_13, hc_14, hp_15, hs_16⟩ := u9
  replace hw10 : (r11, (hn_12, ho_13, hc_14, hp_15, hs_16)) = sp_hold (ny 2) (fy 3) (fy 4) (fy 5) (fy 6) xk1 xk2 xk3 xk4 := hw10
  obtain ⟨hw10a, hw10b, hw10c⟩ := sp_hold_ok hw10 (by omega) (by omega) MH
  rw [Chn, Cho, Chc, Chp, Chs] at hw10
  have e9 := hw2.trans hw10.symm
  simp only [Prod.mk.injEq] at e9
  obtain ⟨e90, e9hn, e9ho, e9hc, e9hp, e9hs⟩ := e9
  refine lv_pop hx hb dL_law_429 rfl ?_
  refine lv_goto (tgt := 1652) hx hb dL_law_430 (by decide) ?_
  have hPm : va_P D vwCl (wM md sd cI cY cJ cQ (upd (upd ny 0 0) 2 hn_12) (upR (upR (upR (upR fy 3 ho_13) 4 hc_14) 5 hp_15) 6 hs_16) fl ++ wX ad rw sd cI cY cJ cQ (upd nx 3 hn_4) (upR (upR (upR (upR fx 3 ho_5) 4 hc_6) 5 hp_7) 6 hs_8) rs lo) H := hP
  have hDm : va_D (fun q : Nat => s.heap.size ≤ q) (wM md sd cI cY cJ cQ (upd (upd ny 0 0) 2 hn_12) (upR (upR (upR (upR fy 3 ho_13) 4 hc_14) 5 hp_15) 6 hs_16) fl ++ wX ad rw sd cI cY cJ cQ (upd nx 3 hn_4) (upR (upR (upR (upR fx 3 ho_5) 4 hc_6) 5 hp_7) 6 hs_8) rs lo) := wMX_D hD
  exact kk (upd nx 3 hn_4) (upR (upR (upR (upR fx 3 ho_5) 4 hc_6) 5 hp_7) 6 hs_8) rs lo (upd (upd ny 0 0) 2 hn_12) (upR (upR (upR (upR fy 3 ho_13) 4 hc_14) 5 hp_15) 6 hs_16) fl H locs ls ⟨(by show 0 ≤ (hn_4).toInt; omega), (by show (hn_4).toInt ≤ 40; omega), (show okH (hn_4) (ho_5) (hc_6) by assumption), (show okD (hn_4) (hs_8) by assumption), (show okV (hn_4) (hp_7) by assumption), (show okN (hn_4) (ho_5) (hc_6) by assumption), Xcna, Xcnb, XF, Xpna, Xpnb, XG, XO, XW, Xgna, Xgnb, XJ, Xlna, Xlnb, Xdla, Xdlb, Xana, Xanb, Xuna, Xunb, XU, Xlca, Xlcb, Xtna, Xtnb, XS, (by show 0 ≤ (hn_12).toInt; omega), (by show (hn_12).toInt ≤ 40; omega), (show okH (hn_12) (ho_13) (hc_14) by assumption), MS, Mmlna, Mmlnb, Mmtna, Mmtnb, (show (hn_12) = (hn_4) from e9hn.symm), (show (ho_13) = (ho_5) from e9ho.symm), (show (hc_14) = (hc_6) from e9hc.symm), (show (hp_15) = (hp_7) from e9hp.symm), (show (hs_16) = (hs_8) from e9hs.symm), Ccn, Cfo, Cwo, Cpn, Cpk, Cpf, Cpo, Cpd, Cpe, Cgn, Cgk, Cgs, Cgd, Cge, Can, Cak, Cah, Cay, Caz, Cun, Cuk, Cuy, Cuw, Cum, Clc, Clp, Cla, Clb, Caw, Ciw, Cln, Ctd, Cro, Cmtn, Cmtr, Cmst, Csh⟩ hPm.comm hDm.comm hS hl

set_option maxHeartbeats 4000000 in
set_option maxRecDepth 100000 in
theorem law_case_5 {p : Program} {l : Launch} {e : Env} {s : State} {m : MethodId} {below : List Frame} {meth : Method} {c : Code} {D : va_G} {cI cY cJ cQ : ClassId} {b L aK aV : Nat} {xs : Nat → Int32} {ad rw md : Nat → Nat} {sd i : Int32} {nx : Nat → Int32} {fx rs : Nat → Nat → Int32} {lo : Nat → Int64} {ny : Nat → Int32} {fy : Nat → Nat → Int32} {fl : Nat → Int64} {H : Heap} {locs : List Loc} {ls : Array Slot} (C0 : lawC p s m meth c b L xs D cI cY cJ cQ aK aV) (I : inv nx fx rs ny fy) (hP : va_P D vwCl (wX ad rw sd cI cY cJ cQ nx fx rs lo ++ wM md sd cI cY cJ cQ ny fy fl) H) (hD : va_D (fun q : Nat => s.heap.size ≤ q) (wX ad rw sd cI cY cJ cQ nx fx rs lo ++ wM md sd cI cY cJ cQ ny fy fl)) (hS : va_S (fun q : Nat => s.heap.size ≤ q) s.heap H locs) (hl : lv_has ls 4 [(0, .ref b), (1, .ref (ad 0)), (2, .ref (md 64)), (3, .int i)]) (hi1 : 1 ≤ i.toInt) (hi2 : i.toInt + 5 < L) (kk : ∀ (nx : Nat → Int32) (fx rs : Nat → Nat → Int32) (lo : Nat → Int64) (ny : Nat → Int32) (fy : Nat → Nat → Int32) (fl : Nat → Int64) (H : Heap) (locs : List Loc) (ls : Array Slot), inv nx fx rs ny fy → va_P D vwCl (wX ad rw sd cI cY cJ cQ nx fx rs lo ++ wM md sd cI cY cJ cQ ny fy fl) H → va_D (fun q : Nat => s.heap.size ≤ q) (wX ad rw sd cI cY cJ cQ nx fx rs lo ++ wM md sd cI cY cJ cQ ny fy fl) → va_S (fun q : Nat => s.heap.size ≤ q) s.heap H locs → lv_has ls 4 [(0, .ref b), (1, .ref (ad 0)), (2, .ref (md 64)), (3, .int i)] → W p l e room_1 s m #[Value.ref b] below meth c H locs 107 4890 (lw_Z below #[Value.ref b] s) (F0 m 1652 ls [])) : W p l e room_1 s m #[Value.ref b] below meth c H locs 107 4890 (lw_Z below #[Value.ref b] s) (F0 m 433 ls []) := by
  obtain ⟨C1, hK, hN, hT, hL⟩ := C0
  obtain ⟨hx, hb, hr, hml, hown, hts0, hX, hbl, hlocks, hgv⟩ := C1
  have hA : ∀ q : Nat, s.heap.size ≤ q → (fun q : Nat => s.heap.size ≤ q) q := fun _ h => h
  have hbA : ¬ (fun q : Nat => s.heap.size ≤ q) b := Nat.not_le.mpr hbl
  have hts : ∀ w ∈ wsL_law, w.before #[Value.ref b] s = true := fun w h => hts0 w (wsL_law_in w h)
  replace hown : s.vm.findClass RL = some m.cls := hown
  replace hb : c.code = cL_law := hb
  have hak1 : vp_in (i + 1) L := law_in hi1 hi2 hL (by decide)
  obtain ⟨xk1, exk1⟩ : ∃ y : Int32, y = xs (i + 1).toNatClampNeg := ⟨_, rfl⟩
  have hak2 : vp_in (i + 2) L := law_in hi1 hi2 hL (by decide)
  obtain ⟨xk2, exk2⟩ : ∃ y : Int32, y = xs (i + 2).toNatClampNeg := ⟨_, rfl⟩
  have hak3 : vp_in (i + 3) L := law_in hi1 hi2 hL (by decide)
  obtain ⟨xk3, exk3⟩ : ∃ y : Int32, y = xs (i + 3).toNatClampNeg := ⟨_, rfl⟩
  refine inv_el I ?_
  intro Xhna Xhnb XH XD XV XN Xcna Xcnb XF Xpna Xpnb XG XO XW Xgna Xgnb XJ Xlna Xlnb Xdla Xdlb Xana Xanb Xuna Xunb XU Xlca Xlcb Xtna Xtnb XS Mhna Mhnb MH MS Mmlna Mmlnb Mmtna Mmtnb Chn Cho Chc Chp Chs Ccn Cfo Cwo Cpn Cpk Cpf Cpo Cpd Cpe Cgn Cgk Cgs Cgd Cge Can Cak Cah Cay Caz Cun Cuk Cuy Cuw Cum Clc Clp Cla Clb Caw Ciw Cln Ctd Cro Cmtn Cmtr Cmst Csh
  have Tcn := i_eq Ccn
  have Tpn := i_eq Cpn
  have Tgn := i_eq Cgn
  have Tan := i_eq Can
  have Tun := i_eq Cun
  have Tlc := i_eq Clc
  have Tln := i_eq Cln
  refine lv_aload_n hx hb dL_law_433 rfl (lv_at hl 1 rfl) ?_
  refine law_arg (v := 1) hx hb hX hbl hbA hS (lv_at hl 0 rfl) (lv_at hl 3 rfl) (by decide) hak1 exk1 dL_law_434 dL_law_435 dL_law_436 dL_law_437 dL_law_438 ?_
  refine law_arg (v := 2) hx hb hX hbl hbA hS (lv_at hl 0 rfl) (lv_at hl 3 rfl) (by decide) hak2 exk2 dL_law_439 dL_law_440 dL_law_441 dL_law_442 dL_law_443 ?_
  refine law_arg (v := 3) hx hb hX hbl hbA hS (lv_at hl 0 rfl) (lv_at hl 3 rfl) (by decide) hak3 exk3 dL_law_444 dL_law_445 dL_law_446 dL_law_447 dL_law_448 ?_
  refine st_iQ (wr := [(aI cI (ad 11) 16 (fx 0)), (aI cI (ad 27) 200 (fx 7)), (aI cI (ad 28) 200 (fx 8)), (aI cI (ad 29) 20 (fx 9)), (aI cI (ad 30) 10 (fx 10)), (oC1 ad (nx 4)), (aI cI (ad 31) 12 (fx 11)), (aI cI (ad 32) 12 (fx 12)), (aI cI (ad 33) 12 (fx 13)), (aI cI (ad 34) 6 (fx 14)), (aI cI (ad 35) 6 (fx 15)), (oC7 ad (nx 5)), (aI cI (ad 36) 40 (fx 16)), (aI cI (ad 37) 40 (fx 17)), (aI cI (ad 38) 40 (fx 18)), (aI cI (ad 39) 40 (fx 19)), (aI cI (ad 40) 40 (fx 20)), (aI cI (ad 41) 40 (fx 21)), (oC8 ad (nx 6)), (aI cI (ad 42) 40 (fx 22)), (aI cI (ad 43) 40 (fx 23)), (aI cI (ad 44) 40 (fx 24)), (aI cI (ad 45) 40 (fx 25)), (aI cI (ad 46) 40 (fx 26)), (oC2 ad (nx 7) (nx 8) (nx 9) (nx 10) (nx 11) (nx 12) (nx 13) (nx 14)), (aI cY (ad 47) 300 (fx 27)), (aI cI (ad 48) 12 (fx 28)), (aI cI (ad 49) 12 (fx 29)), (aI cI (ad 50) 12 (fx 30)), (aI cI (ad 51) 12 (fx 31)), (aI cI (ad 52) 12 (fx 32)), (aI cI (ad 53) 12 (fx 33)), (oC0 ad (nx 15)), (aI cI (ad 54) 60 (fx 34)), (aI cI (ad 55) 60 (fx 35)), (aI cI (ad 56) 60 (fx 36)), (aI cI (ad 57) 60 (fx 37)), (oC5 ad sd), (aJ cJ (ad 58) 12 lo), (oC6 ad (nx 16)), (aI cI (ad 59) 60 (fx 38)), (aI cI (ad 60) 60 (fx 39)), (aI cI (ad 61) 60 (fx 40)), (aI cI (ad 62) 60 (fx 41)), (oC4 ad (nx 17)), (aI cI (ad 63) 20 (fx 42)), (aI cI (ad 64) 20 (fx 43)), (aI cI (ad 65) 20 (fx 44))]) (va_runV (C := RX10) (As := [.int xk1, .int xk2, .int xk3]) (rest := []) ⟨hx, hb, hml, hown, hts⟩ (ct_X10_holds l D cI cY cJ cQ _ ad rw rs (nx 0) (nx 1) (nx 2) (nx 3) (fx 1) (fx 2) (fx 3) (fx 4) (fx 5) (fx 6) xk1 xk2 xk3 Xhna Xhnb XH XS) (cwV 3 hts gL_law_X10_holds rfl rfl rfl ⟨rfl, cdX10_holds⟩ ⟨Nat.le_of_ble_eq_true rfl, Nat.le_of_ble_eq_true rfl⟩) (cPreV (hP.sub [2, 3, 4, 5, 6, 7, 8, 9, 0, 10, 11, 12, 13, 14, 15, 16, 17, 18] rfl) hK (hD.sub [2, 3, 4, 5, 6, 7, 8, 9, 0, 10, 11, 12, 13, 14, 15, 16, 17, 18] (by decide +kernel) rfl) hN (ci := 10) (q0 := 8) rfl rfl) rfl rfl hl.1 rfl (lv_room (Nat.le_of_ble_eq_true rfl)) dL_law_449 ⟨Nat.le_of_ble_eq_true rfl, Nat.le_of_ble_eq_true rfl⟩) hP hD hS hA [2, 3, 4, 5, 6, 7, 8, 9, 0, 10, 11, 12, 13, 14, 15, 16, 17, 18] [1, 19, 20, 21, 22, 23, 24, 25, 26, 27, 28, 29, 30, 31, 32, 33, 34, 35, 36, 37, 38, 39, 40, 41, 42, 43, 44, 45, 46, 47, 48, 49, 50, 51, 52, 53, 54, 55, 56, 57, 58, 59, 60, 61, 62, 63, 64, 65] rfl rfl (by decide +kernel) (by decide +kernel) (fun r3 u1 H locs hw2 => ?_)
  clear hP hS
  intro hP _ hS
  obtain ⟨lf_4, hn_5, ho_6, hc_7, hp_8, hs_9⟩ := u1
  replace hw2 : (r3, (lf_4, hn_5, ho_6, hc_7, hp_8, hs_9)) = sp_holds (nx 2) rs (fx 2) (nx 3) (fx 3) (fx 4) (fx 5) (fx 6) xk1 xk2 xk3 ∧ 0 ≤ hn_5.toInt ∧ hn_5.toInt ≤ 40 ∧ okH hn_5 ho_6 hc_7 := hw2
  obtain ⟨hw2, hw2a, hw2b, hw2c⟩ := hw2
  have hw2d := sp_holds_okD hw2 (by omega) (by omega) XH XD
  obtain ⟨hw2v, hw2n⟩ := sp_holds_okVN hw2 (by omega) (by omega) XH XD ⟨XV, XN⟩
  refine lv_pop hx hb dL_law_452 rfl ?_
  have hPx : va_P D vwCl (wX ad rw sd cI cY cJ cQ (upd (upd nx 2 lf_4) 3 hn_5) (upR (upR (upR (upR fx 3 ho_6) 4 hc_7) 5 hp_8) 6 hs_9) rs lo ++ wM md sd cI cY cJ cQ ny fy fl) H := hP.part [56, 0, 48, 49, 50, 51, 52, 53, 54, 55, 57, 58, 59, 60, 61, 62, 63, 64, 65, 1, 2, 3, 4, 5, 6, 7, 8, 9, 10, 11, 12, 13, 14, 15, 16, 17, 18, 19, 20, 21, 22, 23, 24, 25, 26, 27, 28, 29, 30, 31, 32, 33, 34, 35, 36, 37, 38, 39, 40, 41, 42, 43, 44, 45, 46, 47] rfl
  have hDx : va_D (fun q : Nat => s.heap.size ≤ q) (wX ad rw sd cI cY cJ cQ (upd (upd nx 2 lf_4) 3 hn_5) (upR (upR (upR (upR fx 3 ho_6) 4 hc_7) 5 hp_8) 6 hs_9) rs lo ++ wM md sd cI cY cJ cQ ny fy fl) := wXM_D hD
  have hP := hPx.comm
  have hD := hDx.comm
  refine lv_aload_n hx hb dL_law_453 rfl (lv_at hl 2 rfl) ?_
  refine law_arg (v := 1) hx hb hX hbl hbA hS (lv_at hl 0 rfl) (lv_at hl 3 rfl) (by decide) hak1 exk1 dL_law_454 dL_law_455 dL_law_456 dL_law_457 dL_law_458 ?_
  refine law_arg (v := 2) hx hb hX hbl hbA hS (lv_at hl 0 rfl) (lv_at hl 3 rfl) (by decide) hak2 exk2 dL_law_459 dL_law_460 dL_law_461 dL_law_462 dL_law_463 ?_
  refine law_arg (v := 3) hx hb hX hbl hbA hS (lv_at hl 0 rfl) (lv_at hl 3 rfl) (by decide) hak3 exk3 dL_law_464 dL_law_465 dL_law_466 dL_law_467 dL_law_468 ?_
  refine st_iU (va_runV (C := RX11) (As := [.int xk1, .int xk2, .int xk3]) (rest := []) ⟨hx, hb, hml, hown, hts⟩ (ct_X11_holds l D cI cY cJ cQ _ md sd (ny 0) (ny 1) (ny 2) (ny 3) (ny 4) (ny 5) (ny 6) (ny 7) (ny 8) (ny 9) (ny 10) (ny 11) (ny 12) (ny 13) (ny 14) (ny 15) (ny 16) (ny 17) (ny 18) (ny 19) (ny 20) (ny 21) (ny 22) (fy 0) (fy 1) (fy 2) (fy 3) (fy 4) (fy 5) (fy 6) xk1 xk2 xk3 MS Mhna Mhnb MH) (cwV 3 hts gL_law_X11_holds rfl rfl rfl ⟨rfl, cdX11_holds⟩ ⟨Nat.le_of_ble_eq_true rfl, Nat.le_of_ble_eq_true rfl⟩) (cPreV (hP.sub [0, 1, 2, 3, 4, 5, 6, 7] rfl) hK (hD.sub [0, 1, 2, 3, 4, 5, 6, 7] (by decide +kernel) rfl) hN (ci := 11) (q0 := 0) rfl rfl) rfl rfl hl.1 rfl (lv_room (Nat.le_of_ble_eq_true rfl)) dL_law_469 ⟨Nat.le_of_ble_eq_true rfl, Nat.le_of_ble_eq_true rfl⟩) hP hD hS hA [0, 1, 2, 3, 4, 5, 6, 7] rfl (fun _ => rfl) (fun r12 u10 H locs hw11 => ?_)
  clear hP hS
  intro hP hS
  obtain ⟨mst_13, hn_14, ho_15, hc_16, hp_17, hs_18⟩ := u10
  replace hw11 : (r12, (mst_13, hn_14, ho_15, hc_16, hp_17, hs_18)) = sm_holds (ny 1) (fy 0) (fy 1) (fy 2) (ny 2) (fy 3) (fy 4) (fy 5) (fy 6) xk1 xk2 xk3 ∧ 0 ≤ hn_14.toInt ∧ hn_14.toInt ≤ 40 ∧ okH hn_14 ho_15 hc_16 := hw11
  obtain ⟨hw11, hw11a, hw11b, hw11c⟩ := hw11
  rw [Chn, Cho, Chc, Chp, Chs] at hw11
  obtain ⟨e90, e9hn, e9ho, e9hc, e9hp, e9hs, e9st⟩ := shR_holds Csh MS hw2 hw11
  refine lv_pop hx hb dL_law_472 rfl ?_
  refine lv_goto (tgt := 1652) hx hb dL_law_473 (by decide) ?_
  have hPm : va_P D vwCl (wM md sd cI cY cJ cQ (upd (upd (upd ny 0 0) 1 mst_13) 2 hn_14) (upR (upR (upR (upR fy 3 ho_15) 4 hc_16) 5 hp_17) 6 hs_18) fl ++ wX ad rw sd cI cY cJ cQ (upd (upd nx 2 lf_4) 3 hn_5) (upR (upR (upR (upR fx 3 ho_6) 4 hc_7) 5 hp_8) 6 hs_9) rs lo) H := hP
  have hDm : va_D (fun q : Nat => s.heap.size ≤ q) (wM md sd cI cY cJ cQ (upd (upd (upd ny 0 0) 1 mst_13) 2 hn_14) (upR (upR (upR (upR fy 3 ho_15) 4 hc_16) 5 hp_17) 6 hs_18) fl ++ wX ad rw sd cI cY cJ cQ (upd (upd nx 2 lf_4) 3 hn_5) (upR (upR (upR (upR fx 3 ho_6) 4 hc_7) 5 hp_8) 6 hs_9) rs lo) := wMX_D hD
  exact kk (upd (upd nx 2 lf_4) 3 hn_5) (upR (upR (upR (upR fx 3 ho_6) 4 hc_7) 5 hp_8) 6 hs_9) rs lo (upd (upd (upd ny 0 0) 1 mst_13) 2 hn_14) (upR (upR (upR (upR fy 3 ho_15) 4 hc_16) 5 hp_17) 6 hs_18) fl H locs ls ⟨(by show 0 ≤ (hn_5).toInt; omega), (by show (hn_5).toInt ≤ 40; omega), (show okH (hn_5) (ho_6) (hc_7) by assumption), (show okD (hn_5) (hs_9) by assumption), (show okV (hn_5) (hp_8) by assumption), (show okN (hn_5) (ho_6) (hc_7) by assumption), Xcna, Xcnb, XF, Xpna, Xpnb, XG, XO, XW, Xgna, Xgnb, XJ, Xlna, Xlnb, Xdla, Xdlb, Xana, Xanb, Xuna, Xunb, XU, Xlca, Xlcb, Xtna, Xtnb, XS, (by show 0 ≤ (hn_14).toInt; omega), (by show (hn_14).toInt ≤ 40; omega), (show okH (hn_14) (ho_15) (hc_16) by assumption), MS, Mmlna, Mmlnb, Mmtna, Mmtnb, (show (hn_14) = (hn_5) from e9hn), (show (ho_15) = (ho_6) from e9ho), (show (hc_16) = (hc_7) from e9hc), (show (hp_17) = (hp_8) from e9hp), (show (hs_18) = (hs_9) from e9hs), Ccn, Cfo, Cwo, Cpn, Cpk, Cpf, Cpo, Cpd, Cpe, Cgn, Cgk, Cgs, Cgd, Cge, Can, Cak, Cah, Cay, Caz, Cun, Cuk, Cuy, Cuw, Cum, Clc, Clp, Cla, Clb, Caw, Ciw, Cln, Ctd, Cro, Cmtn, Cmtr, (show (mst_13) = (lf_4) from e9st Cmst), Csh⟩ hPm.comm hDm.comm hS hl

set_option maxHeartbeats 4000000 in
set_option maxRecDepth 100000 in
theorem law_case_6 {p : Program} {l : Launch} {e : Env} {s : State} {m : MethodId} {below : List Frame} {meth : Method} {c : Code} {D : va_G} {cI cY cJ cQ : ClassId} {b L aK aV : Nat} {xs : Nat → Int32} {ad rw md : Nat → Nat} {sd i : Int32} {nx : Nat → Int32} {fx rs : Nat → Nat → Int32} {lo : Nat → Int64} {ny : Nat → Int32} {fy : Nat → Nat → Int32} {fl : Nat → Int64} {H : Heap} {locs : List Loc} {ls : Array Slot} (C0 : lawC p s m meth c b L xs D cI cY cJ cQ aK aV) (I : inv nx fx rs ny fy) (hP : va_P D vwCl (wX ad rw sd cI cY cJ cQ nx fx rs lo ++ wM md sd cI cY cJ cQ ny fy fl) H) (hD : va_D (fun q : Nat => s.heap.size ≤ q) (wX ad rw sd cI cY cJ cQ nx fx rs lo ++ wM md sd cI cY cJ cQ ny fy fl)) (hS : va_S (fun q : Nat => s.heap.size ≤ q) s.heap H locs) (hl : lv_has ls 4 [(0, .ref b), (1, .ref (ad 0)), (2, .ref (md 64)), (3, .int i)]) (hi1 : 1 ≤ i.toInt) (hi2 : i.toInt + 5 < L) (kk : ∀ (nx : Nat → Int32) (fx rs : Nat → Nat → Int32) (lo : Nat → Int64) (ny : Nat → Int32) (fy : Nat → Nat → Int32) (fl : Nat → Int64) (H : Heap) (locs : List Loc) (ls : Array Slot), inv nx fx rs ny fy → va_P D vwCl (wX ad rw sd cI cY cJ cQ nx fx rs lo ++ wM md sd cI cY cJ cQ ny fy fl) H → va_D (fun q : Nat => s.heap.size ≤ q) (wX ad rw sd cI cY cJ cQ nx fx rs lo ++ wM md sd cI cY cJ cQ ny fy fl) → va_S (fun q : Nat => s.heap.size ≤ q) s.heap H locs → lv_has ls 4 [(0, .ref b), (1, .ref (ad 0)), (2, .ref (md 64)), (3, .int i)] → W p l e room_1 s m #[Value.ref b] below meth c H locs 107 4890 (lw_Z below #[Value.ref b] s) (F0 m 1652 ls [])) : W p l e room_1 s m #[Value.ref b] below meth c H locs 107 4890 (lw_Z below #[Value.ref b] s) (F0 m 476 ls []) := by
  obtain ⟨C1, hK, hN, hT, hL⟩ := C0
  obtain ⟨hx, hb, hr, hml, hown, hts0, hX, hbl, hlocks, hgv⟩ := C1
  have hA : ∀ q : Nat, s.heap.size ≤ q → (fun q : Nat => s.heap.size ≤ q) q := fun _ h => h
  have hbA : ¬ (fun q : Nat => s.heap.size ≤ q) b := Nat.not_le.mpr hbl
  have hts : ∀ w ∈ wsL_law, w.before #[Value.ref b] s = true := fun w h => hts0 w (wsL_law_in w h)
  replace hown : s.vm.findClass RL = some m.cls := hown
  replace hb : c.code = cL_law := hb
  have hak1 : vp_in (i + 1) L := law_in hi1 hi2 hL (by decide)
  obtain ⟨xk1, exk1⟩ : ∃ y : Int32, y = xs (i + 1).toNatClampNeg := ⟨_, rfl⟩
  have hak2 : vp_in (i + 2) L := law_in hi1 hi2 hL (by decide)
  obtain ⟨xk2, exk2⟩ : ∃ y : Int32, y = xs (i + 2).toNatClampNeg := ⟨_, rfl⟩
  have hak3 : vp_in (i + 3) L := law_in hi1 hi2 hL (by decide)
  obtain ⟨xk3, exk3⟩ : ∃ y : Int32, y = xs (i + 3).toNatClampNeg := ⟨_, rfl⟩
  refine inv_el I ?_
  intro Xhna Xhnb XH XD XV XN Xcna Xcnb XF Xpna Xpnb XG XO XW Xgna Xgnb XJ Xlna Xlnb Xdla Xdlb Xana Xanb Xuna Xunb XU Xlca Xlcb Xtna Xtnb XS Mhna Mhnb MH MS Mmlna Mmlnb Mmtna Mmtnb Chn Cho Chc Chp Chs Ccn Cfo Cwo Cpn Cpk Cpf Cpo Cpd Cpe Cgn Cgk Cgs Cgd Cge Can Cak Cah Cay Caz Cun Cuk Cuy Cuw Cum Clc Clp Cla Clb Caw Ciw Cln Ctd Cro Cmtn Cmtr Cmst Csh
  have Tcn := i_eq Ccn
  have Tpn := i_eq Cpn
  have Tgn := i_eq Cgn
  have Tan := i_eq Can
  have Tun := i_eq Cun
  have Tlc := i_eq Clc
  have Tln := i_eq Cln
  refine lv_aload_n hx hb dL_law_476 rfl (lv_at hl 1 rfl) ?_
  refine law_arg (v := 1) hx hb hX hbl hbA hS (lv_at hl 0 rfl) (lv_at hl 3 rfl) (by decide) hak1 exk1 dL_law_477 dL_law_478 dL_law_479 dL_law_480 dL_law_481 ?_
  refine law_arg (v := 2) hx hb hX hbl hbA hS (lv_at hl 0 rfl) (lv_at hl 3 rfl) (by decide) hak2 exk2 dL_law_482 dL_law_483 dL_law_484 dL_law_485 dL_law_486 ?_
  refine law_arg (v := 3) hx hb hX hbl hbA hS (lv_at hl 0 rfl) (lv_at hl 3 rfl) (by decide) hak3 exk3 dL_law_487 dL_law_488 dL_law_489 dL_law_490 dL_law_491 ?_
  refine st_iU (va_runV (C := RX10) (As := [.int xk1, .int xk2, .int xk3]) (rest := []) ⟨hx, hb, hml, hown, hts⟩ (ct_X10_percent l D cI cY cJ cQ _ ad (nx 0) (nx 1) (nx 2) (nx 3) (fx 3) (fx 4) (fx 5) (fx 6) (fx 7) (fx 8) (fx 9) (fx 10) xk1 xk2 xk3 Xhna Xhnb XH XV) (cwV 3 hts gL_law_X10_percent rfl rfl rfl ⟨rfl, cdX10_percent⟩ ⟨Nat.le_of_ble_eq_true rfl, Nat.le_of_ble_eq_true rfl⟩) (cPreV (hP.sub [0, 14, 15, 16, 17, 18, 19, 20, 21, 22] rfl) hK (hD.sub [0, 14, 15, 16, 17, 18, 19, 20, 21, 22] (by decide +kernel) rfl) hN (ci := 10) (q0 := 0) rfl rfl) rfl rfl hl.1 rfl (lv_room (Nat.le_of_ble_eq_true rfl)) dL_law_492 ⟨Nat.le_of_ble_eq_true rfl, Nat.le_of_ble_eq_true rfl⟩) hP hD hS hA [0, 14, 15, 16, 17, 18, 19, 20, 21, 22] rfl (fun _ => rfl) (fun r3 u1 H locs hw2 => ?_)
  clear hP hS
  intro hP hS
  obtain ⟨pt_4, ps_5, ha_6, re_7⟩ := u1
  replace hw2 : r3 = sp_percent (nx 3) (fx 3) (fx 4) (fx 5) (fx 6) xk1 xk2 xk3 := hw2
  refine lv_pop hx hb dL_law_495 rfl ?_
  have hPx : va_P D vwCl (wX ad rw sd cI cY cJ cQ nx (upR (upR (upR (upR fx 7 pt_4) 8 ps_5) 9 ha_6) 10 re_7) rs lo ++ wM md sd cI cY cJ cQ ny fy fl) H := hP
  have hDx : va_D (fun q : Nat => s.heap.size ≤ q) (wX ad rw sd cI cY cJ cQ nx (upR (upR (upR (upR fx 7 pt_4) 8 ps_5) 9 ha_6) 10 re_7) rs lo ++ wM md sd cI cY cJ cQ ny fy fl) := wXM_D hD
  have hP := hPx.comm
  have hD := hDx.comm
  refine lv_aload_n hx hb dL_law_496 rfl (lv_at hl 2 rfl) ?_
  refine law_arg (v := 1) hx hb hX hbl hbA hS (lv_at hl 0 rfl) (lv_at hl 3 rfl) (by decide) hak1 exk1 dL_law_497 dL_law_498 dL_law_499 dL_law_500 dL_law_501 ?_
  refine law_arg (v := 2) hx hb hX hbl hbA hS (lv_at hl 0 rfl) (lv_at hl 3 rfl) (by decide) hak2 exk2 dL_law_502 dL_law_503 dL_law_504 dL_law_505 dL_law_506 ?_
  refine law_arg (v := 3) hx hb hX hbl hbA hS (lv_at hl 0 rfl) (lv_at hl 3 rfl) (by decide) hak3 exk3 dL_law_507 dL_law_508 dL_law_509 dL_law_510 dL_law_511 ?_
  refine st_iU (va_runV (C := RX11) (As := [.int xk1, .int xk2, .int xk3]) (rest := []) ⟨hx, hb, hml, hown, hts⟩ (ct_X11_percent l D cI cY cJ cQ _ md sd (ny 0) (ny 1) (ny 2) (ny 3) (ny 4) (ny 5) (ny 6) (ny 7) (ny 8) (ny 9) (ny 10) (ny 11) (ny 12) (ny 13) (ny 14) (ny 15) (ny 16) (ny 17) (ny 18) (ny 19) (ny 20) (ny 21) (ny 22) (fy 3) (fy 4) (fy 5) (fy 6) xk1 xk2 xk3 Mhna Mhnb) (cwV 3 hts gL_law_X11_percent rfl rfl rfl ⟨rfl, cdX11_percent⟩ ⟨Nat.le_of_ble_eq_true rfl, Nat.le_of_ble_eq_true rfl⟩) (cPreV (hP.sub [0, 4, 5, 6, 7] rfl) hK (hD.sub [0, 4, 5, 6, 7] (by decide +kernel) rfl) hN (ci := 11) (q0 := 0) rfl rfl) rfl rfl hl.1 rfl (lv_room (Nat.le_of_ble_eq_true rfl)) dL_law_512 ⟨Nat.le_of_ble_eq_true rfl, Nat.le_of_ble_eq_true rfl⟩) hP hD hS hA [0, 4, 5, 6, 7] rfl (fun _ => rfl) (fun r10 u8 H locs hw9 => ?_)
  clear hP hS
  intro hP hS
  replace hw9 : r10 = sm_percent (ny 2) (fy 3) (fy 4) (fy 5) (fy 6) xk1 xk2 xk3 := hw9
  rw [Chn, Cho, Chc, Chp, Chs, ← percent_eq (by omega) (by omega) XD] at hw9
  have e90 := hw2.trans hw9.symm
  refine lv_pop hx hb dL_law_515 rfl ?_
  refine lv_goto (tgt := 1652) hx hb dL_law_516 (by decide) ?_
  have hPm : va_P D vwCl (wM md sd cI cY cJ cQ (upd ny 0 0) fy fl ++ wX ad rw sd cI cY cJ cQ nx (upR (upR (upR (upR fx 7 pt_4) 8 ps_5) 9 ha_6) 10 re_7) rs lo) H := hP
  have hDm : va_D (fun q : Nat => s.heap.size ≤ q) (wM md sd cI cY cJ cQ (upd ny 0 0) fy fl ++ wX ad rw sd cI cY cJ cQ nx (upR (upR (upR (upR fx 7 pt_4) 8 ps_5) 9 ha_6) 10 re_7) rs lo) := wMX_D hD
  exact kk nx (upR (upR (upR (upR fx 7 pt_4) 8 ps_5) 9 ha_6) 10 re_7) rs lo (upd ny 0 0) fy fl H locs ls ⟨Xhna, Xhnb, XH, XD, XV, XN, Xcna, Xcnb, XF, Xpna, Xpnb, XG, XO, XW, Xgna, Xgnb, XJ, Xlna, Xlnb, Xdla, Xdlb, Xana, Xanb, Xuna, Xunb, XU, Xlca, Xlcb, Xtna, Xtnb, XS, Mhna, Mhnb, MH, MS, Mmlna, Mmlnb, Mmtna, Mmtnb, Chn, Cho, Chc, Chp, Chs, Ccn, Cfo, Cwo, Cpn, Cpk, Cpf, Cpo, Cpd, Cpe, Cgn, Cgk, Cgs, Cgd, Cge, Can, Cak, Cah, Cay, Caz, Cun, Cuk, Cuy, Cuw, Cum, Clc, Clp, Cla, Clb, Caw, Ciw, Cln, Ctd, Cro, Cmtn, Cmtr, Cmst, Csh⟩ hPm.comm hDm.comm hS hl

set_option maxHeartbeats 4000000 in
set_option maxRecDepth 100000 in
theorem law_case_7 {p : Program} {l : Launch} {e : Env} {s : State} {m : MethodId} {below : List Frame} {meth : Method} {c : Code} {D : va_G} {cI cY cJ cQ : ClassId} {b L aK aV : Nat} {xs : Nat → Int32} {ad rw md : Nat → Nat} {sd i : Int32} {nx : Nat → Int32} {fx rs : Nat → Nat → Int32} {lo : Nat → Int64} {ny : Nat → Int32} {fy : Nat → Nat → Int32} {fl : Nat → Int64} {H : Heap} {locs : List Loc} {ls : Array Slot} (C0 : lawC p s m meth c b L xs D cI cY cJ cQ aK aV) (I : inv nx fx rs ny fy) (hP : va_P D vwCl (wX ad rw sd cI cY cJ cQ nx fx rs lo ++ wM md sd cI cY cJ cQ ny fy fl) H) (hD : va_D (fun q : Nat => s.heap.size ≤ q) (wX ad rw sd cI cY cJ cQ nx fx rs lo ++ wM md sd cI cY cJ cQ ny fy fl)) (hS : va_S (fun q : Nat => s.heap.size ≤ q) s.heap H locs) (hl : lv_has ls 4 [(0, .ref b), (1, .ref (ad 0)), (2, .ref (md 64)), (3, .int i)]) (hi1 : 1 ≤ i.toInt) (hi2 : i.toInt + 5 < L) (kk : ∀ (nx : Nat → Int32) (fx rs : Nat → Nat → Int32) (lo : Nat → Int64) (ny : Nat → Int32) (fy : Nat → Nat → Int32) (fl : Nat → Int64) (H : Heap) (locs : List Loc) (ls : Array Slot), inv nx fx rs ny fy → va_P D vwCl (wX ad rw sd cI cY cJ cQ nx fx rs lo ++ wM md sd cI cY cJ cQ ny fy fl) H → va_D (fun q : Nat => s.heap.size ≤ q) (wX ad rw sd cI cY cJ cQ nx fx rs lo ++ wM md sd cI cY cJ cQ ny fy fl) → va_S (fun q : Nat => s.heap.size ≤ q) s.heap H locs → lv_has ls 4 [(0, .ref b), (1, .ref (ad 0)), (2, .ref (md 64)), (3, .int i)] → W p l e room_1 s m #[Value.ref b] below meth c H locs 107 4890 (lw_Z below #[Value.ref b] s) (F0 m 1652 ls [])) : W p l e room_1 s m #[Value.ref b] below meth c H locs 107 4890 (lw_Z below #[Value.ref b] s) (F0 m 519 ls []) := by
  obtain ⟨C1, hK, hN, hT, hL⟩ := C0
  obtain ⟨hx, hb, hr, hml, hown, hts0, hX, hbl, hlocks, hgv⟩ := C1
  have hA : ∀ q : Nat, s.heap.size ≤ q → (fun q : Nat => s.heap.size ≤ q) q := fun _ h => h
  have hbA : ¬ (fun q : Nat => s.heap.size ≤ q) b := Nat.not_le.mpr hbl
  have hts : ∀ w ∈ wsL_law, w.before #[Value.ref b] s = true := fun w h => hts0 w (wsL_law_in w h)
  replace hown : s.vm.findClass RL = some m.cls := hown
  replace hb : c.code = cL_law := hb
  have hak1 : vp_in (i + 1) L := law_in hi1 hi2 hL (by decide)
  obtain ⟨xk1, exk1⟩ : ∃ y : Int32, y = xs (i + 1).toNatClampNeg := ⟨_, rfl⟩
  have hak2 : vp_in (i + 2) L := law_in hi1 hi2 hL (by decide)
  obtain ⟨xk2, exk2⟩ : ∃ y : Int32, y = xs (i + 2).toNatClampNeg := ⟨_, rfl⟩
  have hak3 : vp_in (i + 3) L := law_in hi1 hi2 hL (by decide)
  obtain ⟨xk3, exk3⟩ : ∃ y : Int32, y = xs (i + 3).toNatClampNeg := ⟨_, rfl⟩
  refine inv_el I ?_
  intro Xhna Xhnb XH XD XV XN Xcna Xcnb XF Xpna Xpnb XG XO XW Xgna Xgnb XJ Xlna Xlnb Xdla Xdlb Xana Xanb Xuna Xunb XU Xlca Xlcb Xtna Xtnb XS Mhna Mhnb MH MS Mmlna Mmlnb Mmtna Mmtnb Chn Cho Chc Chp Chs Ccn Cfo Cwo Cpn Cpk Cpf Cpo Cpd Cpe Cgn Cgk Cgs Cgd Cge Can Cak Cah Cay Caz Cun Cuk Cuy Cuw Cum Clc Clp Cla Clb Caw Ciw Cln Ctd Cro Cmtn Cmtr Cmst Csh
  have Tcn := i_eq Ccn
  have Tpn := i_eq Cpn
  have Tgn := i_eq Cgn
  have Tan := i_eq Can
  have Tun := i_eq Cun
  have Tlc := i_eq Clc
  have Tln := i_eq Cln
  have Thn := i_eq Chn
  have MXV : okV (ny 2) (fy 5) := by rw [Chn, Chp]; exact XV
  have MXF : okF (ny 3) (fy 10) := by rw [Ccn, Cfo]; exact XF
  have MXG : okG (ny 4) (fy 14) := by rw [Cpn, Cpo]; exact XG
  refine lv_aload_n hx hb dL_law_519 rfl (lv_at hl 1 rfl) ?_
  refine law_arg (v := 1) hx hb hX hbl hbA hS (lv_at hl 0 rfl) (lv_at hl 3 rfl) (by decide) hak1 exk1 dL_law_520 dL_law_521 dL_law_522 dL_law_523 dL_law_524 ?_
  refine law_arg (v := 2) hx hb hX hbl hbA hS (lv_at hl 0 rfl) (lv_at hl 3 rfl) (by decide) hak2 exk2 dL_law_525 dL_law_526 dL_law_527 dL_law_528 dL_law_529 ?_
  refine law_arg (v := 3) hx hb hX hbl hbA hS (lv_at hl 0 rfl) (lv_at hl 3 rfl) (by decide) hak3 exk3 dL_law_530 dL_law_531 dL_law_532 dL_law_533 dL_law_534 ?_
  refine st_iU (va_runV (C := RX10) (As := [.int xk1, .int xk2, .int xk3]) (rest := []) ⟨hx, hb, hml, hown, hts⟩ (ct_X10_share l D cI cY cJ cQ _ ad (nx 0) (nx 1) (nx 2) (nx 3) (fx 3) (fx 4) (fx 5) (fx 6) (fx 7) (fx 8) (fx 9) (fx 10) xk1 xk2 xk3 Xhna Xhnb XH XV) (cwV 3 hts gL_law_X10_share rfl rfl rfl ⟨rfl, cdX10_share⟩ ⟨Nat.le_of_ble_eq_true rfl, Nat.le_of_ble_eq_true rfl⟩) (cPreV (hP.sub [0, 14, 15, 16, 17, 18, 19, 20, 21, 22] rfl) hK (hD.sub [0, 14, 15, 16, 17, 18, 19, 20, 21, 22] (by decide +kernel) rfl) hN (ci := 10) (q0 := 0) rfl rfl) rfl rfl hl.1 rfl (lv_room (Nat.le_of_ble_eq_true rfl)) dL_law_535 ⟨Nat.le_of_ble_eq_true rfl, Nat.le_of_ble_eq_true rfl⟩) hP hD hS hA [0, 14, 15, 16, 17, 18, 19, 20, 21, 22] rfl (fun _ => rfl) (fun r3 u1 H locs hw2 => ?_)
  clear hP hS
  intro hP hS
  obtain ⟨pt_4, ps_5, ha_6, re_7⟩ := u1
  replace hw2 : r3.toInt = sp_share (nx 3) (fx 3) (fx 4) (fx 5) (fx 6) xk1 xk2 xk3 := hw2
  refine lv_pop hx hb dL_law_538 rfl ?_
  have hPx : va_P D vwCl (wX ad rw sd cI cY cJ cQ nx (upR (upR (upR (upR fx 7 pt_4) 8 ps_5) 9 ha_6) 10 re_7) rs lo ++ wM md sd cI cY cJ cQ ny fy fl) H := hP
  have hDx : va_D (fun q : Nat => s.heap.size ≤ q) (wX ad rw sd cI cY cJ cQ nx (upR (upR (upR (upR fx 7 pt_4) 8 ps_5) 9 ha_6) 10 re_7) rs lo ++ wM md sd cI cY cJ cQ ny fy fl) := wXM_D hD
  have hP := hPx.comm
  have hD := hDx.comm
  refine lv_aload_n hx hb dL_law_539 rfl (lv_at hl 2 rfl) ?_
  refine law_arg (v := 1) hx hb hX hbl hbA hS (lv_at hl 0 rfl) (lv_at hl 3 rfl) (by decide) hak1 exk1 dL_law_540 dL_law_541 dL_law_542 dL_law_543 dL_law_544 ?_
  refine law_arg (v := 2) hx hb hX hbl hbA hS (lv_at hl 0 rfl) (lv_at hl 3 rfl) (by decide) hak2 exk2 dL_law_545 dL_law_546 dL_law_547 dL_law_548 dL_law_549 ?_
  refine law_arg (v := 3) hx hb hX hbl hbA hS (lv_at hl 0 rfl) (lv_at hl 3 rfl) (by decide) hak3 exk3 dL_law_550 dL_law_551 dL_law_552 dL_law_553 dL_law_554 ?_
  refine st_iU (va_runV (C := RX11) (As := [.int xk1, .int xk2, .int xk3]) (rest := []) ⟨hx, hb, hml, hown, hts⟩ (ct_X11_share l D cI cY cJ cQ _ md sd (ny 0) (ny 1) (ny 2) (ny 3) (ny 4) (ny 5) (ny 6) (ny 7) (ny 8) (ny 9) (ny 10) (ny 11) (ny 12) (ny 13) (ny 14) (ny 15) (ny 16) (ny 17) (ny 18) (ny 19) (ny 20) (ny 21) (ny 22) (fy 3) (fy 4) (fy 5) (fy 6) (fy 7) (fy 8) (fy 9) fl xk1 xk2 xk3 Mhna Mhnb (by assumption)) (cwV 3 hts gL_law_X11_share rfl rfl rfl ⟨rfl, cdX11_share⟩ ⟨Nat.le_of_ble_eq_true rfl, Nat.le_of_ble_eq_true rfl⟩) (cPreV (hP.sub [0, 4, 5, 6, 7, 8, 9, 10, 11] rfl) hK (hD.sub [0, 4, 5, 6, 7, 8, 9, 10, 11] (by decide +kernel) rfl) hN (ci := 11) (q0 := 0) rfl rfl) rfl rfl hl.1 rfl (lv_room (Nat.le_of_ble_eq_true rfl)) dL_law_555 ⟨Nat.le_of_ble_eq_true rfl, Nat.le_of_ble_eq_true rfl⟩) hP hD hS hA [0, 4, 5, 6, 7, 8, 9, 10, 11] rfl (fun _ => rfl) (fun r10 u8 H locs hw9 => ?_)
  clear hP hS
  intro hP hS
  obtain ⟨mh_11, mp_12, mt_13, mf_14⟩ := u8
  replace hw9 : r10.toInt = sm_share (ny 2) (fy 3) (fy 4) (fy 5) (fy 6) xk1 xk2 xk3 := hw9
  rw [Chn, Cho, Chc, Chp, Chs, ← share_eq (by omega) (by omega) XD XN XV] at hw9
  have e90 := i_of (hw2.trans hw9.symm)
  refine lv_pop hx hb dL_law_558 rfl ?_
  refine lv_goto (tgt := 1652) hx hb dL_law_559 (by decide) ?_
  have hPm : va_P D vwCl (wM md sd cI cY cJ cQ (upd ny 0 0) (upR (upR (upR fy 7 mh_11) 8 mp_12) 9 mt_13) mf_14 ++ wX ad rw sd cI cY cJ cQ nx (upR (upR (upR (upR fx 7 pt_4) 8 ps_5) 9 ha_6) 10 re_7) rs lo) H := hP
  have hDm : va_D (fun q : Nat => s.heap.size ≤ q) (wM md sd cI cY cJ cQ (upd ny 0 0) (upR (upR (upR fy 7 mh_11) 8 mp_12) 9 mt_13) mf_14 ++ wX ad rw sd cI cY cJ cQ nx (upR (upR (upR (upR fx 7 pt_4) 8 ps_5) 9 ha_6) 10 re_7) rs lo) := wMX_D hD
  exact kk nx (upR (upR (upR (upR fx 7 pt_4) 8 ps_5) 9 ha_6) 10 re_7) rs lo (upd ny 0 0) (upR (upR (upR fy 7 mh_11) 8 mp_12) 9 mt_13) mf_14 H locs ls ⟨Xhna, Xhnb, XH, XD, XV, XN, Xcna, Xcnb, XF, Xpna, Xpnb, XG, XO, XW, Xgna, Xgnb, XJ, Xlna, Xlnb, Xdla, Xdlb, Xana, Xanb, Xuna, Xunb, XU, Xlca, Xlcb, Xtna, Xtnb, XS, Mhna, Mhnb, MH, MS, Mmlna, Mmlnb, Mmtna, Mmtnb, Chn, Cho, Chc, Chp, Chs, Ccn, Cfo, Cwo, Cpn, Cpk, Cpf, Cpo, Cpd, Cpe, Cgn, Cgk, Cgs, Cgd, Cge, Can, Cak, Cah, Cay, Caz, Cun, Cuk, Cuy, Cuw, Cum, Clc, Clp, Cla, Clb, Caw, Ciw, Cln, Ctd, Cro, Cmtn, Cmtr, Cmst, Csh⟩ hPm.comm hDm.comm hS hl
