theorem cdX11_in : yX11_in.cls ≠ "java/lang/invoke/MethodHandle" ∧ yX11_in.cls ≠ "java/lang/invoke/VarHandle" ∧ (parseMethodDescriptor yX11_in.desc).map (fun d => d.parameters.length) = some 3 := by decide +kernel
theorem cdX11_isDay : yX11_isDay.cls ≠ "java/lang/invoke/MethodHandle" ∧ yX11_isDay.cls ≠ "java/lang/invoke/VarHandle" ∧ (parseMethodDescriptor yX11_isDay.desc).map (fun d => d.parameters.length) = some 1 := by decide +kernel
theorem Gd_X11_in : gdA wsX11_in := gd_cons (by decide +kernel) (gd_all (ws := []) rfl)
theorem inX11_found_X11 : ∀ w ∈ u_ws RX11 TX11 64, w ∈ wsX11_found := fun _ h => (List.mem_cons_of_mem _ (List.mem_append_right _ h))
theorem Gd_X11_isDay : gdA wsX11_isDay := gd_cons (by decide +kernel) (gd_app (gd_all (ws := wsX11_isDay_o1) (by decide +kernel)) Gd_X11_in)
theorem inX11_isCrate_X11 : ∀ w ∈ u_ws RX11 TX11 64, w ∈ wsX11_isCrate := fun _ h => (List.mem_cons_of_mem _ (List.mem_append_right _ (List.mem_append_left _ h)))
theorem inX11_fault_X11 : ∀ w ∈ u_ws RX11 TX11 64, w ∈ wsX11_fault := fun _ h => (List.mem_cons_of_mem _ (List.mem_append_right _ h))
theorem inX11_day_X11 : ∀ w ∈ u_ws RX11 TX11 64, w ∈ wsX11_day := fun _ h => (List.mem_cons_of_mem _ (List.mem_append_right _ (List.mem_append_left _ h)))
theorem inX11_status_X11 : ∀ w ∈ u_ws RX11 TX11 64, w ∈ wsX11_status := fun _ h => (List.mem_cons_of_mem _ (List.mem_append_right _ h))
theorem dX11_in_all0 : decode cX11_in 0 = .ok (.lload_n 0, 1) ∧ decode cX11_in 1 = .ok (.lload_n 2, 1) ∧ decode cX11_in 2 = .ok (.lcmp, 1) ∧ decode cX11_in 3 = .ok (.ifCond .lt 14, 3) ∧ decode cX11_in 6 = .ok (.lload_n 0, 1) ∧ decode cX11_in 7 = .ok (.lload 4, 2) ∧ decode cX11_in 9 = .ok (.lcmp, 1) ∧ decode cX11_in 10 = .ok (.ifCond .gt 7, 3) ∧ decode cX11_in 13 = .ok (.iconst 1, 1) ∧ decode cX11_in 14 = .ok (.goto 4, 3) ∧ decode cX11_in 17 = .ok (.iconst 0, 1) ∧ decode cX11_in 18 = .ok (.ireturn, 1) := by decide +kernel
theorem dX11_in_0 : decode cX11_in 0 = .ok (.lload_n 0, 1) := dX11_in_all0.1
theorem dX11_in_1 : decode cX11_in 1 = .ok (.lload_n 2, 1) := dX11_in_all0.2.1
theorem dX11_in_2 : decode cX11_in 2 = .ok (.lcmp, 1) := dX11_in_all0.2.2.1
theorem dX11_in_3 : decode cX11_in 3 = .ok (.ifCond .lt 14, 3) := dX11_in_all0.2.2.2.1
theorem dX11_in_6 : decode cX11_in 6 = .ok (.lload_n 0, 1) := dX11_in_all0.2.2.2.2.1
theorem dX11_in_7 : decode cX11_in 7 = .ok (.lload 4, 2) := dX11_in_all0.2.2.2.2.2.1
theorem dX11_in_9 : decode cX11_in 9 = .ok (.lcmp, 1) := dX11_in_all0.2.2.2.2.2.2.1
theorem dX11_in_10 : decode cX11_in 10 = .ok (.ifCond .gt 7, 3) := dX11_in_all0.2.2.2.2.2.2.2.1
theorem dX11_in_13 : decode cX11_in 13 = .ok (.iconst 1, 1) := dX11_in_all0.2.2.2.2.2.2.2.2.1
theorem dX11_in_14 : decode cX11_in 14 = .ok (.goto 4, 3) := dX11_in_all0.2.2.2.2.2.2.2.2.2.1
theorem dX11_in_17 : decode cX11_in 17 = .ok (.iconst 0, 1) := dX11_in_all0.2.2.2.2.2.2.2.2.2.2.1
theorem dX11_in_18 : decode cX11_in 18 = .ok (.ireturn, 1) := dX11_in_all0.2.2.2.2.2.2.2.2.2.2.2
theorem dX11_found_all0 : decode cX11_found 0 = .ok (.aload_n 0, 1) ∧ decode cX11_found 1 = .ok (.iload_n 1, 1) ∧ decode cX11_found 2 = .ok (.putfield 141, 3) ∧ decode cX11_found 5 = .ok (.ldc 144, 2) ∧ decode cX11_found 7 = .ok (.iload_n 1, 1) ∧ decode cX11_found 8 = .ok (.isub, 1) ∧ decode cX11_found 9 = .ok (.ireturn, 1) := by decide +kernel
theorem dX11_found_0 : decode cX11_found 0 = .ok (.aload_n 0, 1) := dX11_found_all0.1
theorem dX11_found_1 : decode cX11_found 1 = .ok (.iload_n 1, 1) := dX11_found_all0.2.1
theorem dX11_found_2 : decode cX11_found 2 = .ok (.putfield 141, 3) := dX11_found_all0.2.2.1
theorem dX11_found_5 : decode cX11_found 5 = .ok (.ldc 144, 2) := dX11_found_all0.2.2.2.1
theorem dX11_found_7 : decode cX11_found 7 = .ok (.iload_n 1, 1) := dX11_found_all0.2.2.2.2.1
theorem dX11_found_8 : decode cX11_found 8 = .ok (.isub, 1) := dX11_found_all0.2.2.2.2.2.1
theorem dX11_found_9 : decode cX11_found 9 = .ok (.ireturn, 1) := dX11_found_all0.2.2.2.2.2.2
theorem ggX11_isSheet_X11_in : GoodIn wsX11_isSheet wsX11_in := goodIn_s (fun _ h => wm_t (wm_r h)) Gd_X11_in
theorem gX11_isSheet_X11_in : GoodIn wsX11_isSheet (va_wsS RX11 147 yX11_in wsX11_in) := goodIn_S (own := RX11) (idx := 147) (y := yX11_in) (wm_t (wm_l (wm_i 1 rfl))) (wm_t (wm_l (wm_i 2 rfl))) (wm_t (wm_l (wm_i 3 rfl))) ggX11_isSheet_X11_in
theorem dX11_isSheet_all0 : decode cX11_isSheet 0 = .ok (.iload_n 0, 1) ∧ decode cX11_isSheet 1 = .ok (.i2l, 1) ∧ decode cX11_isSheet 2 = .ok (.lconst 0, 1) ∧ decode cX11_isSheet 3 = .ok (.ldc2_w 145, 3) ∧ decode cX11_isSheet 6 = .ok (.invokestatic 147, 3) ∧ decode cX11_isSheet 9 = .ok (.ireturn, 1) := by decide +kernel
theorem dX11_isSheet_0 : decode cX11_isSheet 0 = .ok (.iload_n 0, 1) := dX11_isSheet_all0.1
theorem dX11_isSheet_1 : decode cX11_isSheet 1 = .ok (.i2l, 1) := dX11_isSheet_all0.2.1
theorem dX11_isSheet_2 : decode cX11_isSheet 2 = .ok (.lconst 0, 1) := dX11_isSheet_all0.2.2.1
theorem dX11_isSheet_3 : decode cX11_isSheet 3 = .ok (.ldc2_w 145, 3) := dX11_isSheet_all0.2.2.2.1
theorem dX11_isSheet_6 : decode cX11_isSheet 6 = .ok (.invokestatic 147, 3) := dX11_isSheet_all0.2.2.2.2.1
theorem dX11_isSheet_9 : decode cX11_isSheet 9 = .ok (.ireturn, 1) := dX11_isSheet_all0.2.2.2.2.2
theorem ggX11_isOwner_X11_in : GoodIn wsX11_isOwner wsX11_in := goodIn_s (fun _ h => wm_t (wm_r h)) Gd_X11_in
theorem gX11_isOwner_X11_in : GoodIn wsX11_isOwner (va_wsS RX11 147 yX11_in wsX11_in) := goodIn_S (own := RX11) (idx := 147) (y := yX11_in) (wm_t (wm_l (wm_i 1 rfl))) (wm_t (wm_l (wm_i 2 rfl))) (wm_t (wm_l (wm_i 3 rfl))) ggX11_isOwner_X11_in
theorem dX11_isOwner_all0 : decode cX11_isOwner 0 = .ok (.iload_n 0, 1) ∧ decode cX11_isOwner 1 = .ok (.i2l, 1) ∧ decode cX11_isOwner 2 = .ok (.lconst 0, 1) ∧ decode cX11_isOwner 3 = .ok (.ldc2_w 162, 3) ∧ decode cX11_isOwner 6 = .ok (.invokestatic 147, 3) ∧ decode cX11_isOwner 9 = .ok (.ireturn, 1) := by decide +kernel
theorem dX11_isOwner_0 : decode cX11_isOwner 0 = .ok (.iload_n 0, 1) := dX11_isOwner_all0.1
theorem dX11_isOwner_1 : decode cX11_isOwner 1 = .ok (.i2l, 1) := dX11_isOwner_all0.2.1
theorem dX11_isOwner_2 : decode cX11_isOwner 2 = .ok (.lconst 0, 1) := dX11_isOwner_all0.2.2.1
theorem dX11_isOwner_3 : decode cX11_isOwner 3 = .ok (.ldc2_w 162, 3) := dX11_isOwner_all0.2.2.2.1
theorem dX11_isOwner_6 : decode cX11_isOwner 6 = .ok (.invokestatic 147, 3) := dX11_isOwner_all0.2.2.2.2.1
theorem dX11_isOwner_9 : decode cX11_isOwner 9 = .ok (.ireturn, 1) := dX11_isOwner_all0.2.2.2.2.2
theorem ggX11_isPerson_X11_in : GoodIn wsX11_isPerson wsX11_in := goodIn_s (fun _ h => wm_t (wm_r h)) Gd_X11_in
theorem gX11_isPerson_X11_in : GoodIn wsX11_isPerson (va_wsS RX11 147 yX11_in wsX11_in) := goodIn_S (own := RX11) (idx := 147) (y := yX11_in) (wm_t (wm_l (wm_i 1 rfl))) (wm_t (wm_l (wm_i 2 rfl))) (wm_t (wm_l (wm_i 3 rfl))) ggX11_isPerson_X11_in
theorem dX11_isPerson_all0 : decode cX11_isPerson 0 = .ok (.iload_n 0, 1) ∧ decode cX11_isPerson 1 = .ok (.i2l, 1) ∧ decode cX11_isPerson 2 = .ok (.lconst 0, 1) ∧ decode cX11_isPerson 3 = .ok (.ldc2_w 164, 3) ∧ decode cX11_isPerson 6 = .ok (.invokestatic 147, 3) ∧ decode cX11_isPerson 9 = .ok (.ireturn, 1) := by decide +kernel
theorem dX11_isPerson_0 : decode cX11_isPerson 0 = .ok (.iload_n 0, 1) := dX11_isPerson_all0.1
theorem dX11_isPerson_1 : decode cX11_isPerson 1 = .ok (.i2l, 1) := dX11_isPerson_all0.2.1
theorem dX11_isPerson_2 : decode cX11_isPerson 2 = .ok (.lconst 0, 1) := dX11_isPerson_all0.2.2.1
theorem dX11_isPerson_3 : decode cX11_isPerson 3 = .ok (.ldc2_w 164, 3) := dX11_isPerson_all0.2.2.2.1
theorem dX11_isPerson_6 : decode cX11_isPerson 6 = .ok (.invokestatic 147, 3) := dX11_isPerson_all0.2.2.2.2.1
theorem dX11_isPerson_9 : decode cX11_isPerson 9 = .ok (.ireturn, 1) := dX11_isPerson_all0.2.2.2.2.2
theorem ggX11_isCompany_X11_in : GoodIn wsX11_isCompany wsX11_in := goodIn_s (fun _ h => wm_t (wm_r h)) Gd_X11_in
theorem gX11_isCompany_X11_in : GoodIn wsX11_isCompany (va_wsS RX11 147 yX11_in wsX11_in) := goodIn_S (own := RX11) (idx := 147) (y := yX11_in) (wm_t (wm_l (wm_i 2 rfl))) (wm_t (wm_l (wm_i 3 rfl))) (wm_t (wm_l (wm_i 4 rfl))) ggX11_isCompany_X11_in
theorem dX11_isCompany_all0 : decode cX11_isCompany 0 = .ok (.iload_n 0, 1) ∧ decode cX11_isCompany 1 = .ok (.i2l, 1) ∧ decode cX11_isCompany 2 = .ok (.ldc2_w 166, 3) ∧ decode cX11_isCompany 5 = .ok (.ldc2_w 162, 3) ∧ decode cX11_isCompany 8 = .ok (.invokestatic 147, 3) ∧ decode cX11_isCompany 11 = .ok (.ireturn, 1) := by decide +kernel
theorem dX11_isCompany_0 : decode cX11_isCompany 0 = .ok (.iload_n 0, 1) := dX11_isCompany_all0.1
theorem dX11_isCompany_1 : decode cX11_isCompany 1 = .ok (.i2l, 1) := dX11_isCompany_all0.2.1
theorem dX11_isCompany_2 : decode cX11_isCompany 2 = .ok (.ldc2_w 166, 3) := dX11_isCompany_all0.2.2.1
theorem dX11_isCompany_5 : decode cX11_isCompany 5 = .ok (.ldc2_w 162, 3) := dX11_isCompany_all0.2.2.2.1
theorem dX11_isCompany_8 : decode cX11_isCompany 8 = .ok (.invokestatic 147, 3) := dX11_isCompany_all0.2.2.2.2.1
theorem dX11_isCompany_11 : decode cX11_isCompany 11 = .ok (.ireturn, 1) := dX11_isCompany_all0.2.2.2.2.2
theorem ggX11_isDay_X11_in : GoodIn wsX11_isDay wsX11_in := goodIn_s (fun _ h => wm_t (wm_r h)) Gd_X11_in
theorem gX11_isDay_X11_in : GoodIn wsX11_isDay (va_wsS RX11 147 yX11_in wsX11_in) := goodIn_S (own := RX11) (idx := 147) (y := yX11_in) (wm_t (wm_l (wm_i 1 rfl))) (wm_t (wm_l (wm_i 2 rfl))) (wm_t (wm_l (wm_i 3 rfl))) ggX11_isDay_X11_in
theorem dX11_isDay_all0 : decode cX11_isDay 0 = .ok (.iload_n 0, 1) ∧ decode cX11_isDay 1 = .ok (.i2l, 1) ∧ decode cX11_isDay 2 = .ok (.lconst 0, 1) ∧ decode cX11_isDay 3 = .ok (.ldc2_w 168, 3) ∧ decode cX11_isDay 6 = .ok (.invokestatic 147, 3) ∧ decode cX11_isDay 9 = .ok (.ireturn, 1) := by decide +kernel
theorem dX11_isDay_0 : decode cX11_isDay 0 = .ok (.iload_n 0, 1) := dX11_isDay_all0.1
theorem dX11_isDay_1 : decode cX11_isDay 1 = .ok (.i2l, 1) := dX11_isDay_all0.2.1
theorem dX11_isDay_2 : decode cX11_isDay 2 = .ok (.lconst 0, 1) := dX11_isDay_all0.2.2.1
theorem dX11_isDay_3 : decode cX11_isDay 3 = .ok (.ldc2_w 168, 3) := dX11_isDay_all0.2.2.2.1
theorem dX11_isDay_6 : decode cX11_isDay 6 = .ok (.invokestatic 147, 3) := dX11_isDay_all0.2.2.2.2.1
theorem dX11_isDay_9 : decode cX11_isDay 9 = .ok (.ireturn, 1) := dX11_isDay_all0.2.2.2.2.2
theorem ggX11_isCrate_X11_in : GoodIn wsX11_isCrate wsX11_in := goodIn_s (fun _ h => wm_t (wm_r (wm_r h))) Gd_X11_in
theorem gX11_isCrate_X11_in : GoodIn wsX11_isCrate (va_wsS RX11 147 yX11_in wsX11_in) := goodIn_S (own := RX11) (idx := 147) (y := yX11_in) (wm_t (wm_l (wm_i 1 rfl))) (wm_t (wm_l (wm_i 2 rfl))) (wm_t (wm_l (wm_i 3 rfl))) ggX11_isCrate_X11_in
theorem dX11_isCrate_all0 : decode cX11_isCrate 0 = .ok (.iload_n 1, 1) ∧ decode cX11_isCrate 1 = .ok (.i2l, 1) ∧ decode cX11_isCrate 2 = .ok (.lconst 0, 1) ∧ decode cX11_isCrate 3 = .ok (.aload_n 0, 1) ∧ decode cX11_isCrate 4 = .ok (.getfield 214, 3) ∧ decode cX11_isCrate 7 = .ok (.iconst 1, 1) ∧ decode cX11_isCrate 8 = .ok (.isub, 1) ∧ decode cX11_isCrate 9 = .ok (.i2l, 1) ∧ decode cX11_isCrate 10 = .ok (.invokestatic 147, 3) ∧ decode cX11_isCrate 13 = .ok (.ireturn, 1) := by decide +kernel
theorem dX11_isCrate_0 : decode cX11_isCrate 0 = .ok (.iload_n 1, 1) := dX11_isCrate_all0.1
theorem dX11_isCrate_1 : decode cX11_isCrate 1 = .ok (.i2l, 1) := dX11_isCrate_all0.2.1
theorem dX11_isCrate_2 : decode cX11_isCrate 2 = .ok (.lconst 0, 1) := dX11_isCrate_all0.2.2.1
theorem dX11_isCrate_3 : decode cX11_isCrate 3 = .ok (.aload_n 0, 1) := dX11_isCrate_all0.2.2.2.1
theorem dX11_isCrate_4 : decode cX11_isCrate 4 = .ok (.getfield 214, 3) := dX11_isCrate_all0.2.2.2.2.1
theorem dX11_isCrate_7 : decode cX11_isCrate 7 = .ok (.iconst 1, 1) := dX11_isCrate_all0.2.2.2.2.2.1
theorem dX11_isCrate_8 : decode cX11_isCrate 8 = .ok (.isub, 1) := dX11_isCrate_all0.2.2.2.2.2.2.1
theorem dX11_isCrate_9 : decode cX11_isCrate 9 = .ok (.i2l, 1) := dX11_isCrate_all0.2.2.2.2.2.2.2.1
theorem dX11_isCrate_10 : decode cX11_isCrate 10 = .ok (.invokestatic 147, 3) := dX11_isCrate_all0.2.2.2.2.2.2.2.2.1
theorem dX11_isCrate_13 : decode cX11_isCrate 13 = .ok (.ireturn, 1) := dX11_isCrate_all0.2.2.2.2.2.2.2.2.2
theorem dX11_isLetter_all0 : decode cX11_isLetter 0 = .ok (.iload_n 0, 1) ∧ decode cX11_isLetter 1 = .ok (.bipush 97, 2) ∧ decode cX11_isLetter 3 = .ok (.if_icmp .lt 13, 3) ∧ decode cX11_isLetter 6 = .ok (.iload_n 0, 1) ∧ decode cX11_isLetter 7 = .ok (.bipush 122, 2) ∧ decode cX11_isLetter 9 = .ok (.if_icmp .gt 7, 3) ∧ decode cX11_isLetter 12 = .ok (.iconst 1, 1) ∧ decode cX11_isLetter 13 = .ok (.goto 4, 3) ∧ decode cX11_isLetter 16 = .ok (.iconst 0, 1) ∧ decode cX11_isLetter 17 = .ok (.ireturn, 1) := by decide +kernel
theorem dX11_isLetter_0 : decode cX11_isLetter 0 = .ok (.iload_n 0, 1) := dX11_isLetter_all0.1
theorem dX11_isLetter_1 : decode cX11_isLetter 1 = .ok (.bipush 97, 2) := dX11_isLetter_all0.2.1
theorem dX11_isLetter_3 : decode cX11_isLetter 3 = .ok (.if_icmp .lt 13, 3) := dX11_isLetter_all0.2.2.1
theorem dX11_isLetter_6 : decode cX11_isLetter 6 = .ok (.iload_n 0, 1) := dX11_isLetter_all0.2.2.2.1
theorem dX11_isLetter_7 : decode cX11_isLetter 7 = .ok (.bipush 122, 2) := dX11_isLetter_all0.2.2.2.2.1
theorem dX11_isLetter_9 : decode cX11_isLetter 9 = .ok (.if_icmp .gt 7, 3) := dX11_isLetter_all0.2.2.2.2.2.1
theorem dX11_isLetter_12 : decode cX11_isLetter 12 = .ok (.iconst 1, 1) := dX11_isLetter_all0.2.2.2.2.2.2.1
theorem dX11_isLetter_13 : decode cX11_isLetter 13 = .ok (.goto 4, 3) := dX11_isLetter_all0.2.2.2.2.2.2.2.1
theorem dX11_isLetter_16 : decode cX11_isLetter 16 = .ok (.iconst 0, 1) := dX11_isLetter_all0.2.2.2.2.2.2.2.2.1
theorem dX11_isLetter_17 : decode cX11_isLetter 17 = .ok (.ireturn, 1) := dX11_isLetter_all0.2.2.2.2.2.2.2.2.2
theorem dX11_isFigure_all0 : decode cX11_isFigure 0 = .ok (.iload_n 0, 1) ∧ decode cX11_isFigure 1 = .ok (.bipush 48, 2) ∧ decode cX11_isFigure 3 = .ok (.if_icmp .lt 13, 3) ∧ decode cX11_isFigure 6 = .ok (.iload_n 0, 1) ∧ decode cX11_isFigure 7 = .ok (.bipush 57, 2) ∧ decode cX11_isFigure 9 = .ok (.if_icmp .gt 7, 3) ∧ decode cX11_isFigure 12 = .ok (.iconst 1, 1) ∧ decode cX11_isFigure 13 = .ok (.goto 4, 3) ∧ decode cX11_isFigure 16 = .ok (.iconst 0, 1) ∧ decode cX11_isFigure 17 = .ok (.ireturn, 1) := by decide +kernel
theorem dX11_isFigure_0 : decode cX11_isFigure 0 = .ok (.iload_n 0, 1) := dX11_isFigure_all0.1
theorem dX11_isFigure_1 : decode cX11_isFigure 1 = .ok (.bipush 48, 2) := dX11_isFigure_all0.2.1
theorem dX11_isFigure_3 : decode cX11_isFigure 3 = .ok (.if_icmp .lt 13, 3) := dX11_isFigure_all0.2.2.1
theorem dX11_isFigure_6 : decode cX11_isFigure 6 = .ok (.iload_n 0, 1) := dX11_isFigure_all0.2.2.2.1
theorem dX11_isFigure_7 : decode cX11_isFigure 7 = .ok (.bipush 57, 2) := dX11_isFigure_all0.2.2.2.2.1
theorem dX11_isFigure_9 : decode cX11_isFigure 9 = .ok (.if_icmp .gt 7, 3) := dX11_isFigure_all0.2.2.2.2.2.1
theorem dX11_isFigure_12 : decode cX11_isFigure 12 = .ok (.iconst 1, 1) := dX11_isFigure_all0.2.2.2.2.2.2.1
theorem dX11_isFigure_13 : decode cX11_isFigure 13 = .ok (.goto 4, 3) := dX11_isFigure_all0.2.2.2.2.2.2.2.1
theorem dX11_isFigure_16 : decode cX11_isFigure 16 = .ok (.iconst 0, 1) := dX11_isFigure_all0.2.2.2.2.2.2.2.2.1
theorem dX11_isFigure_17 : decode cX11_isFigure 17 = .ok (.ireturn, 1) := dX11_isFigure_all0.2.2.2.2.2.2.2.2.2
theorem dX11_fault_all0 : decode cX11_fault 0 = .ok (.aload_n 0, 1) ∧ decode cX11_fault 1 = .ok (.iconst 0, 1) ∧ decode cX11_fault 2 = .ok (.putfield 1, 3) ∧ decode cX11_fault 5 = .ok (.aload_n 0, 1) ∧ decode cX11_fault 6 = .ok (.getfield 310, 3) ∧ decode cX11_fault 9 = .ok (.ireturn, 1) := by decide +kernel
theorem dX11_fault_0 : decode cX11_fault 0 = .ok (.aload_n 0, 1) := dX11_fault_all0.1
theorem dX11_fault_1 : decode cX11_fault 1 = .ok (.iconst 0, 1) := dX11_fault_all0.2.1
theorem dX11_fault_2 : decode cX11_fault 2 = .ok (.putfield 1, 3) := dX11_fault_all0.2.2.1
theorem dX11_fault_5 : decode cX11_fault 5 = .ok (.aload_n 0, 1) := dX11_fault_all0.2.2.2.1
theorem dX11_fault_6 : decode cX11_fault 6 = .ok (.getfield 310, 3) := dX11_fault_all0.2.2.2.2.1
theorem dX11_fault_9 : decode cX11_fault 9 = .ok (.ireturn, 1) := dX11_fault_all0.2.2.2.2.2
theorem ggX11_isRoom_X11_in : GoodIn wsX11_isRoom wsX11_in := goodIn_s (fun _ h => wm_t (wm_r h)) Gd_X11_in
theorem gX11_isRoom_X11_in : GoodIn wsX11_isRoom (va_wsS RX11 147 yX11_in wsX11_in) := goodIn_S (own := RX11) (idx := 147) (y := yX11_in) (wm_t (wm_l (wm_i 1 rfl))) (wm_t (wm_l (wm_i 2 rfl))) (wm_t (wm_l (wm_i 3 rfl))) ggX11_isRoom_X11_in
theorem dX11_isRoom_all0 : decode cX11_isRoom 0 = .ok (.iload_n 0, 1) ∧ decode cX11_isRoom 1 = .ok (.i2l, 1) ∧ decode cX11_isRoom 2 = .ok (.lconst 0, 1) ∧ decode cX11_isRoom 3 = .ok (.ldc2_w 325, 3) ∧ decode cX11_isRoom 6 = .ok (.invokestatic 147, 3) ∧ decode cX11_isRoom 9 = .ok (.ireturn, 1) := by decide +kernel
theorem dX11_isRoom_0 : decode cX11_isRoom 0 = .ok (.iload_n 0, 1) := dX11_isRoom_all0.1
theorem dX11_isRoom_1 : decode cX11_isRoom 1 = .ok (.i2l, 1) := dX11_isRoom_all0.2.1
theorem dX11_isRoom_2 : decode cX11_isRoom 2 = .ok (.lconst 0, 1) := dX11_isRoom_all0.2.2.1
theorem dX11_isRoom_3 : decode cX11_isRoom 3 = .ok (.ldc2_w 325, 3) := dX11_isRoom_all0.2.2.2.1
theorem dX11_isRoom_6 : decode cX11_isRoom 6 = .ok (.invokestatic 147, 3) := dX11_isRoom_all0.2.2.2.2.1
theorem dX11_isRoom_9 : decode cX11_isRoom 9 = .ok (.ireturn, 1) := dX11_isRoom_all0.2.2.2.2.2
theorem ggX11_day_X11_isDay : GoodIn wsX11_day wsX11_isDay := goodIn_s (fun _ h => wm_t (wm_r (wm_r h))) Gd_X11_isDay
theorem gX11_day_X11_isDay : GoodIn wsX11_day (va_wsS RX11 178 yX11_isDay wsX11_isDay) := goodIn_S (own := RX11) (idx := 178) (y := yX11_isDay) (wm_t (wm_l (wm_i 3 rfl))) (wm_t (wm_l (wm_i 4 rfl))) (wm_t (wm_l (wm_i 5 rfl))) ggX11_day_X11_isDay
theorem dX11_day_all0 : decode cX11_day 0 = .ok (.aload_n 0, 1) ∧ decode cX11_day 1 = .ok (.iconst 0, 1) ∧ decode cX11_day 2 = .ok (.putfield 1, 3) ∧ decode cX11_day 5 = .ok (.iload_n 1, 1) ∧ decode cX11_day 6 = .ok (.invokestatic 178, 3) ∧ decode cX11_day 9 = .ok (.ifCond .ne 6, 3) ∧ decode cX11_day 12 = .ok (.ldc 157, 2) ∧ decode cX11_day 14 = .ok (.ireturn, 1) ∧ decode cX11_day 15 = .ok (.aload_n 0, 1) ∧ decode cX11_day 16 = .ok (.getfield 369, 3) ∧ decode cX11_day 19 = .ok (.istore_n 2, 1) ∧ decode cX11_day 20 = .ok (.aload_n 0, 1) := by decide +kernel
theorem dX11_day_0 : decode cX11_day 0 = .ok (.aload_n 0, 1) := dX11_day_all0.1
theorem dX11_day_1 : decode cX11_day 1 = .ok (.iconst 0, 1) := dX11_day_all0.2.1
theorem dX11_day_2 : decode cX11_day 2 = .ok (.putfield 1, 3) := dX11_day_all0.2.2.1
theorem dX11_day_5 : decode cX11_day 5 = .ok (.iload_n 1, 1) := dX11_day_all0.2.2.2.1
theorem dX11_day_6 : decode cX11_day 6 = .ok (.invokestatic 178, 3) := dX11_day_all0.2.2.2.2.1
theorem dX11_day_9 : decode cX11_day 9 = .ok (.ifCond .ne 6, 3) := dX11_day_all0.2.2.2.2.2.1
theorem dX11_day_12 : decode cX11_day 12 = .ok (.ldc 157, 2) := dX11_day_all0.2.2.2.2.2.2.1
theorem dX11_day_14 : decode cX11_day 14 = .ok (.ireturn, 1) := dX11_day_all0.2.2.2.2.2.2.2.1
theorem dX11_day_15 : decode cX11_day 15 = .ok (.aload_n 0, 1) := dX11_day_all0.2.2.2.2.2.2.2.2.1
theorem dX11_day_16 : decode cX11_day 16 = .ok (.getfield 369, 3) := dX11_day_all0.2.2.2.2.2.2.2.2.2.1
theorem dX11_day_19 : decode cX11_day 19 = .ok (.istore_n 2, 1) := dX11_day_all0.2.2.2.2.2.2.2.2.2.2.1
theorem dX11_day_20 : decode cX11_day 20 = .ok (.aload_n 0, 1) := dX11_day_all0.2.2.2.2.2.2.2.2.2.2.2
theorem dX11_day_all1 : decode cX11_day 21 = .ok (.iload_n 1, 1) ∧ decode cX11_day 22 = .ok (.putfield 369, 3) ∧ decode cX11_day 25 = .ok (.iload_n 2, 1) ∧ decode cX11_day 26 = .ok (.ireturn, 1) := by decide +kernel
theorem dX11_day_21 : decode cX11_day 21 = .ok (.iload_n 1, 1) := dX11_day_all1.1
theorem dX11_day_22 : decode cX11_day 22 = .ok (.putfield 369, 3) := dX11_day_all1.2.1
theorem dX11_day_25 : decode cX11_day 25 = .ok (.iload_n 2, 1) := dX11_day_all1.2.2.1
theorem dX11_day_26 : decode cX11_day 26 = .ok (.ireturn, 1) := dX11_day_all1.2.2.2
theorem dX11_status_all0 : decode cX11_status 0 = .ok (.aload_n 0, 1) ∧ decode cX11_status 1 = .ok (.iconst 0, 1) ∧ decode cX11_status 2 = .ok (.putfield 1, 3) ∧ decode cX11_status 5 = .ok (.aload_n 0, 1) ∧ decode cX11_status 6 = .ok (.getfield 141, 3) ∧ decode cX11_status 9 = .ok (.ireturn, 1) := by decide +kernel
theorem dX11_status_0 : decode cX11_status 0 = .ok (.aload_n 0, 1) := dX11_status_all0.1
theorem dX11_status_1 : decode cX11_status 1 = .ok (.iconst 0, 1) := dX11_status_all0.2.1
theorem dX11_status_2 : decode cX11_status 2 = .ok (.putfield 1, 3) := dX11_status_all0.2.2.1
theorem dX11_status_5 : decode cX11_status 5 = .ok (.aload_n 0, 1) := dX11_status_all0.2.2.2.1
theorem dX11_status_6 : decode cX11_status 6 = .ok (.getfield 141, 3) := dX11_status_all0.2.2.2.2.1
theorem dX11_status_9 : decode cX11_status 9 = .ok (.ireturn, 1) := dX11_status_all0.2.2.2.2.2
set_option maxHeartbeats 4000000 in
set_option maxRecDepth 100000 in
theorem ct_X11_in (l : Launch) (D : va_G) (cI cY cJ cQ : ClassId) (sz : Nat) (a : Int64) (b : Int64) (d : Int64)   : Met l yX11_in wsX11_in ({ frames := 0, cells := 0, slots := 0, locals := 0 }) (cPre D (ty4 cI cY cJ cQ) [] sz [.long a, .long b, .long d]) (va_Qi (fun (r : Int32) (u : Unit) => r = if b.toInt ≤ a.toInt ∧ a.toInt ≤ d.toInt then 1 else 0) (cB D (ty4 cI cY cJ cQ) (fun (u : Unit) => []) (va_A [] sz)) (va_A [] sz)) 0 0 (va_A [] sz) := by
  refine Met.ofW (cc := cX11_in) (maxL := 6) (ret := (some .boolean)) (by decide) rfl ?_
  intro p e s m args below meth c s₁ B hml hv
  obtain ⟨rfl, hsz, hP, hK, hD0, hN⟩ := hv
  have hx := B.exec
  have hb := B.bytes
  have hr := B.returns
  have hts := atoms_spec (ws := wsX11_in) B.pre
  have hown : s.vm.findClass RX11 = some m.cls := findClass_of_methodNamed B.named
  have hlocks := B.notSynchronized
  subst hsz
  have hD := hD0.self (sz := s.heap.size)
  generalize hAe : va_A [] s.heap.size = A at hD ⊢
  have hA : ∀ q : Nat, s.heap.size ≤ q → A q := fun q h => by rw [← hAe]; exact Or.inr h
  have hS : va_S A s.heap s.heap [] := va_S.rf
  have hP : va_P D vwCl [] s.heap := hP
  have hl := lv_entry ([.long a, .long b, .long d]) (n := 6) (Nat.le_of_ble_eq_true rfl)
  rw [lg_entry_eq]
  generalize (lg_sl ([.long a, .long b, .long d]) ++ List.replicate (6 - (lg_sl ([.long a, .long b, .long d])).length) Slot.unset).toArray = ls at hl ⊢
  have hl : lv_has ls 6 [(0, .long a), (2, .long b), (4, .long d)] := hl
  have k0 : (0 : Int32).toInt = 0 := by decide
  refine lv_lload_n hx hb dX11_in_0 rfl (lv_at hl 0 rfl) ?_
  refine lv_lload_n hx hb dX11_in_1 rfl (lv_at hl 1 rfl) ?_
  refine W.lcmp hx hb dX11_in_2 ?_
  refine lv_topi (fun v1 ev1 => ?_)
  refine lv_if_lt (tgt := 17) hx hb dX11_in_3 (by decide) (fun c2 => ?_) (fun c2 => ?_)
  · skip
    have f3 := lc_lt ev1 c2
    refine lv_iconst (v := 0) hx hb dX11_in_17 (by decide) ?_
    have hP9 := hP
    have hD9 := hD
    exact W.zret (v := 0) hx hb hr rfl (fun t ht hW => ⟨⟨0, (), rfl, bo_no (by omega), by rw [ht]; exact hP9, va_K.moved hW.alike hK, hD9⟩, hS.F ht⟩) hS.2.2 dX11_in_18
  · skip
    have f4 := lc_ltN ev1 c2
    refine lv_lload_n hx hb dX11_in_6 rfl (lv_at hl 0 rfl) ?_
    refine lv_lload hx hb dX11_in_7 (lv_at hl 2 rfl) ?_
    refine W.lcmp hx hb dX11_in_9 ?_
    refine lv_topi (fun v5 ev5 => ?_)
    refine lv_if_gt (tgt := 17) hx hb dX11_in_10 (by decide) (fun c6 => ?_) (fun c6 => ?_)
    · skip
      have f7 := lc_gt ev5 c6
      refine lv_iconst (v := 0) hx hb dX11_in_17 (by decide) ?_
      have hP9 := hP
      have hD9 := hD
      exact W.zret (v := 0) hx hb hr rfl (fun t ht hW => ⟨⟨0, (), rfl, bo_no (by omega), by rw [ht]; exact hP9, va_K.moved hW.alike hK, hD9⟩, hS.F ht⟩) hS.2.2 dX11_in_18
    · skip
      have f8 := lc_gtN ev5 c6
      refine lv_iconst (v := 1) hx hb dX11_in_13 (by decide) ?_
      refine lv_goto (tgt := 18) hx hb dX11_in_14 (by decide) ?_
      have hP9 := hP
      have hD9 := hD
      exact W.zret (v := 1) hx hb hr rfl (fun t ht hW => ⟨⟨1, (), rfl, bo_yes (by omega), by rw [ht]; exact hP9, va_K.moved hW.alike hK, hD9⟩, hS.F ht⟩) hS.2.2 dX11_in_18

set_option maxHeartbeats 4000000 in
set_option maxRecDepth 100000 in
theorem ct_X11_isSheet (l : Launch) (D : va_G) (cI cY cJ cQ : ClassId) (sz : Nat) (a : Int32)   : Met l yX11_isSheet wsX11_isSheet ({ frames := 1, cells := 0, slots := 0, locals := 25 }) (cPre D (ty4 cI cY cJ cQ) [] sz [.int a]) (va_Qi (fun (r : Int32) (u : Unit) => r = if 0 ≤ a.toInt ∧ a.toInt ≤ 7 then 1 else 0) (cB D (ty4 cI cY cJ cQ) (fun (u : Unit) => []) (va_A [] sz)) (va_A [] sz)) 0 0 (va_A [] sz) := by
  refine Met.ofW (cc := cX11_isSheet) (maxL := 1) (ret := (some .boolean)) (by decide) rfl ?_
  intro p e s m args below meth c s₁ B hml hv
  obtain ⟨rfl, hsz, hP, hK, hD0, hN⟩ := hv
  have hx := B.exec
  have hb := B.bytes
  have hr := B.returns
  have hts := atoms_spec (ws := wsX11_isSheet) B.pre
  have hown : s.vm.findClass RX11 = some m.cls := findClass_of_methodNamed B.named
  have hlocks := B.notSynchronized
  subst hsz
  have hD := hD0.self (sz := s.heap.size)
  generalize hAe : va_A [] s.heap.size = A at hD ⊢
  have hA : ∀ q : Nat, s.heap.size ≤ q → A q := fun q h => by rw [← hAe]; exact Or.inr h
  have hS : va_S A s.heap s.heap [] := va_S.rf
  have hP : va_P D vwCl [] s.heap := hP
  have hl := lv_entry ([.int a]) (n := 1) (Nat.le_of_ble_eq_true rfl)
  rw [lg_entry_eq]
  generalize (lg_sl ([.int a]) ++ List.replicate (1 - (lg_sl ([.int a])).length) Slot.unset).toArray = ls at hl ⊢
  have hl : lv_has ls 1 [(0, .int a)] := hl
  have kl0 : (0 : Int64).toInt = 0 := by decide
  have kl7 : (7 : Int64).toInt = 7 := by decide
  refine lv_iload_n hx hb dX11_isSheet_0 rfl (lv_at hl 0 rfl) ?_
  refine lv_i2l hx hb dX11_isSheet_1 rfl ?_
  have w1 := i_w a
  have w2 := i_rng a
  refine lv_lconst (v := 0) hx hb dX11_isSheet_2 (by decide) ?_
  refine lv_ldc2 hx hb hown (hts (Cond.constantLong RX11 145 (7)) (wm_t (wm_l (wm_i 0 rfl)))) dX11_isSheet_3 ?_
  refine st_i1 (va_runS (As := [.long (a.toInt64), .long 0, .long 7]) (rest := []) ⟨hx, hb, hml, hown, hts⟩ (ct_X11_in l D cI cY cJ cQ _ a.toInt64 (0 : Int64) (7 : Int64)) (va_cwS 3 hts gX11_isSheet_X11_in rfl rfl rfl cdX11_in ⟨Nat.le_of_ble_eq_true rfl, Nat.le_of_ble_eq_true rfl⟩) (cPreS (hP.sub [] rfl) hK (hD.sub [] (by decide +kernel) rfl) hN) rfl rfl hl.1 rfl (lv_room (Nat.le_of_ble_eq_true rfl)) dX11_isSheet_6 ⟨Nat.le_of_ble_eq_true rfl, Nat.le_of_ble_eq_true rfl⟩) hP hD hS hA [] rfl (fun _ => rfl) (fun r5 u3 H locs hw4 => ?_)
  clear hP hS
  intro hP hS
  replace hw4 : r5 = if (0 : Int64).toInt ≤ a.toInt64.toInt ∧ a.toInt64.toInt ≤ (7 : Int64).toInt then 1 else 0 := hw4
  have hP9 := hP
  have hD9 := hD
  exact W.zret (v := r5) hx hb hr (zn_b hw4) (fun t ht hW => ⟨⟨r5, (), rfl, bo_iff hw4 ⟨fun h => by omega, fun h => by omega⟩, by rw [ht]; exact hP9, va_K.moved hW.alike hK, hD9⟩, hS.F ht⟩) hS.2.2 dX11_isSheet_9

set_option maxHeartbeats 4000000 in
set_option maxRecDepth 100000 in
theorem ct_X11_isOwner (l : Launch) (D : va_G) (cI cY cJ cQ : ClassId) (sz : Nat) (a : Int32)   : Met l yX11_isOwner wsX11_isOwner ({ frames := 1, cells := 0, slots := 0, locals := 25 }) (cPre D (ty4 cI cY cJ cQ) [] sz [.int a]) (va_Qi (fun (r : Int32) (u : Unit) => r = if 0 ≤ a.toInt ∧ a.toInt ≤ 19 then 1 else 0) (cB D (ty4 cI cY cJ cQ) (fun (u : Unit) => []) (va_A [] sz)) (va_A [] sz)) 0 0 (va_A [] sz) := by
  refine Met.ofW (cc := cX11_isOwner) (maxL := 1) (ret := (some .boolean)) (by decide) rfl ?_
  intro p e s m args below meth c s₁ B hml hv
  obtain ⟨rfl, hsz, hP, hK, hD0, hN⟩ := hv
  have hx := B.exec
  have hb := B.bytes
  have hr := B.returns
  have hts := atoms_spec (ws := wsX11_isOwner) B.pre
  have hown : s.vm.findClass RX11 = some m.cls := findClass_of_methodNamed B.named
  have hlocks := B.notSynchronized
  subst hsz
  have hD := hD0.self (sz := s.heap.size)
  generalize hAe : va_A [] s.heap.size = A at hD ⊢
  have hA : ∀ q : Nat, s.heap.size ≤ q → A q := fun q h => by rw [← hAe]; exact Or.inr h
  have hS : va_S A s.heap s.heap [] := va_S.rf
  have hP : va_P D vwCl [] s.heap := hP
  have hl := lv_entry ([.int a]) (n := 1) (Nat.le_of_ble_eq_true rfl)
  rw [lg_entry_eq]
  generalize (lg_sl ([.int a]) ++ List.replicate (1 - (lg_sl ([.int a])).length) Slot.unset).toArray = ls at hl ⊢
  have hl : lv_has ls 1 [(0, .int a)] := hl
  have kl0 : (0 : Int64).toInt = 0 := by decide
  have kl19 : (19 : Int64).toInt = 19 := by decide
  refine lv_iload_n hx hb dX11_isOwner_0 rfl (lv_at hl 0 rfl) ?_
  refine lv_i2l hx hb dX11_isOwner_1 rfl ?_
  have w1 := i_w a
  have w2 := i_rng a
  refine lv_lconst (v := 0) hx hb dX11_isOwner_2 (by decide) ?_
  refine lv_ldc2 hx hb hown (hts (Cond.constantLong RX11 162 (19)) (wm_t (wm_l (wm_i 0 rfl)))) dX11_isOwner_3 ?_
  refine st_i1 (va_runS (As := [.long (a.toInt64), .long 0, .long 19]) (rest := []) ⟨hx, hb, hml, hown, hts⟩ (ct_X11_in l D cI cY cJ cQ _ a.toInt64 (0 : Int64) (19 : Int64)) (va_cwS 3 hts gX11_isOwner_X11_in rfl rfl rfl cdX11_in ⟨Nat.le_of_ble_eq_true rfl, Nat.le_of_ble_eq_true rfl⟩) (cPreS (hP.sub [] rfl) hK (hD.sub [] (by decide +kernel) rfl) hN) rfl rfl hl.1 rfl (lv_room (Nat.le_of_ble_eq_true rfl)) dX11_isOwner_6 ⟨Nat.le_of_ble_eq_true rfl, Nat.le_of_ble_eq_true rfl⟩) hP hD hS hA [] rfl (fun _ => rfl) (fun r5 u3 H locs hw4 => ?_)
  clear hP hS
  intro hP hS
  replace hw4 : r5 = if (0 : Int64).toInt ≤ a.toInt64.toInt ∧ a.toInt64.toInt ≤ (19 : Int64).toInt then 1 else 0 := hw4
  have hP9 := hP
  have hD9 := hD
  exact W.zret (v := r5) hx hb hr (zn_b hw4) (fun t ht hW => ⟨⟨r5, (), rfl, bo_iff hw4 ⟨fun h => by omega, fun h => by omega⟩, by rw [ht]; exact hP9, va_K.moved hW.alike hK, hD9⟩, hS.F ht⟩) hS.2.2 dX11_isOwner_9

set_option maxHeartbeats 4000000 in
set_option maxRecDepth 100000 in
theorem ct_X11_isPerson (l : Launch) (D : va_G) (cI cY cJ cQ : ClassId) (sz : Nat) (a : Int32)   : Met l yX11_isPerson wsX11_isPerson ({ frames := 1, cells := 0, slots := 0, locals := 25 }) (cPre D (ty4 cI cY cJ cQ) [] sz [.int a]) (va_Qi (fun (r : Int32) (u : Unit) => r = if 0 ≤ a.toInt ∧ a.toInt ≤ 9 then 1 else 0) (cB D (ty4 cI cY cJ cQ) (fun (u : Unit) => []) (va_A [] sz)) (va_A [] sz)) 0 0 (va_A [] sz) := by
  refine Met.ofW (cc := cX11_isPerson) (maxL := 1) (ret := (some .boolean)) (by decide) rfl ?_
  intro p e s m args below meth c s₁ B hml hv
  obtain ⟨rfl, hsz, hP, hK, hD0, hN⟩ := hv
  have hx := B.exec
  have hb := B.bytes
  have hr := B.returns
  have hts := atoms_spec (ws := wsX11_isPerson) B.pre
  have hown : s.vm.findClass RX11 = some m.cls := findClass_of_methodNamed B.named
  have hlocks := B.notSynchronized
  subst hsz
  have hD := hD0.self (sz := s.heap.size)
  generalize hAe : va_A [] s.heap.size = A at hD ⊢
  have hA : ∀ q : Nat, s.heap.size ≤ q → A q := fun q h => by rw [← hAe]; exact Or.inr h
  have hS : va_S A s.heap s.heap [] := va_S.rf
  have hP : va_P D vwCl [] s.heap := hP
  have hl := lv_entry ([.int a]) (n := 1) (Nat.le_of_ble_eq_true rfl)
  rw [lg_entry_eq]
  generalize (lg_sl ([.int a]) ++ List.replicate (1 - (lg_sl ([.int a])).length) Slot.unset).toArray = ls at hl ⊢
  have hl : lv_has ls 1 [(0, .int a)] := hl
  have kl0 : (0 : Int64).toInt = 0 := by decide
  have kl9 : (9 : Int64).toInt = 9 := by decide
  refine lv_iload_n hx hb dX11_isPerson_0 rfl (lv_at hl 0 rfl) ?_
  refine lv_i2l hx hb dX11_isPerson_1 rfl ?_
  have w1 := i_w a
  have w2 := i_rng a
  refine lv_lconst (v := 0) hx hb dX11_isPerson_2 (by decide) ?_
  refine lv_ldc2 hx hb hown (hts (Cond.constantLong RX11 164 (9)) (wm_t (wm_l (wm_i 0 rfl)))) dX11_isPerson_3 ?_
  refine st_i1 (va_runS (As := [.long (a.toInt64), .long 0, .long 9]) (rest := []) ⟨hx, hb, hml, hown, hts⟩ (ct_X11_in l D cI cY cJ cQ _ a.toInt64 (0 : Int64) (9 : Int64)) (va_cwS 3 hts gX11_isPerson_X11_in rfl rfl rfl cdX11_in ⟨Nat.le_of_ble_eq_true rfl, Nat.le_of_ble_eq_true rfl⟩) (cPreS (hP.sub [] rfl) hK (hD.sub [] (by decide +kernel) rfl) hN) rfl rfl hl.1 rfl (lv_room (Nat.le_of_ble_eq_true rfl)) dX11_isPerson_6 ⟨Nat.le_of_ble_eq_true rfl, Nat.le_of_ble_eq_true rfl⟩) hP hD hS hA [] rfl (fun _ => rfl) (fun r5 u3 H locs hw4 => ?_)
  clear hP hS
  intro hP hS
  replace hw4 : r5 = if (0 : Int64).toInt ≤ a.toInt64.toInt ∧ a.toInt64.toInt ≤ (9 : Int64).toInt then 1 else 0 := hw4
  have hP9 := hP
  have hD9 := hD
  exact W.zret (v := r5) hx hb hr (zn_b hw4) (fun t ht hW => ⟨⟨r5, (), rfl, bo_iff hw4 ⟨fun h => by omega, fun h => by omega⟩, by rw [ht]; exact hP9, va_K.moved hW.alike hK, hD9⟩, hS.F ht⟩) hS.2.2 dX11_isPerson_9

set_option maxHeartbeats 4000000 in
set_option maxRecDepth 100000 in
theorem ct_X11_isCompany (l : Launch) (D : va_G) (cI cY cJ cQ : ClassId) (sz : Nat) (a : Int32)   : Met l yX11_isCompany wsX11_isCompany ({ frames := 1, cells := 0, slots := 0, locals := 25 }) (cPre D (ty4 cI cY cJ cQ) [] sz [.int a]) (va_Qi (fun (r : Int32) (u : Unit) => r = if 10 ≤ a.toInt ∧ a.toInt ≤ 19 then 1 else 0) (cB D (ty4 cI cY cJ cQ) (fun (u : Unit) => []) (va_A [] sz)) (va_A [] sz)) 0 0 (va_A [] sz) := by
  refine Met.ofW (cc := cX11_isCompany) (maxL := 1) (ret := (some .boolean)) (by decide) rfl ?_
  intro p e s m args below meth c s₁ B hml hv
  obtain ⟨rfl, hsz, hP, hK, hD0, hN⟩ := hv
  have hx := B.exec
  have hb := B.bytes
  have hr := B.returns
  have hts := atoms_spec (ws := wsX11_isCompany) B.pre
  have hown : s.vm.findClass RX11 = some m.cls := findClass_of_methodNamed B.named
  have hlocks := B.notSynchronized
  subst hsz
  have hD := hD0.self (sz := s.heap.size)
  generalize hAe : va_A [] s.heap.size = A at hD ⊢
  have hA : ∀ q : Nat, s.heap.size ≤ q → A q := fun q h => by rw [← hAe]; exact Or.inr h
  have hS : va_S A s.heap s.heap [] := va_S.rf
  have hP : va_P D vwCl [] s.heap := hP
  have hl := lv_entry ([.int a]) (n := 1) (Nat.le_of_ble_eq_true rfl)
  rw [lg_entry_eq]
  generalize (lg_sl ([.int a]) ++ List.replicate (1 - (lg_sl ([.int a])).length) Slot.unset).toArray = ls at hl ⊢
  have hl : lv_has ls 1 [(0, .int a)] := hl
  have kl10 : (10 : Int64).toInt = 10 := by decide
  have kl19 : (19 : Int64).toInt = 19 := by decide
  refine lv_iload_n hx hb dX11_isCompany_0 rfl (lv_at hl 0 rfl) ?_
  refine lv_i2l hx hb dX11_isCompany_1 rfl ?_
  have w1 := i_w a
  have w2 := i_rng a
  refine lv_ldc2 hx hb hown (hts (Cond.constantLong RX11 166 (10)) (wm_t (wm_l (wm_i 0 rfl)))) dX11_isCompany_2 ?_
  refine lv_ldc2 hx hb hown (hts (Cond.constantLong RX11 162 (19)) (wm_t (wm_l (wm_i 1 rfl)))) dX11_isCompany_5 ?_
  refine st_i1 (va_runS (As := [.long (a.toInt64), .long 10, .long 19]) (rest := []) ⟨hx, hb, hml, hown, hts⟩ (ct_X11_in l D cI cY cJ cQ _ a.toInt64 (10 : Int64) (19 : Int64)) (va_cwS 3 hts gX11_isCompany_X11_in rfl rfl rfl cdX11_in ⟨Nat.le_of_ble_eq_true rfl, Nat.le_of_ble_eq_true rfl⟩) (cPreS (hP.sub [] rfl) hK (hD.sub [] (by decide +kernel) rfl) hN) rfl rfl hl.1 rfl (lv_room (Nat.le_of_ble_eq_true rfl)) dX11_isCompany_8 ⟨Nat.le_of_ble_eq_true rfl, Nat.le_of_ble_eq_true rfl⟩) hP hD hS hA [] rfl (fun _ => rfl) (fun r5 u3 H locs hw4 => ?_)
  clear hP hS
  intro hP hS
  replace hw4 : r5 = if (10 : Int64).toInt ≤ a.toInt64.toInt ∧ a.toInt64.toInt ≤ (19 : Int64).toInt then 1 else 0 := hw4
  have hP9 := hP
  have hD9 := hD
  exact W.zret (v := r5) hx hb hr (zn_b hw4) (fun t ht hW => ⟨⟨r5, (), rfl, bo_iff hw4 ⟨fun h => by omega, fun h => by omega⟩, by rw [ht]; exact hP9, va_K.moved hW.alike hK, hD9⟩, hS.F ht⟩) hS.2.2 dX11_isCompany_11

set_option maxHeartbeats 4000000 in
set_option maxRecDepth 100000 in
theorem ct_X11_isDay (l : Launch) (D : va_G) (cI cY cJ cQ : ClassId) (sz : Nat) (a : Int32)   : Met l yX11_isDay wsX11_isDay ({ frames := 1, cells := 0, slots := 0, locals := 25 }) (cPre D (ty4 cI cY cJ cQ) [] sz [.int a]) (va_Qi (fun (r : Int32) (u : Unit) => r = if 0 ≤ a.toInt ∧ a.toInt ≤ 9999 then 1 else 0) (cB D (ty4 cI cY cJ cQ) (fun (u : Unit) => []) (va_A [] sz)) (va_A [] sz)) 0 0 (va_A [] sz) := by
  refine Met.ofW (cc := cX11_isDay) (maxL := 1) (ret := (some .boolean)) (by decide) rfl ?_
  intro p e s m args below meth c s₁ B hml hv
  obtain ⟨rfl, hsz, hP, hK, hD0, hN⟩ := hv
  have hx := B.exec
  have hb := B.bytes
  have hr := B.returns
  have hts := atoms_spec (ws := wsX11_isDay) B.pre
  have hown : s.vm.findClass RX11 = some m.cls := findClass_of_methodNamed B.named
  have hlocks := B.notSynchronized
  subst hsz
  have hD := hD0.self (sz := s.heap.size)
  generalize hAe : va_A [] s.heap.size = A at hD ⊢
  have hA : ∀ q : Nat, s.heap.size ≤ q → A q := fun q h => by rw [← hAe]; exact Or.inr h
  have hS : va_S A s.heap s.heap [] := va_S.rf
  have hP : va_P D vwCl [] s.heap := hP
  have hl := lv_entry ([.int a]) (n := 1) (Nat.le_of_ble_eq_true rfl)
  rw [lg_entry_eq]
  generalize (lg_sl ([.int a]) ++ List.replicate (1 - (lg_sl ([.int a])).length) Slot.unset).toArray = ls at hl ⊢
  have hl : lv_has ls 1 [(0, .int a)] := hl
  have kl0 : (0 : Int64).toInt = 0 := by decide
  have kl9999 : (9999 : Int64).toInt = 9999 := by decide
  refine lv_iload_n hx hb dX11_isDay_0 rfl (lv_at hl 0 rfl) ?_
  refine lv_i2l hx hb dX11_isDay_1 rfl ?_
  have w1 := i_w a
  have w2 := i_rng a
  refine lv_lconst (v := 0) hx hb dX11_isDay_2 (by decide) ?_
  refine lv_ldc2 hx hb hown (hts (Cond.constantLong RX11 168 (9999)) (wm_t (wm_l (wm_i 0 rfl)))) dX11_isDay_3 ?_
  refine st_i1 (va_runS (As := [.long (a.toInt64), .long 0, .long 9999]) (rest := []) ⟨hx, hb, hml, hown, hts⟩ (ct_X11_in l D cI cY cJ cQ _ a.toInt64 (0 : Int64) (9999 : Int64)) (va_cwS 3 hts gX11_isDay_X11_in rfl rfl rfl cdX11_in ⟨Nat.le_of_ble_eq_true rfl, Nat.le_of_ble_eq_true rfl⟩) (cPreS (hP.sub [] rfl) hK (hD.sub [] (by decide +kernel) rfl) hN) rfl rfl hl.1 rfl (lv_room (Nat.le_of_ble_eq_true rfl)) dX11_isDay_6 ⟨Nat.le_of_ble_eq_true rfl, Nat.le_of_ble_eq_true rfl⟩) hP hD hS hA [] rfl (fun _ => rfl) (fun r5 u3 H locs hw4 => ?_)
  clear hP hS
  intro hP hS
  replace hw4 : r5 = if (0 : Int64).toInt ≤ a.toInt64.toInt ∧ a.toInt64.toInt ≤ (9999 : Int64).toInt then 1 else 0 := hw4
  have hP9 := hP
  have hD9 := hD
  exact W.zret (v := r5) hx hb hr (zn_b hw4) (fun t ht hW => ⟨⟨r5, (), rfl, bo_iff hw4 ⟨fun h => by omega, fun h => by omega⟩, by rw [ht]; exact hP9, va_K.moved hW.alike hK, hD9⟩, hS.F ht⟩) hS.2.2 dX11_isDay_9

set_option maxHeartbeats 4000000 in
set_option maxRecDepth 100000 in
theorem ct_X11_isRoom (l : Launch) (D : va_G) (cI cY cJ cQ : ClassId) (sz : Nat) (a : Int32)   : Met l yX11_isRoom wsX11_isRoom ({ frames := 1, cells := 0, slots := 0, locals := 25 }) (cPre D (ty4 cI cY cJ cQ) [] sz [.int a]) (va_Qi (fun (r : Int32) (u : Unit) => r = if 0 ≤ a.toInt ∧ a.toInt ≤ 5 then 1 else 0) (cB D (ty4 cI cY cJ cQ) (fun (u : Unit) => []) (va_A [] sz)) (va_A [] sz)) 0 0 (va_A [] sz) := by
  refine Met.ofW (cc := cX11_isRoom) (maxL := 1) (ret := (some .boolean)) (by decide) rfl ?_
  intro p e s m args below meth c s₁ B hml hv
  obtain ⟨rfl, hsz, hP, hK, hD0, hN⟩ := hv
  have hx := B.exec
  have hb := B.bytes
  have hr := B.returns
  have hts := atoms_spec (ws := wsX11_isRoom) B.pre
  have hown : s.vm.findClass RX11 = some m.cls := findClass_of_methodNamed B.named
  have hlocks := B.notSynchronized
  subst hsz
  have hD := hD0.self (sz := s.heap.size)
  generalize hAe : va_A [] s.heap.size = A at hD ⊢
  have hA : ∀ q : Nat, s.heap.size ≤ q → A q := fun q h => by rw [← hAe]; exact Or.inr h
  have hS : va_S A s.heap s.heap [] := va_S.rf
  have hP : va_P D vwCl [] s.heap := hP
  have hl := lv_entry ([.int a]) (n := 1) (Nat.le_of_ble_eq_true rfl)
  rw [lg_entry_eq]
  generalize (lg_sl ([.int a]) ++ List.replicate (1 - (lg_sl ([.int a])).length) Slot.unset).toArray = ls at hl ⊢
  have hl : lv_has ls 1 [(0, .int a)] := hl
  have kl0 : (0 : Int64).toInt = 0 := by decide
  have kl5 : (5 : Int64).toInt = 5 := by decide
  refine lv_iload_n hx hb dX11_isRoom_0 rfl (lv_at hl 0 rfl) ?_
  refine lv_i2l hx hb dX11_isRoom_1 rfl ?_
  have w1 := i_w a
  have w2 := i_rng a
  refine lv_lconst (v := 0) hx hb dX11_isRoom_2 (by decide) ?_
  refine lv_ldc2 hx hb hown (hts (Cond.constantLong RX11 325 (5)) (wm_t (wm_l (wm_i 0 rfl)))) dX11_isRoom_3 ?_
  refine st_i1 (va_runS (As := [.long (a.toInt64), .long 0, .long 5]) (rest := []) ⟨hx, hb, hml, hown, hts⟩ (ct_X11_in l D cI cY cJ cQ _ a.toInt64 (0 : Int64) (5 : Int64)) (va_cwS 3 hts gX11_isRoom_X11_in rfl rfl rfl cdX11_in ⟨Nat.le_of_ble_eq_true rfl, Nat.le_of_ble_eq_true rfl⟩) (cPreS (hP.sub [] rfl) hK (hD.sub [] (by decide +kernel) rfl) hN) rfl rfl hl.1 rfl (lv_room (Nat.le_of_ble_eq_true rfl)) dX11_isRoom_6 ⟨Nat.le_of_ble_eq_true rfl, Nat.le_of_ble_eq_true rfl⟩) hP hD hS hA [] rfl (fun _ => rfl) (fun r5 u3 H locs hw4 => ?_)
  clear hP hS
  intro hP hS
  replace hw4 : r5 = if (0 : Int64).toInt ≤ a.toInt64.toInt ∧ a.toInt64.toInt ≤ (5 : Int64).toInt then 1 else 0 := hw4
  have hP9 := hP
  have hD9 := hD
  exact W.zret (v := r5) hx hb hr (zn_b hw4) (fun t ht hW => ⟨⟨r5, (), rfl, bo_iff hw4 ⟨fun h => by omega, fun h => by omega⟩, by rw [ht]; exact hP9, va_K.moved hW.alike hK, hD9⟩, hS.F ht⟩) hS.2.2 dX11_isRoom_9

set_option maxHeartbeats 4000000 in
set_option maxRecDepth 100000 in
theorem ct_X11_isLetter (l : Launch) (D : va_G) (cI cY cJ cQ : ClassId) (sz : Nat) (a : Int32)   : Met l yX11_isLetter wsX11_isLetter ({ frames := 0, cells := 0, slots := 0, locals := 0 }) (cPre D (ty4 cI cY cJ cQ) [] sz [.int a]) (va_Qi (fun (r : Int32) (u : Unit) => r = if 97 ≤ a.toInt ∧ a.toInt ≤ 122 then 1 else 0) (cB D (ty4 cI cY cJ cQ) (fun (u : Unit) => []) (va_A [] sz)) (va_A [] sz)) 0 0 (va_A [] sz) := by
  refine Met.ofW (cc := cX11_isLetter) (maxL := 1) (ret := (some .boolean)) (by decide) rfl ?_
  intro p e s m args below meth c s₁ B hml hv
  obtain ⟨rfl, hsz, hP, hK, hD0, hN⟩ := hv
  have hx := B.exec
  have hb := B.bytes
  have hr := B.returns
  have hts := atoms_spec (ws := wsX11_isLetter) B.pre
  have hown : s.vm.findClass RX11 = some m.cls := findClass_of_methodNamed B.named
  have hlocks := B.notSynchronized
  subst hsz
  have hD := hD0.self (sz := s.heap.size)
  generalize hAe : va_A [] s.heap.size = A at hD ⊢
  have hA : ∀ q : Nat, s.heap.size ≤ q → A q := fun q h => by rw [← hAe]; exact Or.inr h
  have hS : va_S A s.heap s.heap [] := va_S.rf
  have hP : va_P D vwCl [] s.heap := hP
  have hl := lv_entry ([.int a]) (n := 1) (Nat.le_of_ble_eq_true rfl)
  rw [lg_entry_eq]
  generalize (lg_sl ([.int a]) ++ List.replicate (1 - (lg_sl ([.int a])).length) Slot.unset).toArray = ls at hl ⊢
  have hl : lv_has ls 1 [(0, .int a)] := hl
  have k97 : (97 : Int32).toInt = 97 := by decide
  have k122 : (122 : Int32).toInt = 122 := by decide
  refine lv_iload_n hx hb dX11_isLetter_0 rfl (lv_at hl 0 rfl) ?_
  refine lv_bipush (v := 97) hx hb dX11_isLetter_1 (by decide) ?_
  refine lv_icmp_lt (tgt := 16) hx hb dX11_isLetter_3 (by decide) (fun c1 => ?_) (fun c1 => ?_)
  · skip
    have f2 := i_lt c1
    refine lv_iconst (v := 0) hx hb dX11_isLetter_16 (by decide) ?_
    have hP9 := hP
    have hD9 := hD
    exact W.zret (v := 0) hx hb hr rfl (fun t ht hW => ⟨⟨0, (), rfl, bo_no (by omega), by rw [ht]; exact hP9, va_K.moved hW.alike hK, hD9⟩, hS.F ht⟩) hS.2.2 dX11_isLetter_17
  · skip
    have f3 := i_nlt c1
    refine lv_iload_n hx hb dX11_isLetter_6 rfl (lv_at hl 0 rfl) ?_
    refine lv_bipush (v := 122) hx hb dX11_isLetter_7 (by decide) ?_
    refine lv_icmp_gt (tgt := 16) hx hb dX11_isLetter_9 (by decide) (fun c4 => ?_) (fun c4 => ?_)
    · skip
      have f5 := i_lt c4
      refine lv_iconst (v := 0) hx hb dX11_isLetter_16 (by decide) ?_
      have hP9 := hP
      have hD9 := hD
      exact W.zret (v := 0) hx hb hr rfl (fun t ht hW => ⟨⟨0, (), rfl, bo_no (by omega), by rw [ht]; exact hP9, va_K.moved hW.alike hK, hD9⟩, hS.F ht⟩) hS.2.2 dX11_isLetter_17
    · skip
      have f6 := i_nlt c4
      refine lv_iconst (v := 1) hx hb dX11_isLetter_12 (by decide) ?_
      refine lv_goto (tgt := 17) hx hb dX11_isLetter_13 (by decide) ?_
      have hP9 := hP
      have hD9 := hD
      exact W.zret (v := 1) hx hb hr rfl (fun t ht hW => ⟨⟨1, (), rfl, bo_yes (by omega), by rw [ht]; exact hP9, va_K.moved hW.alike hK, hD9⟩, hS.F ht⟩) hS.2.2 dX11_isLetter_17

set_option maxHeartbeats 4000000 in
set_option maxRecDepth 100000 in
theorem ct_X11_isFigure (l : Launch) (D : va_G) (cI cY cJ cQ : ClassId) (sz : Nat) (a : Int32)   : Met l yX11_isFigure wsX11_isFigure ({ frames := 0, cells := 0, slots := 0, locals := 0 }) (cPre D (ty4 cI cY cJ cQ) [] sz [.int a]) (va_Qi (fun (r : Int32) (u : Unit) => r = if 48 ≤ a.toInt ∧ a.toInt ≤ 57 then 1 else 0) (cB D (ty4 cI cY cJ cQ) (fun (u : Unit) => []) (va_A [] sz)) (va_A [] sz)) 0 0 (va_A [] sz) := by
  refine Met.ofW (cc := cX11_isFigure) (maxL := 1) (ret := (some .boolean)) (by decide) rfl ?_
  intro p e s m args below meth c s₁ B hml hv
  obtain ⟨rfl, hsz, hP, hK, hD0, hN⟩ := hv
  have hx := B.exec
  have hb := B.bytes
  have hr := B.returns
  have hts := atoms_spec (ws := wsX11_isFigure) B.pre
  have hown : s.vm.findClass RX11 = some m.cls := findClass_of_methodNamed B.named
  have hlocks := B.notSynchronized
  subst hsz
  have hD := hD0.self (sz := s.heap.size)
  generalize hAe : va_A [] s.heap.size = A at hD ⊢
  have hA : ∀ q : Nat, s.heap.size ≤ q → A q := fun q h => by rw [← hAe]; exact Or.inr h
  have hS : va_S A s.heap s.heap [] := va_S.rf
  have hP : va_P D vwCl [] s.heap := hP
  have hl := lv_entry ([.int a]) (n := 1) (Nat.le_of_ble_eq_true rfl)
  rw [lg_entry_eq]
  generalize (lg_sl ([.int a]) ++ List.replicate (1 - (lg_sl ([.int a])).length) Slot.unset).toArray = ls at hl ⊢
  have hl : lv_has ls 1 [(0, .int a)] := hl
  have k48 : (48 : Int32).toInt = 48 := by decide
  have k57 : (57 : Int32).toInt = 57 := by decide
  refine lv_iload_n hx hb dX11_isFigure_0 rfl (lv_at hl 0 rfl) ?_
  refine lv_bipush (v := 48) hx hb dX11_isFigure_1 (by decide) ?_
  refine lv_icmp_lt (tgt := 16) hx hb dX11_isFigure_3 (by decide) (fun c1 => ?_) (fun c1 => ?_)
  · skip
    have f2 := i_lt c1
    refine lv_iconst (v := 0) hx hb dX11_isFigure_16 (by decide) ?_
    have hP9 := hP
    have hD9 := hD
    exact W.zret (v := 0) hx hb hr rfl (fun t ht hW => ⟨⟨0, (), rfl, bo_no (by omega), by rw [ht]; exact hP9, va_K.moved hW.alike hK, hD9⟩, hS.F ht⟩) hS.2.2 dX11_isFigure_17
  · skip
    have f3 := i_nlt c1
    refine lv_iload_n hx hb dX11_isFigure_6 rfl (lv_at hl 0 rfl) ?_
    refine lv_bipush (v := 57) hx hb dX11_isFigure_7 (by decide) ?_
    refine lv_icmp_gt (tgt := 16) hx hb dX11_isFigure_9 (by decide) (fun c4 => ?_) (fun c4 => ?_)
    · skip
      have f5 := i_lt c4
      refine lv_iconst (v := 0) hx hb dX11_isFigure_16 (by decide) ?_
      have hP9 := hP
      have hD9 := hD
      exact W.zret (v := 0) hx hb hr rfl (fun t ht hW => ⟨⟨0, (), rfl, bo_no (by omega), by rw [ht]; exact hP9, va_K.moved hW.alike hK, hD9⟩, hS.F ht⟩) hS.2.2 dX11_isFigure_17
    · skip
      have f6 := i_nlt c4
      refine lv_iconst (v := 1) hx hb dX11_isFigure_12 (by decide) ?_
      refine lv_goto (tgt := 17) hx hb dX11_isFigure_13 (by decide) ?_
      have hP9 := hP
      have hD9 := hD
      exact W.zret (v := 1) hx hb hr rfl (fun t ht hW => ⟨⟨1, (), rfl, bo_yes (by omega), by rw [ht]; exact hP9, va_K.moved hW.alike hK, hD9⟩, hS.F ht⟩) hS.2.2 dX11_isFigure_17

set_option maxHeartbeats 4000000 in
set_option maxRecDepth 100000 in
theorem ct_X11_isCrate (l : Launch) (D : va_G) (cI cY cJ cQ : ClassId) (sz : Nat) (md : Nat → Nat) (sd : Int32) (mth mst hn cn pn mq gn mln mnn ln mlt msz mcu mtk mfr mti mfa mfb an un lc td mtn : Int32) (a : Int32)  (h1 : 0 ≤ cn.toInt) (h2 : cn.toInt ≤ 12)  : Met l yX11_isCrate wsX11_isCrate ({ frames := 1, cells := 0, slots := 0, locals := 25 }) (cPre D (ty4 cI cY cJ cQ) [(moC md sd mth mst hn cn pn mq gn mln mnn ln mlt msz mcu mtk mfr mti mfa mfb an un lc td mtn)] sz [.ref (md 64), .int a]) (va_Qi (fun (r : Int32) (u : Unit) => r = if 0 ≤ a.toInt ∧ a.toInt < cn.toInt then 1 else 0) (cB D (ty4 cI cY cJ cQ) (fun (u : Unit) => [(moC md sd mth mst hn cn pn mq gn mln mnn ln mlt msz mcu mtk mfr mti mfa mfb an un lc td mtn)]) (va_A [(moC md sd mth mst hn cn pn mq gn mln mnn ln mlt msz mcu mtk mfr mti mfa mfb an un lc td mtn)] sz)) (va_A [(moC md sd mth mst hn cn pn mq gn mln mnn ln mlt msz mcu mtk mfr mti mfa mfb an un lc td mtn)] sz)) 0 0 (va_A [(moC md sd mth mst hn cn pn mq gn mln mnn ln mlt msz mcu mtk mfr mti mfa mfb an un lc td mtn)] sz) := by
  refine Met.ofW (cc := cX11_isCrate) (maxL := 2) (ret := (some .boolean)) (by decide) rfl ?_
  intro p e s m args below meth c s₁ B hml hv
  obtain ⟨rfl, hsz, hP, hK, hD0, hN⟩ := hv
  have hx := B.exec
  have hb := B.bytes
  have hr := B.returns
  have hts := atoms_spec (ws := wsX11_isCrate) B.pre
  have hown : s.vm.findClass RX11 = some m.cls := findClass_of_methodNamed B.named
  have hlocks := B.notSynchronized
  subst hsz
  have hD := hD0.self (sz := s.heap.size)
  generalize hAe : va_A [(moC md sd mth mst hn cn pn mq gn mln mnn ln mlt msz mcu mtk mfr mti mfa mfb an un lc td mtn)] s.heap.size = A at hD ⊢
  have hA : ∀ q : Nat, s.heap.size ≤ q → A q := fun q h => by rw [← hAe]; exact Or.inr h
  have hS : va_S A s.heap s.heap [] := va_S.rf
  have hP : va_P D vwCl [(moC md sd mth mst hn cn pn mq gn mln mnn ln mlt msz mcu mtk mfr mti mfa mfb an un lc td mtn)] s.heap := hP
  have hl := lv_entry ([.ref (md 64), .int a]) (n := 2) (Nat.le_of_ble_eq_true rfl)
  rw [lg_entry_eq]
  generalize (lg_sl ([.ref (md 64), .int a]) ++ List.replicate (2 - (lg_sl ([.ref (md 64), .int a])).length) Slot.unset).toArray = ls at hl ⊢
  have hl : lv_has ls 2 [(0, .ref (md 64)), (1, .int a)] := hl
  have k1 : (1 : Int32).toInt = 1 := by decide
  have kl0 : (0 : Int64).toInt = 0 := by decide
  refine lv_iload_n hx hb dX11_isCrate_0 rfl (lv_at hl 1 rfl) ?_
  refine lv_i2l hx hb dX11_isCrate_1 rfl ?_
  have w1 := i_w a
  have w2 := i_rng a
  refine lv_lconst (v := 0) hx hb dX11_isCrate_2 (by decide) ?_
  refine lv_aload_n hx hb dX11_isCrate_3 rfl (lv_at hl 0 rfl) ?_
  refine va_get (D := D) (ci := 11) (v := .int cn) (C := RX11) (T := TX11) (N := 64) hx hb hts inX11_isCrate_X11 hown hK hP 0 rfl rfl 15 (by decide) (hts (Cond.fieldLink RX11 214 "PortRoomsModel" "crates" "I") (wm_t (wm_l (wm_i 0 rfl)))) (fun _ h9 => h9) rfl dX11_isCrate_4 ?_
  refine lv_iconst (v := 1) hx hb dX11_isCrate_7 (by decide) ?_
  refine lv_isub hx hb dX11_isCrate_8 ?_
  refine lv_topi (fun v3 ev3 => ?_)
  try have tv3 : v3.toInt = cn.toInt - 1 := by rw [ev3]; exact (i_sub (x := cn) (y := (1 : Int32)) (by rw [k1]; omega) (by rw [k1]; omega)).trans (by rw [k1])
  refine lv_i2l hx hb dX11_isCrate_9 rfl ?_
  have w4 := i_w v3
  have w5 := i_rng v3
  refine st_i1 (va_runS (As := [.long (a.toInt64), .long 0, .long (v3.toInt64)]) (rest := []) ⟨hx, hb, hml, hown, hts⟩ (ct_X11_in l D cI cY cJ cQ _ a.toInt64 (0 : Int64) v3.toInt64) (va_cwS 3 hts gX11_isCrate_X11_in rfl rfl rfl cdX11_in ⟨Nat.le_of_ble_eq_true rfl, Nat.le_of_ble_eq_true rfl⟩) (cPreS (hP.sub [] rfl) hK (hD.sub [] (by decide +kernel) rfl) hN) rfl rfl hl.1 rfl (lv_room (Nat.le_of_ble_eq_true rfl)) dX11_isCrate_10 ⟨Nat.le_of_ble_eq_true rfl, Nat.le_of_ble_eq_true rfl⟩) hP hD hS hA [] rfl (fun _ => rfl) (fun r8 u6 H locs hw7 => ?_)
  clear hP hS
  intro hP hS
  replace hw7 : r8 = if (0 : Int64).toInt ≤ a.toInt64.toInt ∧ a.toInt64.toInt ≤ v3.toInt64.toInt then 1 else 0 := hw7
  have hP9 := hP
  have hD9 := hD
  exact W.zret (v := r8) hx hb hr (zn_b hw7) (fun t ht hW => ⟨⟨r8, (), rfl, bo_iff hw7 ⟨fun h => by omega, fun h => by omega⟩, by rw [ht]; exact hP9, va_K.moved hW.alike hK, hD9⟩, hS.F ht⟩) hS.2.2 dX11_isCrate_13

set_option maxHeartbeats 4000000 in
set_option maxRecDepth 100000 in
theorem ct_X11_found (l : Launch) (D : va_G) (cI cY cJ cQ : ClassId) (sz : Nat) (md : Nat → Nat) (sd : Int32) (mth mst hn cn pn mq gn mln mnn ln mlt msz mcu mtk mfr mti mfa mfb an un lc td mtn : Int32) (a : Int32)   : Met l yX11_found wsX11_found ({ frames := 0, cells := 0, slots := 0, locals := 0 }) (cPre D (ty4 cI cY cJ cQ) [(moC md sd mth mst hn cn pn mq gn mln mnn ln mlt msz mcu mtk mfr mti mfa mfb an un lc td mtn)] sz [.ref (md 64), .int a]) (va_Qi (fun (r : Int32) (u : Unit) => r = (-1000010) - a) (cB D (ty4 cI cY cJ cQ) (fun (u : Unit) => [(moC md sd mth a hn cn pn mq gn mln mnn ln mlt msz mcu mtk mfr mti mfa mfb an un lc td mtn)]) (va_A [(moC md sd mth mst hn cn pn mq gn mln mnn ln mlt msz mcu mtk mfr mti mfa mfb an un lc td mtn)] sz)) (va_A [(moC md sd mth mst hn cn pn mq gn mln mnn ln mlt msz mcu mtk mfr mti mfa mfb an un lc td mtn)] sz)) 0 0 (va_A [(moC md sd mth mst hn cn pn mq gn mln mnn ln mlt msz mcu mtk mfr mti mfa mfb an un lc td mtn)] sz) := by
  refine Met.ofW (cc := cX11_found) (maxL := 2) (ret := (some .int)) (by decide) rfl ?_
  intro p e s m args below meth c s₁ B hml hv
  obtain ⟨rfl, hsz, hP, hK, hD0, hN⟩ := hv
  have hx := B.exec
  have hb := B.bytes
  have hr := B.returns
  have hts := atoms_spec (ws := wsX11_found) B.pre
  have hown : s.vm.findClass RX11 = some m.cls := findClass_of_methodNamed B.named
  have hlocks := B.notSynchronized
  subst hsz
  have hD := hD0.self (sz := s.heap.size)
  generalize hAe : va_A [(moC md sd mth mst hn cn pn mq gn mln mnn ln mlt msz mcu mtk mfr mti mfa mfb an un lc td mtn)] s.heap.size = A at hD ⊢
  have hA : ∀ q : Nat, s.heap.size ≤ q → A q := fun q h => by rw [← hAe]; exact Or.inr h
  have hS : va_S A s.heap s.heap [] := va_S.rf
  have hP : va_P D vwCl [(moC md sd mth mst hn cn pn mq gn mln mnn ln mlt msz mcu mtk mfr mti mfa mfb an un lc td mtn)] s.heap := hP
  have hl := lv_entry ([.ref (md 64), .int a]) (n := 2) (Nat.le_of_ble_eq_true rfl)
  rw [lg_entry_eq]
  generalize (lg_sl ([.ref (md 64), .int a]) ++ List.replicate (2 - (lg_sl ([.ref (md 64), .int a])).length) Slot.unset).toArray = ls at hl ⊢
  have hl : lv_has ls 2 [(0, .ref (md 64)), (1, .int a)] := hl
  have km1000010 : (-1000010 : Int32).toInt = -1000010 := by decide
  refine lv_aload_n hx hb dX11_found_0 rfl (lv_at hl 0 rfl) ?_
  refine lv_iload_n hx hb dX11_found_1 rfl (lv_at hl 1 rfl) ?_
  refine va_put (D := D) (ci := 11) (v := .int a) (ty := .int) (C := RX11) (T := TX11) (N := 64) hx hb hts inX11_found_X11 tyX11 tyX11_ok nmX11 hown hK hP hD hS 0 rfl rfl 2 (by decide) (hts (Cond.fieldLink RX11 141 "PortRoomsModel" "status" "I") (wm_t (wm_l (wm_i 0 rfl)))) (fun _ h9 => h9) rfl (tyX11_ok 2 (by decide)) rfl rfl (Nat.le_of_ble_eq_true rfl) dX11_found_2 (fun H locs => ?_)
  clear hP hD hS
  intro hP hD hS
  replace hP : va_P D vwCl [(moC md sd mth a hn cn pn mq gn mln mnn ln mlt msz mcu mtk mfr mti mfa mfb an un lc td mtn)] H := hP
  replace hD : va_D A [(moC md sd mth a hn cn pn mq gn mln mnn ln mlt msz mcu mtk mfr mti mfa mfb an un lc td mtn)] := hD
  refine lv_ldc hx hb hown (hts (Cond.constant RX11 144 (-1000010)) (wm_t (wm_l (wm_i 1 rfl)))) dX11_found_5 ?_
  refine lv_iload_n hx hb dX11_found_7 rfl (lv_at hl 1 rfl) ?_
  refine lv_isub hx hb dX11_found_8 ?_
  refine lv_topi (fun v1 ev1 => ?_)
  try have tv1 : v1.toInt = (-1000010) - a.toInt := by rw [ev1]; exact (i_sub (x := ((-1000010) : Int32)) (y := a) (by rw [km1000010]; omega) (by rw [km1000010]; omega)).trans (by rw [km1000010])
  have hP9 := hP
  have hD9 := hD
  exact W.iret (v := v1) hx hb hr (fun t ht hW => ⟨⟨v1, (), rfl, ev1, by rw [ht]; exact hP9, va_K.moved hW.alike hK, hD9⟩, hS.F ht⟩) hS.2.2 dX11_found_9

set_option maxHeartbeats 4000000 in
set_option maxRecDepth 100000 in
theorem ct_X11_status (l : Launch) (D : va_G) (cI cY cJ cQ : ClassId) (sz : Nat) (md : Nat → Nat) (sd : Int32) (mth mst hn cn pn mq gn mln mnn ln mlt msz mcu mtk mfr mti mfa mfb an un lc td mtn : Int32)   : Met l yX11_status wsX11_status ({ frames := 0, cells := 0, slots := 0, locals := 0 }) (cPre D (ty4 cI cY cJ cQ) [(moC md sd mth mst hn cn pn mq gn mln mnn ln mlt msz mcu mtk mfr mti mfa mfb an un lc td mtn)] sz [.ref (md 64)]) (va_Qi (fun (r : Int32) (u : Unit) => r = mst) (cB D (ty4 cI cY cJ cQ) (fun (u : Unit) => [(moC md sd 0 mst hn cn pn mq gn mln mnn ln mlt msz mcu mtk mfr mti mfa mfb an un lc td mtn)]) (va_A [(moC md sd mth mst hn cn pn mq gn mln mnn ln mlt msz mcu mtk mfr mti mfa mfb an un lc td mtn)] sz)) (va_A [(moC md sd mth mst hn cn pn mq gn mln mnn ln mlt msz mcu mtk mfr mti mfa mfb an un lc td mtn)] sz)) 0 0 (va_A [(moC md sd mth mst hn cn pn mq gn mln mnn ln mlt msz mcu mtk mfr mti mfa mfb an un lc td mtn)] sz) := by
  refine Met.ofW (cc := cX11_status) (maxL := 1) (ret := (some .int)) (by decide) rfl ?_
  intro p e s m args below meth c s₁ B hml hv
  obtain ⟨rfl, hsz, hP, hK, hD0, hN⟩ := hv
  have hx := B.exec
  have hb := B.bytes
  have hr := B.returns
  have hts := atoms_spec (ws := wsX11_status) B.pre
  have hown : s.vm.findClass RX11 = some m.cls := findClass_of_methodNamed B.named
  have hlocks := B.notSynchronized
  subst hsz
  have hD := hD0.self (sz := s.heap.size)
  generalize hAe : va_A [(moC md sd mth mst hn cn pn mq gn mln mnn ln mlt msz mcu mtk mfr mti mfa mfb an un lc td mtn)] s.heap.size = A at hD ⊢
  have hA : ∀ q : Nat, s.heap.size ≤ q → A q := fun q h => by rw [← hAe]; exact Or.inr h
  have hS : va_S A s.heap s.heap [] := va_S.rf
  have hP : va_P D vwCl [(moC md sd mth mst hn cn pn mq gn mln mnn ln mlt msz mcu mtk mfr mti mfa mfb an un lc td mtn)] s.heap := hP
  have hl := lv_entry ([.ref (md 64)]) (n := 1) (Nat.le_of_ble_eq_true rfl)
  rw [lg_entry_eq]
  generalize (lg_sl ([.ref (md 64)]) ++ List.replicate (1 - (lg_sl ([.ref (md 64)])).length) Slot.unset).toArray = ls at hl ⊢
  have hl : lv_has ls 1 [(0, .ref (md 64))] := hl
  refine lv_aload_n hx hb dX11_status_0 rfl (lv_at hl 0 rfl) ?_
  refine lv_iconst (v := 0) hx hb dX11_status_1 (by decide) ?_
  refine va_put (D := D) (ci := 11) (v := .int 0) (ty := .int) (C := RX11) (T := TX11) (N := 64) hx hb hts inX11_status_X11 tyX11 tyX11_ok nmX11 hown hK hP hD hS 0 rfl rfl 0 (by decide) (hts (Cond.fieldLink RX11 1 "PortRoomsModel" "thrown" "I") (wm_t (wm_l (wm_i 0 rfl)))) (fun _ h9 => h9) rfl (tyX11_ok 0 (by decide)) rfl rfl (Nat.le_of_ble_eq_true rfl) dX11_status_2 (fun H locs => ?_)
  clear hP hD hS
  intro hP hD hS
  replace hP : va_P D vwCl [(moC md sd (0) mst hn cn pn mq gn mln mnn ln mlt msz mcu mtk mfr mti mfa mfb an un lc td mtn)] H := hP
  replace hD : va_D A [(moC md sd (0) mst hn cn pn mq gn mln mnn ln mlt msz mcu mtk mfr mti mfa mfb an un lc td mtn)] := hD
  refine lv_aload_n hx hb dX11_status_5 rfl (lv_at hl 0 rfl) ?_
  refine va_get (D := D) (ci := 11) (v := .int mst) (C := RX11) (T := TX11) (N := 64) hx hb hts inX11_status_X11 hown hK hP 0 rfl rfl 2 (by decide) (hts (Cond.fieldLink RX11 141 "PortRoomsModel" "status" "I") (wm_t (wm_l (wm_i 1 rfl)))) (fun _ h9 => h9) rfl dX11_status_6 ?_
  have hP9 := hP
  have hD9 := hD
  exact W.iret (v := mst) hx hb hr (fun t ht hW => ⟨⟨mst, (), rfl, rfl, by rw [ht]; exact hP9, va_K.moved hW.alike hK, hD9⟩, hS.F ht⟩) hS.2.2 dX11_status_9

set_option maxHeartbeats 4000000 in
set_option maxRecDepth 100000 in
theorem ct_X11_fault (l : Launch) (D : va_G) (cI cY cJ cQ : ClassId) (sz : Nat) (md : Nat → Nat) (sd : Int32) (mth mst hn cn pn mq gn mln mnn ln mlt msz mcu mtk mfr mti mfa mfb an un lc td mtn : Int32)   : Met l yX11_fault wsX11_fault ({ frames := 0, cells := 0, slots := 0, locals := 0 }) (cPre D (ty4 cI cY cJ cQ) [(moC md sd mth mst hn cn pn mq gn mln mnn ln mlt msz mcu mtk mfr mti mfa mfb an un lc td mtn)] sz [.ref (md 64)]) (va_Qi (fun (r : Int32) (u : Unit) => r = mlt) (cB D (ty4 cI cY cJ cQ) (fun (u : Unit) => [(moC md sd 0 mst hn cn pn mq gn mln mnn ln mlt msz mcu mtk mfr mti mfa mfb an un lc td mtn)]) (va_A [(moC md sd mth mst hn cn pn mq gn mln mnn ln mlt msz mcu mtk mfr mti mfa mfb an un lc td mtn)] sz)) (va_A [(moC md sd mth mst hn cn pn mq gn mln mnn ln mlt msz mcu mtk mfr mti mfa mfb an un lc td mtn)] sz)) 0 0 (va_A [(moC md sd mth mst hn cn pn mq gn mln mnn ln mlt msz mcu mtk mfr mti mfa mfb an un lc td mtn)] sz) := by
  refine Met.ofW (cc := cX11_fault) (maxL := 1) (ret := (some .int)) (by decide) rfl ?_
  intro p e s m args below meth c s₁ B hml hv
  obtain ⟨rfl, hsz, hP, hK, hD0, hN⟩ := hv
  have hx := B.exec
  have hb := B.bytes
  have hr := B.returns
  have hts := atoms_spec (ws := wsX11_fault) B.pre
  have hown : s.vm.findClass RX11 = some m.cls := findClass_of_methodNamed B.named
  have hlocks := B.notSynchronized
  subst hsz
  have hD := hD0.self (sz := s.heap.size)
  generalize hAe : va_A [(moC md sd mth mst hn cn pn mq gn mln mnn ln mlt msz mcu mtk mfr mti mfa mfb an un lc td mtn)] s.heap.size = A at hD ⊢
  have hA : ∀ q : Nat, s.heap.size ≤ q → A q := fun q h => by rw [← hAe]; exact Or.inr h
  have hS : va_S A s.heap s.heap [] := va_S.rf
  have hP : va_P D vwCl [(moC md sd mth mst hn cn pn mq gn mln mnn ln mlt msz mcu mtk mfr mti mfa mfb an un lc td mtn)] s.heap := hP
  have hl := lv_entry ([.ref (md 64)]) (n := 1) (Nat.le_of_ble_eq_true rfl)
  rw [lg_entry_eq]
  generalize (lg_sl ([.ref (md 64)]) ++ List.replicate (1 - (lg_sl ([.ref (md 64)])).length) Slot.unset).toArray = ls at hl ⊢
  have hl : lv_has ls 1 [(0, .ref (md 64))] := hl
  refine lv_aload_n hx hb dX11_fault_0 rfl (lv_at hl 0 rfl) ?_
  refine lv_iconst (v := 0) hx hb dX11_fault_1 (by decide) ?_
  refine va_put (D := D) (ci := 11) (v := .int 0) (ty := .int) (C := RX11) (T := TX11) (N := 64) hx hb hts inX11_fault_X11 tyX11 tyX11_ok nmX11 hown hK hP hD hS 0 rfl rfl 0 (by decide) (hts (Cond.fieldLink RX11 1 "PortRoomsModel" "thrown" "I") (wm_t (wm_l (wm_i 0 rfl)))) (fun _ h9 => h9) rfl (tyX11_ok 0 (by decide)) rfl rfl (Nat.le_of_ble_eq_true rfl) dX11_fault_2 (fun H locs => ?_)
  clear hP hD hS
  intro hP hD hS
  replace hP : va_P D vwCl [(moC md sd (0) mst hn cn pn mq gn mln mnn ln mlt msz mcu mtk mfr mti mfa mfb an un lc td mtn)] H := hP
  replace hD : va_D A [(moC md sd (0) mst hn cn pn mq gn mln mnn ln mlt msz mcu mtk mfr mti mfa mfb an un lc td mtn)] := hD
  refine lv_aload_n hx hb dX11_fault_5 rfl (lv_at hl 0 rfl) ?_
  refine va_get (D := D) (ci := 11) (v := .int mlt) (C := RX11) (T := TX11) (N := 64) hx hb hts inX11_fault_X11 hown hK hP 0 rfl rfl 36 (by decide) (hts (Cond.fieldLink RX11 310 "PortRoomsModel" "latest" "I") (wm_t (wm_l (wm_i 1 rfl)))) (fun _ h9 => h9) rfl dX11_fault_6 ?_
  have hP9 := hP
  have hD9 := hD
  exact W.iret (v := mlt) hx hb hr (fun t ht hW => ⟨⟨mlt, (), rfl, rfl, by rw [ht]; exact hP9, va_K.moved hW.alike hK, hD9⟩, hS.F ht⟩) hS.2.2 dX11_fault_9

set_option maxHeartbeats 4000000 in
set_option maxRecDepth 100000 in
theorem ct_X11_day (l : Launch) (D : va_G) (cI cY cJ cQ : ClassId) (sz : Nat) (md : Nat → Nat) (sd : Int32) (mth mst hn cn pn mq gn mln mnn ln mlt msz mcu mtk mfr mti mfa mfb an un lc td mtn : Int32) (d : Int32)   : Met l yX11_day wsX11_day ({ frames := 2, cells := 0, slots := 0, locals := 45 }) (cPre D (ty4 cI cY cJ cQ) [(moC md sd mth mst hn cn pn mq gn mln mnn ln mlt msz mcu mtk mfr mti mfa mfb an un lc td mtn)] sz [.ref (md 64), .int d]) (va_Qi (fun (r : Int32) (u : Int32) => (r, u) = sp_day td d) (cB D (ty4 cI cY cJ cQ) (fun (u : Int32) => [(moC md sd 0 mst hn cn pn mq gn mln mnn ln mlt msz mcu mtk mfr mti mfa mfb an un lc u mtn)]) (va_A [(moC md sd mth mst hn cn pn mq gn mln mnn ln mlt msz mcu mtk mfr mti mfa mfb an un lc td mtn)] sz)) (va_A [(moC md sd mth mst hn cn pn mq gn mln mnn ln mlt msz mcu mtk mfr mti mfa mfb an un lc td mtn)] sz)) 0 0 (va_A [(moC md sd mth mst hn cn pn mq gn mln mnn ln mlt msz mcu mtk mfr mti mfa mfb an un lc td mtn)] sz) := by
  refine Met.ofW (cc := cX11_day) (maxL := 3) (ret := (some .int)) (by decide) rfl ?_
  intro p e s m args below meth c s₁ B hml hv
  obtain ⟨rfl, hsz, hP, hK, hD0, hN⟩ := hv
  have hx := B.exec
  have hb := B.bytes
  have hr := B.returns
  have hts := atoms_spec (ws := wsX11_day) B.pre
  have hown : s.vm.findClass RX11 = some m.cls := findClass_of_methodNamed B.named
  have hlocks := B.notSynchronized
  subst hsz
  have hD := hD0.self (sz := s.heap.size)
  generalize hAe : va_A [(moC md sd mth mst hn cn pn mq gn mln mnn ln mlt msz mcu mtk mfr mti mfa mfb an un lc td mtn)] s.heap.size = A at hD ⊢
  have hA : ∀ q : Nat, s.heap.size ≤ q → A q := fun q h => by rw [← hAe]; exact Or.inr h
  have hS : va_S A s.heap s.heap [] := va_S.rf
  have hP : va_P D vwCl [(moC md sd mth mst hn cn pn mq gn mln mnn ln mlt msz mcu mtk mfr mti mfa mfb an un lc td mtn)] s.heap := hP
  have hl := lv_entry ([.ref (md 64), .int d]) (n := 3) (Nat.le_of_ble_eq_true rfl)
  rw [lg_entry_eq]
  generalize (lg_sl ([.ref (md 64), .int d]) ++ List.replicate (3 - (lg_sl ([.ref (md 64), .int d])).length) Slot.unset).toArray = ls at hl ⊢
  have hl : lv_has ls 3 [(0, .ref (md 64)), (1, .int d)] := hl
  have km1000001 : (-1000001 : Int32).toInt = -1000001 := by decide
  have k0 : (0 : Int32).toInt = 0 := by decide
  refine lv_aload_n hx hb dX11_day_0 rfl (lv_at hl 0 rfl) ?_
  refine lv_iconst (v := 0) hx hb dX11_day_1 (by decide) ?_
  refine va_put (D := D) (ci := 11) (v := .int 0) (ty := .int) (C := RX11) (T := TX11) (N := 64) hx hb hts inX11_day_X11 tyX11 tyX11_ok nmX11 hown hK hP hD hS 0 rfl rfl 0 (by decide) (hts (Cond.fieldLink RX11 1 "PortRoomsModel" "thrown" "I") (wm_t (wm_l (wm_i 0 rfl)))) (fun _ h9 => h9) rfl (tyX11_ok 0 (by decide)) rfl rfl (Nat.le_of_ble_eq_true rfl) dX11_day_2 (fun H locs => ?_)
  clear hP hD hS
  intro hP hD hS
  replace hP : va_P D vwCl [(moC md sd (0) mst hn cn pn mq gn mln mnn ln mlt msz mcu mtk mfr mti mfa mfb an un lc td mtn)] H := hP
  replace hD : va_D A [(moC md sd (0) mst hn cn pn mq gn mln mnn ln mlt msz mcu mtk mfr mti mfa mfb an un lc td mtn)] := hD
  refine lv_iload_n hx hb dX11_day_5 rfl (lv_at hl 1 rfl) ?_
  refine st_i1 (va_runS (As := [.int d]) (rest := []) ⟨hx, hb, hml, hown, hts⟩ (ct_X11_isDay l D cI cY cJ cQ _ d) (va_cwS 1 hts gX11_day_X11_isDay rfl rfl rfl cdX11_isDay ⟨Nat.le_of_ble_eq_true rfl, Nat.le_of_ble_eq_true rfl⟩) (cPreS (hP.sub [] rfl) hK (hD.sub [] (by decide +kernel) rfl) hN) rfl rfl hl.1 rfl (lv_room (Nat.le_of_ble_eq_true rfl)) dX11_day_6 ⟨Nat.le_of_ble_eq_true rfl, Nat.le_of_ble_eq_true rfl⟩) hP hD hS hA [] rfl (fun _ => rfl) (fun r3 u1 H locs hw2 => ?_)
  clear hP hS
  intro hP hS
  replace hw2 : r3 = if 0 ≤ d.toInt ∧ d.toInt ≤ 9999 then 1 else 0 := hw2
  refine lv_if_ne (tgt := 15) hx hb dX11_day_9 (by decide) (fun c4 => ?_) (fun c4 => ?_)
  · skip
    have f5 := bo_t hw2 c4
    refine lv_aload_n hx hb dX11_day_15 rfl (lv_at hl 0 rfl) ?_
    refine va_get (D := D) (ci := 11) (v := .int td) (C := RX11) (T := TX11) (N := 64) hx hb hts inX11_day_X11 hown hK hP 0 rfl rfl 61 (by decide) (hts (Cond.fieldLink RX11 369 "PortRoomsModel" "theDay" "I") (wm_t (wm_l (wm_i 2 rfl)))) (fun _ h9 => h9) rfl dX11_day_16 ?_
    refine lv_istore_n (lv' := [(2, .int td), (0, .ref (md 64)), (1, .int d)]) hx hb dX11_day_19 rfl hl (by decide) rfl (fun ls hl => ?_)
    refine lv_aload_n hx hb dX11_day_20 rfl (lv_at hl 1 rfl) ?_
    refine lv_iload_n hx hb dX11_day_21 rfl (lv_at hl 2 rfl) ?_
    refine va_put (D := D) (ci := 11) (v := .int d) (ty := .int) (C := RX11) (T := TX11) (N := 64) hx hb hts inX11_day_X11 tyX11 tyX11_ok nmX11 hown hK hP hD hS 0 rfl rfl 61 (by decide) (hts (Cond.fieldLink RX11 369 "PortRoomsModel" "theDay" "I") (wm_t (wm_l (wm_i 2 rfl)))) (fun _ h9 => h9) rfl (tyX11_ok 61 (by decide)) rfl rfl (Nat.le_of_ble_eq_true rfl) dX11_day_22 (fun H locs => ?_)
    clear hP hD hS
    intro hP hD hS
    replace hP : va_P D vwCl [(moC md sd (0) mst hn cn pn mq gn mln mnn ln mlt msz mcu mtk mfr mti mfa mfb an un lc d mtn)] H := hP
    replace hD : va_D A [(moC md sd (0) mst hn cn pn mq gn mln mnn ln mlt msz mcu mtk mfr mti mfa mfb an un lc d mtn)] := hD
    refine lv_iload_n hx hb dX11_day_25 rfl (lv_at hl 0 rfl) ?_
    have hP9 := hP
    have hD9 := hD
    exact W.iret (v := td) hx hb hr (fun t ht hW => ⟨⟨td, d, rfl, (by unfold sp_day; (repeat' split) <;> first | rfl | (exfalso; omega) | (subst_vars; rfl)), by rw [ht]; exact hP9, va_K.moved hW.alike hK, hD9⟩, hS.F ht⟩) hS.2.2 dX11_day_26
  · skip
    have f6 := bo_f hw2 c4
    refine lv_ldc hx hb hown (hts (Cond.constant RX11 157 (-1000001)) (wm_t (wm_l (wm_i 1 rfl)))) dX11_day_12 ?_
    have hP9 := hP
    have hD9 := hD
    exact W.iret (v := (-1000001)) hx hb hr (fun t ht hW => ⟨⟨(-1000001), td, rfl, (by unfold sp_day; (repeat' split) <;> first | rfl | (exfalso; omega) | (subst_vars; rfl)), by rw [ht]; exact hP9, va_K.moved hW.alike hK, hD9⟩, hS.F ht⟩) hS.2.2 dX11_day_14
