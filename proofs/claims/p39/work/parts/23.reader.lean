theorem cdX2_next : yX2_next.cls ≠ "java/lang/invoke/MethodHandle" ∧ yX2_next.cls ≠ "java/lang/invoke/VarHandle" ∧ (parseMethodDescriptor yX2_next.desc).map (fun d => d.parameters.length) = some 0 := by decide +kernel
theorem cdX2_isLetter : yX2_isLetter.cls ≠ "java/lang/invoke/MethodHandle" ∧ yX2_isLetter.cls ≠ "java/lang/invoke/VarHandle" ∧ (parseMethodDescriptor yX2_isLetter.desc).map (fun d => d.parameters.length) = some 1 := by decide +kernel
theorem cdX2_isFigure : yX2_isFigure.cls ≠ "java/lang/invoke/MethodHandle" ∧ yX2_isFigure.cls ≠ "java/lang/invoke/VarHandle" ∧ (parseMethodDescriptor yX2_isFigure.desc).map (fun d => d.parameters.length) = some 1 := by decide +kernel
theorem cdX2_readName : yX2_readName.cls ≠ "java/lang/invoke/MethodHandle" ∧ yX2_readName.cls ≠ "java/lang/invoke/VarHandle" ∧ (parseMethodDescriptor yX2_readName.desc).map (fun d => d.parameters.length) = some 0 := by decide +kernel
theorem cdX2_isWord : yX2_isWord.cls ≠ "java/lang/invoke/MethodHandle" ∧ yX2_isWord.cls ≠ "java/lang/invoke/VarHandle" ∧ (parseMethodDescriptor yX2_isWord.desc).map (fun d => d.parameters.length) = some 1 := by decide +kernel
theorem cdX2_readNumber : yX2_readNumber.cls ≠ "java/lang/invoke/MethodHandle" ∧ yX2_readNumber.cls ≠ "java/lang/invoke/VarHandle" ∧ (parseMethodDescriptor yX2_readNumber.desc).map (fun d => d.parameters.length) = some 0 := by decide +kernel
theorem cdJ0_charAt_5068e : yJ0_charAt_5068e.cls ≠ "java/lang/invoke/MethodHandle" ∧ yJ0_charAt_5068e.cls ≠ "java/lang/invoke/VarHandle" ∧ (parseMethodDescriptor yJ0_charAt_5068e.desc).map (fun d => d.parameters.length) = some 1 := by decide +kernel
theorem Gd_X2_isLetter : gdA wsX2_isLetter := gd_cons (by decide +kernel) (gd_all (ws := []) rfl)
theorem Gd_J2_length_9d52b : gdA wsJ2_length_9d52b := gd_cons (by decide +kernel) (gd_all (ws := []) rfl)
theorem Gd_J2_checkIndex_2214a : gdA wsJ2_checkIndex_2214a := gd_cons (by decide +kernel) (gd_app (gd_all (ws := wsJ2_checkIndex_2214a_o1) (by decide +kernel)) (gd_app Gd_J2_length_9d52b Gd_J0_checkIndex_df160))
theorem Gd_J2_getChar_3b067 : gdA wsJ2_getChar_3b067 := gd_cons (by decide +kernel) (gd_app (gd_all (ws := wsJ2_getChar_3b067_o1) (by decide +kernel)) Gd_J2_length_9d52b)
theorem Gd_J2_charAt_3b067 : gdA wsJ2_charAt_3b067 := gd_cons (by decide +kernel) (gd_app (gd_all (ws := wsJ2_charAt_3b067_o1) (by decide +kernel)) (gd_app Gd_J2_checkIndex_2214a Gd_J2_getChar_3b067))
theorem Gd_J0_charAt_5068e : gdA wsJ0_charAt_5068e := gd_cons (by decide +kernel) (gd_app (gd_all (ws := wsJ0_charAt_5068e_o1) (by decide +kernel)) (gd_app (gd_app Gd_J0_isLatin1_aae02 Gd_J1_charAt_3b067) Gd_J2_charAt_3b067))
theorem Gd_X2_isWord : gdA wsX2_isWord := gd_cons (by decide +kernel) (gd_app (gd_all (ws := wsX2_isWord_o1) (by decide +kernel)) (gd_app Gd_X20 Gd_J0_charAt_5068e))
theorem inX2_isWord_X2 : ∀ w ∈ u_ws RX2 TX2 15, w ∈ wsX2_isWord := fun _ h => (List.mem_cons_of_mem _ (List.mem_append_right _ (List.mem_append_left _ h)))
theorem Gd_X2_readName : gdA wsX2_readName := gd_cons (by decide +kernel) (gd_app (gd_all (ws := wsX2_readName_o1) (by decide +kernel)) (gd_app (gd_app Gd_X20 Gd_X2_isLetter) Gd_X2_isWord))
theorem inX2_readName_X2 : ∀ w ∈ u_ws RX2 TX2 15, w ∈ wsX2_readName := fun _ h => (List.mem_cons_of_mem _ (List.mem_append_right _ (List.mem_append_left _ (List.mem_append_left _ h))))
theorem Gd_X2_isFigure : gdA wsX2_isFigure := gd_cons (by decide +kernel) (gd_all (ws := []) rfl)
theorem Gd_X2_readNumber : gdA wsX2_readNumber := gd_cons (by decide +kernel) (gd_app (gd_all (ws := wsX2_readNumber_o1) (by decide +kernel)) (gd_app Gd_X20 Gd_X2_isFigure))
theorem inX2_readNumber_X2 : ∀ w ∈ u_ws RX2 TX2 15, w ∈ wsX2_readNumber := fun _ h => (List.mem_cons_of_mem _ (List.mem_append_right _ (List.mem_append_left _ h)))
theorem Gd_X2_next : gdA wsX2_next := gd_cons (by decide +kernel) (gd_app (gd_all (ws := wsX2_next_o1) (by decide +kernel)) (gd_app (gd_app (gd_app Gd_X20 Gd_X2_isLetter) Gd_X2_readName) (gd_app Gd_X2_isFigure Gd_X2_readNumber)))
theorem inX2_next_X2 : ∀ w ∈ u_ws RX2 TX2 15, w ∈ wsX2_next := fun _ h => (List.mem_cons_of_mem _ (List.mem_append_right _ (List.mem_append_left _ (List.mem_append_left _ (List.mem_append_left _ h)))))
theorem inX2_readAct_X2 : ∀ w ∈ u_ws RX2 TX2 15, w ∈ wsX2_readAct := fun _ h => (List.mem_cons_of_mem _ (List.mem_append_right _ (List.mem_append_left _ h)))
theorem inX2_readPart_X2 : ∀ w ∈ u_ws RX2 TX2 15, w ∈ wsX2_readPart := fun _ h => (List.mem_cons_of_mem _ (List.mem_append_right _ (List.mem_append_left _ h)))
theorem inX2_keepDraft_X2 : ∀ w ∈ u_ws RX2 TX2 15, w ∈ wsX2_keepDraft := fun _ h => (List.mem_cons_of_mem _ (List.mem_append_right _ h))
theorem dX2_keepDraft_all0 : decode cX2_keepDraft 0 = .ok (.aload_n 0, 1) ∧ decode cX2_keepDraft 1 = .ok (.getfield 25, 3) ∧ decode cX2_keepDraft 4 = .ok (.iconst 0, 1) ∧ decode cX2_keepDraft 5 = .ok (.aload_n 0, 1) ∧ decode cX2_keepDraft 6 = .ok (.getfield 15, 3) ∧ decode cX2_keepDraft 9 = .ok (.iconst 0, 1) ∧ decode cX2_keepDraft 10 = .ok (.aload_n 0, 1) ∧ decode cX2_keepDraft 11 = .ok (.getfield 41, 3) ∧ decode cX2_keepDraft 14 = .ok (.invokestatic 70, 3) ∧ decode cX2_keepDraft 17 = .ok (.aload_n 0, 1) ∧ decode cX2_keepDraft 18 = .ok (.getfield 28, 3) ∧ decode cX2_keepDraft 21 = .ok (.iconst 0, 1) := by decide +kernel
theorem dX2_keepDraft_0 : decode cX2_keepDraft 0 = .ok (.aload_n 0, 1) := dX2_keepDraft_all0.1
theorem dX2_keepDraft_1 : decode cX2_keepDraft 1 = .ok (.getfield 25, 3) := dX2_keepDraft_all0.2.1
theorem dX2_keepDraft_4 : decode cX2_keepDraft 4 = .ok (.iconst 0, 1) := dX2_keepDraft_all0.2.2.1
theorem dX2_keepDraft_5 : decode cX2_keepDraft 5 = .ok (.aload_n 0, 1) := dX2_keepDraft_all0.2.2.2.1
theorem dX2_keepDraft_6 : decode cX2_keepDraft 6 = .ok (.getfield 15, 3) := dX2_keepDraft_all0.2.2.2.2.1
theorem dX2_keepDraft_9 : decode cX2_keepDraft 9 = .ok (.iconst 0, 1) := dX2_keepDraft_all0.2.2.2.2.2.1
theorem dX2_keepDraft_10 : decode cX2_keepDraft 10 = .ok (.aload_n 0, 1) := dX2_keepDraft_all0.2.2.2.2.2.2.1
theorem dX2_keepDraft_11 : decode cX2_keepDraft 11 = .ok (.getfield 41, 3) := dX2_keepDraft_all0.2.2.2.2.2.2.2.1
theorem dX2_keepDraft_14 : decode cX2_keepDraft 14 = .ok (.invokestatic 70, 3) := dX2_keepDraft_all0.2.2.2.2.2.2.2.2.1
theorem dX2_keepDraft_17 : decode cX2_keepDraft 17 = .ok (.aload_n 0, 1) := dX2_keepDraft_all0.2.2.2.2.2.2.2.2.2.1
theorem dX2_keepDraft_18 : decode cX2_keepDraft 18 = .ok (.getfield 28, 3) := dX2_keepDraft_all0.2.2.2.2.2.2.2.2.2.2.1
theorem dX2_keepDraft_21 : decode cX2_keepDraft 21 = .ok (.iconst 0, 1) := dX2_keepDraft_all0.2.2.2.2.2.2.2.2.2.2.2
theorem dX2_keepDraft_all1 : decode cX2_keepDraft 22 = .ok (.aload_n 0, 1) ∧ decode cX2_keepDraft 23 = .ok (.getfield 19, 3) ∧ decode cX2_keepDraft 26 = .ok (.iconst 0, 1) ∧ decode cX2_keepDraft 27 = .ok (.aload_n 0, 1) ∧ decode cX2_keepDraft 28 = .ok (.getfield 41, 3) ∧ decode cX2_keepDraft 31 = .ok (.invokestatic 70, 3) ∧ decode cX2_keepDraft 34 = .ok (.aload_n 0, 1) ∧ decode cX2_keepDraft 35 = .ok (.getfield 31, 3) ∧ decode cX2_keepDraft 38 = .ok (.iconst 0, 1) ∧ decode cX2_keepDraft 39 = .ok (.aload_n 0, 1) ∧ decode cX2_keepDraft 40 = .ok (.getfield 22, 3) ∧ decode cX2_keepDraft 43 = .ok (.iconst 0, 1) := by decide +kernel
theorem dX2_keepDraft_22 : decode cX2_keepDraft 22 = .ok (.aload_n 0, 1) := dX2_keepDraft_all1.1
theorem dX2_keepDraft_23 : decode cX2_keepDraft 23 = .ok (.getfield 19, 3) := dX2_keepDraft_all1.2.1
theorem dX2_keepDraft_26 : decode cX2_keepDraft 26 = .ok (.iconst 0, 1) := dX2_keepDraft_all1.2.2.1
theorem dX2_keepDraft_27 : decode cX2_keepDraft 27 = .ok (.aload_n 0, 1) := dX2_keepDraft_all1.2.2.2.1
theorem dX2_keepDraft_28 : decode cX2_keepDraft 28 = .ok (.getfield 41, 3) := dX2_keepDraft_all1.2.2.2.2.1
theorem dX2_keepDraft_31 : decode cX2_keepDraft 31 = .ok (.invokestatic 70, 3) := dX2_keepDraft_all1.2.2.2.2.2.1
theorem dX2_keepDraft_34 : decode cX2_keepDraft 34 = .ok (.aload_n 0, 1) := dX2_keepDraft_all1.2.2.2.2.2.2.1
theorem dX2_keepDraft_35 : decode cX2_keepDraft 35 = .ok (.getfield 31, 3) := dX2_keepDraft_all1.2.2.2.2.2.2.2.1
theorem dX2_keepDraft_38 : decode cX2_keepDraft 38 = .ok (.iconst 0, 1) := dX2_keepDraft_all1.2.2.2.2.2.2.2.2.1
theorem dX2_keepDraft_39 : decode cX2_keepDraft 39 = .ok (.aload_n 0, 1) := dX2_keepDraft_all1.2.2.2.2.2.2.2.2.2.1
theorem dX2_keepDraft_40 : decode cX2_keepDraft 40 = .ok (.getfield 22, 3) := dX2_keepDraft_all1.2.2.2.2.2.2.2.2.2.2.1
theorem dX2_keepDraft_43 : decode cX2_keepDraft 43 = .ok (.iconst 0, 1) := dX2_keepDraft_all1.2.2.2.2.2.2.2.2.2.2.2
theorem dX2_keepDraft_all2 : decode cX2_keepDraft 44 = .ok (.aload_n 0, 1) ∧ decode cX2_keepDraft 45 = .ok (.getfield 41, 3) ∧ decode cX2_keepDraft 48 = .ok (.invokestatic 70, 3) ∧ decode cX2_keepDraft 51 = .ok (.aload_n 0, 1) ∧ decode cX2_keepDraft 52 = .ok (.aload_n 0, 1) ∧ decode cX2_keepDraft 53 = .ok (.getfield 41, 3) ∧ decode cX2_keepDraft 56 = .ok (.putfield 67, 3) ∧ decode cX2_keepDraft 59 = .ok (.return_, 1) := by decide +kernel
theorem dX2_keepDraft_44 : decode cX2_keepDraft 44 = .ok (.aload_n 0, 1) := dX2_keepDraft_all2.1
theorem dX2_keepDraft_45 : decode cX2_keepDraft 45 = .ok (.getfield 41, 3) := dX2_keepDraft_all2.2.1
theorem dX2_keepDraft_48 : decode cX2_keepDraft 48 = .ok (.invokestatic 70, 3) := dX2_keepDraft_all2.2.2.1
theorem dX2_keepDraft_51 : decode cX2_keepDraft 51 = .ok (.aload_n 0, 1) := dX2_keepDraft_all2.2.2.2.1
theorem dX2_keepDraft_52 : decode cX2_keepDraft 52 = .ok (.aload_n 0, 1) := dX2_keepDraft_all2.2.2.2.2.1
theorem dX2_keepDraft_53 : decode cX2_keepDraft 53 = .ok (.getfield 41, 3) := dX2_keepDraft_all2.2.2.2.2.2.1
theorem dX2_keepDraft_56 : decode cX2_keepDraft 56 = .ok (.putfield 67, 3) := dX2_keepDraft_all2.2.2.2.2.2.2.1
theorem dX2_keepDraft_59 : decode cX2_keepDraft 59 = .ok (.return_, 1) := dX2_keepDraft_all2.2.2.2.2.2.2.2
theorem ggX2_readAct_X2_next : GoodIn wsX2_readAct wsX2_next := goodIn_s (fun _ h => wm_t (wm_r (wm_r h))) Gd_X2_next
theorem gX2_readAct_X2_next : GoodIn wsX2_readAct (wsV RX2 44 RX2 yX2_next wsX2_next) := goodIn_V (own := RX2) (idx := 44) (C := RX2) (y := yX2_next) (wm_t (wm_l (wm_i 5 rfl))) (wm_t (wm_l (wm_i 6 rfl))) (wm_t (wm_l (wm_i 7 rfl))) (wm_t (wm_l (wm_i 8 rfl))) ggX2_readAct_X2_next
theorem dX2_readAct_all0 : decode cX2_readAct 0 = .ok (.aload_n 0, 1) ∧ decode cX2_readAct 1 = .ok (.getfield 47, 3) ∧ decode cX2_readAct 4 = .ok (.iconst 4, 1) ∧ decode cX2_readAct 5 = .ok (.if_icmp .lt 5, 3) ∧ decode cX2_readAct 8 = .ok (.iconst 1, 1) ∧ decode cX2_readAct 9 = .ok (.ireturn, 1) ∧ decode cX2_readAct 10 = .ok (.aload_n 0, 1) ∧ decode cX2_readAct 11 = .ok (.getfield 41, 3) ∧ decode cX2_readAct 14 = .ok (.bipush 12, 2) ∧ decode cX2_readAct 16 = .ok (.if_icmp .lt 5, 3) ∧ decode cX2_readAct 19 = .ok (.iconst 3, 1) ∧ decode cX2_readAct 20 = .ok (.ireturn, 1) := by decide +kernel
theorem dX2_readAct_0 : decode cX2_readAct 0 = .ok (.aload_n 0, 1) := dX2_readAct_all0.1
theorem dX2_readAct_1 : decode cX2_readAct 1 = .ok (.getfield 47, 3) := dX2_readAct_all0.2.1
theorem dX2_readAct_4 : decode cX2_readAct 4 = .ok (.iconst 4, 1) := dX2_readAct_all0.2.2.1
theorem dX2_readAct_5 : decode cX2_readAct 5 = .ok (.if_icmp .lt 5, 3) := dX2_readAct_all0.2.2.2.1
theorem dX2_readAct_8 : decode cX2_readAct 8 = .ok (.iconst 1, 1) := dX2_readAct_all0.2.2.2.2.1
theorem dX2_readAct_9 : decode cX2_readAct 9 = .ok (.ireturn, 1) := dX2_readAct_all0.2.2.2.2.2.1
theorem dX2_readAct_10 : decode cX2_readAct 10 = .ok (.aload_n 0, 1) := dX2_readAct_all0.2.2.2.2.2.2.1
theorem dX2_readAct_11 : decode cX2_readAct 11 = .ok (.getfield 41, 3) := dX2_readAct_all0.2.2.2.2.2.2.2.1
theorem dX2_readAct_14 : decode cX2_readAct 14 = .ok (.bipush 12, 2) := dX2_readAct_all0.2.2.2.2.2.2.2.2.1
theorem dX2_readAct_16 : decode cX2_readAct 16 = .ok (.if_icmp .lt 5, 3) := dX2_readAct_all0.2.2.2.2.2.2.2.2.2.1
theorem dX2_readAct_19 : decode cX2_readAct 19 = .ok (.iconst 3, 1) := dX2_readAct_all0.2.2.2.2.2.2.2.2.2.2.1
theorem dX2_readAct_20 : decode cX2_readAct 20 = .ok (.ireturn, 1) := dX2_readAct_all0.2.2.2.2.2.2.2.2.2.2.2
theorem dX2_readAct_all1 : decode cX2_readAct 21 = .ok (.aload_n 0, 1) ∧ decode cX2_readAct 22 = .ok (.getfield 25, 3) ∧ decode cX2_readAct 25 = .ok (.aload_n 0, 1) ∧ decode cX2_readAct 26 = .ok (.getfield 41, 3) ∧ decode cX2_readAct 29 = .ok (.aload_n 0, 1) ∧ decode cX2_readAct 30 = .ok (.getfield 47, 3) ∧ decode cX2_readAct 33 = .ok (.iastore, 1) ∧ decode cX2_readAct 34 = .ok (.aload_n 0, 1) ∧ decode cX2_readAct 35 = .ok (.getfield 28, 3) ∧ decode cX2_readAct 38 = .ok (.aload_n 0, 1) ∧ decode cX2_readAct 39 = .ok (.getfield 41, 3) ∧ decode cX2_readAct 42 = .ok (.iconst (-1), 1) := by decide +kernel
theorem dX2_readAct_21 : decode cX2_readAct 21 = .ok (.aload_n 0, 1) := dX2_readAct_all1.1
theorem dX2_readAct_22 : decode cX2_readAct 22 = .ok (.getfield 25, 3) := dX2_readAct_all1.2.1
theorem dX2_readAct_25 : decode cX2_readAct 25 = .ok (.aload_n 0, 1) := dX2_readAct_all1.2.2.1
theorem dX2_readAct_26 : decode cX2_readAct 26 = .ok (.getfield 41, 3) := dX2_readAct_all1.2.2.2.1
theorem dX2_readAct_29 : decode cX2_readAct 29 = .ok (.aload_n 0, 1) := dX2_readAct_all1.2.2.2.2.1
theorem dX2_readAct_30 : decode cX2_readAct 30 = .ok (.getfield 47, 3) := dX2_readAct_all1.2.2.2.2.2.1
theorem dX2_readAct_33 : decode cX2_readAct 33 = .ok (.iastore, 1) := dX2_readAct_all1.2.2.2.2.2.2.1
theorem dX2_readAct_34 : decode cX2_readAct 34 = .ok (.aload_n 0, 1) := dX2_readAct_all1.2.2.2.2.2.2.2.1
theorem dX2_readAct_35 : decode cX2_readAct 35 = .ok (.getfield 28, 3) := dX2_readAct_all1.2.2.2.2.2.2.2.2.1
theorem dX2_readAct_38 : decode cX2_readAct 38 = .ok (.aload_n 0, 1) := dX2_readAct_all1.2.2.2.2.2.2.2.2.2.1
theorem dX2_readAct_39 : decode cX2_readAct 39 = .ok (.getfield 41, 3) := dX2_readAct_all1.2.2.2.2.2.2.2.2.2.2.1
theorem dX2_readAct_42 : decode cX2_readAct 42 = .ok (.iconst (-1), 1) := dX2_readAct_all1.2.2.2.2.2.2.2.2.2.2.2
theorem dX2_readAct_all2 : decode cX2_readAct 43 = .ok (.iastore, 1) ∧ decode cX2_readAct 44 = .ok (.aload_n 0, 1) ∧ decode cX2_readAct 45 = .ok (.invokevirtual 44, 3) ∧ decode cX2_readAct 48 = .ok (.aload_n 0, 1) ∧ decode cX2_readAct 49 = .ok (.getfield 47, 3) ∧ decode cX2_readAct 52 = .ok (.bipush 7, 2) ∧ decode cX2_readAct 54 = .ok (.if_icmp .ne 34, 3) ∧ decode cX2_readAct 57 = .ok (.aload_n 0, 1) ∧ decode cX2_readAct 58 = .ok (.invokevirtual 44, 3) ∧ decode cX2_readAct 61 = .ok (.aload_n 0, 1) ∧ decode cX2_readAct 62 = .ok (.getfield 47, 3) ∧ decode cX2_readAct 65 = .ok (.iconst 5, 1) := by decide +kernel
theorem dX2_readAct_43 : decode cX2_readAct 43 = .ok (.iastore, 1) := dX2_readAct_all2.1
theorem dX2_readAct_44 : decode cX2_readAct 44 = .ok (.aload_n 0, 1) := dX2_readAct_all2.2.1
theorem dX2_readAct_45 : decode cX2_readAct 45 = .ok (.invokevirtual 44, 3) := dX2_readAct_all2.2.2.1
theorem dX2_readAct_48 : decode cX2_readAct 48 = .ok (.aload_n 0, 1) := dX2_readAct_all2.2.2.2.1
theorem dX2_readAct_49 : decode cX2_readAct 49 = .ok (.getfield 47, 3) := dX2_readAct_all2.2.2.2.2.1
theorem dX2_readAct_52 : decode cX2_readAct 52 = .ok (.bipush 7, 2) := dX2_readAct_all2.2.2.2.2.2.1
theorem dX2_readAct_54 : decode cX2_readAct 54 = .ok (.if_icmp .ne 34, 3) := dX2_readAct_all2.2.2.2.2.2.2.1
theorem dX2_readAct_57 : decode cX2_readAct 57 = .ok (.aload_n 0, 1) := dX2_readAct_all2.2.2.2.2.2.2.2.1
theorem dX2_readAct_58 : decode cX2_readAct 58 = .ok (.invokevirtual 44, 3) := dX2_readAct_all2.2.2.2.2.2.2.2.2.1
theorem dX2_readAct_61 : decode cX2_readAct 61 = .ok (.aload_n 0, 1) := dX2_readAct_all2.2.2.2.2.2.2.2.2.2.1
theorem dX2_readAct_62 : decode cX2_readAct 62 = .ok (.getfield 47, 3) := dX2_readAct_all2.2.2.2.2.2.2.2.2.2.2.1
theorem dX2_readAct_65 : decode cX2_readAct 65 = .ok (.iconst 5, 1) := dX2_readAct_all2.2.2.2.2.2.2.2.2.2.2.2
theorem dX2_readAct_all3 : decode cX2_readAct 66 = .ok (.if_icmp .eq 5, 3) ∧ decode cX2_readAct 69 = .ok (.iconst 1, 1) ∧ decode cX2_readAct 70 = .ok (.ireturn, 1) ∧ decode cX2_readAct 71 = .ok (.aload_n 0, 1) ∧ decode cX2_readAct 72 = .ok (.getfield 28, 3) ∧ decode cX2_readAct 75 = .ok (.aload_n 0, 1) ∧ decode cX2_readAct 76 = .ok (.getfield 41, 3) ∧ decode cX2_readAct 79 = .ok (.aload_n 0, 1) ∧ decode cX2_readAct 80 = .ok (.getfield 76, 3) ∧ decode cX2_readAct 83 = .ok (.iastore, 1) ∧ decode cX2_readAct 84 = .ok (.aload_n 0, 1) ∧ decode cX2_readAct 85 = .ok (.invokevirtual 44, 3) := by decide +kernel
theorem dX2_readAct_66 : decode cX2_readAct 66 = .ok (.if_icmp .eq 5, 3) := dX2_readAct_all3.1
theorem dX2_readAct_69 : decode cX2_readAct 69 = .ok (.iconst 1, 1) := dX2_readAct_all3.2.1
theorem dX2_readAct_70 : decode cX2_readAct 70 = .ok (.ireturn, 1) := dX2_readAct_all3.2.2.1
theorem dX2_readAct_71 : decode cX2_readAct 71 = .ok (.aload_n 0, 1) := dX2_readAct_all3.2.2.2.1
theorem dX2_readAct_72 : decode cX2_readAct 72 = .ok (.getfield 28, 3) := dX2_readAct_all3.2.2.2.2.1
theorem dX2_readAct_75 : decode cX2_readAct 75 = .ok (.aload_n 0, 1) := dX2_readAct_all3.2.2.2.2.2.1
theorem dX2_readAct_76 : decode cX2_readAct 76 = .ok (.getfield 41, 3) := dX2_readAct_all3.2.2.2.2.2.2.1
theorem dX2_readAct_79 : decode cX2_readAct 79 = .ok (.aload_n 0, 1) := dX2_readAct_all3.2.2.2.2.2.2.2.1
theorem dX2_readAct_80 : decode cX2_readAct 80 = .ok (.getfield 76, 3) := dX2_readAct_all3.2.2.2.2.2.2.2.2.1
theorem dX2_readAct_83 : decode cX2_readAct 83 = .ok (.iastore, 1) := dX2_readAct_all3.2.2.2.2.2.2.2.2.2.1
theorem dX2_readAct_84 : decode cX2_readAct 84 = .ok (.aload_n 0, 1) := dX2_readAct_all3.2.2.2.2.2.2.2.2.2.2.1
theorem dX2_readAct_85 : decode cX2_readAct 85 = .ok (.invokevirtual 44, 3) := dX2_readAct_all3.2.2.2.2.2.2.2.2.2.2.2
theorem dX2_readAct_all4 : decode cX2_readAct 88 = .ok (.iconst 0, 1) ∧ decode cX2_readAct 89 = .ok (.ireturn, 1) := by decide +kernel
theorem dX2_readAct_88 : decode cX2_readAct 88 = .ok (.iconst 0, 1) := dX2_readAct_all4.1
theorem dX2_readAct_89 : decode cX2_readAct 89 = .ok (.ireturn, 1) := dX2_readAct_all4.2
theorem ggX2_readPart_X2_next : GoodIn wsX2_readPart wsX2_next := goodIn_s (fun _ h => wm_t (wm_r (wm_r h))) Gd_X2_next
theorem gX2_readPart_X2_next : GoodIn wsX2_readPart (wsV RX2 44 RX2 yX2_next wsX2_next) := goodIn_V (own := RX2) (idx := 44) (C := RX2) (y := yX2_next) (wm_t (wm_l (wm_i 4 rfl))) (wm_t (wm_l (wm_i 5 rfl))) (wm_t (wm_l (wm_i 6 rfl))) (wm_t (wm_l (wm_i 7 rfl))) ggX2_readPart_X2_next
theorem dX2_readPart_all0 : decode cX2_readPart 0 = .ok (.aload_n 0, 1) ∧ decode cX2_readPart 1 = .ok (.getfield 47, 3) ∧ decode cX2_readPart 4 = .ok (.iconst 4, 1) ∧ decode cX2_readPart 5 = .ok (.if_icmp .eq 5, 3) ∧ decode cX2_readPart 8 = .ok (.iconst 1, 1) ∧ decode cX2_readPart 9 = .ok (.ireturn, 1) ∧ decode cX2_readPart 10 = .ok (.aload_n 0, 1) ∧ decode cX2_readPart 11 = .ok (.invokevirtual 44, 3) ∧ decode cX2_readPart 14 = .ok (.aload_n 0, 1) ∧ decode cX2_readPart 15 = .ok (.getfield 47, 3) ∧ decode cX2_readPart 18 = .ok (.iconst 5, 1) ∧ decode cX2_readPart 19 = .ok (.if_icmp .eq 5, 3) := by decide +kernel
theorem dX2_readPart_0 : decode cX2_readPart 0 = .ok (.aload_n 0, 1) := dX2_readPart_all0.1
theorem dX2_readPart_1 : decode cX2_readPart 1 = .ok (.getfield 47, 3) := dX2_readPart_all0.2.1
theorem dX2_readPart_4 : decode cX2_readPart 4 = .ok (.iconst 4, 1) := dX2_readPart_all0.2.2.1
theorem dX2_readPart_5 : decode cX2_readPart 5 = .ok (.if_icmp .eq 5, 3) := dX2_readPart_all0.2.2.2.1
theorem dX2_readPart_8 : decode cX2_readPart 8 = .ok (.iconst 1, 1) := dX2_readPart_all0.2.2.2.2.1
theorem dX2_readPart_9 : decode cX2_readPart 9 = .ok (.ireturn, 1) := dX2_readPart_all0.2.2.2.2.2.1
theorem dX2_readPart_10 : decode cX2_readPart 10 = .ok (.aload_n 0, 1) := dX2_readPart_all0.2.2.2.2.2.2.1
theorem dX2_readPart_11 : decode cX2_readPart 11 = .ok (.invokevirtual 44, 3) := dX2_readPart_all0.2.2.2.2.2.2.2.1
theorem dX2_readPart_14 : decode cX2_readPart 14 = .ok (.aload_n 0, 1) := dX2_readPart_all0.2.2.2.2.2.2.2.2.1
theorem dX2_readPart_15 : decode cX2_readPart 15 = .ok (.getfield 47, 3) := dX2_readPart_all0.2.2.2.2.2.2.2.2.2.1
theorem dX2_readPart_18 : decode cX2_readPart 18 = .ok (.iconst 5, 1) := dX2_readPart_all0.2.2.2.2.2.2.2.2.2.2.1
theorem dX2_readPart_19 : decode cX2_readPart 19 = .ok (.if_icmp .eq 5, 3) := dX2_readPart_all0.2.2.2.2.2.2.2.2.2.2.2
theorem dX2_readPart_all1 : decode cX2_readPart 22 = .ok (.iconst 1, 1) ∧ decode cX2_readPart 23 = .ok (.ireturn, 1) ∧ decode cX2_readPart 24 = .ok (.aload_n 0, 1) ∧ decode cX2_readPart 25 = .ok (.getfield 76, 3) ∧ decode cX2_readPart 28 = .ok (.bipush 100, 2) ∧ decode cX2_readPart 30 = .ok (.if_icmp .le 5, 3) ∧ decode cX2_readPart 33 = .ok (.iconst 2, 1) ∧ decode cX2_readPart 34 = .ok (.ireturn, 1) ∧ decode cX2_readPart 35 = .ok (.aload_n 0, 1) ∧ decode cX2_readPart 36 = .ok (.getfield 31, 3) ∧ decode cX2_readPart 39 = .ok (.aload_n 0, 1) ∧ decode cX2_readPart 40 = .ok (.getfield 41, 3) := by decide +kernel
theorem dX2_readPart_22 : decode cX2_readPart 22 = .ok (.iconst 1, 1) := dX2_readPart_all1.1
theorem dX2_readPart_23 : decode cX2_readPart 23 = .ok (.ireturn, 1) := dX2_readPart_all1.2.1
theorem dX2_readPart_24 : decode cX2_readPart 24 = .ok (.aload_n 0, 1) := dX2_readPart_all1.2.2.1
theorem dX2_readPart_25 : decode cX2_readPart 25 = .ok (.getfield 76, 3) := dX2_readPart_all1.2.2.2.1
theorem dX2_readPart_28 : decode cX2_readPart 28 = .ok (.bipush 100, 2) := dX2_readPart_all1.2.2.2.2.1
theorem dX2_readPart_30 : decode cX2_readPart 30 = .ok (.if_icmp .le 5, 3) := dX2_readPart_all1.2.2.2.2.2.1
theorem dX2_readPart_33 : decode cX2_readPart 33 = .ok (.iconst 2, 1) := dX2_readPart_all1.2.2.2.2.2.2.1
theorem dX2_readPart_34 : decode cX2_readPart 34 = .ok (.ireturn, 1) := dX2_readPart_all1.2.2.2.2.2.2.2.1
theorem dX2_readPart_35 : decode cX2_readPart 35 = .ok (.aload_n 0, 1) := dX2_readPart_all1.2.2.2.2.2.2.2.2.1
theorem dX2_readPart_36 : decode cX2_readPart 36 = .ok (.getfield 31, 3) := dX2_readPart_all1.2.2.2.2.2.2.2.2.2.1
theorem dX2_readPart_39 : decode cX2_readPart 39 = .ok (.aload_n 0, 1) := dX2_readPart_all1.2.2.2.2.2.2.2.2.2.2.1
theorem dX2_readPart_40 : decode cX2_readPart 40 = .ok (.getfield 41, 3) := dX2_readPart_all1.2.2.2.2.2.2.2.2.2.2.2
theorem dX2_readPart_all2 : decode cX2_readPart 43 = .ok (.aload_n 0, 1) ∧ decode cX2_readPart 44 = .ok (.getfield 76, 3) ∧ decode cX2_readPart 47 = .ok (.iastore, 1) ∧ decode cX2_readPart 48 = .ok (.aload_n 0, 1) ∧ decode cX2_readPart 49 = .ok (.invokevirtual 44, 3) ∧ decode cX2_readPart 52 = .ok (.aload_n 0, 1) ∧ decode cX2_readPart 53 = .ok (.getfield 47, 3) ∧ decode cX2_readPart 56 = .ok (.bipush 6, 2) ∧ decode cX2_readPart 58 = .ok (.if_icmp .eq 5, 3) ∧ decode cX2_readPart 61 = .ok (.iconst 1, 1) ∧ decode cX2_readPart 62 = .ok (.ireturn, 1) ∧ decode cX2_readPart 63 = .ok (.aload_n 0, 1) := by decide +kernel
theorem dX2_readPart_43 : decode cX2_readPart 43 = .ok (.aload_n 0, 1) := dX2_readPart_all2.1
theorem dX2_readPart_44 : decode cX2_readPart 44 = .ok (.getfield 76, 3) := dX2_readPart_all2.2.1
theorem dX2_readPart_47 : decode cX2_readPart 47 = .ok (.iastore, 1) := dX2_readPart_all2.2.2.1
theorem dX2_readPart_48 : decode cX2_readPart 48 = .ok (.aload_n 0, 1) := dX2_readPart_all2.2.2.2.1
theorem dX2_readPart_49 : decode cX2_readPart 49 = .ok (.invokevirtual 44, 3) := dX2_readPart_all2.2.2.2.2.1
theorem dX2_readPart_52 : decode cX2_readPart 52 = .ok (.aload_n 0, 1) := dX2_readPart_all2.2.2.2.2.2.1
theorem dX2_readPart_53 : decode cX2_readPart 53 = .ok (.getfield 47, 3) := dX2_readPart_all2.2.2.2.2.2.2.1
theorem dX2_readPart_56 : decode cX2_readPart 56 = .ok (.bipush 6, 2) := dX2_readPart_all2.2.2.2.2.2.2.2.1
theorem dX2_readPart_58 : decode cX2_readPart 58 = .ok (.if_icmp .eq 5, 3) := dX2_readPart_all2.2.2.2.2.2.2.2.2.1
theorem dX2_readPart_61 : decode cX2_readPart 61 = .ok (.iconst 1, 1) := dX2_readPart_all2.2.2.2.2.2.2.2.2.2.1
theorem dX2_readPart_62 : decode cX2_readPart 62 = .ok (.ireturn, 1) := dX2_readPart_all2.2.2.2.2.2.2.2.2.2.2.1
theorem dX2_readPart_63 : decode cX2_readPart 63 = .ok (.aload_n 0, 1) := dX2_readPart_all2.2.2.2.2.2.2.2.2.2.2.2
theorem dX2_readPart_all3 : decode cX2_readPart 64 = .ok (.dup, 1) ∧ decode cX2_readPart 65 = .ok (.getfield 41, 3) ∧ decode cX2_readPart 68 = .ok (.iconst 1, 1) ∧ decode cX2_readPart 69 = .ok (.iadd, 1) ∧ decode cX2_readPart 70 = .ok (.putfield 41, 3) ∧ decode cX2_readPart 73 = .ok (.aload_n 0, 1) ∧ decode cX2_readPart 74 = .ok (.invokevirtual 44, 3) ∧ decode cX2_readPart 77 = .ok (.iconst 0, 1) ∧ decode cX2_readPart 78 = .ok (.ireturn, 1) := by decide +kernel
theorem dX2_readPart_64 : decode cX2_readPart 64 = .ok (.dup, 1) := dX2_readPart_all3.1
theorem dX2_readPart_65 : decode cX2_readPart 65 = .ok (.getfield 41, 3) := dX2_readPart_all3.2.1
theorem dX2_readPart_68 : decode cX2_readPart 68 = .ok (.iconst 1, 1) := dX2_readPart_all3.2.2.1
theorem dX2_readPart_69 : decode cX2_readPart 69 = .ok (.iadd, 1) := dX2_readPart_all3.2.2.2.1
theorem dX2_readPart_70 : decode cX2_readPart 70 = .ok (.putfield 41, 3) := dX2_readPart_all3.2.2.2.2.1
theorem dX2_readPart_73 : decode cX2_readPart 73 = .ok (.aload_n 0, 1) := dX2_readPart_all3.2.2.2.2.2.1
theorem dX2_readPart_74 : decode cX2_readPart 74 = .ok (.invokevirtual 44, 3) := dX2_readPart_all3.2.2.2.2.2.2.1
theorem dX2_readPart_77 : decode cX2_readPart 77 = .ok (.iconst 0, 1) := dX2_readPart_all3.2.2.2.2.2.2.2.1
theorem dX2_readPart_78 : decode cX2_readPart 78 = .ok (.ireturn, 1) := dX2_readPart_all3.2.2.2.2.2.2.2.2
theorem ggX2_next_X2_isLetter : GoodIn wsX2_next wsX2_isLetter := goodIn_s (fun _ h => wm_t (wm_r (wm_l (wm_l (wm_r h))))) Gd_X2_isLetter
theorem gX2_next_X2_isLetter : GoodIn wsX2_next (va_wsS RX2 79 yX2_isLetter wsX2_isLetter) := goodIn_S (own := RX2) (idx := 79) (y := yX2_isLetter) (wm_t (wm_l (wm_i 5 rfl))) (wm_t (wm_l (wm_i 6 rfl))) (wm_t (wm_l (wm_i 7 rfl))) ggX2_next_X2_isLetter
theorem ggX2_next_X2_readName : GoodIn wsX2_next wsX2_readName := goodIn_s (fun _ h => wm_t (wm_r (wm_l (wm_r h)))) Gd_X2_readName
theorem gX2_next_X2_readName : GoodIn wsX2_next (wsV RX2 83 RX2 yX2_readName wsX2_readName) := goodIn_V (own := RX2) (idx := 83) (C := RX2) (y := yX2_readName) (wm_t (wm_l (wm_i 8 rfl))) (wm_t (wm_l (wm_i 9 rfl))) (wm_t (wm_l (wm_i 10 rfl))) (wm_t (wm_l (wm_i 7 rfl))) ggX2_next_X2_readName
theorem ggX2_next_X2_isFigure : GoodIn wsX2_next wsX2_isFigure := goodIn_s (fun _ h => wm_t (wm_r (wm_r (wm_l h)))) Gd_X2_isFigure
theorem gX2_next_X2_isFigure : GoodIn wsX2_next (va_wsS RX2 86 yX2_isFigure wsX2_isFigure) := goodIn_S (own := RX2) (idx := 86) (y := yX2_isFigure) (wm_t (wm_l (wm_i 11 rfl))) (wm_t (wm_l (wm_i 12 rfl))) (wm_t (wm_l (wm_i 7 rfl))) ggX2_next_X2_isFigure
theorem ggX2_next_X2_readNumber : GoodIn wsX2_next wsX2_readNumber := goodIn_s (fun _ h => wm_t (wm_r (wm_r (wm_r h)))) Gd_X2_readNumber
theorem gX2_next_X2_readNumber : GoodIn wsX2_next (wsV RX2 89 RX2 yX2_readNumber wsX2_readNumber) := goodIn_V (own := RX2) (idx := 89) (C := RX2) (y := yX2_readNumber) (wm_t (wm_l (wm_i 13 rfl))) (wm_t (wm_l (wm_i 14 rfl))) (wm_t (wm_l (wm_i 15 rfl))) (wm_t (wm_l (wm_i 7 rfl))) ggX2_next_X2_readNumber
theorem dX2_next_all0 : decode cX2_next 0 = .ok (.aload_n 0, 1) ∧ decode cX2_next 1 = .ok (.aload_n 0, 1) ∧ decode cX2_next 2 = .ok (.getfield 38, 3) ∧ decode cX2_next 5 = .ok (.putfield 61, 3) ∧ decode cX2_next 8 = .ok (.aload_n 0, 1) ∧ decode cX2_next 9 = .ok (.getfield 61, 3) ∧ decode cX2_next 12 = .ok (.aload_n 0, 1) ∧ decode cX2_next 13 = .ok (.getfield 34, 3) ∧ decode cX2_next 16 = .ok (.if_icmp .ge 44, 3) ∧ decode cX2_next 19 = .ok (.aload_n 0, 1) ∧ decode cX2_next 20 = .ok (.getfield 11, 3) ∧ decode cX2_next 23 = .ok (.aload_n 0, 1) := by decide +kernel
theorem dX2_next_0 : decode cX2_next 0 = .ok (.aload_n 0, 1) := dX2_next_all0.1
theorem dX2_next_1 : decode cX2_next 1 = .ok (.aload_n 0, 1) := dX2_next_all0.2.1
theorem dX2_next_2 : decode cX2_next 2 = .ok (.getfield 38, 3) := dX2_next_all0.2.2.1
theorem dX2_next_5 : decode cX2_next 5 = .ok (.putfield 61, 3) := dX2_next_all0.2.2.2.1
theorem dX2_next_8 : decode cX2_next 8 = .ok (.aload_n 0, 1) := dX2_next_all0.2.2.2.2.1
theorem dX2_next_9 : decode cX2_next 9 = .ok (.getfield 61, 3) := dX2_next_all0.2.2.2.2.2.1
theorem dX2_next_12 : decode cX2_next 12 = .ok (.aload_n 0, 1) := dX2_next_all0.2.2.2.2.2.2.1
theorem dX2_next_13 : decode cX2_next 13 = .ok (.getfield 34, 3) := dX2_next_all0.2.2.2.2.2.2.2.1
theorem dX2_next_16 : decode cX2_next 16 = .ok (.if_icmp .ge 44, 3) := dX2_next_all0.2.2.2.2.2.2.2.2.1
theorem dX2_next_19 : decode cX2_next 19 = .ok (.aload_n 0, 1) := dX2_next_all0.2.2.2.2.2.2.2.2.2.1
theorem dX2_next_20 : decode cX2_next 20 = .ok (.getfield 11, 3) := dX2_next_all0.2.2.2.2.2.2.2.2.2.2.1
theorem dX2_next_23 : decode cX2_next 23 = .ok (.aload_n 0, 1) := dX2_next_all0.2.2.2.2.2.2.2.2.2.2.2
theorem dX2_next_all1 : decode cX2_next 24 = .ok (.getfield 61, 3) ∧ decode cX2_next 27 = .ok (.baload, 1) ∧ decode cX2_next 28 = .ok (.bipush 32, 2) ∧ decode cX2_next 30 = .ok (.if_icmp .eq 17, 3) ∧ decode cX2_next 33 = .ok (.aload_n 0, 1) ∧ decode cX2_next 34 = .ok (.getfield 11, 3) ∧ decode cX2_next 37 = .ok (.aload_n 0, 1) ∧ decode cX2_next 38 = .ok (.getfield 61, 3) ∧ decode cX2_next 41 = .ok (.baload, 1) ∧ decode cX2_next 42 = .ok (.bipush 10, 2) ∧ decode cX2_next 44 = .ok (.if_icmp .ne 16, 3) ∧ decode cX2_next 47 = .ok (.aload_n 0, 1) := by decide +kernel
theorem dX2_next_24 : decode cX2_next 24 = .ok (.getfield 61, 3) := dX2_next_all1.1
theorem dX2_next_27 : decode cX2_next 27 = .ok (.baload, 1) := dX2_next_all1.2.1
theorem dX2_next_28 : decode cX2_next 28 = .ok (.bipush 32, 2) := dX2_next_all1.2.2.1
theorem dX2_next_30 : decode cX2_next 30 = .ok (.if_icmp .eq 17, 3) := dX2_next_all1.2.2.2.1
theorem dX2_next_33 : decode cX2_next 33 = .ok (.aload_n 0, 1) := dX2_next_all1.2.2.2.2.1
theorem dX2_next_34 : decode cX2_next 34 = .ok (.getfield 11, 3) := dX2_next_all1.2.2.2.2.2.1
theorem dX2_next_37 : decode cX2_next 37 = .ok (.aload_n 0, 1) := dX2_next_all1.2.2.2.2.2.2.1
theorem dX2_next_38 : decode cX2_next 38 = .ok (.getfield 61, 3) := dX2_next_all1.2.2.2.2.2.2.2.1
theorem dX2_next_41 : decode cX2_next 41 = .ok (.baload, 1) := dX2_next_all1.2.2.2.2.2.2.2.2.1
theorem dX2_next_42 : decode cX2_next 42 = .ok (.bipush 10, 2) := dX2_next_all1.2.2.2.2.2.2.2.2.2.1
theorem dX2_next_44 : decode cX2_next 44 = .ok (.if_icmp .ne 16, 3) := dX2_next_all1.2.2.2.2.2.2.2.2.2.2.1
theorem dX2_next_47 : decode cX2_next 47 = .ok (.aload_n 0, 1) := dX2_next_all1.2.2.2.2.2.2.2.2.2.2.2
theorem dX2_next_all2 : decode cX2_next 48 = .ok (.dup, 1) ∧ decode cX2_next 49 = .ok (.getfield 61, 3) ∧ decode cX2_next 52 = .ok (.iconst 1, 1) ∧ decode cX2_next 53 = .ok (.iadd, 1) ∧ decode cX2_next 54 = .ok (.putfield 61, 3) ∧ decode cX2_next 57 = .ok (.goto (-49), 3) ∧ decode cX2_next 60 = .ok (.aload_n 0, 1) ∧ decode cX2_next 61 = .ok (.aload_n 0, 1) ∧ decode cX2_next 62 = .ok (.getfield 61, 3) ∧ decode cX2_next 65 = .ok (.putfield 38, 3) ∧ decode cX2_next 68 = .ok (.aload_n 0, 1) ∧ decode cX2_next 69 = .ok (.getfield 61, 3) := by decide +kernel
theorem dX2_next_48 : decode cX2_next 48 = .ok (.dup, 1) := dX2_next_all2.1
theorem dX2_next_49 : decode cX2_next 49 = .ok (.getfield 61, 3) := dX2_next_all2.2.1
theorem dX2_next_52 : decode cX2_next 52 = .ok (.iconst 1, 1) := dX2_next_all2.2.2.1
theorem dX2_next_53 : decode cX2_next 53 = .ok (.iadd, 1) := dX2_next_all2.2.2.2.1
theorem dX2_next_54 : decode cX2_next 54 = .ok (.putfield 61, 3) := dX2_next_all2.2.2.2.2.1
theorem dX2_next_57 : decode cX2_next 57 = .ok (.goto (-49), 3) := dX2_next_all2.2.2.2.2.2.1
theorem dX2_next_60 : decode cX2_next 60 = .ok (.aload_n 0, 1) := dX2_next_all2.2.2.2.2.2.2.1
theorem dX2_next_61 : decode cX2_next 61 = .ok (.aload_n 0, 1) := dX2_next_all2.2.2.2.2.2.2.2.1
theorem dX2_next_62 : decode cX2_next 62 = .ok (.getfield 61, 3) := dX2_next_all2.2.2.2.2.2.2.2.2.1
theorem dX2_next_65 : decode cX2_next 65 = .ok (.putfield 38, 3) := dX2_next_all2.2.2.2.2.2.2.2.2.2.1
theorem dX2_next_68 : decode cX2_next 68 = .ok (.aload_n 0, 1) := dX2_next_all2.2.2.2.2.2.2.2.2.2.2.1
theorem dX2_next_69 : decode cX2_next 69 = .ok (.getfield 61, 3) := dX2_next_all2.2.2.2.2.2.2.2.2.2.2.2
theorem dX2_next_all3 : decode cX2_next 72 = .ok (.aload_n 0, 1) ∧ decode cX2_next 73 = .ok (.getfield 34, 3) ∧ decode cX2_next 76 = .ok (.if_icmp .lt 12, 3) ∧ decode cX2_next 79 = .ok (.aload_n 0, 1) ∧ decode cX2_next 80 = .ok (.bipush 8, 2) ∧ decode cX2_next 82 = .ok (.putfield 47, 3) ∧ decode cX2_next 85 = .ok (.goto 101, 3) ∧ decode cX2_next 88 = .ok (.aload_n 0, 1) ∧ decode cX2_next 89 = .ok (.getfield 11, 3) ∧ decode cX2_next 92 = .ok (.aload_n 0, 1) ∧ decode cX2_next 93 = .ok (.getfield 61, 3) ∧ decode cX2_next 96 = .ok (.baload, 1) := by decide +kernel
theorem dX2_next_72 : decode cX2_next 72 = .ok (.aload_n 0, 1) := dX2_next_all3.1
theorem dX2_next_73 : decode cX2_next 73 = .ok (.getfield 34, 3) := dX2_next_all3.2.1
theorem dX2_next_76 : decode cX2_next 76 = .ok (.if_icmp .lt 12, 3) := dX2_next_all3.2.2.1
theorem dX2_next_79 : decode cX2_next 79 = .ok (.aload_n 0, 1) := dX2_next_all3.2.2.2.1
theorem dX2_next_80 : decode cX2_next 80 = .ok (.bipush 8, 2) := dX2_next_all3.2.2.2.2.1
theorem dX2_next_82 : decode cX2_next 82 = .ok (.putfield 47, 3) := dX2_next_all3.2.2.2.2.2.1
theorem dX2_next_85 : decode cX2_next 85 = .ok (.goto 101, 3) := dX2_next_all3.2.2.2.2.2.2.1
theorem dX2_next_88 : decode cX2_next 88 = .ok (.aload_n 0, 1) := dX2_next_all3.2.2.2.2.2.2.2.1
theorem dX2_next_89 : decode cX2_next 89 = .ok (.getfield 11, 3) := dX2_next_all3.2.2.2.2.2.2.2.2.1
theorem dX2_next_92 : decode cX2_next 92 = .ok (.aload_n 0, 1) := dX2_next_all3.2.2.2.2.2.2.2.2.2.1
theorem dX2_next_93 : decode cX2_next 93 = .ok (.getfield 61, 3) := dX2_next_all3.2.2.2.2.2.2.2.2.2.2.1
theorem dX2_next_96 : decode cX2_next 96 = .ok (.baload, 1) := dX2_next_all3.2.2.2.2.2.2.2.2.2.2.2
theorem dX2_next_all4 : decode cX2_next 97 = .ok (.invokestatic 79, 3) ∧ decode cX2_next 100 = .ok (.ifCond .eq 10, 3) ∧ decode cX2_next 103 = .ok (.aload_n 0, 1) ∧ decode cX2_next 104 = .ok (.invokevirtual 83, 3) ∧ decode cX2_next 107 = .ok (.goto 79, 3) ∧ decode cX2_next 110 = .ok (.aload_n 0, 1) ∧ decode cX2_next 111 = .ok (.getfield 11, 3) ∧ decode cX2_next 114 = .ok (.aload_n 0, 1) ∧ decode cX2_next 115 = .ok (.getfield 61, 3) ∧ decode cX2_next 118 = .ok (.baload, 1) ∧ decode cX2_next 119 = .ok (.invokestatic 86, 3) ∧ decode cX2_next 122 = .ok (.ifCond .eq 10, 3) := by decide +kernel
theorem dX2_next_97 : decode cX2_next 97 = .ok (.invokestatic 79, 3) := dX2_next_all4.1
theorem dX2_next_100 : decode cX2_next 100 = .ok (.ifCond .eq 10, 3) := dX2_next_all4.2.1
theorem dX2_next_103 : decode cX2_next 103 = .ok (.aload_n 0, 1) := dX2_next_all4.2.2.1
theorem dX2_next_104 : decode cX2_next 104 = .ok (.invokevirtual 83, 3) := dX2_next_all4.2.2.2.1
theorem dX2_next_107 : decode cX2_next 107 = .ok (.goto 79, 3) := dX2_next_all4.2.2.2.2.1
theorem dX2_next_110 : decode cX2_next 110 = .ok (.aload_n 0, 1) := dX2_next_all4.2.2.2.2.2.1
theorem dX2_next_111 : decode cX2_next 111 = .ok (.getfield 11, 3) := dX2_next_all4.2.2.2.2.2.2.1
theorem dX2_next_114 : decode cX2_next 114 = .ok (.aload_n 0, 1) := dX2_next_all4.2.2.2.2.2.2.2.1
theorem dX2_next_115 : decode cX2_next 115 = .ok (.getfield 61, 3) := dX2_next_all4.2.2.2.2.2.2.2.2.1
theorem dX2_next_118 : decode cX2_next 118 = .ok (.baload, 1) := dX2_next_all4.2.2.2.2.2.2.2.2.2.1
theorem dX2_next_119 : decode cX2_next 119 = .ok (.invokestatic 86, 3) := dX2_next_all4.2.2.2.2.2.2.2.2.2.2.1
theorem dX2_next_122 : decode cX2_next 122 = .ok (.ifCond .eq 10, 3) := dX2_next_all4.2.2.2.2.2.2.2.2.2.2.2
theorem dX2_next_all5 : decode cX2_next 125 = .ok (.aload_n 0, 1) ∧ decode cX2_next 126 = .ok (.invokevirtual 89, 3) ∧ decode cX2_next 129 = .ok (.goto 57, 3) ∧ decode cX2_next 132 = .ok (.aload_n 0, 1) ∧ decode cX2_next 133 = .ok (.aload_n 0, 1) ∧ decode cX2_next 134 = .ok (.getfield 11, 3) ∧ decode cX2_next 137 = .ok (.aload_n 0, 1) ∧ decode cX2_next 138 = .ok (.getfield 61, 3) ∧ decode cX2_next 141 = .ok (.baload, 1) ∧ decode cX2_next 142 = .ok (.bipush 59, 2) ∧ decode cX2_next 144 = .ok (.if_icmp .ne 8, 3) ∧ decode cX2_next 147 = .ok (.bipush 6, 2) := by decide +kernel
theorem dX2_next_125 : decode cX2_next 125 = .ok (.aload_n 0, 1) := dX2_next_all5.1
theorem dX2_next_126 : decode cX2_next 126 = .ok (.invokevirtual 89, 3) := dX2_next_all5.2.1
theorem dX2_next_129 : decode cX2_next 129 = .ok (.goto 57, 3) := dX2_next_all5.2.2.1
theorem dX2_next_132 : decode cX2_next 132 = .ok (.aload_n 0, 1) := dX2_next_all5.2.2.2.1
theorem dX2_next_133 : decode cX2_next 133 = .ok (.aload_n 0, 1) := dX2_next_all5.2.2.2.2.1
theorem dX2_next_134 : decode cX2_next 134 = .ok (.getfield 11, 3) := dX2_next_all5.2.2.2.2.2.1
theorem dX2_next_137 : decode cX2_next 137 = .ok (.aload_n 0, 1) := dX2_next_all5.2.2.2.2.2.2.1
theorem dX2_next_138 : decode cX2_next 138 = .ok (.getfield 61, 3) := dX2_next_all5.2.2.2.2.2.2.2.1
theorem dX2_next_141 : decode cX2_next 141 = .ok (.baload, 1) := dX2_next_all5.2.2.2.2.2.2.2.2.1
theorem dX2_next_142 : decode cX2_next 142 = .ok (.bipush 59, 2) := dX2_next_all5.2.2.2.2.2.2.2.2.2.1
theorem dX2_next_144 : decode cX2_next 144 = .ok (.if_icmp .ne 8, 3) := dX2_next_all5.2.2.2.2.2.2.2.2.2.2.1
theorem dX2_next_147 : decode cX2_next 147 = .ok (.bipush 6, 2) := dX2_next_all5.2.2.2.2.2.2.2.2.2.2.2
theorem dX2_next_all6 : decode cX2_next 149 = .ok (.goto 24, 3) ∧ decode cX2_next 152 = .ok (.aload_n 0, 1) ∧ decode cX2_next 153 = .ok (.getfield 11, 3) ∧ decode cX2_next 156 = .ok (.aload_n 0, 1) ∧ decode cX2_next 157 = .ok (.getfield 61, 3) ∧ decode cX2_next 160 = .ok (.baload, 1) ∧ decode cX2_next 161 = .ok (.bipush 62, 2) ∧ decode cX2_next 163 = .ok (.if_icmp .ne 8, 3) ∧ decode cX2_next 166 = .ok (.bipush 7, 2) ∧ decode cX2_next 168 = .ok (.goto 5, 3) ∧ decode cX2_next 171 = .ok (.bipush 9, 2) ∧ decode cX2_next 173 = .ok (.putfield 47, 3) := by decide +kernel
theorem dX2_next_149 : decode cX2_next 149 = .ok (.goto 24, 3) := dX2_next_all6.1
theorem dX2_next_152 : decode cX2_next 152 = .ok (.aload_n 0, 1) := dX2_next_all6.2.1
theorem dX2_next_153 : decode cX2_next 153 = .ok (.getfield 11, 3) := dX2_next_all6.2.2.1
theorem dX2_next_156 : decode cX2_next 156 = .ok (.aload_n 0, 1) := dX2_next_all6.2.2.2.1
theorem dX2_next_157 : decode cX2_next 157 = .ok (.getfield 61, 3) := dX2_next_all6.2.2.2.2.1
theorem dX2_next_160 : decode cX2_next 160 = .ok (.baload, 1) := dX2_next_all6.2.2.2.2.2.1
theorem dX2_next_161 : decode cX2_next 161 = .ok (.bipush 62, 2) := dX2_next_all6.2.2.2.2.2.2.1
theorem dX2_next_163 : decode cX2_next 163 = .ok (.if_icmp .ne 8, 3) := dX2_next_all6.2.2.2.2.2.2.2.1
theorem dX2_next_166 : decode cX2_next 166 = .ok (.bipush 7, 2) := dX2_next_all6.2.2.2.2.2.2.2.2.1
theorem dX2_next_168 : decode cX2_next 168 = .ok (.goto 5, 3) := dX2_next_all6.2.2.2.2.2.2.2.2.2.1
theorem dX2_next_171 : decode cX2_next 171 = .ok (.bipush 9, 2) := dX2_next_all6.2.2.2.2.2.2.2.2.2.2.1
theorem dX2_next_173 : decode cX2_next 173 = .ok (.putfield 47, 3) := dX2_next_all6.2.2.2.2.2.2.2.2.2.2.2
theorem dX2_next_all7 : decode cX2_next 176 = .ok (.aload_n 0, 1) ∧ decode cX2_next 177 = .ok (.dup, 1) ∧ decode cX2_next 178 = .ok (.getfield 38, 3) ∧ decode cX2_next 181 = .ok (.iconst 1, 1) ∧ decode cX2_next 182 = .ok (.iadd, 1) ∧ decode cX2_next 183 = .ok (.putfield 38, 3) ∧ decode cX2_next 186 = .ok (.return_, 1) := by decide +kernel
theorem dX2_next_176 : decode cX2_next 176 = .ok (.aload_n 0, 1) := dX2_next_all7.1
theorem dX2_next_177 : decode cX2_next 177 = .ok (.dup, 1) := dX2_next_all7.2.1
theorem dX2_next_178 : decode cX2_next 178 = .ok (.getfield 38, 3) := dX2_next_all7.2.2.1
theorem dX2_next_181 : decode cX2_next 181 = .ok (.iconst 1, 1) := dX2_next_all7.2.2.2.1
theorem dX2_next_182 : decode cX2_next 182 = .ok (.iadd, 1) := dX2_next_all7.2.2.2.2.1
theorem dX2_next_183 : decode cX2_next 183 = .ok (.putfield 38, 3) := dX2_next_all7.2.2.2.2.2.1
theorem dX2_next_186 : decode cX2_next 186 = .ok (.return_, 1) := dX2_next_all7.2.2.2.2.2.2
theorem ggX2_readName_X2_isLetter : GoodIn wsX2_readName wsX2_isLetter := goodIn_s (fun _ h => wm_t (wm_r (wm_l (wm_r h)))) Gd_X2_isLetter
theorem gX2_readName_X2_isLetter : GoodIn wsX2_readName (va_wsS RX2 79 yX2_isLetter wsX2_isLetter) := goodIn_S (own := RX2) (idx := 79) (y := yX2_isLetter) (wm_t (wm_l (wm_i 5 rfl))) (wm_t (wm_l (wm_i 6 rfl))) (wm_t (wm_l (wm_i 7 rfl))) ggX2_readName_X2_isLetter
theorem ggX2_readName_X2_isWord : GoodIn wsX2_readName wsX2_isWord := goodIn_s (fun _ h => wm_t (wm_r (wm_r h))) Gd_X2_isWord
theorem gX2_readName_X2_isWord : GoodIn wsX2_readName (wsV RX2 92 RX2 yX2_isWord wsX2_isWord) := goodIn_V (own := RX2) (idx := 92) (C := RX2) (y := yX2_isWord) (wm_t (wm_l (wm_i 8 rfl))) (wm_t (wm_l (wm_i 9 rfl))) (wm_t (wm_l (wm_i 10 rfl))) (wm_t (wm_l (wm_i 7 rfl))) ggX2_readName_X2_isWord
theorem dX2_readName_all0 : decode cX2_readName 0 = .ok (.aload_n 0, 1) ∧ decode cX2_readName 1 = .ok (.getfield 38, 3) ∧ decode cX2_readName 4 = .ok (.aload_n 0, 1) ∧ decode cX2_readName 5 = .ok (.getfield 34, 3) ∧ decode cX2_readName 8 = .ok (.if_icmp .ge 31, 3) ∧ decode cX2_readName 11 = .ok (.aload_n 0, 1) ∧ decode cX2_readName 12 = .ok (.getfield 11, 3) ∧ decode cX2_readName 15 = .ok (.aload_n 0, 1) ∧ decode cX2_readName 16 = .ok (.getfield 38, 3) ∧ decode cX2_readName 19 = .ok (.baload, 1) ∧ decode cX2_readName 20 = .ok (.invokestatic 79, 3) ∧ decode cX2_readName 23 = .ok (.ifCond .eq 16, 3) := by decide +kernel
theorem dX2_readName_0 : decode cX2_readName 0 = .ok (.aload_n 0, 1) := dX2_readName_all0.1
theorem dX2_readName_1 : decode cX2_readName 1 = .ok (.getfield 38, 3) := dX2_readName_all0.2.1
theorem dX2_readName_4 : decode cX2_readName 4 = .ok (.aload_n 0, 1) := dX2_readName_all0.2.2.1
theorem dX2_readName_5 : decode cX2_readName 5 = .ok (.getfield 34, 3) := dX2_readName_all0.2.2.2.1
theorem dX2_readName_8 : decode cX2_readName 8 = .ok (.if_icmp .ge 31, 3) := dX2_readName_all0.2.2.2.2.1
theorem dX2_readName_11 : decode cX2_readName 11 = .ok (.aload_n 0, 1) := dX2_readName_all0.2.2.2.2.2.1
theorem dX2_readName_12 : decode cX2_readName 12 = .ok (.getfield 11, 3) := dX2_readName_all0.2.2.2.2.2.2.1
theorem dX2_readName_15 : decode cX2_readName 15 = .ok (.aload_n 0, 1) := dX2_readName_all0.2.2.2.2.2.2.2.1
theorem dX2_readName_16 : decode cX2_readName 16 = .ok (.getfield 38, 3) := dX2_readName_all0.2.2.2.2.2.2.2.2.1
theorem dX2_readName_19 : decode cX2_readName 19 = .ok (.baload, 1) := dX2_readName_all0.2.2.2.2.2.2.2.2.2.1
theorem dX2_readName_20 : decode cX2_readName 20 = .ok (.invokestatic 79, 3) := dX2_readName_all0.2.2.2.2.2.2.2.2.2.2.1
theorem dX2_readName_23 : decode cX2_readName 23 = .ok (.ifCond .eq 16, 3) := dX2_readName_all0.2.2.2.2.2.2.2.2.2.2.2
theorem dX2_readName_all1 : decode cX2_readName 26 = .ok (.aload_n 0, 1) ∧ decode cX2_readName 27 = .ok (.dup, 1) ∧ decode cX2_readName 28 = .ok (.getfield 38, 3) ∧ decode cX2_readName 31 = .ok (.iconst 1, 1) ∧ decode cX2_readName 32 = .ok (.iadd, 1) ∧ decode cX2_readName 33 = .ok (.putfield 38, 3) ∧ decode cX2_readName 36 = .ok (.goto (-36), 3) ∧ decode cX2_readName 39 = .ok (.aload_n 0, 1) ∧ decode cX2_readName 40 = .ok (.bipush 9, 2) ∧ decode cX2_readName 42 = .ok (.putfield 47, 3) ∧ decode cX2_readName 45 = .ok (.aload_n 0, 1) ∧ decode cX2_readName 46 = .ok (.getfield 38, 3) := by decide +kernel
theorem dX2_readName_26 : decode cX2_readName 26 = .ok (.aload_n 0, 1) := dX2_readName_all1.1
theorem dX2_readName_27 : decode cX2_readName 27 = .ok (.dup, 1) := dX2_readName_all1.2.1
theorem dX2_readName_28 : decode cX2_readName 28 = .ok (.getfield 38, 3) := dX2_readName_all1.2.2.1
theorem dX2_readName_31 : decode cX2_readName 31 = .ok (.iconst 1, 1) := dX2_readName_all1.2.2.2.1
theorem dX2_readName_32 : decode cX2_readName 32 = .ok (.iadd, 1) := dX2_readName_all1.2.2.2.2.1
theorem dX2_readName_33 : decode cX2_readName 33 = .ok (.putfield 38, 3) := dX2_readName_all1.2.2.2.2.2.1
theorem dX2_readName_36 : decode cX2_readName 36 = .ok (.goto (-36), 3) := dX2_readName_all1.2.2.2.2.2.2.1
theorem dX2_readName_39 : decode cX2_readName 39 = .ok (.aload_n 0, 1) := dX2_readName_all1.2.2.2.2.2.2.2.1
theorem dX2_readName_40 : decode cX2_readName 40 = .ok (.bipush 9, 2) := dX2_readName_all1.2.2.2.2.2.2.2.2.1
theorem dX2_readName_42 : decode cX2_readName 42 = .ok (.putfield 47, 3) := dX2_readName_all1.2.2.2.2.2.2.2.2.2.1
theorem dX2_readName_45 : decode cX2_readName 45 = .ok (.aload_n 0, 1) := dX2_readName_all1.2.2.2.2.2.2.2.2.2.2.1
theorem dX2_readName_46 : decode cX2_readName 46 = .ok (.getfield 38, 3) := dX2_readName_all1.2.2.2.2.2.2.2.2.2.2.2
theorem dX2_readName_all2 : decode cX2_readName 49 = .ok (.aload_n 0, 1) ∧ decode cX2_readName 50 = .ok (.getfield 61, 3) ∧ decode cX2_readName 53 = .ok (.isub, 1) ∧ decode cX2_readName 54 = .ok (.bipush 6, 2) ∧ decode cX2_readName 56 = .ok (.if_icmp .le 4, 3) ∧ decode cX2_readName 59 = .ok (.return_, 1) ∧ decode cX2_readName 60 = .ok (.iconst 0, 1) ∧ decode cX2_readName 61 = .ok (.istore_n 1, 1) ∧ decode cX2_readName 62 = .ok (.iload_n 1, 1) ∧ decode cX2_readName 63 = .ok (.iconst 4, 1) ∧ decode cX2_readName 64 = .ok (.if_icmp .gt 22, 3) ∧ decode cX2_readName 67 = .ok (.aload_n 0, 1) := by decide +kernel
theorem dX2_readName_49 : decode cX2_readName 49 = .ok (.aload_n 0, 1) := dX2_readName_all2.1
theorem dX2_readName_50 : decode cX2_readName 50 = .ok (.getfield 61, 3) := dX2_readName_all2.2.1
theorem dX2_readName_53 : decode cX2_readName 53 = .ok (.isub, 1) := dX2_readName_all2.2.2.1
theorem dX2_readName_54 : decode cX2_readName 54 = .ok (.bipush 6, 2) := dX2_readName_all2.2.2.2.1
theorem dX2_readName_56 : decode cX2_readName 56 = .ok (.if_icmp .le 4, 3) := dX2_readName_all2.2.2.2.2.1
theorem dX2_readName_59 : decode cX2_readName 59 = .ok (.return_, 1) := dX2_readName_all2.2.2.2.2.2.1
theorem dX2_readName_60 : decode cX2_readName 60 = .ok (.iconst 0, 1) := dX2_readName_all2.2.2.2.2.2.2.1
theorem dX2_readName_61 : decode cX2_readName 61 = .ok (.istore_n 1, 1) := dX2_readName_all2.2.2.2.2.2.2.2.1
theorem dX2_readName_62 : decode cX2_readName 62 = .ok (.iload_n 1, 1) := dX2_readName_all2.2.2.2.2.2.2.2.2.1
theorem dX2_readName_63 : decode cX2_readName 63 = .ok (.iconst 4, 1) := dX2_readName_all2.2.2.2.2.2.2.2.2.2.1
theorem dX2_readName_64 : decode cX2_readName 64 = .ok (.if_icmp .gt 22, 3) := dX2_readName_all2.2.2.2.2.2.2.2.2.2.2.1
theorem dX2_readName_67 : decode cX2_readName 67 = .ok (.aload_n 0, 1) := dX2_readName_all2.2.2.2.2.2.2.2.2.2.2.2
theorem dX2_readName_all3 : decode cX2_readName 68 = .ok (.iload_n 1, 1) ∧ decode cX2_readName 69 = .ok (.invokevirtual 92, 3) ∧ decode cX2_readName 72 = .ok (.ifCond .eq 8, 3) ∧ decode cX2_readName 75 = .ok (.aload_n 0, 1) ∧ decode cX2_readName 76 = .ok (.iload_n 1, 1) ∧ decode cX2_readName 77 = .ok (.putfield 47, 3) ∧ decode cX2_readName 80 = .ok (.iinc 1 1, 3) ∧ decode cX2_readName 83 = .ok (.goto (-21), 3) ∧ decode cX2_readName 86 = .ok (.return_, 1) := by decide +kernel
theorem dX2_readName_68 : decode cX2_readName 68 = .ok (.iload_n 1, 1) := dX2_readName_all3.1
theorem dX2_readName_69 : decode cX2_readName 69 = .ok (.invokevirtual 92, 3) := dX2_readName_all3.2.1
theorem dX2_readName_72 : decode cX2_readName 72 = .ok (.ifCond .eq 8, 3) := dX2_readName_all3.2.2.1
theorem dX2_readName_75 : decode cX2_readName 75 = .ok (.aload_n 0, 1) := dX2_readName_all3.2.2.2.1
theorem dX2_readName_76 : decode cX2_readName 76 = .ok (.iload_n 1, 1) := dX2_readName_all3.2.2.2.2.1
theorem dX2_readName_77 : decode cX2_readName 77 = .ok (.putfield 47, 3) := dX2_readName_all3.2.2.2.2.2.1
theorem dX2_readName_80 : decode cX2_readName 80 = .ok (.iinc 1 1, 3) := dX2_readName_all3.2.2.2.2.2.2.1
theorem dX2_readName_83 : decode cX2_readName 83 = .ok (.goto (-21), 3) := dX2_readName_all3.2.2.2.2.2.2.2.1
theorem dX2_readName_86 : decode cX2_readName 86 = .ok (.return_, 1) := dX2_readName_all3.2.2.2.2.2.2.2.2
theorem ggX2_isWord_J0_charAt_5068e : GoodIn wsX2_isWord wsJ0_charAt_5068e := goodIn_s (fun _ h => wm_t (wm_r (wm_r h))) Gd_J0_charAt_5068e
theorem gX2_isWord_J0_charAt_5068e : GoodIn wsX2_isWord (wsV RX2 97 RJ0 yJ0_charAt_5068e wsJ0_charAt_5068e) := goodIn_V (own := RX2) (idx := 97) (C := RJ0) (y := yJ0_charAt_5068e) (wm_t (wm_l (wm_i 3 rfl))) (wm_t (wm_l (wm_i 4 rfl))) (wm_t (wm_l (wm_i 5 rfl))) (wm_t (wm_l (wm_i 6 rfl))) ggX2_isWord_J0_charAt_5068e
theorem dX2_isWord_all0 : decode cX2_isWord 0 = .ok (.iconst 0, 1) ∧ decode cX2_isWord 1 = .ok (.istore_n 2, 1) ∧ decode cX2_isWord 2 = .ok (.iload_n 2, 1) ∧ decode cX2_isWord 3 = .ok (.bipush 6, 2) ∧ decode cX2_isWord 5 = .ok (.if_icmp .ge 56, 3) ∧ decode cX2_isWord 8 = .ok (.aload_n 0, 1) ∧ decode cX2_isWord 9 = .ok (.getfield 61, 3) ∧ decode cX2_isWord 12 = .ok (.iload_n 2, 1) ∧ decode cX2_isWord 13 = .ok (.iadd, 1) ∧ decode cX2_isWord 14 = .ok (.aload_n 0, 1) ∧ decode cX2_isWord 15 = .ok (.getfield 38, 3) ∧ decode cX2_isWord 18 = .ok (.if_icmp .ge 17, 3) := by decide +kernel
theorem dX2_isWord_0 : decode cX2_isWord 0 = .ok (.iconst 0, 1) := dX2_isWord_all0.1
theorem dX2_isWord_1 : decode cX2_isWord 1 = .ok (.istore_n 2, 1) := dX2_isWord_all0.2.1
theorem dX2_isWord_2 : decode cX2_isWord 2 = .ok (.iload_n 2, 1) := dX2_isWord_all0.2.2.1
theorem dX2_isWord_3 : decode cX2_isWord 3 = .ok (.bipush 6, 2) := dX2_isWord_all0.2.2.2.1
theorem dX2_isWord_5 : decode cX2_isWord 5 = .ok (.if_icmp .ge 56, 3) := dX2_isWord_all0.2.2.2.2.1
theorem dX2_isWord_8 : decode cX2_isWord 8 = .ok (.aload_n 0, 1) := dX2_isWord_all0.2.2.2.2.2.1
theorem dX2_isWord_9 : decode cX2_isWord 9 = .ok (.getfield 61, 3) := dX2_isWord_all0.2.2.2.2.2.2.1
theorem dX2_isWord_12 : decode cX2_isWord 12 = .ok (.iload_n 2, 1) := dX2_isWord_all0.2.2.2.2.2.2.2.1
theorem dX2_isWord_13 : decode cX2_isWord 13 = .ok (.iadd, 1) := dX2_isWord_all0.2.2.2.2.2.2.2.2.1
theorem dX2_isWord_14 : decode cX2_isWord 14 = .ok (.aload_n 0, 1) := dX2_isWord_all0.2.2.2.2.2.2.2.2.2.1
theorem dX2_isWord_15 : decode cX2_isWord 15 = .ok (.getfield 38, 3) := dX2_isWord_all0.2.2.2.2.2.2.2.2.2.2.1
theorem dX2_isWord_18 : decode cX2_isWord 18 = .ok (.if_icmp .ge 17, 3) := dX2_isWord_all0.2.2.2.2.2.2.2.2.2.2.2
theorem dX2_isWord_all1 : decode cX2_isWord 21 = .ok (.aload_n 0, 1) ∧ decode cX2_isWord 22 = .ok (.getfield 11, 3) ∧ decode cX2_isWord 25 = .ok (.aload_n 0, 1) ∧ decode cX2_isWord 26 = .ok (.getfield 61, 3) ∧ decode cX2_isWord 29 = .ok (.iload_n 2, 1) ∧ decode cX2_isWord 30 = .ok (.iadd, 1) ∧ decode cX2_isWord 31 = .ok (.baload, 1) ∧ decode cX2_isWord 32 = .ok (.goto 5, 3) ∧ decode cX2_isWord 35 = .ok (.bipush 32, 2) ∧ decode cX2_isWord 37 = .ok (.istore_n 3, 1) ∧ decode cX2_isWord 38 = .ok (.iload_n 3, 1) ∧ decode cX2_isWord 39 = .ok (.ldc 95, 2) := by decide +kernel
theorem dX2_isWord_21 : decode cX2_isWord 21 = .ok (.aload_n 0, 1) := dX2_isWord_all1.1
theorem dX2_isWord_22 : decode cX2_isWord 22 = .ok (.getfield 11, 3) := dX2_isWord_all1.2.1
theorem dX2_isWord_25 : decode cX2_isWord 25 = .ok (.aload_n 0, 1) := dX2_isWord_all1.2.2.1
theorem dX2_isWord_26 : decode cX2_isWord 26 = .ok (.getfield 61, 3) := dX2_isWord_all1.2.2.2.1
theorem dX2_isWord_29 : decode cX2_isWord 29 = .ok (.iload_n 2, 1) := dX2_isWord_all1.2.2.2.2.1
theorem dX2_isWord_30 : decode cX2_isWord 30 = .ok (.iadd, 1) := dX2_isWord_all1.2.2.2.2.2.1
theorem dX2_isWord_31 : decode cX2_isWord 31 = .ok (.baload, 1) := dX2_isWord_all1.2.2.2.2.2.2.1
theorem dX2_isWord_32 : decode cX2_isWord 32 = .ok (.goto 5, 3) := dX2_isWord_all1.2.2.2.2.2.2.2.1
theorem dX2_isWord_35 : decode cX2_isWord 35 = .ok (.bipush 32, 2) := dX2_isWord_all1.2.2.2.2.2.2.2.2.1
theorem dX2_isWord_37 : decode cX2_isWord 37 = .ok (.istore_n 3, 1) := dX2_isWord_all1.2.2.2.2.2.2.2.2.2.1
theorem dX2_isWord_38 : decode cX2_isWord 38 = .ok (.iload_n 3, 1) := dX2_isWord_all1.2.2.2.2.2.2.2.2.2.2.1
theorem dX2_isWord_39 : decode cX2_isWord 39 = .ok (.ldc 95, 2) := dX2_isWord_all1.2.2.2.2.2.2.2.2.2.2.2
theorem dX2_isWord_all2 : decode cX2_isWord 41 = .ok (.iload_n 1, 1) ∧ decode cX2_isWord 42 = .ok (.bipush 6, 2) ∧ decode cX2_isWord 44 = .ok (.imul, 1) ∧ decode cX2_isWord 45 = .ok (.iload_n 2, 1) ∧ decode cX2_isWord 46 = .ok (.iadd, 1) ∧ decode cX2_isWord 47 = .ok (.invokevirtual 97, 3) ∧ decode cX2_isWord 50 = .ok (.if_icmp .eq 5, 3) ∧ decode cX2_isWord 53 = .ok (.iconst 0, 1) ∧ decode cX2_isWord 54 = .ok (.ireturn, 1) ∧ decode cX2_isWord 55 = .ok (.iinc 2 1, 3) ∧ decode cX2_isWord 58 = .ok (.goto (-56), 3) ∧ decode cX2_isWord 61 = .ok (.iconst 1, 1) := by decide +kernel
theorem dX2_isWord_41 : decode cX2_isWord 41 = .ok (.iload_n 1, 1) := dX2_isWord_all2.1
theorem dX2_isWord_42 : decode cX2_isWord 42 = .ok (.bipush 6, 2) := dX2_isWord_all2.2.1
theorem dX2_isWord_44 : decode cX2_isWord 44 = .ok (.imul, 1) := dX2_isWord_all2.2.2.1
theorem dX2_isWord_45 : decode cX2_isWord 45 = .ok (.iload_n 2, 1) := dX2_isWord_all2.2.2.2.1
theorem dX2_isWord_46 : decode cX2_isWord 46 = .ok (.iadd, 1) := dX2_isWord_all2.2.2.2.2.1
theorem dX2_isWord_47 : decode cX2_isWord 47 = .ok (.invokevirtual 97, 3) := dX2_isWord_all2.2.2.2.2.2.1
theorem dX2_isWord_50 : decode cX2_isWord 50 = .ok (.if_icmp .eq 5, 3) := dX2_isWord_all2.2.2.2.2.2.2.1
theorem dX2_isWord_53 : decode cX2_isWord 53 = .ok (.iconst 0, 1) := dX2_isWord_all2.2.2.2.2.2.2.2.1
theorem dX2_isWord_54 : decode cX2_isWord 54 = .ok (.ireturn, 1) := dX2_isWord_all2.2.2.2.2.2.2.2.2.1
theorem dX2_isWord_55 : decode cX2_isWord 55 = .ok (.iinc 2 1, 3) := dX2_isWord_all2.2.2.2.2.2.2.2.2.2.1
theorem dX2_isWord_58 : decode cX2_isWord 58 = .ok (.goto (-56), 3) := dX2_isWord_all2.2.2.2.2.2.2.2.2.2.2.1
theorem dX2_isWord_61 : decode cX2_isWord 61 = .ok (.iconst 1, 1) := dX2_isWord_all2.2.2.2.2.2.2.2.2.2.2.2
theorem dX2_isWord_62 : decode cX2_isWord 62 = .ok (.ireturn, 1) := by decide +kernel
theorem ggX2_readNumber_X2_isFigure : GoodIn wsX2_readNumber wsX2_isFigure := goodIn_s (fun _ h => wm_t (wm_r (wm_r h))) Gd_X2_isFigure
theorem gX2_readNumber_X2_isFigure : GoodIn wsX2_readNumber (va_wsS RX2 86 yX2_isFigure wsX2_isFigure) := goodIn_S (own := RX2) (idx := 86) (y := yX2_isFigure) (wm_t (wm_l (wm_i 6 rfl))) (wm_t (wm_l (wm_i 7 rfl))) (wm_t (wm_l (wm_i 8 rfl))) ggX2_readNumber_X2_isFigure
theorem dX2_readNumber_all0 : decode cX2_readNumber 0 = .ok (.aload_n 0, 1) ∧ decode cX2_readNumber 1 = .ok (.iconst 0, 1) ∧ decode cX2_readNumber 2 = .ok (.putfield 76, 3) ∧ decode cX2_readNumber 5 = .ok (.aload_n 0, 1) ∧ decode cX2_readNumber 6 = .ok (.getfield 38, 3) ∧ decode cX2_readNumber 9 = .ok (.aload_n 0, 1) ∧ decode cX2_readNumber 10 = .ok (.getfield 34, 3) ∧ decode cX2_readNumber 13 = .ok (.if_icmp .ge 68, 3) ∧ decode cX2_readNumber 16 = .ok (.aload_n 0, 1) ∧ decode cX2_readNumber 17 = .ok (.getfield 11, 3) ∧ decode cX2_readNumber 20 = .ok (.aload_n 0, 1) ∧ decode cX2_readNumber 21 = .ok (.getfield 38, 3) := by decide +kernel
theorem dX2_readNumber_0 : decode cX2_readNumber 0 = .ok (.aload_n 0, 1) := dX2_readNumber_all0.1
theorem dX2_readNumber_1 : decode cX2_readNumber 1 = .ok (.iconst 0, 1) := dX2_readNumber_all0.2.1
theorem dX2_readNumber_2 : decode cX2_readNumber 2 = .ok (.putfield 76, 3) := dX2_readNumber_all0.2.2.1
theorem dX2_readNumber_5 : decode cX2_readNumber 5 = .ok (.aload_n 0, 1) := dX2_readNumber_all0.2.2.2.1
theorem dX2_readNumber_6 : decode cX2_readNumber 6 = .ok (.getfield 38, 3) := dX2_readNumber_all0.2.2.2.2.1
theorem dX2_readNumber_9 : decode cX2_readNumber 9 = .ok (.aload_n 0, 1) := dX2_readNumber_all0.2.2.2.2.2.1
theorem dX2_readNumber_10 : decode cX2_readNumber 10 = .ok (.getfield 34, 3) := dX2_readNumber_all0.2.2.2.2.2.2.1
theorem dX2_readNumber_13 : decode cX2_readNumber 13 = .ok (.if_icmp .ge 68, 3) := dX2_readNumber_all0.2.2.2.2.2.2.2.1
theorem dX2_readNumber_16 : decode cX2_readNumber 16 = .ok (.aload_n 0, 1) := dX2_readNumber_all0.2.2.2.2.2.2.2.2.1
theorem dX2_readNumber_17 : decode cX2_readNumber 17 = .ok (.getfield 11, 3) := dX2_readNumber_all0.2.2.2.2.2.2.2.2.2.1
theorem dX2_readNumber_20 : decode cX2_readNumber 20 = .ok (.aload_n 0, 1) := dX2_readNumber_all0.2.2.2.2.2.2.2.2.2.2.1
theorem dX2_readNumber_21 : decode cX2_readNumber 21 = .ok (.getfield 38, 3) := dX2_readNumber_all0.2.2.2.2.2.2.2.2.2.2.2
theorem dX2_readNumber_all1 : decode cX2_readNumber 24 = .ok (.baload, 1) ∧ decode cX2_readNumber 25 = .ok (.invokestatic 86, 3) ∧ decode cX2_readNumber 28 = .ok (.ifCond .eq 53, 3) ∧ decode cX2_readNumber 31 = .ok (.aload_n 0, 1) ∧ decode cX2_readNumber 32 = .ok (.getfield 38, 3) ∧ decode cX2_readNumber 35 = .ok (.aload_n 0, 1) ∧ decode cX2_readNumber 36 = .ok (.getfield 61, 3) ∧ decode cX2_readNumber 39 = .ok (.isub, 1) ∧ decode cX2_readNumber 40 = .ok (.iconst 4, 1) ∧ decode cX2_readNumber 41 = .ok (.if_icmp .ge 27, 3) ∧ decode cX2_readNumber 44 = .ok (.aload_n 0, 1) ∧ decode cX2_readNumber 45 = .ok (.aload_n 0, 1) := by decide +kernel
theorem dX2_readNumber_24 : decode cX2_readNumber 24 = .ok (.baload, 1) := dX2_readNumber_all1.1
theorem dX2_readNumber_25 : decode cX2_readNumber 25 = .ok (.invokestatic 86, 3) := dX2_readNumber_all1.2.1
theorem dX2_readNumber_28 : decode cX2_readNumber 28 = .ok (.ifCond .eq 53, 3) := dX2_readNumber_all1.2.2.1
theorem dX2_readNumber_31 : decode cX2_readNumber 31 = .ok (.aload_n 0, 1) := dX2_readNumber_all1.2.2.2.1
theorem dX2_readNumber_32 : decode cX2_readNumber 32 = .ok (.getfield 38, 3) := dX2_readNumber_all1.2.2.2.2.1
theorem dX2_readNumber_35 : decode cX2_readNumber 35 = .ok (.aload_n 0, 1) := dX2_readNumber_all1.2.2.2.2.2.1
theorem dX2_readNumber_36 : decode cX2_readNumber 36 = .ok (.getfield 61, 3) := dX2_readNumber_all1.2.2.2.2.2.2.1
theorem dX2_readNumber_39 : decode cX2_readNumber 39 = .ok (.isub, 1) := dX2_readNumber_all1.2.2.2.2.2.2.2.1
theorem dX2_readNumber_40 : decode cX2_readNumber 40 = .ok (.iconst 4, 1) := dX2_readNumber_all1.2.2.2.2.2.2.2.2.1
theorem dX2_readNumber_41 : decode cX2_readNumber 41 = .ok (.if_icmp .ge 27, 3) := dX2_readNumber_all1.2.2.2.2.2.2.2.2.2.1
theorem dX2_readNumber_44 : decode cX2_readNumber 44 = .ok (.aload_n 0, 1) := dX2_readNumber_all1.2.2.2.2.2.2.2.2.2.2.1
theorem dX2_readNumber_45 : decode cX2_readNumber 45 = .ok (.aload_n 0, 1) := dX2_readNumber_all1.2.2.2.2.2.2.2.2.2.2.2
theorem dX2_readNumber_all2 : decode cX2_readNumber 46 = .ok (.getfield 76, 3) ∧ decode cX2_readNumber 49 = .ok (.bipush 10, 2) ∧ decode cX2_readNumber 51 = .ok (.imul, 1) ∧ decode cX2_readNumber 52 = .ok (.aload_n 0, 1) ∧ decode cX2_readNumber 53 = .ok (.getfield 11, 3) ∧ decode cX2_readNumber 56 = .ok (.aload_n 0, 1) ∧ decode cX2_readNumber 57 = .ok (.getfield 38, 3) ∧ decode cX2_readNumber 60 = .ok (.baload, 1) ∧ decode cX2_readNumber 61 = .ok (.iadd, 1) ∧ decode cX2_readNumber 62 = .ok (.bipush 48, 2) ∧ decode cX2_readNumber 64 = .ok (.isub, 1) ∧ decode cX2_readNumber 65 = .ok (.putfield 76, 3) := by decide +kernel
theorem dX2_readNumber_46 : decode cX2_readNumber 46 = .ok (.getfield 76, 3) := dX2_readNumber_all2.1
theorem dX2_readNumber_49 : decode cX2_readNumber 49 = .ok (.bipush 10, 2) := dX2_readNumber_all2.2.1
theorem dX2_readNumber_51 : decode cX2_readNumber 51 = .ok (.imul, 1) := dX2_readNumber_all2.2.2.1
theorem dX2_readNumber_52 : decode cX2_readNumber 52 = .ok (.aload_n 0, 1) := dX2_readNumber_all2.2.2.2.1
theorem dX2_readNumber_53 : decode cX2_readNumber 53 = .ok (.getfield 11, 3) := dX2_readNumber_all2.2.2.2.2.1
theorem dX2_readNumber_56 : decode cX2_readNumber 56 = .ok (.aload_n 0, 1) := dX2_readNumber_all2.2.2.2.2.2.1
theorem dX2_readNumber_57 : decode cX2_readNumber 57 = .ok (.getfield 38, 3) := dX2_readNumber_all2.2.2.2.2.2.2.1
theorem dX2_readNumber_60 : decode cX2_readNumber 60 = .ok (.baload, 1) := dX2_readNumber_all2.2.2.2.2.2.2.2.1
theorem dX2_readNumber_61 : decode cX2_readNumber 61 = .ok (.iadd, 1) := dX2_readNumber_all2.2.2.2.2.2.2.2.2.1
theorem dX2_readNumber_62 : decode cX2_readNumber 62 = .ok (.bipush 48, 2) := dX2_readNumber_all2.2.2.2.2.2.2.2.2.2.1
theorem dX2_readNumber_64 : decode cX2_readNumber 64 = .ok (.isub, 1) := dX2_readNumber_all2.2.2.2.2.2.2.2.2.2.2.1
theorem dX2_readNumber_65 : decode cX2_readNumber 65 = .ok (.putfield 76, 3) := dX2_readNumber_all2.2.2.2.2.2.2.2.2.2.2.2
theorem dX2_readNumber_all3 : decode cX2_readNumber 68 = .ok (.aload_n 0, 1) ∧ decode cX2_readNumber 69 = .ok (.dup, 1) ∧ decode cX2_readNumber 70 = .ok (.getfield 38, 3) ∧ decode cX2_readNumber 73 = .ok (.iconst 1, 1) ∧ decode cX2_readNumber 74 = .ok (.iadd, 1) ∧ decode cX2_readNumber 75 = .ok (.putfield 38, 3) ∧ decode cX2_readNumber 78 = .ok (.goto (-73), 3) ∧ decode cX2_readNumber 81 = .ok (.aload_n 0, 1) ∧ decode cX2_readNumber 82 = .ok (.aload_n 0, 1) ∧ decode cX2_readNumber 83 = .ok (.getfield 38, 3) ∧ decode cX2_readNumber 86 = .ok (.aload_n 0, 1) ∧ decode cX2_readNumber 87 = .ok (.getfield 61, 3) := by decide +kernel
theorem dX2_readNumber_68 : decode cX2_readNumber 68 = .ok (.aload_n 0, 1) := dX2_readNumber_all3.1
theorem dX2_readNumber_69 : decode cX2_readNumber 69 = .ok (.dup, 1) := dX2_readNumber_all3.2.1
theorem dX2_readNumber_70 : decode cX2_readNumber 70 = .ok (.getfield 38, 3) := dX2_readNumber_all3.2.2.1
theorem dX2_readNumber_73 : decode cX2_readNumber 73 = .ok (.iconst 1, 1) := dX2_readNumber_all3.2.2.2.1
theorem dX2_readNumber_74 : decode cX2_readNumber 74 = .ok (.iadd, 1) := dX2_readNumber_all3.2.2.2.2.1
theorem dX2_readNumber_75 : decode cX2_readNumber 75 = .ok (.putfield 38, 3) := dX2_readNumber_all3.2.2.2.2.2.1
theorem dX2_readNumber_78 : decode cX2_readNumber 78 = .ok (.goto (-73), 3) := dX2_readNumber_all3.2.2.2.2.2.2.1
theorem dX2_readNumber_81 : decode cX2_readNumber 81 = .ok (.aload_n 0, 1) := dX2_readNumber_all3.2.2.2.2.2.2.2.1
theorem dX2_readNumber_82 : decode cX2_readNumber 82 = .ok (.aload_n 0, 1) := dX2_readNumber_all3.2.2.2.2.2.2.2.2.1
theorem dX2_readNumber_83 : decode cX2_readNumber 83 = .ok (.getfield 38, 3) := dX2_readNumber_all3.2.2.2.2.2.2.2.2.2.1
theorem dX2_readNumber_86 : decode cX2_readNumber 86 = .ok (.aload_n 0, 1) := dX2_readNumber_all3.2.2.2.2.2.2.2.2.2.2.1
theorem dX2_readNumber_87 : decode cX2_readNumber 87 = .ok (.getfield 61, 3) := dX2_readNumber_all3.2.2.2.2.2.2.2.2.2.2.2
theorem dX2_readNumber_all4 : decode cX2_readNumber 90 = .ok (.isub, 1) ∧ decode cX2_readNumber 91 = .ok (.iconst 4, 1) ∧ decode cX2_readNumber 92 = .ok (.if_icmp .le 8, 3) ∧ decode cX2_readNumber 95 = .ok (.bipush 9, 2) ∧ decode cX2_readNumber 97 = .ok (.goto 4, 3) ∧ decode cX2_readNumber 100 = .ok (.iconst 5, 1) ∧ decode cX2_readNumber 101 = .ok (.putfield 47, 3) ∧ decode cX2_readNumber 104 = .ok (.return_, 1) := by decide +kernel
theorem dX2_readNumber_90 : decode cX2_readNumber 90 = .ok (.isub, 1) := dX2_readNumber_all4.1
theorem dX2_readNumber_91 : decode cX2_readNumber 91 = .ok (.iconst 4, 1) := dX2_readNumber_all4.2.1
theorem dX2_readNumber_92 : decode cX2_readNumber 92 = .ok (.if_icmp .le 8, 3) := dX2_readNumber_all4.2.2.1
theorem dX2_readNumber_95 : decode cX2_readNumber 95 = .ok (.bipush 9, 2) := dX2_readNumber_all4.2.2.2.1
theorem dX2_readNumber_97 : decode cX2_readNumber 97 = .ok (.goto 4, 3) := dX2_readNumber_all4.2.2.2.2.1
theorem dX2_readNumber_100 : decode cX2_readNumber 100 = .ok (.iconst 5, 1) := dX2_readNumber_all4.2.2.2.2.2.1
theorem dX2_readNumber_101 : decode cX2_readNumber 101 = .ok (.putfield 47, 3) := dX2_readNumber_all4.2.2.2.2.2.2.1
theorem dX2_readNumber_104 : decode cX2_readNumber 104 = .ok (.return_, 1) := dX2_readNumber_all4.2.2.2.2.2.2.2

theorem wch_t : ∀ k, k < 30 → (wch (nI k)).toInt = (WORDB.getD k 0).toInt := by decide +kernel
theorem wchT {a : Int32} {n : Nat} (h0 : 0 ≤ a.toInt) (h1 : a.toInt < 30) (e : a.toInt = n) : (wch a).toInt = (WORDB.getD n 0).toInt := by
  have hc := i_cl h0
  have h := wch_t n (by omega)
  rw [show nI n = a from by rw [show n = a.toNatClampNeg by omega]; exact i_nI h0] at h
  exact h

set_option maxHeartbeats 4000000 in
set_option maxRecDepth 100000 in
theorem ct_X2_isWord (l : Launch) (D : va_G) (cI cY cJ cQ : ClassId) (sz : Nat) (aK aV : Nat) (ad : Nat → Nat) (ln lfa dl dr bs be tk nb : Int32) (tp : Nat → Int32) (w : Int32)  (h1 : 0 ≤ ln.toInt) (h2 : ln.toInt ≤ 300) (h3 : 0 ≤ bs.toInt) (h4 : bs.toInt ≤ be.toInt) (h5 : be.toInt ≤ ln.toInt) (h6 : 0 ≤ w.toInt) (h7 : w.toInt ≤ 4)  : Met l yX2_isWord wsX2_isWord ({ frames := 4, cells := 0, slots := 0, locals := 85 }) (cPreT aK aV D (ty4 cI cY cJ cQ) [(oC2 ad ln lfa dl dr bs be tk nb), (aI cY (ad 47) 300 tp)] sz [.ref (ad 6), .int w]) (va_Qi (fun (r : Int32) (u : Unit) => r = if wdIs tp bs.toNatClampNeg be.toNatClampNeg w.toNatClampNeg then 1 else 0) (cB D (ty4 cI cY cJ cQ) (fun (u : Unit) => [(oC2 ad ln lfa dl dr bs be tk nb), (aI cY (ad 47) 300 tp)]) (va_A [(oC2 ad ln lfa dl dr bs be tk nb), (aI cY (ad 47) 300 tp)] sz)) (va_A [(oC2 ad ln lfa dl dr bs be tk nb), (aI cY (ad 47) 300 tp)] sz)) 0 0 (va_A [(oC2 ad ln lfa dl dr bs be tk nb), (aI cY (ad 47) 300 tp)] sz) := by
  refine Met.ofW (cc := cX2_isWord) (maxL := 4) (ret := (some .boolean)) (by decide) rfl ?_
  intro p e s m args below meth c s₁ B hml hv
  obtain ⟨rfl, hsz, hP, hK, hD0, hN, hT⟩ := hv
  have hx := B.exec
  have hb := B.bytes
  have hr := B.returns
  have hts := atoms_spec (ws := wsX2_isWord) B.pre
  have hown : s.vm.findClass RX2 = some m.cls := findClass_of_methodNamed B.named
  have hlocks := B.notSynchronized
  subst hsz
  have hD := hD0.self (sz := s.heap.size)
  generalize hAe : va_A [(oC2 ad ln lfa dl dr bs be tk nb), (aI cY (ad 47) 300 tp)] s.heap.size = A at hD hT ⊢
  have hA : ∀ q : Nat, s.heap.size ≤ q → A q := fun q h => by rw [← hAe]; exact Or.inr h
  have hS : va_S A s.heap s.heap [] := va_S.rf
  have hP : va_P D vwCl [(oC2 ad ln lfa dl dr bs be tk nb), (aI cY (ad 47) 300 tp)] s.heap := hP
  have hl := lv_entry ([.ref (ad 6), .int w]) (n := 4) (Nat.le_of_ble_eq_true rfl)
  rw [lg_entry_eq]
  generalize (lg_sl ([.ref (ad 6), .int w]) ++ List.replicate (4 - (lg_sl ([.ref (ad 6), .int w])).length) Slot.unset).toArray = ls at hl ⊢
  have hl : lv_has ls 4 [(0, .ref (ad 6)), (1, .int w)] := hl
  have k0 : (0 : Int32).toInt = 0 := by decide
  have k1 : (1 : Int32).toInt = 1 := by decide
  have k6 : (6 : Int32).toInt = 6 := by decide
  have k32 : (32 : Int32).toInt = 32 := by decide
  refine lv_iconst (v := 0) hx hb dX2_isWord_0 (by decide) ?_
  refine lv_istore_n (lv' := [(2, .int 0), (0, .ref (ad 6)), (1, .int w)]) hx hb dX2_isWord_1 rfl hl (by decide) rfl (fun ls hl => ?_)
  refine st_loop 2 (fun _ => []) (fun (q2_2 : Int32) (ls : Array Slot) (H : Heap) (locs : List Loc) => (0 ≤ q2_2.toInt) ∧ (q2_2.toInt ≤ 6) ∧ (∀ k9 : Nat, (k9 : Int) < q2_2.toInt → (if bs.toNatClampNeg + k9 < be.toNatClampNeg then (tp (bs.toNatClampNeg + k9)).toInt else 32) = (WORDB.getD (6 * w.toNatClampNeg + k9) 0).toInt) ∧ lv_has ls 4 [(0, .ref (ad 6)), (1, .int w), (2, .int q2_2)] ∧ va_P D vwCl [(oC2 ad ln lfa dl dr bs be tk nb), (aI cY (ad 47) 300 tp)] H ∧ va_D A [(oC2 ad ln lfa dl dr bs be tk nb), (aI cY (ad 47) 300 tp)] ∧ va_S A s.heap H locs) (fun (q2_2 : Int32) => 6 - q2_2.toInt) ?_ ?_ (0 : Int32) ⟨(by omega), (by omega), (by intro k9 hk9; exfalso; omega), lv_sub hl [1, 2, 0] rfl, hP, hD, hS⟩
  · rintro q2_2 ls H locs ⟨g1, g2, g3, hl, hP, hD, hS⟩
    show (0 : Int) ≤ 6 - q2_2.toInt
    omega
  · rintro n6 ih4 q2_2 ls H locs ⟨g1, g2, g3, hl, hP, hD, hS⟩ hm5
    have hm5 : 6 - q2_2.toInt < (n6 : Int) + 1 := hm5
    replace hl : lv_has ls 4 [(0, .ref (ad 6)), (1, .int w), (2, .int q2_2)] := hl
    replace hP : va_P D vwCl [(oC2 ad ln lfa dl dr bs be tk nb), (aI cY (ad 47) 300 tp)] H := hP
    replace hD : va_D A [(oC2 ad ln lfa dl dr bs be tk nb), (aI cY (ad 47) 300 tp)] := hD
    show W _ _ _ _ _ _ _ _ _ _ _ _ _ _ _ (F0 m 2 ls [])
    refine lv_iload_n hx hb dX2_isWord_2 rfl (lv_at hl 2 rfl) ?_
    refine lv_bipush (v := 6) hx hb dX2_isWord_3 (by decide) ?_
    refine lv_icmp_ge (tgt := 61) hx hb dX2_isWord_5 (by decide) (fun c7 => ?_) (fun c7 => ?_)
    · skip
      have f8 := i_le c7
      refine lv_iconst (v := 1) hx hb dX2_isWord_61 (by decide) ?_
      have hP9 := hP
      have hD9 := hD
      exact W.zret (v := 1) hx hb hr rfl (fun t ht hW => ⟨⟨1, (), rfl, bo_yes (fun k9 hk9 => g3 k9 (by omega)), by rw [ht]; exact hP9, va_K.moved hW.alike hK, hD9⟩, hS.F ht⟩) hS.2.2 dX2_isWord_62
    · skip
      have f9 := i_nle c7
      refine lv_aload_n hx hb dX2_isWord_8 rfl (lv_at hl 0 rfl) ?_
      refine va_get (D := D) (ci := 2) (v := .int bs) (C := RX2) (T := TX2) (N := 15) hx hb hts inX2_isWord_X2 hown hK hP 0 rfl rfl 11 (by decide) (hts (Cond.fieldLink RX2 61 "PortRooms$Duties" "start" "I") (wm_t (wm_l (wm_i 0 rfl)))) (fun _ h9 => h9) rfl dX2_isWord_9 ?_
      refine lv_iload_n hx hb dX2_isWord_12 rfl (lv_at hl 2 rfl) ?_
      refine lv_iadd hx hb dX2_isWord_13 ?_
      refine lv_topi (fun v10 ev10 => ?_)
      try have tv10 : v10.toInt = bs.toInt + q2_2.toInt := by rw [ev10]; exact (i_add (x := bs) (y := q2_2) (by omega) (by omega))
      refine lv_aload_n hx hb dX2_isWord_14 rfl (lv_at hl 0 rfl) ?_
      refine va_get (D := D) (ci := 2) (v := .int be) (C := RX2) (T := TX2) (N := 15) hx hb hts inX2_isWord_X2 hown hK hP 0 rfl rfl 12 (by decide) (hts (Cond.fieldLink RX2 38 "PortRooms$Duties" "end" "I") (wm_t (wm_l (wm_i 1 rfl)))) (fun _ h9 => h9) rfl dX2_isWord_15 ?_
      refine lv_icmp_ge (tgt := 35) hx hb dX2_isWord_18 (by decide) (fun c11 => ?_) (fun c11 => ?_)
      · skip
        have f12 := i_le c11
        refine lv_bipush (v := 32) hx hb dX2_isWord_35 (by decide) ?_
        refine lv_istore_n (lv' := [(3, .int 32), (0, .ref (ad 6)), (1, .int w), (2, .int q2_2)]) hx hb dX2_isWord_37 rfl hl (by decide) rfl (fun ls hl => ?_)
        refine lv_iload_n hx hb dX2_isWord_38 rfl (lv_at hl 0 rfl) ?_
        refine va_ldcS hx hb hown hT.1 dX2_isWord_39 ?_
        refine lv_iload_n hx hb dX2_isWord_41 rfl (lv_at hl 2 rfl) ?_
        refine lv_bipush (v := 6) hx hb dX2_isWord_42 (by decide) ?_
        refine lv_imul hx hb dX2_isWord_44 ?_
        refine lv_topi (fun v13 ev13 => ?_)
        try have tv13 : v13.toInt = w.toInt * 6 := by rw [ev13]; exact (i_mul (x := w) (y := (6 : Int32)) (by rw [k6]; omega) (by rw [k6]; omega)).trans (by rw [k6])
        refine lv_iload_n hx hb dX2_isWord_45 rfl (lv_at hl 3 rfl) ?_
        refine lv_iadd hx hb dX2_isWord_46 ?_
        refine lv_topi (fun v14 ev14 => ?_)
        try have tv14 : v14.toInt = v13.toInt + q2_2.toInt := by rw [ev14]; exact (i_add (x := v13) (y := q2_2) (by omega) (by omega))
        refine st_i1 (va_runV (C := RJ0) (As := [.int v14]) (rest := [.int 32]) ⟨hx, hb, hml, hown, hts⟩ (ct_charAt l D cI cY cJ cQ _ aK aV v14 (by omega) (by omega)) (cwV 1 hts gX2_isWord_J0_charAt_5068e rfl rfl rfl ⟨rfl, cdJ0_charAt_5068e⟩ ⟨Nat.le_of_ble_eq_true rfl, Nat.le_of_ble_eq_true rfl⟩) (cPreTK hK hN hS (va_free (wc := []) hD hS hA [] rfl) hT) rfl rfl hl.1 rfl (lv_room (Nat.le_of_ble_eq_true rfl)) dX2_isWord_47 ⟨Nat.le_of_ble_eq_true rfl, Nat.le_of_ble_eq_true rfl⟩) hP hD hS hA [] rfl (fun _ => rfl) (fun r17 u15 H locs hw16 => ?_)
        clear hP hS
        intro hP hS
        replace hw16 : r17 = wch v14 := hw16
        have clc18 := i_cl (x := bs) (by omega)
        have clc19 := i_cl (x := be) (by omega)
        have clc20 := i_cl (x := w) (by omega)
        have clc21 := i_cl (x := q2_2) (by omega)
        have hc9 := wchT (a := v14) (n := 6 * w.toNatClampNeg + q2_2.toNatClampNeg) (by omega) (by omega) (by omega)
        rw [← hw16] at hc9
        have hl9 : (if bs.toNatClampNeg + q2_2.toNatClampNeg < be.toNatClampNeg then (tp (bs.toNatClampNeg + q2_2.toNatClampNeg)).toInt else 32) = (32 : Int32).toInt := by rw [if_neg (by omega)]; decide
        refine lv_icmp_eq (tgt := 55) hx hb dX2_isWord_50 (by decide) (fun c22 => ?_) (fun c22 => ?_)
        · skip
          have f23 := i_eq c22
          obtain ⟨v24, ev24⟩ : ∃ y : Int32, y = q2_2 + 1 := ⟨_, rfl⟩
          try have tv24 : v24.toInt = q2_2.toInt + 1 := by rw [ev24]; exact (i_add (x := q2_2) (y := (1 : Int32)) (by rw [k1]; omega) (by rw [k1]; omega)).trans (by rw [k1])
          refine lv_iinc (v := v24) (lv' := [(2, .int v24), (3, .int 32), (0, .ref (ad 6)), (1, .int w)]) hx hb dX2_isWord_55 hl (k := 3) rfl (by rw [ev24]; rfl) (by decide) rfl (fun ls hl => ?_)
          refine lv_goto (tgt := 2) hx hb dX2_isWord_58 (by decide) ?_
          exact ih4 v24 ls H locs ⟨(by omega), (by omega), (by exact fun k9 hk9 => if e9 : k9 = q2_2.toNatClampNeg then (by rw [e9, hl9]; omega) else g3 k9 (by omega)), lv_sub hl [2, 3, 0] rfl, hP.sub [0, 1] rfl, hD.sub [0, 1] (by decide +kernel) rfl, hS⟩ (by show 6 - v24.toInt < _; omega)
        · skip
          have f25 := i_ne c22
          refine lv_iconst (v := 0) hx hb dX2_isWord_53 (by decide) ?_
          have hP9 := hP
          have hD9 := hD
          exact W.zret (v := 0) hx hb hr rfl (fun t ht hW => ⟨⟨0, (), rfl, bo_no (fun h9 => by have h8 := h9 q2_2.toNatClampNeg (by omega); rw [hl9] at h8; omega), by rw [ht]; exact hP9, va_K.moved hW.alike hK, hD9⟩, hS.F ht⟩) hS.2.2 dX2_isWord_54
      · skip
        have f26 := i_nle c11
        refine lv_aload_n hx hb dX2_isWord_21 rfl (lv_at hl 0 rfl) ?_
        refine va_get (D := D) (ci := 2) (v := .ref (ad 47)) (C := RX2) (T := TX2) (N := 15) hx hb hts inX2_isWord_X2 hown hK hP 0 rfl rfl 0 (by decide) (hts (Cond.fieldLink RX2 11 "PortRooms$Duties" "tape" "[B") (wm_t (wm_l (wm_i 2 rfl)))) (fun _ h9 => h9) rfl dX2_isWord_22 ?_
        refine lv_aload_n hx hb dX2_isWord_25 rfl (lv_at hl 0 rfl) ?_
        refine va_get (D := D) (ci := 2) (v := .int bs) (C := RX2) (T := TX2) (N := 15) hx hb hts inX2_isWord_X2 hown hK hP 0 rfl rfl 11 (by decide) (hts (Cond.fieldLink RX2 61 "PortRooms$Duties" "start" "I") (wm_t (wm_l (wm_i 0 rfl)))) (fun _ h9 => h9) rfl dX2_isWord_26 ?_
        refine lv_iload_n hx hb dX2_isWord_29 rfl (lv_at hl 2 rfl) ?_
        refine lv_iadd hx hb dX2_isWord_30 ?_
        refine lv_topi (fun v27 ev27 => ?_)
        try have tv27 : v27.toInt = bs.toInt + q2_2.toInt := by rw [ev27]; exact (i_add (x := bs) (y := q2_2) (by omega) (by omega))
        refine va_bald hx hb hK hP 1 1 rfl rfl (i_in (by omega) (by omega)) dX2_isWord_31 ?_
        refine lv_topi (fun v28 ev28 => ?_)
        have tlv28 : v28.toInt = (tp v27.toNatClampNeg).toInt := by rw [ev28]
        refine lv_goto (tgt := 37) hx hb dX2_isWord_32 (by decide) ?_
        refine lv_istore_n (lv' := [(3, .int v28), (0, .ref (ad 6)), (1, .int w), (2, .int q2_2)]) hx hb dX2_isWord_37 rfl hl (by decide) rfl (fun ls hl => ?_)
        refine lv_iload_n hx hb dX2_isWord_38 rfl (lv_at hl 0 rfl) ?_
        refine va_ldcS hx hb hown hT.1 dX2_isWord_39 ?_
        refine lv_iload_n hx hb dX2_isWord_41 rfl (lv_at hl 2 rfl) ?_
        refine lv_bipush (v := 6) hx hb dX2_isWord_42 (by decide) ?_
        refine lv_imul hx hb dX2_isWord_44 ?_
        refine lv_topi (fun v29 ev29 => ?_)
        try have tv29 : v29.toInt = w.toInt * 6 := by rw [ev29]; exact (i_mul (x := w) (y := (6 : Int32)) (by rw [k6]; omega) (by rw [k6]; omega)).trans (by rw [k6])
        refine lv_iload_n hx hb dX2_isWord_45 rfl (lv_at hl 3 rfl) ?_
        refine lv_iadd hx hb dX2_isWord_46 ?_
        refine lv_topi (fun v30 ev30 => ?_)
        try have tv30 : v30.toInt = v29.toInt + q2_2.toInt := by rw [ev30]; exact (i_add (x := v29) (y := q2_2) (by omega) (by omega))
        refine st_i1 (va_runV (C := RJ0) (As := [.int v30]) (rest := [.int v28]) ⟨hx, hb, hml, hown, hts⟩ (ct_charAt l D cI cY cJ cQ _ aK aV v30 (by omega) (by omega)) (cwV 1 hts gX2_isWord_J0_charAt_5068e rfl rfl rfl ⟨rfl, cdJ0_charAt_5068e⟩ ⟨Nat.le_of_ble_eq_true rfl, Nat.le_of_ble_eq_true rfl⟩) (cPreTK hK hN hS (va_free (wc := []) hD hS hA [] rfl) hT) rfl rfl hl.1 rfl (lv_room (Nat.le_of_ble_eq_true rfl)) dX2_isWord_47 ⟨Nat.le_of_ble_eq_true rfl, Nat.le_of_ble_eq_true rfl⟩) hP hD hS hA [] rfl (fun _ => rfl) (fun r33 u31 H locs hw32 => ?_)
        clear hP hS
        intro hP hS
        replace hw32 : r33 = wch v30 := hw32
        have clc34 := i_cl (x := bs) (by omega)
        have clc35 := i_cl (x := be) (by omega)
        have clc36 := i_cl (x := w) (by omega)
        have clc37 := i_cl (x := q2_2) (by omega)
        have hc9 := wchT (a := v30) (n := 6 * w.toNatClampNeg + q2_2.toNatClampNeg) (by omega) (by omega) (by omega)
        rw [← hw32] at hc9
        have clc38 := i_cl (x := v27) (by omega)
        have hl9 : (if bs.toNatClampNeg + q2_2.toNatClampNeg < be.toNatClampNeg then (tp (bs.toNatClampNeg + q2_2.toNatClampNeg)).toInt else 32) = v28.toInt := by rw [if_pos (by omega), ev28]; congr 2; omega
        refine lv_icmp_eq (tgt := 55) hx hb dX2_isWord_50 (by decide) (fun c39 => ?_) (fun c39 => ?_)
        · skip
          have f40 := i_eq c39
          obtain ⟨v41, ev41⟩ : ∃ y : Int32, y = q2_2 + 1 := ⟨_, rfl⟩
          try have tv41 : v41.toInt = q2_2.toInt + 1 := by rw [ev41]; exact (i_add (x := q2_2) (y := (1 : Int32)) (by rw [k1]; omega) (by rw [k1]; omega)).trans (by rw [k1])
          refine lv_iinc (v := v41) (lv' := [(2, .int v41), (3, .int v28), (0, .ref (ad 6)), (1, .int w)]) hx hb dX2_isWord_55 hl (k := 3) rfl (by rw [ev41]; rfl) (by decide) rfl (fun ls hl => ?_)
          refine lv_goto (tgt := 2) hx hb dX2_isWord_58 (by decide) ?_
          exact ih4 v41 ls H locs ⟨(by omega), (by omega), (by exact fun k9 hk9 => if e9 : k9 = q2_2.toNatClampNeg then (by rw [e9, hl9]; omega) else g3 k9 (by omega)), lv_sub hl [2, 3, 0] rfl, hP.sub [0, 1] rfl, hD.sub [0, 1] (by decide +kernel) rfl, hS⟩ (by show 6 - v41.toInt < _; omega)
        · skip
          have f42 := i_ne c39
          refine lv_iconst (v := 0) hx hb dX2_isWord_53 (by decide) ?_
          have hP9 := hP
          have hD9 := hD
          exact W.zret (v := 0) hx hb hr rfl (fun t ht hW => ⟨⟨0, (), rfl, bo_no (fun h9 => by have h8 := h9 q2_2.toNatClampNeg (by omega); rw [hl9] at h8; omega), by rw [ht]; exact hP9, va_K.moved hW.alike hK, hD9⟩, hS.F ht⟩) hS.2.2 dX2_isWord_54

set_option maxHeartbeats 4000000 in
set_option maxRecDepth 100000 in
theorem ct_X2_readName (l : Launch) (D : va_G) (cI cY cJ cQ : ClassId) (sz : Nat) (aK aV : Nat) (ad : Nat → Nat) (ln lfa dl dr bs be tk nb : Int32) (tp : Nat → Int32)  (h1 : 0 ≤ ln.toInt) (h2 : ln.toInt ≤ 300) (h3 : 0 ≤ bs.toInt) (h4 : bs.toInt ≤ be.toInt) (h5 : be.toInt ≤ ln.toInt)  : Met l yX2_readName wsX2_readName ({ frames := 5, cells := 0, slots := 0, locals := 108 }) (cPreT aK aV D (ty4 cI cY cJ cQ) [(oC2 ad ln lfa dl dr bs be tk nb), (aI cY (ad 47) 300 tp)] sz [.ref (ad 6)]) (va_Qv (fun (u : Int32 × Int32) => be.toInt ≤ u.1.toInt ∧ u.1.toInt ≤ ln.toInt ∧ u.1.toNatClampNeg = runTo leB tp ln.toNatClampNeg be.toNatClampNeg ∧ u.2.toInt = (if bs.toNatClampNeg + 6 < u.1.toNatClampNeg then 9 else wdK tp bs.toNatClampNeg u.1.toNatClampNeg 5)) (cB D (ty4 cI cY cJ cQ) (fun (u : Int32 × Int32) => [(oC2 ad ln lfa dl dr bs u.1 u.2 nb), (aI cY (ad 47) 300 tp)]) (va_A [(oC2 ad ln lfa dl dr bs be tk nb), (aI cY (ad 47) 300 tp)] sz)) (va_A [(oC2 ad ln lfa dl dr bs be tk nb), (aI cY (ad 47) 300 tp)] sz)) 0 0 (va_A [(oC2 ad ln lfa dl dr bs be tk nb), (aI cY (ad 47) 300 tp)] sz) := by
  refine Met.ofW (cc := cX2_readName) (maxL := 2) (ret := none) (by decide) rfl ?_
  intro p e s m args below meth c s₁ B hml hv
  obtain ⟨rfl, hsz, hP, hK, hD0, hN, hT⟩ := hv
  have hx := B.exec
  have hb := B.bytes
  have hr := B.returns
  have hts := atoms_spec (ws := wsX2_readName) B.pre
  have hown : s.vm.findClass RX2 = some m.cls := findClass_of_methodNamed B.named
  have hlocks := B.notSynchronized
  subst hsz
  have hD := hD0.self (sz := s.heap.size)
  generalize hAe : va_A [(oC2 ad ln lfa dl dr bs be tk nb), (aI cY (ad 47) 300 tp)] s.heap.size = A at hD hT ⊢
  have hA : ∀ q : Nat, s.heap.size ≤ q → A q := fun q h => by rw [← hAe]; exact Or.inr h
  have hS : va_S A s.heap s.heap [] := va_S.rf
  have hP : va_P D vwCl [(oC2 ad ln lfa dl dr bs be tk nb), (aI cY (ad 47) 300 tp)] s.heap := hP
  have hl := lv_entry ([.ref (ad 6)]) (n := 2) (Nat.le_of_ble_eq_true rfl)
  rw [lg_entry_eq]
  generalize (lg_sl ([.ref (ad 6)]) ++ List.replicate (2 - (lg_sl ([.ref (ad 6)])).length) Slot.unset).toArray = ls at hl ⊢
  have hl : lv_has ls 2 [(0, .ref (ad 6))] := hl
  have k0 : (0 : Int32).toInt = 0 := by decide
  have k1 : (1 : Int32).toInt = 1 := by decide
  have k4 : (4 : Int32).toInt = 4 := by decide
  have k5 : (5 : Int32).toInt = 5 := by decide
  have k6 : (6 : Int32).toInt = 6 := by decide
  have k9 : (9 : Int32).toInt = 9 := by decide
  refine st_loop 0 (fun _ => []) (fun (beq : Int32) (ls : Array Slot) (H : Heap) (locs : List Loc) => (be.toInt ≤ beq.toInt) ∧ (beq.toInt ≤ ln.toInt) ∧ (runTo leB tp ln.toNatClampNeg beq.toNatClampNeg = runTo leB tp ln.toNatClampNeg be.toNatClampNeg) ∧ lv_has ls 2 [(0, .ref (ad 6))] ∧ va_P D vwCl [(oC2 ad ln lfa dl dr bs beq tk nb), (aI cY (ad 47) 300 tp)] H ∧ va_D A [(oC2 ad ln lfa dl dr bs beq tk nb), (aI cY (ad 47) 300 tp)] ∧ va_S A s.heap H locs) (fun (beq : Int32) => ln.toInt - beq.toInt) ?_ ?_ be ⟨(by omega), (by omega), (by rfl), lv_sub hl [0] rfl, hP, hD, hS⟩
  · rintro beq ls H locs ⟨g1, g2, g3, hl, hP, hD, hS⟩
    show (0 : Int) ≤ ln.toInt - beq.toInt
    omega
  · rintro n6 ih4 beq ls H locs ⟨g1, g2, g3, hl, hP, hD, hS⟩ hm5
    have hm5 : ln.toInt - beq.toInt < (n6 : Int) + 1 := hm5
    replace hl : lv_has ls 2 [(0, .ref (ad 6))] := hl
    replace hP : va_P D vwCl [(oC2 ad ln lfa dl dr bs beq tk nb), (aI cY (ad 47) 300 tp)] H := hP
    replace hD : va_D A [(oC2 ad ln lfa dl dr bs beq tk nb), (aI cY (ad 47) 300 tp)] := hD
    show W _ _ _ _ _ _ _ _ _ _ _ _ _ _ _ (F0 m 0 ls [])
    refine lv_aload_n hx hb dX2_readName_0 rfl (lv_at hl 0 rfl) ?_
    refine va_get (D := D) (ci := 2) (v := .int beq) (C := RX2) (T := TX2) (N := 15) hx hb hts inX2_readName_X2 hown hK hP 0 rfl rfl 12 (by decide) (hts (Cond.fieldLink RX2 38 "PortRooms$Duties" "end" "I") (wm_t (wm_l (wm_i 0 rfl)))) (fun _ h9 => h9) rfl dX2_readName_1 ?_
    refine lv_aload_n hx hb dX2_readName_4 rfl (lv_at hl 0 rfl) ?_
    refine va_get (D := D) (ci := 2) (v := .int ln) (C := RX2) (T := TX2) (N := 15) hx hb hts inX2_readName_X2 hown hK hP 0 rfl rfl 1 (by decide) (hts (Cond.fieldLink RX2 34 "PortRooms$Duties" "length" "I") (wm_t (wm_l (wm_i 1 rfl)))) (fun _ h9 => h9) rfl dX2_readName_5 ?_
    refine lv_icmp_ge (tgt := 39) hx hb dX2_readName_8 (by decide) (fun c7 => ?_) (fun c7 => ?_)
    · skip
      have f8 := i_le c7
      have clc9 := i_cl (x := ln) (by omega)
      have clc10 := i_cl (x := beq) (by omega)
      have clc11 := i_cl (x := bs) (by omega)
      have he9 : runTo leB tp ln.toNatClampNeg be.toNatClampNeg = beq.toNatClampNeg := g3.symm.trans (le_out (by omega))
      refine lv_aload_n hx hb dX2_readName_39 rfl (lv_at hl 0 rfl) ?_
      refine lv_bipush (v := 9) hx hb dX2_readName_40 (by decide) ?_
      refine va_put (D := D) (ci := 2) (v := .int 9) (ty := .int) (C := RX2) (T := TX2) (N := 15) hx hb hts inX2_readName_X2 tyX2 tyX2_ok nmX2 hown hK hP hD hS 0 rfl rfl 13 (by decide) (hts (Cond.fieldLink RX2 47 "PortRooms$Duties" "token" "I") (wm_t (wm_l (wm_i 3 rfl)))) (fun _ h9 => h9) rfl (tyX2_ok 13 (by decide)) rfl rfl (Nat.le_of_ble_eq_true rfl) dX2_readName_42 (fun H locs => ?_)
      clear hP hD hS
      intro hP hD hS
      replace hP : va_P D vwCl [(oC2 ad ln lfa dl dr bs beq (9) nb), (aI cY (ad 47) 300 tp)] H := hP
      replace hD : va_D A [(oC2 ad ln lfa dl dr bs beq (9) nb), (aI cY (ad 47) 300 tp)] := hD
      refine lv_aload_n hx hb dX2_readName_45 rfl (lv_at hl 0 rfl) ?_
      refine va_get (D := D) (ci := 2) (v := .int beq) (C := RX2) (T := TX2) (N := 15) hx hb hts inX2_readName_X2 hown hK hP 0 rfl rfl 12 (by decide) (hts (Cond.fieldLink RX2 38 "PortRooms$Duties" "end" "I") (wm_t (wm_l (wm_i 0 rfl)))) (fun _ h9 => h9) rfl dX2_readName_46 ?_
      refine lv_aload_n hx hb dX2_readName_49 rfl (lv_at hl 0 rfl) ?_
      refine va_get (D := D) (ci := 2) (v := .int bs) (C := RX2) (T := TX2) (N := 15) hx hb hts inX2_readName_X2 hown hK hP 0 rfl rfl 11 (by decide) (hts (Cond.fieldLink RX2 61 "PortRooms$Duties" "start" "I") (wm_t (wm_l (wm_i 4 rfl)))) (fun _ h9 => h9) rfl dX2_readName_50 ?_
      refine lv_isub hx hb dX2_readName_53 ?_
      refine lv_topi (fun v12 ev12 => ?_)
      try have tv12 : v12.toInt = beq.toInt - bs.toInt := by rw [ev12]; exact (i_sub (x := beq) (y := bs) (by omega) (by omega))
      refine lv_bipush (v := 6) hx hb dX2_readName_54 (by decide) ?_
      refine lv_icmp_le (tgt := 60) hx hb dX2_readName_56 (by decide) (fun c13 => ?_) (fun c13 => ?_)
      · skip
        have f14 := i_le c13
        refine lv_iconst (v := 0) hx hb dX2_readName_60 (by decide) ?_
        refine lv_istore_n (lv' := [(1, .int 0), (0, .ref (ad 6))]) hx hb dX2_readName_61 rfl hl (by decide) rfl (fun ls hl => ?_)
        refine st_loop 62 (fun _ => []) (fun (z : Int32 × Int32) (ls : Array Slot) (H : Heap) (locs : List Loc) => match z with | (q62_1, tkq) => (0 ≤ q62_1.toInt) ∧ (q62_1.toInt ≤ 5) ∧ (tkq.toInt = wdK tp bs.toNatClampNeg beq.toNatClampNeg q62_1.toNatClampNeg) ∧ lv_has ls 2 [(0, .ref (ad 6)), (1, .int q62_1)] ∧ va_P D vwCl [(oC2 ad ln lfa dl dr bs beq tkq nb), (aI cY (ad 47) 300 tp)] H ∧ va_D A [(oC2 ad ln lfa dl dr bs beq tkq nb), (aI cY (ad 47) 300 tp)] ∧ va_S A s.heap H locs) (fun (z : Int32 × Int32) => match z with | (q62_1, tkq) => 5 - q62_1.toInt) ?_ ?_ ((0 : Int32), (9 : Int32)) ⟨(by omega), (by omega), (by rfl), lv_sub hl [1, 0] rfl, hP, hD, hS⟩
        · rintro ⟨q62_1, tkq⟩ ls H locs ⟨g15, g16, g17, hl, hP, hD, hS⟩
          show (0 : Int) ≤ 5 - q62_1.toInt
          omega
        · rintro n20 ih18 ⟨q62_1, tkq⟩ ls H locs ⟨g15, g16, g17, hl, hP, hD, hS⟩ hm19
          have hm19 : 5 - q62_1.toInt < (n20 : Int) + 1 := hm19
          replace hl : lv_has ls 2 [(0, .ref (ad 6)), (1, .int q62_1)] := hl
          replace hP : va_P D vwCl [(oC2 ad ln lfa dl dr bs beq tkq nb), (aI cY (ad 47) 300 tp)] H := hP
          replace hD : va_D A [(oC2 ad ln lfa dl dr bs beq tkq nb), (aI cY (ad 47) 300 tp)] := hD
          show W _ _ _ _ _ _ _ _ _ _ _ _ _ _ _ (F0 m 62 ls [])
          refine lv_iload_n hx hb dX2_readName_62 rfl (lv_at hl 1 rfl) ?_
          refine lv_iconst (v := 4) hx hb dX2_readName_63 (by decide) ?_
          refine lv_icmp_gt (tgt := 86) hx hb dX2_readName_64 (by decide) (fun c21 => ?_) (fun c21 => ?_)
          · skip
            have f22 := i_lt c21
            have ce9 := i_cl (x := q62_1) (by omega)
            have ee9 : q62_1.toNatClampNeg = 5 := by omega
            have hz9 := g17
            rw [ee9] at hz9
            have hP9 := hP
            have hD9 := hD
            exact W.vret hx hb hr (fun t ht hW => ⟨⟨(beq, tkq), rfl, (by show be.toInt ≤ beq.toInt ∧ beq.toInt ≤ ln.toInt ∧ beq.toNatClampNeg = runTo leB tp ln.toNatClampNeg be.toNatClampNeg ∧ tkq.toInt = (if bs.toNatClampNeg + 6 < beq.toNatClampNeg then 9 else wdK tp bs.toNatClampNeg beq.toNatClampNeg 5); exact ⟨by omega, by omega, he9.symm, by rw [if_neg (by omega)]; exact hz9⟩), by rw [ht]; exact hP9, va_K.moved hW.alike hK, hD9⟩, hS.F ht⟩) hS.2.2 dX2_readName_86
          · skip
            have f23 := i_nlt c21
            refine lv_aload_n hx hb dX2_readName_67 rfl (lv_at hl 0 rfl) ?_
            refine lv_iload_n hx hb dX2_readName_68 rfl (lv_at hl 1 rfl) ?_
            refine st_i1 (va_runV (C := RX2) (As := [.int q62_1]) (rest := []) ⟨hx, hb, hml, hown, hts⟩ (ct_X2_isWord l D cI cY cJ cQ _ aK aV ad ln lfa dl dr bs beq tkq nb tp q62_1 h1 h2 h3 (by omega) (by omega) (by omega) (by omega)) (cwV 1 hts gX2_readName_X2_isWord rfl rfl rfl ⟨rfl, cdX2_isWord⟩ ⟨Nat.le_of_ble_eq_true rfl, Nat.le_of_ble_eq_true rfl⟩) (cPreTV (hP.sub [0, 1] rfl) hK (hD.sub [0, 1] (by decide +kernel) rfl) hN hS (va_free hD hS hA [0, 1] rfl) hT (ci := 2) (q0 := 0) rfl rfl) rfl rfl hl.1 rfl (lv_room (Nat.le_of_ble_eq_true rfl)) dX2_readName_69 ⟨Nat.le_of_ble_eq_true rfl, Nat.le_of_ble_eq_true rfl⟩) hP hD hS hA [0, 1] rfl (fun _ => rfl) (fun r26 u24 H locs hw25 => ?_)
            clear hP hS
            intro hP hS
            replace hw25 : r26 = if wdIs tp bs.toNatClampNeg beq.toNatClampNeg q62_1.toNatClampNeg then 1 else 0 := hw25
            refine lv_if_eq (tgt := 80) hx hb dX2_readName_72 (by decide) (fun c27 => ?_) (fun c27 => ?_)
            · skip
              have f28 := bo_f hw25 c27
              obtain ⟨v29, ev29⟩ : ∃ y : Int32, y = q62_1 + 1 := ⟨_, rfl⟩
              try have tv29 : v29.toInt = q62_1.toInt + 1 := by rw [ev29]; exact (i_add (x := q62_1) (y := (1 : Int32)) (by rw [k1]; omega) (by rw [k1]; omega)).trans (by rw [k1])
              refine lv_iinc (v := v29) (lv' := [(1, .int v29), (0, .ref (ad 6))]) hx hb dX2_readName_80 hl (k := 1) rfl (by rw [ev29]; rfl) (by decide) rfl (fun ls hl => ?_)
              refine lv_goto (tgt := 62) hx hb dX2_readName_83 (by decide) ?_
              have clc30 := i_cl (x := q62_1) (by omega)
              have clc31 := i_cl (x := v29) (by omega)
              exact ih18 (v29, tkq) ls H locs ⟨(by omega), (by omega), (by rw [show v29.toNatClampNeg = q62_1.toNatClampNeg + 1 by omega, wdK_s]; first | (rw [if_pos (by assumption)]; omega) | (rw [if_neg (by assumption)]; exact g17)), lv_sub hl [1, 0] rfl, hP.sub [0, 1] rfl, hD.sub [0, 1] (by decide +kernel) rfl, hS⟩ (by show 5 - v29.toInt < _; omega)
            · skip
              have f32 := bo_t hw25 c27
              refine lv_aload_n hx hb dX2_readName_75 rfl (lv_at hl 0 rfl) ?_
              refine lv_iload_n hx hb dX2_readName_76 rfl (lv_at hl 1 rfl) ?_
              refine va_put (D := D) (ci := 2) (v := .int q62_1) (ty := .int) (C := RX2) (T := TX2) (N := 15) hx hb hts inX2_readName_X2 tyX2 tyX2_ok nmX2 hown hK hP hD hS 0 rfl rfl 13 (by decide) (hts (Cond.fieldLink RX2 47 "PortRooms$Duties" "token" "I") (wm_t (wm_l (wm_i 3 rfl)))) (fun _ h9 => h9) rfl (tyX2_ok 13 (by decide)) rfl rfl (Nat.le_of_ble_eq_true rfl) dX2_readName_77 (fun H locs => ?_)
              clear hP hD hS
              intro hP hD hS
              replace hP : va_P D vwCl [(oC2 ad ln lfa dl dr bs beq q62_1 nb), (aI cY (ad 47) 300 tp)] H := hP
              replace hD : va_D A [(oC2 ad ln lfa dl dr bs beq q62_1 nb), (aI cY (ad 47) 300 tp)] := hD
              obtain ⟨v33, ev33⟩ : ∃ y : Int32, y = q62_1 + 1 := ⟨_, rfl⟩
              try have tv33 : v33.toInt = q62_1.toInt + 1 := by rw [ev33]; exact (i_add (x := q62_1) (y := (1 : Int32)) (by rw [k1]; omega) (by rw [k1]; omega)).trans (by rw [k1])
              refine lv_iinc (v := v33) (lv' := [(1, .int v33), (0, .ref (ad 6))]) hx hb dX2_readName_80 hl (k := 1) rfl (by rw [ev33]; rfl) (by decide) rfl (fun ls hl => ?_)
              refine lv_goto (tgt := 62) hx hb dX2_readName_83 (by decide) ?_
              have clc34 := i_cl (x := q62_1) (by omega)
              have clc35 := i_cl (x := v33) (by omega)
              exact ih18 (v33, q62_1) ls H locs ⟨(by omega), (by omega), (by rw [show v33.toNatClampNeg = q62_1.toNatClampNeg + 1 by omega, wdK_s]; first | (rw [if_pos (by assumption)]; omega) | (rw [if_neg (by assumption)]; exact g17)), lv_sub hl [1, 0] rfl, hP.sub [0, 1] rfl, hD.sub [0, 1] (by decide +kernel) rfl, hS⟩ (by show 5 - v33.toInt < _; omega)
      · skip
        have f36 := i_nle c13
        have hP9 := hP
        have hD9 := hD
        exact W.vret hx hb hr (fun t ht hW => ⟨⟨(beq, 9), rfl, (by show be.toInt ≤ beq.toInt ∧ beq.toInt ≤ ln.toInt ∧ beq.toNatClampNeg = runTo leB tp ln.toNatClampNeg be.toNatClampNeg ∧ (9 : Int32).toInt = (if bs.toNatClampNeg + 6 < beq.toNatClampNeg then 9 else wdK tp bs.toNatClampNeg beq.toNatClampNeg 5); exact ⟨by omega, by omega, he9.symm, by rw [k9, if_pos (by omega)]⟩), by rw [ht]; exact hP9, va_K.moved hW.alike hK, hD9⟩, hS.F ht⟩) hS.2.2 dX2_readName_59
    · skip
      have f37 := i_nle c7
      refine lv_aload_n hx hb dX2_readName_11 rfl (lv_at hl 0 rfl) ?_
      refine va_get (D := D) (ci := 2) (v := .ref (ad 47)) (C := RX2) (T := TX2) (N := 15) hx hb hts inX2_readName_X2 hown hK hP 0 rfl rfl 0 (by decide) (hts (Cond.fieldLink RX2 11 "PortRooms$Duties" "tape" "[B") (wm_t (wm_l (wm_i 2 rfl)))) (fun _ h9 => h9) rfl dX2_readName_12 ?_
      refine lv_aload_n hx hb dX2_readName_15 rfl (lv_at hl 0 rfl) ?_
      refine va_get (D := D) (ci := 2) (v := .int beq) (C := RX2) (T := TX2) (N := 15) hx hb hts inX2_readName_X2 hown hK hP 0 rfl rfl 12 (by decide) (hts (Cond.fieldLink RX2 38 "PortRooms$Duties" "end" "I") (wm_t (wm_l (wm_i 0 rfl)))) (fun _ h9 => h9) rfl dX2_readName_16 ?_
      refine va_bald hx hb hK hP 1 1 rfl rfl (i_in (by omega) (by omega)) dX2_readName_19 ?_
      refine lv_topi (fun v38 ev38 => ?_)
      have tlv38 : v38.toInt = (tp beq.toNatClampNeg).toInt := by rw [ev38]
      refine st_i1 (va_runS (As := [.int v38]) (rest := []) ⟨hx, hb, hml, hown, hts⟩ (ct_X2_isLetter l D cI cY cJ cQ _ v38) (va_cwS 1 hts gX2_readName_X2_isLetter rfl rfl rfl cdX2_isLetter ⟨Nat.le_of_ble_eq_true rfl, Nat.le_of_ble_eq_true rfl⟩) (cPreS (hP.sub [] rfl) hK (hD.sub [] (by decide +kernel) rfl) hN) rfl rfl hl.1 rfl (lv_room (Nat.le_of_ble_eq_true rfl)) dX2_readName_20 ⟨Nat.le_of_ble_eq_true rfl, Nat.le_of_ble_eq_true rfl⟩) hP hD hS hA [] rfl (fun _ => rfl) (fun r41 u39 H locs hw40 => ?_)
      clear hP hS
      intro hP hS
      replace hw40 : r41 = if 97 ≤ v38.toInt ∧ v38.toInt ≤ 122 then 1 else 0 := hw40
      refine lv_if_eq (tgt := 39) hx hb dX2_readName_23 (by decide) (fun c42 => ?_) (fun c42 => ?_)
      · skip
        have f43 := bo_f hw40 c42
        have clc44 := i_cl (x := ln) (by omega)
        have clc45 := i_cl (x := beq) (by omega)
        have clc46 := i_cl (x := bs) (by omega)
        have he9 : runTo leB tp ln.toNatClampNeg be.toNatClampNeg = beq.toNatClampNeg := g3.symm.trans (le_out (by omega))
        refine lv_aload_n hx hb dX2_readName_39 rfl (lv_at hl 0 rfl) ?_
        refine lv_bipush (v := 9) hx hb dX2_readName_40 (by decide) ?_
        refine va_put (D := D) (ci := 2) (v := .int 9) (ty := .int) (C := RX2) (T := TX2) (N := 15) hx hb hts inX2_readName_X2 tyX2 tyX2_ok nmX2 hown hK hP hD hS 0 rfl rfl 13 (by decide) (hts (Cond.fieldLink RX2 47 "PortRooms$Duties" "token" "I") (wm_t (wm_l (wm_i 3 rfl)))) (fun _ h9 => h9) rfl (tyX2_ok 13 (by decide)) rfl rfl (Nat.le_of_ble_eq_true rfl) dX2_readName_42 (fun H locs => ?_)
        clear hP hD hS
        intro hP hD hS
        replace hP : va_P D vwCl [(oC2 ad ln lfa dl dr bs beq (9) nb), (aI cY (ad 47) 300 tp)] H := hP
        replace hD : va_D A [(oC2 ad ln lfa dl dr bs beq (9) nb), (aI cY (ad 47) 300 tp)] := hD
        refine lv_aload_n hx hb dX2_readName_45 rfl (lv_at hl 0 rfl) ?_
        refine va_get (D := D) (ci := 2) (v := .int beq) (C := RX2) (T := TX2) (N := 15) hx hb hts inX2_readName_X2 hown hK hP 0 rfl rfl 12 (by decide) (hts (Cond.fieldLink RX2 38 "PortRooms$Duties" "end" "I") (wm_t (wm_l (wm_i 0 rfl)))) (fun _ h9 => h9) rfl dX2_readName_46 ?_
        refine lv_aload_n hx hb dX2_readName_49 rfl (lv_at hl 0 rfl) ?_
        refine va_get (D := D) (ci := 2) (v := .int bs) (C := RX2) (T := TX2) (N := 15) hx hb hts inX2_readName_X2 hown hK hP 0 rfl rfl 11 (by decide) (hts (Cond.fieldLink RX2 61 "PortRooms$Duties" "start" "I") (wm_t (wm_l (wm_i 4 rfl)))) (fun _ h9 => h9) rfl dX2_readName_50 ?_
        refine lv_isub hx hb dX2_readName_53 ?_
        refine lv_topi (fun v47 ev47 => ?_)
        try have tv47 : v47.toInt = beq.toInt - bs.toInt := by rw [ev47]; exact (i_sub (x := beq) (y := bs) (by omega) (by omega))
        refine lv_bipush (v := 6) hx hb dX2_readName_54 (by decide) ?_
        refine lv_icmp_le (tgt := 60) hx hb dX2_readName_56 (by decide) (fun c48 => ?_) (fun c48 => ?_)
        · skip
          have f49 := i_le c48
          refine lv_iconst (v := 0) hx hb dX2_readName_60 (by decide) ?_
          refine lv_istore_n (lv' := [(1, .int 0), (0, .ref (ad 6))]) hx hb dX2_readName_61 rfl hl (by decide) rfl (fun ls hl => ?_)
          refine st_loop 62 (fun _ => []) (fun (z : Int32 × Int32) (ls : Array Slot) (H : Heap) (locs : List Loc) => match z with | (q62_1, tkq) => (0 ≤ q62_1.toInt) ∧ (q62_1.toInt ≤ 5) ∧ (tkq.toInt = wdK tp bs.toNatClampNeg beq.toNatClampNeg q62_1.toNatClampNeg) ∧ lv_has ls 2 [(0, .ref (ad 6)), (1, .int q62_1)] ∧ va_P D vwCl [(oC2 ad ln lfa dl dr bs beq tkq nb), (aI cY (ad 47) 300 tp)] H ∧ va_D A [(oC2 ad ln lfa dl dr bs beq tkq nb), (aI cY (ad 47) 300 tp)] ∧ va_S A s.heap H locs) (fun (z : Int32 × Int32) => match z with | (q62_1, tkq) => 5 - q62_1.toInt) ?_ ?_ ((0 : Int32), (9 : Int32)) ⟨(by omega), (by omega), (by rfl), lv_sub hl [1, 0] rfl, hP, hD, hS⟩
          · rintro ⟨q62_1, tkq⟩ ls H locs ⟨g50, g51, g52, hl, hP, hD, hS⟩
            show (0 : Int) ≤ 5 - q62_1.toInt
            omega
          · rintro n55 ih53 ⟨q62_1, tkq⟩ ls H locs ⟨g50, g51, g52, hl, hP, hD, hS⟩ hm54
            have hm54 : 5 - q62_1.toInt < (n55 : Int) + 1 := hm54
            replace hl : lv_has ls 2 [(0, .ref (ad 6)), (1, .int q62_1)] := hl
            replace hP : va_P D vwCl [(oC2 ad ln lfa dl dr bs beq tkq nb), (aI cY (ad 47) 300 tp)] H := hP
            replace hD : va_D A [(oC2 ad ln lfa dl dr bs beq tkq nb), (aI cY (ad 47) 300 tp)] := hD
            show W _ _ _ _ _ _ _ _ _ _ _ _ _ _ _ (F0 m 62 ls [])
            refine lv_iload_n hx hb dX2_readName_62 rfl (lv_at hl 1 rfl) ?_
            refine lv_iconst (v := 4) hx hb dX2_readName_63 (by decide) ?_
            refine lv_icmp_gt (tgt := 86) hx hb dX2_readName_64 (by decide) (fun c56 => ?_) (fun c56 => ?_)
            · skip
              have f57 := i_lt c56
              have ce9 := i_cl (x := q62_1) (by omega)
              have ee9 : q62_1.toNatClampNeg = 5 := by omega
              have hz9 := g52
              rw [ee9] at hz9
              have hP9 := hP
              have hD9 := hD
              exact W.vret hx hb hr (fun t ht hW => ⟨⟨(beq, tkq), rfl, (by show be.toInt ≤ beq.toInt ∧ beq.toInt ≤ ln.toInt ∧ beq.toNatClampNeg = runTo leB tp ln.toNatClampNeg be.toNatClampNeg ∧ tkq.toInt = (if bs.toNatClampNeg + 6 < beq.toNatClampNeg then 9 else wdK tp bs.toNatClampNeg beq.toNatClampNeg 5); exact ⟨by omega, by omega, he9.symm, by rw [if_neg (by omega)]; exact hz9⟩), by rw [ht]; exact hP9, va_K.moved hW.alike hK, hD9⟩, hS.F ht⟩) hS.2.2 dX2_readName_86
            · skip
              have f58 := i_nlt c56
              refine lv_aload_n hx hb dX2_readName_67 rfl (lv_at hl 0 rfl) ?_
              refine lv_iload_n hx hb dX2_readName_68 rfl (lv_at hl 1 rfl) ?_
              refine st_i1 (va_runV (C := RX2) (As := [.int q62_1]) (rest := []) ⟨hx, hb, hml, hown, hts⟩ (ct_X2_isWord l D cI cY cJ cQ _ aK aV ad ln lfa dl dr bs beq tkq nb tp q62_1 h1 h2 h3 (by omega) (by omega) (by omega) (by omega)) (cwV 1 hts gX2_readName_X2_isWord rfl rfl rfl ⟨rfl, cdX2_isWord⟩ ⟨Nat.le_of_ble_eq_true rfl, Nat.le_of_ble_eq_true rfl⟩) (cPreTV (hP.sub [0, 1] rfl) hK (hD.sub [0, 1] (by decide +kernel) rfl) hN hS (va_free hD hS hA [0, 1] rfl) hT (ci := 2) (q0 := 0) rfl rfl) rfl rfl hl.1 rfl (lv_room (Nat.le_of_ble_eq_true rfl)) dX2_readName_69 ⟨Nat.le_of_ble_eq_true rfl, Nat.le_of_ble_eq_true rfl⟩) hP hD hS hA [0, 1] rfl (fun _ => rfl) (fun r61 u59 H locs hw60 => ?_)
              clear hP hS
              intro hP hS
              replace hw60 : r61 = if wdIs tp bs.toNatClampNeg beq.toNatClampNeg q62_1.toNatClampNeg then 1 else 0 := hw60
              refine lv_if_eq (tgt := 80) hx hb dX2_readName_72 (by decide) (fun c62 => ?_) (fun c62 => ?_)
              · skip
                have f63 := bo_f hw60 c62
                obtain ⟨v64, ev64⟩ : ∃ y : Int32, y = q62_1 + 1 := ⟨_, rfl⟩
                try have tv64 : v64.toInt = q62_1.toInt + 1 := by rw [ev64]; exact (i_add (x := q62_1) (y := (1 : Int32)) (by rw [k1]; omega) (by rw [k1]; omega)).trans (by rw [k1])
                refine lv_iinc (v := v64) (lv' := [(1, .int v64), (0, .ref (ad 6))]) hx hb dX2_readName_80 hl (k := 1) rfl (by rw [ev64]; rfl) (by decide) rfl (fun ls hl => ?_)
                refine lv_goto (tgt := 62) hx hb dX2_readName_83 (by decide) ?_
                have clc65 := i_cl (x := q62_1) (by omega)
                have clc66 := i_cl (x := v64) (by omega)
                exact ih53 (v64, tkq) ls H locs ⟨(by omega), (by omega), (by rw [show v64.toNatClampNeg = q62_1.toNatClampNeg + 1 by omega, wdK_s]; first | (rw [if_pos (by assumption)]; omega) | (rw [if_neg (by assumption)]; exact g52)), lv_sub hl [1, 0] rfl, hP.sub [0, 1] rfl, hD.sub [0, 1] (by decide +kernel) rfl, hS⟩ (by show 5 - v64.toInt < _; omega)
              · skip
                have f67 := bo_t hw60 c62
                refine lv_aload_n hx hb dX2_readName_75 rfl (lv_at hl 0 rfl) ?_
                refine lv_iload_n hx hb dX2_readName_76 rfl (lv_at hl 1 rfl) ?_
                refine va_put (D := D) (ci := 2) (v := .int q62_1) (ty := .int) (C := RX2) (T := TX2) (N := 15) hx hb hts inX2_readName_X2 tyX2 tyX2_ok nmX2 hown hK hP hD hS 0 rfl rfl 13 (by decide) (hts (Cond.fieldLink RX2 47 "PortRooms$Duties" "token" "I") (wm_t (wm_l (wm_i 3 rfl)))) (fun _ h9 => h9) rfl (tyX2_ok 13 (by decide)) rfl rfl (Nat.le_of_ble_eq_true rfl) dX2_readName_77 (fun H locs => ?_)
                clear hP hD hS
                intro hP hD hS
                replace hP : va_P D vwCl [(oC2 ad ln lfa dl dr bs beq q62_1 nb), (aI cY (ad 47) 300 tp)] H := hP
                replace hD : va_D A [(oC2 ad ln lfa dl dr bs beq q62_1 nb), (aI cY (ad 47) 300 tp)] := hD
                obtain ⟨v68, ev68⟩ : ∃ y : Int32, y = q62_1 + 1 := ⟨_, rfl⟩
                try have tv68 : v68.toInt = q62_1.toInt + 1 := by rw [ev68]; exact (i_add (x := q62_1) (y := (1 : Int32)) (by rw [k1]; omega) (by rw [k1]; omega)).trans (by rw [k1])
                refine lv_iinc (v := v68) (lv' := [(1, .int v68), (0, .ref (ad 6))]) hx hb dX2_readName_80 hl (k := 1) rfl (by rw [ev68]; rfl) (by decide) rfl (fun ls hl => ?_)
                refine lv_goto (tgt := 62) hx hb dX2_readName_83 (by decide) ?_
                have clc69 := i_cl (x := q62_1) (by omega)
                have clc70 := i_cl (x := v68) (by omega)
                exact ih53 (v68, q62_1) ls H locs ⟨(by omega), (by omega), (by rw [show v68.toNatClampNeg = q62_1.toNatClampNeg + 1 by omega, wdK_s]; first | (rw [if_pos (by assumption)]; omega) | (rw [if_neg (by assumption)]; exact g52)), lv_sub hl [1, 0] rfl, hP.sub [0, 1] rfl, hD.sub [0, 1] (by decide +kernel) rfl, hS⟩ (by show 5 - v68.toInt < _; omega)
        · skip
          have f71 := i_nle c48
          have hP9 := hP
          have hD9 := hD
          exact W.vret hx hb hr (fun t ht hW => ⟨⟨(beq, 9), rfl, (by show be.toInt ≤ beq.toInt ∧ beq.toInt ≤ ln.toInt ∧ beq.toNatClampNeg = runTo leB tp ln.toNatClampNeg be.toNatClampNeg ∧ (9 : Int32).toInt = (if bs.toNatClampNeg + 6 < beq.toNatClampNeg then 9 else wdK tp bs.toNatClampNeg beq.toNatClampNeg 5); exact ⟨by omega, by omega, he9.symm, by rw [k9, if_pos (by omega)]⟩), by rw [ht]; exact hP9, va_K.moved hW.alike hK, hD9⟩, hS.F ht⟩) hS.2.2 dX2_readName_59
      · skip
        have f72 := bo_t hw40 c42
        refine lv_aload_n hx hb dX2_readName_26 rfl (lv_at hl 0 rfl) ?_
        refine lv_dup hx hb dX2_readName_27 rfl ?_
        refine va_get (D := D) (ci := 2) (v := .int beq) (C := RX2) (T := TX2) (N := 15) hx hb hts inX2_readName_X2 hown hK hP 0 rfl rfl 12 (by decide) (hts (Cond.fieldLink RX2 38 "PortRooms$Duties" "end" "I") (wm_t (wm_l (wm_i 0 rfl)))) (fun _ h9 => h9) rfl dX2_readName_28 ?_
        refine lv_iconst (v := 1) hx hb dX2_readName_31 (by decide) ?_
        refine lv_iadd hx hb dX2_readName_32 ?_
        refine lv_topi (fun v73 ev73 => ?_)
        try have tv73 : v73.toInt = beq.toInt + 1 := by rw [ev73]; exact (i_add (x := beq) (y := (1 : Int32)) (by rw [k1]; omega) (by rw [k1]; omega)).trans (by rw [k1])
        refine va_put (D := D) (ci := 2) (v := .int v73) (ty := .int) (C := RX2) (T := TX2) (N := 15) hx hb hts inX2_readName_X2 tyX2 tyX2_ok nmX2 hown hK hP hD hS 0 rfl rfl 12 (by decide) (hts (Cond.fieldLink RX2 38 "PortRooms$Duties" "end" "I") (wm_t (wm_l (wm_i 0 rfl)))) (fun _ h9 => h9) rfl (tyX2_ok 12 (by decide)) rfl rfl (Nat.le_of_ble_eq_true rfl) dX2_readName_33 (fun H locs => ?_)
        clear hP hD hS
        intro hP hD hS
        replace hP : va_P D vwCl [(oC2 ad ln lfa dl dr bs v73 tk nb), (aI cY (ad 47) 300 tp)] H := hP
        replace hD : va_D A [(oC2 ad ln lfa dl dr bs v73 tk nb), (aI cY (ad 47) 300 tp)] := hD
        refine lv_goto (tgt := 0) hx hb dX2_readName_36 (by decide) ?_
        have clc74 := i_cl (x := ln) (by omega)
        have clc75 := i_cl (x := beq) (by omega)
        have clc76 := i_cl (x := v73) (by omega)
        exact ih4 v73 ls H locs ⟨(by omega), (by omega), (by rw [show v73.toNatClampNeg = beq.toNatClampNeg + 1 by omega]; exact (le_in (T := tp) (L := ln.toNatClampNeg) (i := beq.toNatClampNeg) (by omega) (by omega)).symm.trans g3), lv_sub hl [0] rfl, hP.sub [0, 1] rfl, hD.sub [0, 1] (by decide +kernel) rfl, hS⟩ (by show ln.toInt - v73.toInt < _; omega)

set_option maxHeartbeats 4000000 in
set_option maxRecDepth 100000 in
theorem ct_X2_readNumber (l : Launch) (D : va_G) (cI cY cJ cQ : ClassId) (sz : Nat) (ad : Nat → Nat) (ln lfa dl dr bs be tk nb : Int32) (tp : Nat → Int32)  (h1 : 0 ≤ ln.toInt) (h2 : ln.toInt ≤ 300) (h3 : 0 ≤ bs.toInt) (h4 : bs.toInt ≤ be.toInt) (h5 : be.toInt ≤ ln.toInt) (h6 : bs.toInt = be.toInt)  : Met l yX2_readNumber wsX2_readNumber ({ frames := 1, cells := 0, slots := 0, locals := 20 }) (cPre D (ty4 cI cY cJ cQ) [(oC2 ad ln lfa dl dr bs be tk nb), (aI cY (ad 47) 300 tp)] sz [.ref (ad 6)]) (va_Qv (fun (u : Int32 × Int32 × Int32) => be.toInt ≤ u.1.toInt ∧ u.1.toInt ≤ ln.toInt ∧ u.1.toNatClampNeg = runTo fiB tp ln.toNatClampNeg be.toNatClampNeg ∧ u.2.1.toInt = (if be.toNatClampNeg + 4 < u.1.toNatClampNeg then 9 else 5) ∧ (u.2.1.toInt = 5 → u.2.2.toInt = nmV tp be.toNatClampNeg (u.1.toNatClampNeg - be.toNatClampNeg))) (cB D (ty4 cI cY cJ cQ) (fun (u : Int32 × Int32 × Int32) => [(oC2 ad ln lfa dl dr bs u.1 u.2.1 u.2.2), (aI cY (ad 47) 300 tp)]) (va_A [(oC2 ad ln lfa dl dr bs be tk nb), (aI cY (ad 47) 300 tp)] sz)) (va_A [(oC2 ad ln lfa dl dr bs be tk nb), (aI cY (ad 47) 300 tp)] sz)) 0 0 (va_A [(oC2 ad ln lfa dl dr bs be tk nb), (aI cY (ad 47) 300 tp)] sz) := by
  refine Met.ofW (cc := cX2_readNumber) (maxL := 1) (ret := none) (by decide) rfl ?_
  intro p e s m args below meth c s₁ B hml hv
  obtain ⟨rfl, hsz, hP, hK, hD0, hN⟩ := hv
  have hx := B.exec
  have hb := B.bytes
  have hr := B.returns
  have hts := atoms_spec (ws := wsX2_readNumber) B.pre
  have hown : s.vm.findClass RX2 = some m.cls := findClass_of_methodNamed B.named
  have hlocks := B.notSynchronized
  subst hsz
  have hD := hD0.self (sz := s.heap.size)
  generalize hAe : va_A [(oC2 ad ln lfa dl dr bs be tk nb), (aI cY (ad 47) 300 tp)] s.heap.size = A at hD ⊢
  have hA : ∀ q : Nat, s.heap.size ≤ q → A q := fun q h => by rw [← hAe]; exact Or.inr h
  have hS : va_S A s.heap s.heap [] := va_S.rf
  have hP : va_P D vwCl [(oC2 ad ln lfa dl dr bs be tk nb), (aI cY (ad 47) 300 tp)] s.heap := hP
  have hl := lv_entry ([.ref (ad 6)]) (n := 1) (Nat.le_of_ble_eq_true rfl)
  rw [lg_entry_eq]
  generalize (lg_sl ([.ref (ad 6)]) ++ List.replicate (1 - (lg_sl ([.ref (ad 6)])).length) Slot.unset).toArray = ls at hl ⊢
  have hl : lv_has ls 1 [(0, .ref (ad 6))] := hl
  have k0 : (0 : Int32).toInt = 0 := by decide
  have k1 : (1 : Int32).toInt = 1 := by decide
  have k4 : (4 : Int32).toInt = 4 := by decide
  have k5 : (5 : Int32).toInt = 5 := by decide
  have k9 : (9 : Int32).toInt = 9 := by decide
  have k10 : (10 : Int32).toInt = 10 := by decide
  have k48 : (48 : Int32).toInt = 48 := by decide
  refine lv_aload_n hx hb dX2_readNumber_0 rfl (lv_at hl 0 rfl) ?_
  refine lv_iconst (v := 0) hx hb dX2_readNumber_1 (by decide) ?_
  refine va_put (D := D) (ci := 2) (v := .int 0) (ty := .int) (C := RX2) (T := TX2) (N := 15) hx hb hts inX2_readNumber_X2 tyX2 tyX2_ok nmX2 hown hK hP hD hS 0 rfl rfl 14 (by decide) (hts (Cond.fieldLink RX2 76 "PortRooms$Duties" "number" "I") (wm_t (wm_l (wm_i 0 rfl)))) (fun _ h9 => h9) rfl (tyX2_ok 14 (by decide)) rfl rfl (Nat.le_of_ble_eq_true rfl) dX2_readNumber_2 (fun H locs => ?_)
  clear hP hD hS
  intro hP hD hS
  replace hP : va_P D vwCl [(oC2 ad ln lfa dl dr bs be tk (0)), (aI cY (ad 47) 300 tp)] H := hP
  replace hD : va_D A [(oC2 ad ln lfa dl dr bs be tk (0)), (aI cY (ad 47) 300 tp)] := hD
  refine st_loop 5 (fun _ => []) (fun (z : Int32 × Int32) (ls : Array Slot) (H : Heap) (locs : List Loc) => match z with | (beq, nbq) => (be.toInt ≤ beq.toInt) ∧ (beq.toInt ≤ ln.toInt) ∧ (runTo fiB tp ln.toNatClampNeg beq.toNatClampNeg = runTo fiB tp ln.toNatClampNeg be.toNatClampNeg) ∧ (0 ≤ nbq.toInt ∧ nbq.toInt < 10000) ∧ (nbq.toInt < 1000 ∨ 4 ≤ beq.toInt - be.toInt) ∧ (nbq.toInt < 100 ∨ 3 ≤ beq.toInt - be.toInt) ∧ (nbq.toInt < 10 ∨ 2 ≤ beq.toInt - be.toInt) ∧ (nbq.toInt < 1 ∨ 1 ≤ beq.toInt - be.toInt) ∧ (beq.toInt - be.toInt ≤ 4 → nbq.toInt = nmV tp be.toNatClampNeg (beq.toNatClampNeg - be.toNatClampNeg)) ∧ lv_has ls 1 [(0, .ref (ad 6))] ∧ va_P D vwCl [(oC2 ad ln lfa dl dr bs beq tk nbq), (aI cY (ad 47) 300 tp)] H ∧ va_D A [(oC2 ad ln lfa dl dr bs beq tk nbq), (aI cY (ad 47) 300 tp)] ∧ va_S A s.heap H locs) (fun (z : Int32 × Int32) => match z with | (beq, nbq) => ln.toInt - beq.toInt) ?_ ?_ (be, (0 : Int32)) ⟨(by omega), (by omega), (by rfl), (by omega), (by omega), (by omega), (by omega), (by omega), (by intro _; rw [Nat.sub_self]; rfl), lv_sub hl [0] rfl, hP, hD, hS⟩
  · rintro ⟨beq, nbq⟩ ls H locs ⟨g1, g2, g3, g4, g5, g6, g7, g8, g9, hl, hP, hD, hS⟩
    show (0 : Int) ≤ ln.toInt - beq.toInt
    omega
  · rintro n12 ih10 ⟨beq, nbq⟩ ls H locs ⟨g1, g2, g3, g4, g5, g6, g7, g8, g9, hl, hP, hD, hS⟩ hm11
    have hm11 : ln.toInt - beq.toInt < (n12 : Int) + 1 := hm11
    replace hl : lv_has ls 1 [(0, .ref (ad 6))] := hl
    replace hP : va_P D vwCl [(oC2 ad ln lfa dl dr bs beq tk nbq), (aI cY (ad 47) 300 tp)] H := hP
    replace hD : va_D A [(oC2 ad ln lfa dl dr bs beq tk nbq), (aI cY (ad 47) 300 tp)] := hD
    show W _ _ _ _ _ _ _ _ _ _ _ _ _ _ _ (F0 m 5 ls [])
    refine lv_aload_n hx hb dX2_readNumber_5 rfl (lv_at hl 0 rfl) ?_
    refine va_get (D := D) (ci := 2) (v := .int beq) (C := RX2) (T := TX2) (N := 15) hx hb hts inX2_readNumber_X2 hown hK hP 0 rfl rfl 12 (by decide) (hts (Cond.fieldLink RX2 38 "PortRooms$Duties" "end" "I") (wm_t (wm_l (wm_i 1 rfl)))) (fun _ h9 => h9) rfl dX2_readNumber_6 ?_
    refine lv_aload_n hx hb dX2_readNumber_9 rfl (lv_at hl 0 rfl) ?_
    refine va_get (D := D) (ci := 2) (v := .int ln) (C := RX2) (T := TX2) (N := 15) hx hb hts inX2_readNumber_X2 hown hK hP 0 rfl rfl 1 (by decide) (hts (Cond.fieldLink RX2 34 "PortRooms$Duties" "length" "I") (wm_t (wm_l (wm_i 2 rfl)))) (fun _ h9 => h9) rfl dX2_readNumber_10 ?_
    refine lv_icmp_ge (tgt := 81) hx hb dX2_readNumber_13 (by decide) (fun c13 => ?_) (fun c13 => ?_)
    · skip
      have f14 := i_le c13
      have clc15 := i_cl (x := ln) (by omega)
      have clc16 := i_cl (x := beq) (by omega)
      have clc17 := i_cl (x := be) (by omega)
      have he9 : runTo fiB tp ln.toNatClampNeg be.toNatClampNeg = beq.toNatClampNeg := g3.symm.trans (fi_out (by omega))
      refine lv_aload_n hx hb dX2_readNumber_81 rfl (lv_at hl 0 rfl) ?_
      refine lv_aload_n hx hb dX2_readNumber_82 rfl (lv_at hl 0 rfl) ?_
      refine va_get (D := D) (ci := 2) (v := .int beq) (C := RX2) (T := TX2) (N := 15) hx hb hts inX2_readNumber_X2 hown hK hP 0 rfl rfl 12 (by decide) (hts (Cond.fieldLink RX2 38 "PortRooms$Duties" "end" "I") (wm_t (wm_l (wm_i 1 rfl)))) (fun _ h9 => h9) rfl dX2_readNumber_83 ?_
      refine lv_aload_n hx hb dX2_readNumber_86 rfl (lv_at hl 0 rfl) ?_
      refine va_get (D := D) (ci := 2) (v := .int bs) (C := RX2) (T := TX2) (N := 15) hx hb hts inX2_readNumber_X2 hown hK hP 0 rfl rfl 11 (by decide) (hts (Cond.fieldLink RX2 61 "PortRooms$Duties" "start" "I") (wm_t (wm_l (wm_i 4 rfl)))) (fun _ h9 => h9) rfl dX2_readNumber_87 ?_
      refine lv_isub hx hb dX2_readNumber_90 ?_
      refine lv_topi (fun v18 ev18 => ?_)
      try have tv18 : v18.toInt = beq.toInt - bs.toInt := by rw [ev18]; exact (i_sub (x := beq) (y := bs) (by omega) (by omega))
      refine lv_iconst (v := 4) hx hb dX2_readNumber_91 (by decide) ?_
      refine lv_icmp_le (tgt := 100) hx hb dX2_readNumber_92 (by decide) (fun c19 => ?_) (fun c19 => ?_)
      · skip
        have f20 := i_le c19
        refine lv_iconst (v := 5) hx hb dX2_readNumber_100 (by decide) ?_
        refine va_put (D := D) (ci := 2) (v := .int 5) (ty := .int) (C := RX2) (T := TX2) (N := 15) hx hb hts inX2_readNumber_X2 tyX2 tyX2_ok nmX2 hown hK hP hD hS 0 rfl rfl 13 (by decide) (hts (Cond.fieldLink RX2 47 "PortRooms$Duties" "token" "I") (wm_t (wm_l (wm_i 5 rfl)))) (fun _ h9 => h9) rfl (tyX2_ok 13 (by decide)) rfl rfl (Nat.le_of_ble_eq_true rfl) dX2_readNumber_101 (fun H locs => ?_)
        clear hP hD hS
        intro hP hD hS
        replace hP : va_P D vwCl [(oC2 ad ln lfa dl dr bs beq (5) nbq), (aI cY (ad 47) 300 tp)] H := hP
        replace hD : va_D A [(oC2 ad ln lfa dl dr bs beq (5) nbq), (aI cY (ad 47) 300 tp)] := hD
        have hP9 := hP
        have hD9 := hD
        exact W.vret hx hb hr (fun t ht hW => ⟨⟨(beq, 5, nbq), rfl, (by show be.toInt ≤ beq.toInt ∧ beq.toInt ≤ ln.toInt ∧ beq.toNatClampNeg = runTo fiB tp ln.toNatClampNeg be.toNatClampNeg ∧ (5 : Int32).toInt = (if be.toNatClampNeg + 4 < beq.toNatClampNeg then 9 else 5) ∧ ((5 : Int32).toInt = 5 → nbq.toInt = nmV tp be.toNatClampNeg (beq.toNatClampNeg - be.toNatClampNeg)); exact ⟨by omega, by omega, he9.symm, by rw [k5, if_neg (by omega)], fun _ => g9 (by omega)⟩), by rw [ht]; exact hP9, va_K.moved hW.alike hK, hD9⟩, hS.F ht⟩) hS.2.2 dX2_readNumber_104
      · skip
        have f21 := i_nle c19
        refine lv_bipush (v := 9) hx hb dX2_readNumber_95 (by decide) ?_
        refine lv_goto (tgt := 101) hx hb dX2_readNumber_97 (by decide) ?_
        refine va_put (D := D) (ci := 2) (v := .int 9) (ty := .int) (C := RX2) (T := TX2) (N := 15) hx hb hts inX2_readNumber_X2 tyX2 tyX2_ok nmX2 hown hK hP hD hS 0 rfl rfl 13 (by decide) (hts (Cond.fieldLink RX2 47 "PortRooms$Duties" "token" "I") (wm_t (wm_l (wm_i 5 rfl)))) (fun _ h9 => h9) rfl (tyX2_ok 13 (by decide)) rfl rfl (Nat.le_of_ble_eq_true rfl) dX2_readNumber_101 (fun H locs => ?_)
        clear hP hD hS
        intro hP hD hS
        replace hP : va_P D vwCl [(oC2 ad ln lfa dl dr bs beq (9) nbq), (aI cY (ad 47) 300 tp)] H := hP
        replace hD : va_D A [(oC2 ad ln lfa dl dr bs beq (9) nbq), (aI cY (ad 47) 300 tp)] := hD
        have hP9 := hP
        have hD9 := hD
        exact W.vret hx hb hr (fun t ht hW => ⟨⟨(beq, 9, nbq), rfl, (by show be.toInt ≤ beq.toInt ∧ beq.toInt ≤ ln.toInt ∧ beq.toNatClampNeg = runTo fiB tp ln.toNatClampNeg be.toNatClampNeg ∧ (9 : Int32).toInt = (if be.toNatClampNeg + 4 < beq.toNatClampNeg then 9 else 5) ∧ ((9 : Int32).toInt = 5 → nbq.toInt = nmV tp be.toNatClampNeg (beq.toNatClampNeg - be.toNatClampNeg)); exact ⟨by omega, by omega, he9.symm, by rw [k9, if_pos (by omega)], fun h9 => by exfalso; omega⟩), by rw [ht]; exact hP9, va_K.moved hW.alike hK, hD9⟩, hS.F ht⟩) hS.2.2 dX2_readNumber_104
    · skip
      have f22 := i_nle c13
      refine lv_aload_n hx hb dX2_readNumber_16 rfl (lv_at hl 0 rfl) ?_
      refine va_get (D := D) (ci := 2) (v := .ref (ad 47)) (C := RX2) (T := TX2) (N := 15) hx hb hts inX2_readNumber_X2 hown hK hP 0 rfl rfl 0 (by decide) (hts (Cond.fieldLink RX2 11 "PortRooms$Duties" "tape" "[B") (wm_t (wm_l (wm_i 3 rfl)))) (fun _ h9 => h9) rfl dX2_readNumber_17 ?_
      refine lv_aload_n hx hb dX2_readNumber_20 rfl (lv_at hl 0 rfl) ?_
      refine va_get (D := D) (ci := 2) (v := .int beq) (C := RX2) (T := TX2) (N := 15) hx hb hts inX2_readNumber_X2 hown hK hP 0 rfl rfl 12 (by decide) (hts (Cond.fieldLink RX2 38 "PortRooms$Duties" "end" "I") (wm_t (wm_l (wm_i 1 rfl)))) (fun _ h9 => h9) rfl dX2_readNumber_21 ?_
      refine va_bald hx hb hK hP 1 1 rfl rfl (i_in (by omega) (by omega)) dX2_readNumber_24 ?_
      refine lv_topi (fun v23 ev23 => ?_)
      have tlv23 : v23.toInt = (tp beq.toNatClampNeg).toInt := by rw [ev23]
      refine st_i1 (va_runS (As := [.int v23]) (rest := []) ⟨hx, hb, hml, hown, hts⟩ (ct_X2_isFigure l D cI cY cJ cQ _ v23) (va_cwS 1 hts gX2_readNumber_X2_isFigure rfl rfl rfl cdX2_isFigure ⟨Nat.le_of_ble_eq_true rfl, Nat.le_of_ble_eq_true rfl⟩) (cPreS (hP.sub [] rfl) hK (hD.sub [] (by decide +kernel) rfl) hN) rfl rfl hl.1 rfl (lv_room (Nat.le_of_ble_eq_true rfl)) dX2_readNumber_25 ⟨Nat.le_of_ble_eq_true rfl, Nat.le_of_ble_eq_true rfl⟩) hP hD hS hA [] rfl (fun _ => rfl) (fun r26 u24 H locs hw25 => ?_)
      clear hP hS
      intro hP hS
      replace hw25 : r26 = if 48 ≤ v23.toInt ∧ v23.toInt ≤ 57 then 1 else 0 := hw25
      refine lv_if_eq (tgt := 81) hx hb dX2_readNumber_28 (by decide) (fun c27 => ?_) (fun c27 => ?_)
      · skip
        have f28 := bo_f hw25 c27
        have clc29 := i_cl (x := ln) (by omega)
        have clc30 := i_cl (x := beq) (by omega)
        have clc31 := i_cl (x := be) (by omega)
        have he9 : runTo fiB tp ln.toNatClampNeg be.toNatClampNeg = beq.toNatClampNeg := g3.symm.trans (fi_out (by omega))
        refine lv_aload_n hx hb dX2_readNumber_81 rfl (lv_at hl 0 rfl) ?_
        refine lv_aload_n hx hb dX2_readNumber_82 rfl (lv_at hl 0 rfl) ?_
        refine va_get (D := D) (ci := 2) (v := .int beq) (C := RX2) (T := TX2) (N := 15) hx hb hts inX2_readNumber_X2 hown hK hP 0 rfl rfl 12 (by decide) (hts (Cond.fieldLink RX2 38 "PortRooms$Duties" "end" "I") (wm_t (wm_l (wm_i 1 rfl)))) (fun _ h9 => h9) rfl dX2_readNumber_83 ?_
        refine lv_aload_n hx hb dX2_readNumber_86 rfl (lv_at hl 0 rfl) ?_
        refine va_get (D := D) (ci := 2) (v := .int bs) (C := RX2) (T := TX2) (N := 15) hx hb hts inX2_readNumber_X2 hown hK hP 0 rfl rfl 11 (by decide) (hts (Cond.fieldLink RX2 61 "PortRooms$Duties" "start" "I") (wm_t (wm_l (wm_i 4 rfl)))) (fun _ h9 => h9) rfl dX2_readNumber_87 ?_
        refine lv_isub hx hb dX2_readNumber_90 ?_
        refine lv_topi (fun v32 ev32 => ?_)
        try have tv32 : v32.toInt = beq.toInt - bs.toInt := by rw [ev32]; exact (i_sub (x := beq) (y := bs) (by omega) (by omega))
        refine lv_iconst (v := 4) hx hb dX2_readNumber_91 (by decide) ?_
        refine lv_icmp_le (tgt := 100) hx hb dX2_readNumber_92 (by decide) (fun c33 => ?_) (fun c33 => ?_)
        · skip
          have f34 := i_le c33
          refine lv_iconst (v := 5) hx hb dX2_readNumber_100 (by decide) ?_
          refine va_put (D := D) (ci := 2) (v := .int 5) (ty := .int) (C := RX2) (T := TX2) (N := 15) hx hb hts inX2_readNumber_X2 tyX2 tyX2_ok nmX2 hown hK hP hD hS 0 rfl rfl 13 (by decide) (hts (Cond.fieldLink RX2 47 "PortRooms$Duties" "token" "I") (wm_t (wm_l (wm_i 5 rfl)))) (fun _ h9 => h9) rfl (tyX2_ok 13 (by decide)) rfl rfl (Nat.le_of_ble_eq_true rfl) dX2_readNumber_101 (fun H locs => ?_)
          clear hP hD hS
          intro hP hD hS
          replace hP : va_P D vwCl [(oC2 ad ln lfa dl dr bs beq (5) nbq), (aI cY (ad 47) 300 tp)] H := hP
          replace hD : va_D A [(oC2 ad ln lfa dl dr bs beq (5) nbq), (aI cY (ad 47) 300 tp)] := hD
          have hP9 := hP
          have hD9 := hD
          exact W.vret hx hb hr (fun t ht hW => ⟨⟨(beq, 5, nbq), rfl, (by show be.toInt ≤ beq.toInt ∧ beq.toInt ≤ ln.toInt ∧ beq.toNatClampNeg = runTo fiB tp ln.toNatClampNeg be.toNatClampNeg ∧ (5 : Int32).toInt = (if be.toNatClampNeg + 4 < beq.toNatClampNeg then 9 else 5) ∧ ((5 : Int32).toInt = 5 → nbq.toInt = nmV tp be.toNatClampNeg (beq.toNatClampNeg - be.toNatClampNeg)); exact ⟨by omega, by omega, he9.symm, by rw [k5, if_neg (by omega)], fun _ => g9 (by omega)⟩), by rw [ht]; exact hP9, va_K.moved hW.alike hK, hD9⟩, hS.F ht⟩) hS.2.2 dX2_readNumber_104
        · skip
          have f35 := i_nle c33
          refine lv_bipush (v := 9) hx hb dX2_readNumber_95 (by decide) ?_
          refine lv_goto (tgt := 101) hx hb dX2_readNumber_97 (by decide) ?_
          refine va_put (D := D) (ci := 2) (v := .int 9) (ty := .int) (C := RX2) (T := TX2) (N := 15) hx hb hts inX2_readNumber_X2 tyX2 tyX2_ok nmX2 hown hK hP hD hS 0 rfl rfl 13 (by decide) (hts (Cond.fieldLink RX2 47 "PortRooms$Duties" "token" "I") (wm_t (wm_l (wm_i 5 rfl)))) (fun _ h9 => h9) rfl (tyX2_ok 13 (by decide)) rfl rfl (Nat.le_of_ble_eq_true rfl) dX2_readNumber_101 (fun H locs => ?_)
          clear hP hD hS
          intro hP hD hS
          replace hP : va_P D vwCl [(oC2 ad ln lfa dl dr bs beq (9) nbq), (aI cY (ad 47) 300 tp)] H := hP
          replace hD : va_D A [(oC2 ad ln lfa dl dr bs beq (9) nbq), (aI cY (ad 47) 300 tp)] := hD
          have hP9 := hP
          have hD9 := hD
          exact W.vret hx hb hr (fun t ht hW => ⟨⟨(beq, 9, nbq), rfl, (by show be.toInt ≤ beq.toInt ∧ beq.toInt ≤ ln.toInt ∧ beq.toNatClampNeg = runTo fiB tp ln.toNatClampNeg be.toNatClampNeg ∧ (9 : Int32).toInt = (if be.toNatClampNeg + 4 < beq.toNatClampNeg then 9 else 5) ∧ ((9 : Int32).toInt = 5 → nbq.toInt = nmV tp be.toNatClampNeg (beq.toNatClampNeg - be.toNatClampNeg)); exact ⟨by omega, by omega, he9.symm, by rw [k9, if_pos (by omega)], fun h9 => by exfalso; omega⟩), by rw [ht]; exact hP9, va_K.moved hW.alike hK, hD9⟩, hS.F ht⟩) hS.2.2 dX2_readNumber_104
      · skip
        have f36 := bo_t hw25 c27
        refine lv_aload_n hx hb dX2_readNumber_31 rfl (lv_at hl 0 rfl) ?_
        refine va_get (D := D) (ci := 2) (v := .int beq) (C := RX2) (T := TX2) (N := 15) hx hb hts inX2_readNumber_X2 hown hK hP 0 rfl rfl 12 (by decide) (hts (Cond.fieldLink RX2 38 "PortRooms$Duties" "end" "I") (wm_t (wm_l (wm_i 1 rfl)))) (fun _ h9 => h9) rfl dX2_readNumber_32 ?_
        refine lv_aload_n hx hb dX2_readNumber_35 rfl (lv_at hl 0 rfl) ?_
        refine va_get (D := D) (ci := 2) (v := .int bs) (C := RX2) (T := TX2) (N := 15) hx hb hts inX2_readNumber_X2 hown hK hP 0 rfl rfl 11 (by decide) (hts (Cond.fieldLink RX2 61 "PortRooms$Duties" "start" "I") (wm_t (wm_l (wm_i 4 rfl)))) (fun _ h9 => h9) rfl dX2_readNumber_36 ?_
        refine lv_isub hx hb dX2_readNumber_39 ?_
        refine lv_topi (fun v37 ev37 => ?_)
        try have tv37 : v37.toInt = beq.toInt - bs.toInt := by rw [ev37]; exact (i_sub (x := beq) (y := bs) (by omega) (by omega))
        refine lv_iconst (v := 4) hx hb dX2_readNumber_40 (by decide) ?_
        refine lv_icmp_ge (tgt := 68) hx hb dX2_readNumber_41 (by decide) (fun c38 => ?_) (fun c38 => ?_)
        · skip
          have f39 := i_le c38
          refine lv_aload_n hx hb dX2_readNumber_68 rfl (lv_at hl 0 rfl) ?_
          refine lv_dup hx hb dX2_readNumber_69 rfl ?_
          refine va_get (D := D) (ci := 2) (v := .int beq) (C := RX2) (T := TX2) (N := 15) hx hb hts inX2_readNumber_X2 hown hK hP 0 rfl rfl 12 (by decide) (hts (Cond.fieldLink RX2 38 "PortRooms$Duties" "end" "I") (wm_t (wm_l (wm_i 1 rfl)))) (fun _ h9 => h9) rfl dX2_readNumber_70 ?_
          refine lv_iconst (v := 1) hx hb dX2_readNumber_73 (by decide) ?_
          refine lv_iadd hx hb dX2_readNumber_74 ?_
          refine lv_topi (fun v40 ev40 => ?_)
          try have tv40 : v40.toInt = beq.toInt + 1 := by rw [ev40]; exact (i_add (x := beq) (y := (1 : Int32)) (by rw [k1]; omega) (by rw [k1]; omega)).trans (by rw [k1])
          refine va_put (D := D) (ci := 2) (v := .int v40) (ty := .int) (C := RX2) (T := TX2) (N := 15) hx hb hts inX2_readNumber_X2 tyX2 tyX2_ok nmX2 hown hK hP hD hS 0 rfl rfl 12 (by decide) (hts (Cond.fieldLink RX2 38 "PortRooms$Duties" "end" "I") (wm_t (wm_l (wm_i 1 rfl)))) (fun _ h9 => h9) rfl (tyX2_ok 12 (by decide)) rfl rfl (Nat.le_of_ble_eq_true rfl) dX2_readNumber_75 (fun H locs => ?_)
          clear hP hD hS
          intro hP hD hS
          replace hP : va_P D vwCl [(oC2 ad ln lfa dl dr bs v40 tk nbq), (aI cY (ad 47) 300 tp)] H := hP
          replace hD : va_D A [(oC2 ad ln lfa dl dr bs v40 tk nbq), (aI cY (ad 47) 300 tp)] := hD
          refine lv_goto (tgt := 5) hx hb dX2_readNumber_78 (by decide) ?_
          have clc41 := i_cl (x := ln) (by omega)
          have clc42 := i_cl (x := beq) (by omega)
          have clc43 := i_cl (x := be) (by omega)
          have clc44 := i_cl (x := v40) (by omega)
          exact ih10 (v40, nbq) ls H locs ⟨(by omega), (by omega), (by rw [show v40.toNatClampNeg = beq.toNatClampNeg + 1 by omega]; exact (fi_in (T := tp) (L := ln.toNatClampNeg) (i := beq.toNatClampNeg) (by omega) (by omega)).symm.trans g3), (by omega), (by omega), (by omega), (by omega), (by omega), (by first | (intro hd9; exfalso; omega) | (intro hd9; rw [show v40.toNatClampNeg - be.toNatClampNeg = (beq.toNatClampNeg - be.toNatClampNeg) + 1 by omega, nmV_s, show be.toNatClampNeg + (beq.toNatClampNeg - be.toNatClampNeg) = beq.toNatClampNeg by omega]; have h8 := g9 (by omega); omega)), lv_sub hl [0] rfl, hP.sub [0, 1] rfl, hD.sub [0, 1] (by decide +kernel) rfl, hS⟩ (by show ln.toInt - v40.toInt < _; omega)
        · skip
          have f45 := i_nle c38
          refine lv_aload_n hx hb dX2_readNumber_44 rfl (lv_at hl 0 rfl) ?_
          refine lv_aload_n hx hb dX2_readNumber_45 rfl (lv_at hl 0 rfl) ?_
          refine va_get (D := D) (ci := 2) (v := .int nbq) (C := RX2) (T := TX2) (N := 15) hx hb hts inX2_readNumber_X2 hown hK hP 0 rfl rfl 14 (by decide) (hts (Cond.fieldLink RX2 76 "PortRooms$Duties" "number" "I") (wm_t (wm_l (wm_i 0 rfl)))) (fun _ h9 => h9) rfl dX2_readNumber_46 ?_
          refine lv_bipush (v := 10) hx hb dX2_readNumber_49 (by decide) ?_
          refine lv_imul hx hb dX2_readNumber_51 ?_
          refine lv_topi (fun v46 ev46 => ?_)
          try have tv46 : v46.toInt = nbq.toInt * 10 := by rw [ev46]; exact (i_mul (x := nbq) (y := (10 : Int32)) (by rw [k10]; omega) (by rw [k10]; omega)).trans (by rw [k10])
          refine lv_aload_n hx hb dX2_readNumber_52 rfl (lv_at hl 0 rfl) ?_
          refine va_get (D := D) (ci := 2) (v := .ref (ad 47)) (C := RX2) (T := TX2) (N := 15) hx hb hts inX2_readNumber_X2 hown hK hP 0 rfl rfl 0 (by decide) (hts (Cond.fieldLink RX2 11 "PortRooms$Duties" "tape" "[B") (wm_t (wm_l (wm_i 3 rfl)))) (fun _ h9 => h9) rfl dX2_readNumber_53 ?_
          refine lv_aload_n hx hb dX2_readNumber_56 rfl (lv_at hl 0 rfl) ?_
          refine va_get (D := D) (ci := 2) (v := .int beq) (C := RX2) (T := TX2) (N := 15) hx hb hts inX2_readNumber_X2 hown hK hP 0 rfl rfl 12 (by decide) (hts (Cond.fieldLink RX2 38 "PortRooms$Duties" "end" "I") (wm_t (wm_l (wm_i 1 rfl)))) (fun _ h9 => h9) rfl dX2_readNumber_57 ?_
          refine va_bald hx hb hK hP 1 1 rfl rfl (i_in (by omega) (by omega)) dX2_readNumber_60 ?_
          refine lv_topi (fun v47 ev47 => ?_)
          have tlv47 : v47.toInt = (tp beq.toNatClampNeg).toInt := by rw [ev47]
          refine lv_iadd hx hb dX2_readNumber_61 ?_
          refine lv_topi (fun v48 ev48 => ?_)
          try have tv48 : v48.toInt = v46.toInt + v47.toInt := by rw [ev48]; exact (i_add (x := v46) (y := v47) (by omega) (by omega))
          refine lv_bipush (v := 48) hx hb dX2_readNumber_62 (by decide) ?_
          refine lv_isub hx hb dX2_readNumber_64 ?_
          refine lv_topi (fun v49 ev49 => ?_)
          try have tv49 : v49.toInt = v48.toInt - 48 := by rw [ev49]; exact (i_sub (x := v48) (y := (48 : Int32)) (by rw [k48]; omega) (by rw [k48]; omega)).trans (by rw [k48])
          refine va_put (D := D) (ci := 2) (v := .int v49) (ty := .int) (C := RX2) (T := TX2) (N := 15) hx hb hts inX2_readNumber_X2 tyX2 tyX2_ok nmX2 hown hK hP hD hS 0 rfl rfl 14 (by decide) (hts (Cond.fieldLink RX2 76 "PortRooms$Duties" "number" "I") (wm_t (wm_l (wm_i 0 rfl)))) (fun _ h9 => h9) rfl (tyX2_ok 14 (by decide)) rfl rfl (Nat.le_of_ble_eq_true rfl) dX2_readNumber_65 (fun H locs => ?_)
          clear hP hD hS
          intro hP hD hS
          replace hP : va_P D vwCl [(oC2 ad ln lfa dl dr bs beq tk v49), (aI cY (ad 47) 300 tp)] H := hP
          replace hD : va_D A [(oC2 ad ln lfa dl dr bs beq tk v49), (aI cY (ad 47) 300 tp)] := hD
          refine lv_aload_n hx hb dX2_readNumber_68 rfl (lv_at hl 0 rfl) ?_
          refine lv_dup hx hb dX2_readNumber_69 rfl ?_
          refine va_get (D := D) (ci := 2) (v := .int beq) (C := RX2) (T := TX2) (N := 15) hx hb hts inX2_readNumber_X2 hown hK hP 0 rfl rfl 12 (by decide) (hts (Cond.fieldLink RX2 38 "PortRooms$Duties" "end" "I") (wm_t (wm_l (wm_i 1 rfl)))) (fun _ h9 => h9) rfl dX2_readNumber_70 ?_
          refine lv_iconst (v := 1) hx hb dX2_readNumber_73 (by decide) ?_
          refine lv_iadd hx hb dX2_readNumber_74 ?_
          refine lv_topi (fun v50 ev50 => ?_)
          try have tv50 : v50.toInt = beq.toInt + 1 := by rw [ev50]; exact (i_add (x := beq) (y := (1 : Int32)) (by rw [k1]; omega) (by rw [k1]; omega)).trans (by rw [k1])
          refine va_put (D := D) (ci := 2) (v := .int v50) (ty := .int) (C := RX2) (T := TX2) (N := 15) hx hb hts inX2_readNumber_X2 tyX2 tyX2_ok nmX2 hown hK hP hD hS 0 rfl rfl 12 (by decide) (hts (Cond.fieldLink RX2 38 "PortRooms$Duties" "end" "I") (wm_t (wm_l (wm_i 1 rfl)))) (fun _ h9 => h9) rfl (tyX2_ok 12 (by decide)) rfl rfl (Nat.le_of_ble_eq_true rfl) dX2_readNumber_75 (fun H locs => ?_)
          clear hP hD hS
          intro hP hD hS
          replace hP : va_P D vwCl [(oC2 ad ln lfa dl dr bs v50 tk v49), (aI cY (ad 47) 300 tp)] H := hP
          replace hD : va_D A [(oC2 ad ln lfa dl dr bs v50 tk v49), (aI cY (ad 47) 300 tp)] := hD
          refine lv_goto (tgt := 5) hx hb dX2_readNumber_78 (by decide) ?_
          have clc51 := i_cl (x := ln) (by omega)
          have clc52 := i_cl (x := beq) (by omega)
          have clc53 := i_cl (x := be) (by omega)
          have clc54 := i_cl (x := v50) (by omega)
          exact ih10 (v50, v49) ls H locs ⟨(by omega), (by omega), (by rw [show v50.toNatClampNeg = beq.toNatClampNeg + 1 by omega]; exact (fi_in (T := tp) (L := ln.toNatClampNeg) (i := beq.toNatClampNeg) (by omega) (by omega)).symm.trans g3), (by omega), (by omega), (by omega), (by omega), (by omega), (by first | (intro hd9; exfalso; omega) | (intro hd9; rw [show v50.toNatClampNeg - be.toNatClampNeg = (beq.toNatClampNeg - be.toNatClampNeg) + 1 by omega, nmV_s, show be.toNatClampNeg + (beq.toNatClampNeg - be.toNatClampNeg) = beq.toNatClampNeg by omega]; have h8 := g9 (by omega); omega)), lv_sub hl [0] rfl, hP.sub [0, 1] rfl, hD.sub [0, 1] (by decide +kernel) rfl, hS⟩ (by show ln.toInt - v50.toInt < _; omega)

set_option maxHeartbeats 4000000 in
set_option maxRecDepth 100000 in
theorem ct_X2_next (l : Launch) (D : va_G) (cI cY cJ cQ : ClassId) (sz : Nat) (aK aV : Nat) (ad : Nat → Nat) (ln lfa dl dr bs be tk nb : Int32) (tp : Nat → Int32)  (h1 : 0 ≤ ln.toInt) (h2 : ln.toInt ≤ 300) (h3 : 0 ≤ be.toInt) (h4 : be.toInt ≤ ln.toInt)  : Met l yX2_next wsX2_next ({ frames := 6, cells := 0, slots := 0, locals := 129 }) (cPreT aK aV D (ty4 cI cY cJ cQ) [(oC2 ad ln lfa dl dr bs be tk nb), (aI cY (ad 47) 300 tp)] sz [.ref (ad 6)]) (va_Qv (fun (u : Int32 × Int32 × Int32 × Int32) => 0 ≤ u.1.toInt ∧ u.1.toInt ≤ u.2.1.toInt ∧ u.2.1.toInt ≤ ln.toInt ∧ u.1.toInt = (tS tp ln.toNatClampNeg be.toNatClampNeg : Int) ∧ u.2.1.toInt = (tE tp ln.toNatClampNeg be.toNatClampNeg : Int) ∧ u.2.2.1.toInt = tK tp ln.toNatClampNeg be.toNatClampNeg ∧ (u.2.2.1.toInt = 5 → u.2.2.2.toInt = tN tp ln.toNatClampNeg be.toNatClampNeg)) (cB D (ty4 cI cY cJ cQ) (fun (u : Int32 × Int32 × Int32 × Int32) => [(oC2 ad ln lfa dl dr u.1 u.2.1 u.2.2.1 u.2.2.2), (aI cY (ad 47) 300 tp)]) (va_A [(oC2 ad ln lfa dl dr bs be tk nb), (aI cY (ad 47) 300 tp)] sz)) (va_A [(oC2 ad ln lfa dl dr bs be tk nb), (aI cY (ad 47) 300 tp)] sz)) 0 0 (va_A [(oC2 ad ln lfa dl dr bs be tk nb), (aI cY (ad 47) 300 tp)] sz) := by
  refine Met.ofW (cc := cX2_next) (maxL := 1) (ret := none) (by decide) rfl ?_
  intro p e s m args below meth c s₁ B hml hv
  obtain ⟨rfl, hsz, hP, hK, hD0, hN, hT⟩ := hv
  have hx := B.exec
  have hb := B.bytes
  have hr := B.returns
  have hts := atoms_spec (ws := wsX2_next) B.pre
  have hown : s.vm.findClass RX2 = some m.cls := findClass_of_methodNamed B.named
  have hlocks := B.notSynchronized
  subst hsz
  have hD := hD0.self (sz := s.heap.size)
  generalize hAe : va_A [(oC2 ad ln lfa dl dr bs be tk nb), (aI cY (ad 47) 300 tp)] s.heap.size = A at hD hT ⊢
  have hA : ∀ q : Nat, s.heap.size ≤ q → A q := fun q h => by rw [← hAe]; exact Or.inr h
  have hS : va_S A s.heap s.heap [] := va_S.rf
  have hP : va_P D vwCl [(oC2 ad ln lfa dl dr bs be tk nb), (aI cY (ad 47) 300 tp)] s.heap := hP
  have hl := lv_entry ([.ref (ad 6)]) (n := 1) (Nat.le_of_ble_eq_true rfl)
  rw [lg_entry_eq]
  generalize (lg_sl ([.ref (ad 6)]) ++ List.replicate (1 - (lg_sl ([.ref (ad 6)])).length) Slot.unset).toArray = ls at hl ⊢
  have hl : lv_has ls 1 [(0, .ref (ad 6))] := hl
  have k0 : (0 : Int32).toInt = 0 := by decide
  have k1 : (1 : Int32).toInt = 1 := by decide
  have k6 : (6 : Int32).toInt = 6 := by decide
  have k7 : (7 : Int32).toInt = 7 := by decide
  have k8 : (8 : Int32).toInt = 8 := by decide
  have k9 : (9 : Int32).toInt = 9 := by decide
  have k10 : (10 : Int32).toInt = 10 := by decide
  have k32 : (32 : Int32).toInt = 32 := by decide
  have k59 : (59 : Int32).toInt = 59 := by decide
  have k62 : (62 : Int32).toInt = 62 := by decide
  refine lv_aload_n hx hb dX2_next_0 rfl (lv_at hl 0 rfl) ?_
  refine lv_aload_n hx hb dX2_next_1 rfl (lv_at hl 0 rfl) ?_
  refine va_get (D := D) (ci := 2) (v := .int be) (C := RX2) (T := TX2) (N := 15) hx hb hts inX2_next_X2 hown hK hP 0 rfl rfl 12 (by decide) (hts (Cond.fieldLink RX2 38 "PortRooms$Duties" "end" "I") (wm_t (wm_l (wm_i 0 rfl)))) (fun _ h9 => h9) rfl dX2_next_2 ?_
  refine va_put (D := D) (ci := 2) (v := .int be) (ty := .int) (C := RX2) (T := TX2) (N := 15) hx hb hts inX2_next_X2 tyX2 tyX2_ok nmX2 hown hK hP hD hS 0 rfl rfl 11 (by decide) (hts (Cond.fieldLink RX2 61 "PortRooms$Duties" "start" "I") (wm_t (wm_l (wm_i 1 rfl)))) (fun _ h9 => h9) rfl (tyX2_ok 11 (by decide)) rfl rfl (Nat.le_of_ble_eq_true rfl) dX2_next_5 (fun H locs => ?_)
  clear hP hD hS
  intro hP hD hS
  replace hP : va_P D vwCl [(oC2 ad ln lfa dl dr be be tk nb), (aI cY (ad 47) 300 tp)] H := hP
  replace hD : va_D A [(oC2 ad ln lfa dl dr be be tk nb), (aI cY (ad 47) 300 tp)] := hD
  refine st_loop 8 (fun _ => []) (fun (bsq : Int32) (ls : Array Slot) (H : Heap) (locs : List Loc) => (be.toInt ≤ bsq.toInt) ∧ (bsq.toInt ≤ ln.toInt) ∧ (runTo spB tp ln.toNatClampNeg bsq.toNatClampNeg = runTo spB tp ln.toNatClampNeg be.toNatClampNeg) ∧ lv_has ls 1 [(0, .ref (ad 6))] ∧ va_P D vwCl [(oC2 ad ln lfa dl dr bsq be tk nb), (aI cY (ad 47) 300 tp)] H ∧ va_D A [(oC2 ad ln lfa dl dr bsq be tk nb), (aI cY (ad 47) 300 tp)] ∧ va_S A s.heap H locs) (fun (bsq : Int32) => ln.toInt - bsq.toInt) ?_ ?_ be ⟨(by omega), (by omega), (by rfl), lv_sub hl [0] rfl, hP, hD, hS⟩
  · rintro bsq ls H locs ⟨g1, g2, g3, hl, hP, hD, hS⟩
    show (0 : Int) ≤ ln.toInt - bsq.toInt
    omega
  · rintro n6 ih4 bsq ls H locs ⟨g1, g2, g3, hl, hP, hD, hS⟩ hm5
    have hm5 : ln.toInt - bsq.toInt < (n6 : Int) + 1 := hm5
    replace hl : lv_has ls 1 [(0, .ref (ad 6))] := hl
    replace hP : va_P D vwCl [(oC2 ad ln lfa dl dr bsq be tk nb), (aI cY (ad 47) 300 tp)] H := hP
    replace hD : va_D A [(oC2 ad ln lfa dl dr bsq be tk nb), (aI cY (ad 47) 300 tp)] := hD
    show W _ _ _ _ _ _ _ _ _ _ _ _ _ _ _ (F0 m 8 ls [])
    refine lv_aload_n hx hb dX2_next_8 rfl (lv_at hl 0 rfl) ?_
    refine va_get (D := D) (ci := 2) (v := .int bsq) (C := RX2) (T := TX2) (N := 15) hx hb hts inX2_next_X2 hown hK hP 0 rfl rfl 11 (by decide) (hts (Cond.fieldLink RX2 61 "PortRooms$Duties" "start" "I") (wm_t (wm_l (wm_i 1 rfl)))) (fun _ h9 => h9) rfl dX2_next_9 ?_
    refine lv_aload_n hx hb dX2_next_12 rfl (lv_at hl 0 rfl) ?_
    refine va_get (D := D) (ci := 2) (v := .int ln) (C := RX2) (T := TX2) (N := 15) hx hb hts inX2_next_X2 hown hK hP 0 rfl rfl 1 (by decide) (hts (Cond.fieldLink RX2 34 "PortRooms$Duties" "length" "I") (wm_t (wm_l (wm_i 2 rfl)))) (fun _ h9 => h9) rfl dX2_next_13 ?_
    refine lv_icmp_ge (tgt := 60) hx hb dX2_next_16 (by decide) (fun c7 => ?_) (fun c7 => ?_)
    · skip
      have f8 := i_le c7
      have clc9 := i_cl (x := ln) (by omega)
      have clc10 := i_cl (x := bsq) (by omega)
      have clc11 := i_cl (x := be) (by omega)
      have hs9 : tS tp ln.toNatClampNeg be.toNatClampNeg = bsq.toNatClampNeg := (show runTo spB tp ln.toNatClampNeg be.toNatClampNeg = _ from g3.symm.trans (sp_out (by omega)))
      refine lv_aload_n hx hb dX2_next_60 rfl (lv_at hl 0 rfl) ?_
      refine lv_aload_n hx hb dX2_next_61 rfl (lv_at hl 0 rfl) ?_
      refine va_get (D := D) (ci := 2) (v := .int bsq) (C := RX2) (T := TX2) (N := 15) hx hb hts inX2_next_X2 hown hK hP 0 rfl rfl 11 (by decide) (hts (Cond.fieldLink RX2 61 "PortRooms$Duties" "start" "I") (wm_t (wm_l (wm_i 1 rfl)))) (fun _ h9 => h9) rfl dX2_next_62 ?_
      refine va_put (D := D) (ci := 2) (v := .int bsq) (ty := .int) (C := RX2) (T := TX2) (N := 15) hx hb hts inX2_next_X2 tyX2 tyX2_ok nmX2 hown hK hP hD hS 0 rfl rfl 12 (by decide) (hts (Cond.fieldLink RX2 38 "PortRooms$Duties" "end" "I") (wm_t (wm_l (wm_i 0 rfl)))) (fun _ h9 => h9) rfl (tyX2_ok 12 (by decide)) rfl rfl (Nat.le_of_ble_eq_true rfl) dX2_next_65 (fun H locs => ?_)
      clear hP hD hS
      intro hP hD hS
      replace hP : va_P D vwCl [(oC2 ad ln lfa dl dr bsq bsq tk nb), (aI cY (ad 47) 300 tp)] H := hP
      replace hD : va_D A [(oC2 ad ln lfa dl dr bsq bsq tk nb), (aI cY (ad 47) 300 tp)] := hD
      refine lv_aload_n hx hb dX2_next_68 rfl (lv_at hl 0 rfl) ?_
      refine va_get (D := D) (ci := 2) (v := .int bsq) (C := RX2) (T := TX2) (N := 15) hx hb hts inX2_next_X2 hown hK hP 0 rfl rfl 11 (by decide) (hts (Cond.fieldLink RX2 61 "PortRooms$Duties" "start" "I") (wm_t (wm_l (wm_i 1 rfl)))) (fun _ h9 => h9) rfl dX2_next_69 ?_
      refine lv_aload_n hx hb dX2_next_72 rfl (lv_at hl 0 rfl) ?_
      refine va_get (D := D) (ci := 2) (v := .int ln) (C := RX2) (T := TX2) (N := 15) hx hb hts inX2_next_X2 hown hK hP 0 rfl rfl 1 (by decide) (hts (Cond.fieldLink RX2 34 "PortRooms$Duties" "length" "I") (wm_t (wm_l (wm_i 2 rfl)))) (fun _ h9 => h9) rfl dX2_next_73 ?_
      refine lv_icmp_lt (tgt := 88) hx hb dX2_next_76 (by decide) (fun c12 => ?_) (fun c12 => ?_)
      · skip
        have f13 := i_lt c12
        refine lv_aload_n hx hb dX2_next_88 rfl (lv_at hl 0 rfl) ?_
        refine va_get (D := D) (ci := 2) (v := .ref (ad 47)) (C := RX2) (T := TX2) (N := 15) hx hb hts inX2_next_X2 hown hK hP 0 rfl rfl 0 (by decide) (hts (Cond.fieldLink RX2 11 "PortRooms$Duties" "tape" "[B") (wm_t (wm_l (wm_i 3 rfl)))) (fun _ h9 => h9) rfl dX2_next_89 ?_
        refine lv_aload_n hx hb dX2_next_92 rfl (lv_at hl 0 rfl) ?_
        refine va_get (D := D) (ci := 2) (v := .int bsq) (C := RX2) (T := TX2) (N := 15) hx hb hts inX2_next_X2 hown hK hP 0 rfl rfl 11 (by decide) (hts (Cond.fieldLink RX2 61 "PortRooms$Duties" "start" "I") (wm_t (wm_l (wm_i 1 rfl)))) (fun _ h9 => h9) rfl dX2_next_93 ?_
        refine va_bald hx hb hK hP 1 1 rfl rfl (i_in (by omega) (by omega)) dX2_next_96 ?_
        refine lv_topi (fun v14 ev14 => ?_)
        have tlv14 : v14.toInt = (tp bsq.toNatClampNeg).toInt := by rw [ev14]
        refine st_i1 (va_runS (As := [.int v14]) (rest := []) ⟨hx, hb, hml, hown, hts⟩ (ct_X2_isLetter l D cI cY cJ cQ _ v14) (va_cwS 1 hts gX2_next_X2_isLetter rfl rfl rfl cdX2_isLetter ⟨Nat.le_of_ble_eq_true rfl, Nat.le_of_ble_eq_true rfl⟩) (cPreS (hP.sub [] rfl) hK (hD.sub [] (by decide +kernel) rfl) hN) rfl rfl hl.1 rfl (lv_room (Nat.le_of_ble_eq_true rfl)) dX2_next_97 ⟨Nat.le_of_ble_eq_true rfl, Nat.le_of_ble_eq_true rfl⟩) hP hD hS hA [] rfl (fun _ => rfl) (fun r17 u15 H locs hw16 => ?_)
        clear hP hS
        intro hP hS
        replace hw16 : r17 = if 97 ≤ v14.toInt ∧ v14.toInt ≤ 122 then 1 else 0 := hw16
        refine lv_if_eq (tgt := 110) hx hb dX2_next_100 (by decide) (fun c18 => ?_) (fun c18 => ?_)
        · skip
          have f19 := bo_f hw16 c18
          refine lv_aload_n hx hb dX2_next_110 rfl (lv_at hl 0 rfl) ?_
          refine va_get (D := D) (ci := 2) (v := .ref (ad 47)) (C := RX2) (T := TX2) (N := 15) hx hb hts inX2_next_X2 hown hK hP 0 rfl rfl 0 (by decide) (hts (Cond.fieldLink RX2 11 "PortRooms$Duties" "tape" "[B") (wm_t (wm_l (wm_i 3 rfl)))) (fun _ h9 => h9) rfl dX2_next_111 ?_
          refine lv_aload_n hx hb dX2_next_114 rfl (lv_at hl 0 rfl) ?_
          refine va_get (D := D) (ci := 2) (v := .int bsq) (C := RX2) (T := TX2) (N := 15) hx hb hts inX2_next_X2 hown hK hP 0 rfl rfl 11 (by decide) (hts (Cond.fieldLink RX2 61 "PortRooms$Duties" "start" "I") (wm_t (wm_l (wm_i 1 rfl)))) (fun _ h9 => h9) rfl dX2_next_115 ?_
          refine va_bald hx hb hK hP 1 1 rfl rfl (i_in (by omega) (by omega)) dX2_next_118 ?_
          refine lv_topi (fun v20 ev20 => ?_)
          have tlv20 : v20.toInt = (tp bsq.toNatClampNeg).toInt := by rw [ev20]
          refine st_i1 (va_runS (As := [.int v20]) (rest := []) ⟨hx, hb, hml, hown, hts⟩ (ct_X2_isFigure l D cI cY cJ cQ _ v20) (va_cwS 1 hts gX2_next_X2_isFigure rfl rfl rfl cdX2_isFigure ⟨Nat.le_of_ble_eq_true rfl, Nat.le_of_ble_eq_true rfl⟩) (cPreS (hP.sub [] rfl) hK (hD.sub [] (by decide +kernel) rfl) hN) rfl rfl hl.1 rfl (lv_room (Nat.le_of_ble_eq_true rfl)) dX2_next_119 ⟨Nat.le_of_ble_eq_true rfl, Nat.le_of_ble_eq_true rfl⟩) hP hD hS hA [] rfl (fun _ => rfl) (fun r23 u21 H locs hw22 => ?_)
          clear hP hS
          intro hP hS
          replace hw22 : r23 = if 48 ≤ v20.toInt ∧ v20.toInt ≤ 57 then 1 else 0 := hw22
          refine lv_if_eq (tgt := 132) hx hb dX2_next_122 (by decide) (fun c24 => ?_) (fun c24 => ?_)
          · skip
            have f25 := bo_f hw22 c24
            refine lv_aload_n hx hb dX2_next_132 rfl (lv_at hl 0 rfl) ?_
            refine lv_aload_n hx hb dX2_next_133 rfl (lv_at hl 0 rfl) ?_
            refine va_get (D := D) (ci := 2) (v := .ref (ad 47)) (C := RX2) (T := TX2) (N := 15) hx hb hts inX2_next_X2 hown hK hP 0 rfl rfl 0 (by decide) (hts (Cond.fieldLink RX2 11 "PortRooms$Duties" "tape" "[B") (wm_t (wm_l (wm_i 3 rfl)))) (fun _ h9 => h9) rfl dX2_next_134 ?_
            refine lv_aload_n hx hb dX2_next_137 rfl (lv_at hl 0 rfl) ?_
            refine va_get (D := D) (ci := 2) (v := .int bsq) (C := RX2) (T := TX2) (N := 15) hx hb hts inX2_next_X2 hown hK hP 0 rfl rfl 11 (by decide) (hts (Cond.fieldLink RX2 61 "PortRooms$Duties" "start" "I") (wm_t (wm_l (wm_i 1 rfl)))) (fun _ h9 => h9) rfl dX2_next_138 ?_
            refine va_bald hx hb hK hP 1 1 rfl rfl (i_in (by omega) (by omega)) dX2_next_141 ?_
            refine lv_topi (fun v26 ev26 => ?_)
            have tlv26 : v26.toInt = (tp bsq.toNatClampNeg).toInt := by rw [ev26]
            refine lv_bipush (v := 59) hx hb dX2_next_142 (by decide) ?_
            refine lv_icmp_ne (tgt := 152) hx hb dX2_next_144 (by decide) (fun c27 => ?_) (fun c27 => ?_)
            · skip
              have f28 := i_ne c27
              refine lv_aload_n hx hb dX2_next_152 rfl (lv_at hl 0 rfl) ?_
              refine va_get (D := D) (ci := 2) (v := .ref (ad 47)) (C := RX2) (T := TX2) (N := 15) hx hb hts inX2_next_X2 hown hK hP 0 rfl rfl 0 (by decide) (hts (Cond.fieldLink RX2 11 "PortRooms$Duties" "tape" "[B") (wm_t (wm_l (wm_i 3 rfl)))) (fun _ h9 => h9) rfl dX2_next_153 ?_
              refine lv_aload_n hx hb dX2_next_156 rfl (lv_at hl 0 rfl) ?_
              refine va_get (D := D) (ci := 2) (v := .int bsq) (C := RX2) (T := TX2) (N := 15) hx hb hts inX2_next_X2 hown hK hP 0 rfl rfl 11 (by decide) (hts (Cond.fieldLink RX2 61 "PortRooms$Duties" "start" "I") (wm_t (wm_l (wm_i 1 rfl)))) (fun _ h9 => h9) rfl dX2_next_157 ?_
              refine va_bald hx hb hK hP 1 1 rfl rfl (i_in (by omega) (by omega)) dX2_next_160 ?_
              refine lv_topi (fun v29 ev29 => ?_)
              have tlv29 : v29.toInt = (tp bsq.toNatClampNeg).toInt := by rw [ev29]
              refine lv_bipush (v := 62) hx hb dX2_next_161 (by decide) ?_
              refine lv_icmp_ne (tgt := 171) hx hb dX2_next_163 (by decide) (fun c30 => ?_) (fun c30 => ?_)
              · skip
                have f31 := i_ne c30
                refine lv_bipush (v := 9) hx hb dX2_next_171 (by decide) ?_
                refine va_put (D := D) (ci := 2) (v := .int 9) (ty := .int) (C := RX2) (T := TX2) (N := 15) hx hb hts inX2_next_X2 tyX2 tyX2_ok nmX2 hown hK hP hD hS 0 rfl rfl 13 (by decide) (hts (Cond.fieldLink RX2 47 "PortRooms$Duties" "token" "I") (wm_t (wm_l (wm_i 4 rfl)))) (fun _ h9 => h9) rfl (tyX2_ok 13 (by decide)) rfl rfl (Nat.le_of_ble_eq_true rfl) dX2_next_173 (fun H locs => ?_)
                clear hP hD hS
                intro hP hD hS
                replace hP : va_P D vwCl [(oC2 ad ln lfa dl dr bsq bsq (9) nb), (aI cY (ad 47) 300 tp)] H := hP
                replace hD : va_D A [(oC2 ad ln lfa dl dr bsq bsq (9) nb), (aI cY (ad 47) 300 tp)] := hD
                refine lv_aload_n hx hb dX2_next_176 rfl (lv_at hl 0 rfl) ?_
                refine lv_dup hx hb dX2_next_177 rfl ?_
                refine va_get (D := D) (ci := 2) (v := .int bsq) (C := RX2) (T := TX2) (N := 15) hx hb hts inX2_next_X2 hown hK hP 0 rfl rfl 12 (by decide) (hts (Cond.fieldLink RX2 38 "PortRooms$Duties" "end" "I") (wm_t (wm_l (wm_i 0 rfl)))) (fun _ h9 => h9) rfl dX2_next_178 ?_
                refine lv_iconst (v := 1) hx hb dX2_next_181 (by decide) ?_
                refine lv_iadd hx hb dX2_next_182 ?_
                refine lv_topi (fun v32 ev32 => ?_)
                try have tv32 : v32.toInt = bsq.toInt + 1 := by rw [ev32]; exact (i_add (x := bsq) (y := (1 : Int32)) (by rw [k1]; omega) (by rw [k1]; omega)).trans (by rw [k1])
                refine va_put (D := D) (ci := 2) (v := .int v32) (ty := .int) (C := RX2) (T := TX2) (N := 15) hx hb hts inX2_next_X2 tyX2 tyX2_ok nmX2 hown hK hP hD hS 0 rfl rfl 12 (by decide) (hts (Cond.fieldLink RX2 38 "PortRooms$Duties" "end" "I") (wm_t (wm_l (wm_i 0 rfl)))) (fun _ h9 => h9) rfl (tyX2_ok 12 (by decide)) rfl rfl (Nat.le_of_ble_eq_true rfl) dX2_next_183 (fun H locs => ?_)
                clear hP hD hS
                intro hP hD hS
                replace hP : va_P D vwCl [(oC2 ad ln lfa dl dr bsq v32 (9) nb), (aI cY (ad 47) 300 tp)] H := hP
                replace hD : va_D A [(oC2 ad ln lfa dl dr bsq v32 (9) nb), (aI cY (ad 47) 300 tp)] := hD
                have clc33 := i_cl (x := v32) (by omega)
                obtain ⟨hE9, hK9⟩ := tok_sgn hs9 (by omega) (by omega) (by omega)
                have hP9 := hP
                have hD9 := hD
                exact W.vret hx hb hr (fun t ht hW => ⟨⟨(bsq, v32, 9, nb), rfl, (by show 0 ≤ bsq.toInt ∧ bsq.toInt ≤ v32.toInt ∧ v32.toInt ≤ ln.toInt ∧ bsq.toInt = (tS tp ln.toNatClampNeg be.toNatClampNeg : Int) ∧ v32.toInt = (tE tp ln.toNatClampNeg be.toNatClampNeg : Int) ∧ (9 : Int32).toInt = tK tp ln.toNatClampNeg be.toNatClampNeg ∧ ((9 : Int32).toInt = 5 → nb.toInt = tN tp ln.toNatClampNeg be.toNatClampNeg); exact ⟨by omega, by omega, by omega, by omega, by omega, by rw [hK9]; (repeat' split) <;> omega, fun h9 => by exfalso; omega⟩), by rw [ht]; exact hP9, va_K.moved hW.alike hK, hD9⟩, hS.F ht⟩) hS.2.2 dX2_next_186
              · skip
                have f34 := i_eq c30
                refine lv_bipush (v := 7) hx hb dX2_next_166 (by decide) ?_
                refine lv_goto (tgt := 173) hx hb dX2_next_168 (by decide) ?_
                refine va_put (D := D) (ci := 2) (v := .int 7) (ty := .int) (C := RX2) (T := TX2) (N := 15) hx hb hts inX2_next_X2 tyX2 tyX2_ok nmX2 hown hK hP hD hS 0 rfl rfl 13 (by decide) (hts (Cond.fieldLink RX2 47 "PortRooms$Duties" "token" "I") (wm_t (wm_l (wm_i 4 rfl)))) (fun _ h9 => h9) rfl (tyX2_ok 13 (by decide)) rfl rfl (Nat.le_of_ble_eq_true rfl) dX2_next_173 (fun H locs => ?_)
                clear hP hD hS
                intro hP hD hS
                replace hP : va_P D vwCl [(oC2 ad ln lfa dl dr bsq bsq (7) nb), (aI cY (ad 47) 300 tp)] H := hP
                replace hD : va_D A [(oC2 ad ln lfa dl dr bsq bsq (7) nb), (aI cY (ad 47) 300 tp)] := hD
                refine lv_aload_n hx hb dX2_next_176 rfl (lv_at hl 0 rfl) ?_
                refine lv_dup hx hb dX2_next_177 rfl ?_
                refine va_get (D := D) (ci := 2) (v := .int bsq) (C := RX2) (T := TX2) (N := 15) hx hb hts inX2_next_X2 hown hK hP 0 rfl rfl 12 (by decide) (hts (Cond.fieldLink RX2 38 "PortRooms$Duties" "end" "I") (wm_t (wm_l (wm_i 0 rfl)))) (fun _ h9 => h9) rfl dX2_next_178 ?_
                refine lv_iconst (v := 1) hx hb dX2_next_181 (by decide) ?_
                refine lv_iadd hx hb dX2_next_182 ?_
                refine lv_topi (fun v35 ev35 => ?_)
                try have tv35 : v35.toInt = bsq.toInt + 1 := by rw [ev35]; exact (i_add (x := bsq) (y := (1 : Int32)) (by rw [k1]; omega) (by rw [k1]; omega)).trans (by rw [k1])
                refine va_put (D := D) (ci := 2) (v := .int v35) (ty := .int) (C := RX2) (T := TX2) (N := 15) hx hb hts inX2_next_X2 tyX2 tyX2_ok nmX2 hown hK hP hD hS 0 rfl rfl 12 (by decide) (hts (Cond.fieldLink RX2 38 "PortRooms$Duties" "end" "I") (wm_t (wm_l (wm_i 0 rfl)))) (fun _ h9 => h9) rfl (tyX2_ok 12 (by decide)) rfl rfl (Nat.le_of_ble_eq_true rfl) dX2_next_183 (fun H locs => ?_)
                clear hP hD hS
                intro hP hD hS
                replace hP : va_P D vwCl [(oC2 ad ln lfa dl dr bsq v35 (7) nb), (aI cY (ad 47) 300 tp)] H := hP
                replace hD : va_D A [(oC2 ad ln lfa dl dr bsq v35 (7) nb), (aI cY (ad 47) 300 tp)] := hD
                have clc36 := i_cl (x := v35) (by omega)
                obtain ⟨hE9, hK9⟩ := tok_sgn hs9 (by omega) (by omega) (by omega)
                have hP9 := hP
                have hD9 := hD
                exact W.vret hx hb hr (fun t ht hW => ⟨⟨(bsq, v35, 7, nb), rfl, (by show 0 ≤ bsq.toInt ∧ bsq.toInt ≤ v35.toInt ∧ v35.toInt ≤ ln.toInt ∧ bsq.toInt = (tS tp ln.toNatClampNeg be.toNatClampNeg : Int) ∧ v35.toInt = (tE tp ln.toNatClampNeg be.toNatClampNeg : Int) ∧ (7 : Int32).toInt = tK tp ln.toNatClampNeg be.toNatClampNeg ∧ ((7 : Int32).toInt = 5 → nb.toInt = tN tp ln.toNatClampNeg be.toNatClampNeg); exact ⟨by omega, by omega, by omega, by omega, by omega, by rw [hK9]; (repeat' split) <;> omega, fun h9 => by exfalso; omega⟩), by rw [ht]; exact hP9, va_K.moved hW.alike hK, hD9⟩, hS.F ht⟩) hS.2.2 dX2_next_186
            · skip
              have f37 := i_eq c27
              refine lv_bipush (v := 6) hx hb dX2_next_147 (by decide) ?_
              refine lv_goto (tgt := 173) hx hb dX2_next_149 (by decide) ?_
              refine va_put (D := D) (ci := 2) (v := .int 6) (ty := .int) (C := RX2) (T := TX2) (N := 15) hx hb hts inX2_next_X2 tyX2 tyX2_ok nmX2 hown hK hP hD hS 0 rfl rfl 13 (by decide) (hts (Cond.fieldLink RX2 47 "PortRooms$Duties" "token" "I") (wm_t (wm_l (wm_i 4 rfl)))) (fun _ h9 => h9) rfl (tyX2_ok 13 (by decide)) rfl rfl (Nat.le_of_ble_eq_true rfl) dX2_next_173 (fun H locs => ?_)
              clear hP hD hS
              intro hP hD hS
              replace hP : va_P D vwCl [(oC2 ad ln lfa dl dr bsq bsq (6) nb), (aI cY (ad 47) 300 tp)] H := hP
              replace hD : va_D A [(oC2 ad ln lfa dl dr bsq bsq (6) nb), (aI cY (ad 47) 300 tp)] := hD
              refine lv_aload_n hx hb dX2_next_176 rfl (lv_at hl 0 rfl) ?_
              refine lv_dup hx hb dX2_next_177 rfl ?_
              refine va_get (D := D) (ci := 2) (v := .int bsq) (C := RX2) (T := TX2) (N := 15) hx hb hts inX2_next_X2 hown hK hP 0 rfl rfl 12 (by decide) (hts (Cond.fieldLink RX2 38 "PortRooms$Duties" "end" "I") (wm_t (wm_l (wm_i 0 rfl)))) (fun _ h9 => h9) rfl dX2_next_178 ?_
              refine lv_iconst (v := 1) hx hb dX2_next_181 (by decide) ?_
              refine lv_iadd hx hb dX2_next_182 ?_
              refine lv_topi (fun v38 ev38 => ?_)
              try have tv38 : v38.toInt = bsq.toInt + 1 := by rw [ev38]; exact (i_add (x := bsq) (y := (1 : Int32)) (by rw [k1]; omega) (by rw [k1]; omega)).trans (by rw [k1])
              refine va_put (D := D) (ci := 2) (v := .int v38) (ty := .int) (C := RX2) (T := TX2) (N := 15) hx hb hts inX2_next_X2 tyX2 tyX2_ok nmX2 hown hK hP hD hS 0 rfl rfl 12 (by decide) (hts (Cond.fieldLink RX2 38 "PortRooms$Duties" "end" "I") (wm_t (wm_l (wm_i 0 rfl)))) (fun _ h9 => h9) rfl (tyX2_ok 12 (by decide)) rfl rfl (Nat.le_of_ble_eq_true rfl) dX2_next_183 (fun H locs => ?_)
              clear hP hD hS
              intro hP hD hS
              replace hP : va_P D vwCl [(oC2 ad ln lfa dl dr bsq v38 (6) nb), (aI cY (ad 47) 300 tp)] H := hP
              replace hD : va_D A [(oC2 ad ln lfa dl dr bsq v38 (6) nb), (aI cY (ad 47) 300 tp)] := hD
              have clc39 := i_cl (x := v38) (by omega)
              obtain ⟨hE9, hK9⟩ := tok_sgn hs9 (by omega) (by omega) (by omega)
              have hP9 := hP
              have hD9 := hD
              exact W.vret hx hb hr (fun t ht hW => ⟨⟨(bsq, v38, 6, nb), rfl, (by show 0 ≤ bsq.toInt ∧ bsq.toInt ≤ v38.toInt ∧ v38.toInt ≤ ln.toInt ∧ bsq.toInt = (tS tp ln.toNatClampNeg be.toNatClampNeg : Int) ∧ v38.toInt = (tE tp ln.toNatClampNeg be.toNatClampNeg : Int) ∧ (6 : Int32).toInt = tK tp ln.toNatClampNeg be.toNatClampNeg ∧ ((6 : Int32).toInt = 5 → nb.toInt = tN tp ln.toNatClampNeg be.toNatClampNeg); exact ⟨by omega, by omega, by omega, by omega, by omega, by rw [hK9]; (repeat' split) <;> omega, fun h9 => by exfalso; omega⟩), by rw [ht]; exact hP9, va_K.moved hW.alike hK, hD9⟩, hS.F ht⟩) hS.2.2 dX2_next_186
          · skip
            have f40 := bo_t hw22 c24
            refine lv_aload_n hx hb dX2_next_125 rfl (lv_at hl 0 rfl) ?_
            refine st_v (wr := []) (va_runV (C := RX2) (As := []) (rest := []) ⟨hx, hb, hml, hown, hts⟩ (ct_X2_readNumber l D cI cY cJ cQ _ ad ln lfa dl dr bsq bsq tk nb tp h1 h2 (by omega) (by omega) (by omega) (by omega)) (cwV 0 hts gX2_next_X2_readNumber rfl rfl rfl ⟨rfl, cdX2_readNumber⟩ ⟨Nat.le_of_ble_eq_true rfl, Nat.le_of_ble_eq_true rfl⟩) (cPreV (hP.sub [0, 1] rfl) hK (hD.sub [0, 1] (by decide +kernel) rfl) hN (ci := 2) (q0 := 0) rfl rfl) rfl rfl hl.1 rfl (lv_room (Nat.le_of_ble_eq_true rfl)) dX2_next_126 ⟨Nat.le_of_ble_eq_true rfl, Nat.le_of_ble_eq_true rfl⟩) hP hD hS hA [0, 1] [] rfl rfl (by decide +kernel) (by decide +kernel) (fun u41 H locs hw42 => ?_)
            clear hP hD hS
            intro hP hD hS
            obtain ⟨be_44, tk_45, nb_46⟩ := u41
            replace hw42 : bsq.toInt ≤ be_44.toInt ∧ be_44.toInt ≤ ln.toInt ∧ be_44.toNatClampNeg = runTo fiB tp ln.toNatClampNeg bsq.toNatClampNeg ∧ tk_45.toInt = (if bsq.toNatClampNeg + 4 < be_44.toNatClampNeg then 9 else 5) ∧ (tk_45.toInt = 5 → nb_46.toInt = nmV tp bsq.toNatClampNeg (be_44.toNatClampNeg - bsq.toNatClampNeg)) := hw42
            replace hP : va_P D vwCl [(oC2 ad ln lfa dl dr bsq be_44 tk_45 nb_46), (aI cY (ad 47) 300 tp)] H := hP
            replace hD : va_D A [(oC2 ad ln lfa dl dr bsq be_44 tk_45 nb_46), (aI cY (ad 47) 300 tp)] := hD
            refine lv_goto (tgt := 186) hx hb dX2_next_129 (by decide) ?_
            have clc47 := i_cl (x := be_44) (by omega)
            obtain ⟨ha9, hb9, hc9, hd9, he9⟩ := hw42
            obtain ⟨hE9, hK9, hN9⟩ := tok_fig hs9 (by omega) (by omega) hc9.symm
            have hP9 := hP
            have hD9 := hD
            exact W.vret hx hb hr (fun t ht hW => ⟨⟨(bsq, be_44, tk_45, nb_46), rfl, (by show 0 ≤ bsq.toInt ∧ bsq.toInt ≤ be_44.toInt ∧ be_44.toInt ≤ ln.toInt ∧ bsq.toInt = (tS tp ln.toNatClampNeg be.toNatClampNeg : Int) ∧ be_44.toInt = (tE tp ln.toNatClampNeg be.toNatClampNeg : Int) ∧ tk_45.toInt = tK tp ln.toNatClampNeg be.toNatClampNeg ∧ (tk_45.toInt = 5 → nb_46.toInt = tN tp ln.toNatClampNeg be.toNatClampNeg); exact ⟨by omega, by omega, by omega, by omega, by omega, hd9.trans hK9.symm, fun h9 => (he9 h9).trans hN9.symm⟩), by rw [ht]; exact hP9, va_K.moved hW.alike hK, hD9⟩, hS.F ht⟩) hS.2.2 dX2_next_186
        · skip
          have f48 := bo_t hw16 c18
          refine lv_aload_n hx hb dX2_next_103 rfl (lv_at hl 0 rfl) ?_
          refine st_v (wr := []) (va_runV (C := RX2) (As := []) (rest := []) ⟨hx, hb, hml, hown, hts⟩ (ct_X2_readName l D cI cY cJ cQ _ aK aV ad ln lfa dl dr bsq bsq tk nb tp h1 h2 (by omega) (by omega) (by omega)) (cwV 0 hts gX2_next_X2_readName rfl rfl rfl ⟨rfl, cdX2_readName⟩ ⟨Nat.le_of_ble_eq_true rfl, Nat.le_of_ble_eq_true rfl⟩) (cPreTV (hP.sub [0, 1] rfl) hK (hD.sub [0, 1] (by decide +kernel) rfl) hN hS (va_free hD hS hA [0, 1] rfl) hT (ci := 2) (q0 := 0) rfl rfl) rfl rfl hl.1 rfl (lv_room (Nat.le_of_ble_eq_true rfl)) dX2_next_104 ⟨Nat.le_of_ble_eq_true rfl, Nat.le_of_ble_eq_true rfl⟩) hP hD hS hA [0, 1] [] rfl rfl (by decide +kernel) (by decide +kernel) (fun u49 H locs hw50 => ?_)
          clear hP hD hS
          intro hP hD hS
          obtain ⟨be_52, tk_53⟩ := u49
          replace hw50 : bsq.toInt ≤ be_52.toInt ∧ be_52.toInt ≤ ln.toInt ∧ be_52.toNatClampNeg = runTo leB tp ln.toNatClampNeg bsq.toNatClampNeg ∧ tk_53.toInt = (if bsq.toNatClampNeg + 6 < be_52.toNatClampNeg then 9 else wdK tp bsq.toNatClampNeg be_52.toNatClampNeg 5) := hw50
          replace hP : va_P D vwCl [(oC2 ad ln lfa dl dr bsq be_52 tk_53 nb), (aI cY (ad 47) 300 tp)] H := hP
          replace hD : va_D A [(oC2 ad ln lfa dl dr bsq be_52 tk_53 nb), (aI cY (ad 47) 300 tp)] := hD
          refine lv_goto (tgt := 186) hx hb dX2_next_107 (by decide) ?_
          have clc54 := i_cl (x := be_52) (by omega)
          obtain ⟨ha9, hb9, hc9, hd9⟩ := hw50
          obtain ⟨hE9, hK9⟩ := tok_let hs9 (by omega) (by omega) hc9.symm
          have hP9 := hP
          have hD9 := hD
          exact W.vret hx hb hr (fun t ht hW => ⟨⟨(bsq, be_52, tk_53, nb), rfl, (by show 0 ≤ bsq.toInt ∧ bsq.toInt ≤ be_52.toInt ∧ be_52.toInt ≤ ln.toInt ∧ bsq.toInt = (tS tp ln.toNatClampNeg be.toNatClampNeg : Int) ∧ be_52.toInt = (tE tp ln.toNatClampNeg be.toNatClampNeg : Int) ∧ tk_53.toInt = tK tp ln.toNatClampNeg be.toNatClampNeg ∧ (tk_53.toInt = 5 → nb.toInt = tN tp ln.toNatClampNeg be.toNatClampNeg); exact ⟨by omega, by omega, by omega, by omega, by omega, hd9.trans hK9.symm, fun h9 => by exfalso; have h8 := wdK_rng tp bsq.toNatClampNeg be_52.toNatClampNeg 5 (by omega); rw [hd9] at h9; split at h9 <;> omega⟩), by rw [ht]; exact hP9, va_K.moved hW.alike hK, hD9⟩, hS.F ht⟩) hS.2.2 dX2_next_186
      · skip
        have f55 := i_nlt c12
        refine lv_aload_n hx hb dX2_next_79 rfl (lv_at hl 0 rfl) ?_
        refine lv_bipush (v := 8) hx hb dX2_next_80 (by decide) ?_
        refine va_put (D := D) (ci := 2) (v := .int 8) (ty := .int) (C := RX2) (T := TX2) (N := 15) hx hb hts inX2_next_X2 tyX2 tyX2_ok nmX2 hown hK hP hD hS 0 rfl rfl 13 (by decide) (hts (Cond.fieldLink RX2 47 "PortRooms$Duties" "token" "I") (wm_t (wm_l (wm_i 4 rfl)))) (fun _ h9 => h9) rfl (tyX2_ok 13 (by decide)) rfl rfl (Nat.le_of_ble_eq_true rfl) dX2_next_82 (fun H locs => ?_)
        clear hP hD hS
        intro hP hD hS
        replace hP : va_P D vwCl [(oC2 ad ln lfa dl dr bsq bsq (8) nb), (aI cY (ad 47) 300 tp)] H := hP
        replace hD : va_D A [(oC2 ad ln lfa dl dr bsq bsq (8) nb), (aI cY (ad 47) 300 tp)] := hD
        refine lv_goto (tgt := 186) hx hb dX2_next_85 (by decide) ?_
        have clc56 := i_cl (x := bsq) (by omega)
        obtain ⟨hE9, hK9⟩ := tok_end hs9 (by omega)
        have hP9 := hP
        have hD9 := hD
        exact W.vret hx hb hr (fun t ht hW => ⟨⟨(bsq, bsq, 8, nb), rfl, (by show 0 ≤ bsq.toInt ∧ bsq.toInt ≤ bsq.toInt ∧ bsq.toInt ≤ ln.toInt ∧ bsq.toInt = (tS tp ln.toNatClampNeg be.toNatClampNeg : Int) ∧ bsq.toInt = (tE tp ln.toNatClampNeg be.toNatClampNeg : Int) ∧ (8 : Int32).toInt = tK tp ln.toNatClampNeg be.toNatClampNeg ∧ ((8 : Int32).toInt = 5 → nb.toInt = tN tp ln.toNatClampNeg be.toNatClampNeg); exact ⟨by omega, by omega, by omega, by omega, by omega, by omega, fun h9 => by exfalso; omega⟩), by rw [ht]; exact hP9, va_K.moved hW.alike hK, hD9⟩, hS.F ht⟩) hS.2.2 dX2_next_186
    · skip
      have f57 := i_nle c7
      refine lv_aload_n hx hb dX2_next_19 rfl (lv_at hl 0 rfl) ?_
      refine va_get (D := D) (ci := 2) (v := .ref (ad 47)) (C := RX2) (T := TX2) (N := 15) hx hb hts inX2_next_X2 hown hK hP 0 rfl rfl 0 (by decide) (hts (Cond.fieldLink RX2 11 "PortRooms$Duties" "tape" "[B") (wm_t (wm_l (wm_i 3 rfl)))) (fun _ h9 => h9) rfl dX2_next_20 ?_
      refine lv_aload_n hx hb dX2_next_23 rfl (lv_at hl 0 rfl) ?_
      refine va_get (D := D) (ci := 2) (v := .int bsq) (C := RX2) (T := TX2) (N := 15) hx hb hts inX2_next_X2 hown hK hP 0 rfl rfl 11 (by decide) (hts (Cond.fieldLink RX2 61 "PortRooms$Duties" "start" "I") (wm_t (wm_l (wm_i 1 rfl)))) (fun _ h9 => h9) rfl dX2_next_24 ?_
      refine va_bald hx hb hK hP 1 1 rfl rfl (i_in (by omega) (by omega)) dX2_next_27 ?_
      refine lv_topi (fun v58 ev58 => ?_)
      have tlv58 : v58.toInt = (tp bsq.toNatClampNeg).toInt := by rw [ev58]
      refine lv_bipush (v := 32) hx hb dX2_next_28 (by decide) ?_
      refine lv_icmp_eq (tgt := 47) hx hb dX2_next_30 (by decide) (fun c59 => ?_) (fun c59 => ?_)
      · skip
        have f60 := i_eq c59
        refine lv_aload_n hx hb dX2_next_47 rfl (lv_at hl 0 rfl) ?_
        refine lv_dup hx hb dX2_next_48 rfl ?_
        refine va_get (D := D) (ci := 2) (v := .int bsq) (C := RX2) (T := TX2) (N := 15) hx hb hts inX2_next_X2 hown hK hP 0 rfl rfl 11 (by decide) (hts (Cond.fieldLink RX2 61 "PortRooms$Duties" "start" "I") (wm_t (wm_l (wm_i 1 rfl)))) (fun _ h9 => h9) rfl dX2_next_49 ?_
        refine lv_iconst (v := 1) hx hb dX2_next_52 (by decide) ?_
        refine lv_iadd hx hb dX2_next_53 ?_
        refine lv_topi (fun v61 ev61 => ?_)
        try have tv61 : v61.toInt = bsq.toInt + 1 := by rw [ev61]; exact (i_add (x := bsq) (y := (1 : Int32)) (by rw [k1]; omega) (by rw [k1]; omega)).trans (by rw [k1])
        refine va_put (D := D) (ci := 2) (v := .int v61) (ty := .int) (C := RX2) (T := TX2) (N := 15) hx hb hts inX2_next_X2 tyX2 tyX2_ok nmX2 hown hK hP hD hS 0 rfl rfl 11 (by decide) (hts (Cond.fieldLink RX2 61 "PortRooms$Duties" "start" "I") (wm_t (wm_l (wm_i 1 rfl)))) (fun _ h9 => h9) rfl (tyX2_ok 11 (by decide)) rfl rfl (Nat.le_of_ble_eq_true rfl) dX2_next_54 (fun H locs => ?_)
        clear hP hD hS
        intro hP hD hS
        replace hP : va_P D vwCl [(oC2 ad ln lfa dl dr v61 be tk nb), (aI cY (ad 47) 300 tp)] H := hP
        replace hD : va_D A [(oC2 ad ln lfa dl dr v61 be tk nb), (aI cY (ad 47) 300 tp)] := hD
        refine lv_goto (tgt := 8) hx hb dX2_next_57 (by decide) ?_
        have clc62 := i_cl (x := ln) (by omega)
        have clc63 := i_cl (x := bsq) (by omega)
        have clc64 := i_cl (x := v61) (by omega)
        exact ih4 v61 ls H locs ⟨(by omega), (by omega), (by rw [show v61.toNatClampNeg = bsq.toNatClampNeg + 1 by omega]; exact (sp_in (T := tp) (L := ln.toNatClampNeg) (i := bsq.toNatClampNeg) (by omega) (by omega)).symm.trans g3), lv_sub hl [0] rfl, hP.sub [0, 1] rfl, hD.sub [0, 1] (by decide +kernel) rfl, hS⟩ (by show ln.toInt - v61.toInt < _; omega)
      · skip
        have f65 := i_ne c59
        refine lv_aload_n hx hb dX2_next_33 rfl (lv_at hl 0 rfl) ?_
        refine va_get (D := D) (ci := 2) (v := .ref (ad 47)) (C := RX2) (T := TX2) (N := 15) hx hb hts inX2_next_X2 hown hK hP 0 rfl rfl 0 (by decide) (hts (Cond.fieldLink RX2 11 "PortRooms$Duties" "tape" "[B") (wm_t (wm_l (wm_i 3 rfl)))) (fun _ h9 => h9) rfl dX2_next_34 ?_
        refine lv_aload_n hx hb dX2_next_37 rfl (lv_at hl 0 rfl) ?_
        refine va_get (D := D) (ci := 2) (v := .int bsq) (C := RX2) (T := TX2) (N := 15) hx hb hts inX2_next_X2 hown hK hP 0 rfl rfl 11 (by decide) (hts (Cond.fieldLink RX2 61 "PortRooms$Duties" "start" "I") (wm_t (wm_l (wm_i 1 rfl)))) (fun _ h9 => h9) rfl dX2_next_38 ?_
        refine va_bald hx hb hK hP 1 1 rfl rfl (i_in (by omega) (by omega)) dX2_next_41 ?_
        refine lv_topi (fun v66 ev66 => ?_)
        have tlv66 : v66.toInt = (tp bsq.toNatClampNeg).toInt := by rw [ev66]
        refine lv_bipush (v := 10) hx hb dX2_next_42 (by decide) ?_
        refine lv_icmp_ne (tgt := 60) hx hb dX2_next_44 (by decide) (fun c67 => ?_) (fun c67 => ?_)
        · skip
          have f68 := i_ne c67
          have clc69 := i_cl (x := ln) (by omega)
          have clc70 := i_cl (x := bsq) (by omega)
          have clc71 := i_cl (x := be) (by omega)
          have hs9 : tS tp ln.toNatClampNeg be.toNatClampNeg = bsq.toNatClampNeg := (show runTo spB tp ln.toNatClampNeg be.toNatClampNeg = _ from g3.symm.trans (sp_out (by omega)))
          refine lv_aload_n hx hb dX2_next_60 rfl (lv_at hl 0 rfl) ?_
          refine lv_aload_n hx hb dX2_next_61 rfl (lv_at hl 0 rfl) ?_
          refine va_get (D := D) (ci := 2) (v := .int bsq) (C := RX2) (T := TX2) (N := 15) hx hb hts inX2_next_X2 hown hK hP 0 rfl rfl 11 (by decide) (hts (Cond.fieldLink RX2 61 "PortRooms$Duties" "start" "I") (wm_t (wm_l (wm_i 1 rfl)))) (fun _ h9 => h9) rfl dX2_next_62 ?_
          refine va_put (D := D) (ci := 2) (v := .int bsq) (ty := .int) (C := RX2) (T := TX2) (N := 15) hx hb hts inX2_next_X2 tyX2 tyX2_ok nmX2 hown hK hP hD hS 0 rfl rfl 12 (by decide) (hts (Cond.fieldLink RX2 38 "PortRooms$Duties" "end" "I") (wm_t (wm_l (wm_i 0 rfl)))) (fun _ h9 => h9) rfl (tyX2_ok 12 (by decide)) rfl rfl (Nat.le_of_ble_eq_true rfl) dX2_next_65 (fun H locs => ?_)
          clear hP hD hS
          intro hP hD hS
          replace hP : va_P D vwCl [(oC2 ad ln lfa dl dr bsq bsq tk nb), (aI cY (ad 47) 300 tp)] H := hP
          replace hD : va_D A [(oC2 ad ln lfa dl dr bsq bsq tk nb), (aI cY (ad 47) 300 tp)] := hD
          refine lv_aload_n hx hb dX2_next_68 rfl (lv_at hl 0 rfl) ?_
          refine va_get (D := D) (ci := 2) (v := .int bsq) (C := RX2) (T := TX2) (N := 15) hx hb hts inX2_next_X2 hown hK hP 0 rfl rfl 11 (by decide) (hts (Cond.fieldLink RX2 61 "PortRooms$Duties" "start" "I") (wm_t (wm_l (wm_i 1 rfl)))) (fun _ h9 => h9) rfl dX2_next_69 ?_
          refine lv_aload_n hx hb dX2_next_72 rfl (lv_at hl 0 rfl) ?_
          refine va_get (D := D) (ci := 2) (v := .int ln) (C := RX2) (T := TX2) (N := 15) hx hb hts inX2_next_X2 hown hK hP 0 rfl rfl 1 (by decide) (hts (Cond.fieldLink RX2 34 "PortRooms$Duties" "length" "I") (wm_t (wm_l (wm_i 2 rfl)))) (fun _ h9 => h9) rfl dX2_next_73 ?_
          refine lv_icmp_lt (tgt := 88) hx hb dX2_next_76 (by decide) (fun c72 => ?_) (fun c72 => ?_)
          · skip
            have f73 := i_lt c72
            refine lv_aload_n hx hb dX2_next_88 rfl (lv_at hl 0 rfl) ?_
            refine va_get (D := D) (ci := 2) (v := .ref (ad 47)) (C := RX2) (T := TX2) (N := 15) hx hb hts inX2_next_X2 hown hK hP 0 rfl rfl 0 (by decide) (hts (Cond.fieldLink RX2 11 "PortRooms$Duties" "tape" "[B") (wm_t (wm_l (wm_i 3 rfl)))) (fun _ h9 => h9) rfl dX2_next_89 ?_
            refine lv_aload_n hx hb dX2_next_92 rfl (lv_at hl 0 rfl) ?_
            refine va_get (D := D) (ci := 2) (v := .int bsq) (C := RX2) (T := TX2) (N := 15) hx hb hts inX2_next_X2 hown hK hP 0 rfl rfl 11 (by decide) (hts (Cond.fieldLink RX2 61 "PortRooms$Duties" "start" "I") (wm_t (wm_l (wm_i 1 rfl)))) (fun _ h9 => h9) rfl dX2_next_93 ?_
            refine va_bald hx hb hK hP 1 1 rfl rfl (i_in (by omega) (by omega)) dX2_next_96 ?_
            refine lv_topi (fun v74 ev74 => ?_)
            have tlv74 : v74.toInt = (tp bsq.toNatClampNeg).toInt := by rw [ev74]
            refine st_i1 (va_runS (As := [.int v74]) (rest := []) ⟨hx, hb, hml, hown, hts⟩ (ct_X2_isLetter l D cI cY cJ cQ _ v74) (va_cwS 1 hts gX2_next_X2_isLetter rfl rfl rfl cdX2_isLetter ⟨Nat.le_of_ble_eq_true rfl, Nat.le_of_ble_eq_true rfl⟩) (cPreS (hP.sub [] rfl) hK (hD.sub [] (by decide +kernel) rfl) hN) rfl rfl hl.1 rfl (lv_room (Nat.le_of_ble_eq_true rfl)) dX2_next_97 ⟨Nat.le_of_ble_eq_true rfl, Nat.le_of_ble_eq_true rfl⟩) hP hD hS hA [] rfl (fun _ => rfl) (fun r77 u75 H locs hw76 => ?_)
            clear hP hS
            intro hP hS
            replace hw76 : r77 = if 97 ≤ v74.toInt ∧ v74.toInt ≤ 122 then 1 else 0 := hw76
            refine lv_if_eq (tgt := 110) hx hb dX2_next_100 (by decide) (fun c78 => ?_) (fun c78 => ?_)
            · skip
              have f79 := bo_f hw76 c78
              refine lv_aload_n hx hb dX2_next_110 rfl (lv_at hl 0 rfl) ?_
              refine va_get (D := D) (ci := 2) (v := .ref (ad 47)) (C := RX2) (T := TX2) (N := 15) hx hb hts inX2_next_X2 hown hK hP 0 rfl rfl 0 (by decide) (hts (Cond.fieldLink RX2 11 "PortRooms$Duties" "tape" "[B") (wm_t (wm_l (wm_i 3 rfl)))) (fun _ h9 => h9) rfl dX2_next_111 ?_
              refine lv_aload_n hx hb dX2_next_114 rfl (lv_at hl 0 rfl) ?_
              refine va_get (D := D) (ci := 2) (v := .int bsq) (C := RX2) (T := TX2) (N := 15) hx hb hts inX2_next_X2 hown hK hP 0 rfl rfl 11 (by decide) (hts (Cond.fieldLink RX2 61 "PortRooms$Duties" "start" "I") (wm_t (wm_l (wm_i 1 rfl)))) (fun _ h9 => h9) rfl dX2_next_115 ?_
              refine va_bald hx hb hK hP 1 1 rfl rfl (i_in (by omega) (by omega)) dX2_next_118 ?_
              refine lv_topi (fun v80 ev80 => ?_)
              have tlv80 : v80.toInt = (tp bsq.toNatClampNeg).toInt := by rw [ev80]
              refine st_i1 (va_runS (As := [.int v80]) (rest := []) ⟨hx, hb, hml, hown, hts⟩ (ct_X2_isFigure l D cI cY cJ cQ _ v80) (va_cwS 1 hts gX2_next_X2_isFigure rfl rfl rfl cdX2_isFigure ⟨Nat.le_of_ble_eq_true rfl, Nat.le_of_ble_eq_true rfl⟩) (cPreS (hP.sub [] rfl) hK (hD.sub [] (by decide +kernel) rfl) hN) rfl rfl hl.1 rfl (lv_room (Nat.le_of_ble_eq_true rfl)) dX2_next_119 ⟨Nat.le_of_ble_eq_true rfl, Nat.le_of_ble_eq_true rfl⟩) hP hD hS hA [] rfl (fun _ => rfl) (fun r83 u81 H locs hw82 => ?_)
              clear hP hS
              intro hP hS
              replace hw82 : r83 = if 48 ≤ v80.toInt ∧ v80.toInt ≤ 57 then 1 else 0 := hw82
              refine lv_if_eq (tgt := 132) hx hb dX2_next_122 (by decide) (fun c84 => ?_) (fun c84 => ?_)
              · skip
                have f85 := bo_f hw82 c84
                refine lv_aload_n hx hb dX2_next_132 rfl (lv_at hl 0 rfl) ?_
                refine lv_aload_n hx hb dX2_next_133 rfl (lv_at hl 0 rfl) ?_
                refine va_get (D := D) (ci := 2) (v := .ref (ad 47)) (C := RX2) (T := TX2) (N := 15) hx hb hts inX2_next_X2 hown hK hP 0 rfl rfl 0 (by decide) (hts (Cond.fieldLink RX2 11 "PortRooms$Duties" "tape" "[B") (wm_t (wm_l (wm_i 3 rfl)))) (fun _ h9 => h9) rfl dX2_next_134 ?_
                refine lv_aload_n hx hb dX2_next_137 rfl (lv_at hl 0 rfl) ?_
                refine va_get (D := D) (ci := 2) (v := .int bsq) (C := RX2) (T := TX2) (N := 15) hx hb hts inX2_next_X2 hown hK hP 0 rfl rfl 11 (by decide) (hts (Cond.fieldLink RX2 61 "PortRooms$Duties" "start" "I") (wm_t (wm_l (wm_i 1 rfl)))) (fun _ h9 => h9) rfl dX2_next_138 ?_
                refine va_bald hx hb hK hP 1 1 rfl rfl (i_in (by omega) (by omega)) dX2_next_141 ?_
                refine lv_topi (fun v86 ev86 => ?_)
                have tlv86 : v86.toInt = (tp bsq.toNatClampNeg).toInt := by rw [ev86]
                refine lv_bipush (v := 59) hx hb dX2_next_142 (by decide) ?_
                refine lv_icmp_ne (tgt := 152) hx hb dX2_next_144 (by decide) (fun c87 => ?_) (fun c87 => ?_)
                · skip
                  have f88 := i_ne c87
                  refine lv_aload_n hx hb dX2_next_152 rfl (lv_at hl 0 rfl) ?_
                  refine va_get (D := D) (ci := 2) (v := .ref (ad 47)) (C := RX2) (T := TX2) (N := 15) hx hb hts inX2_next_X2 hown hK hP 0 rfl rfl 0 (by decide) (hts (Cond.fieldLink RX2 11 "PortRooms$Duties" "tape" "[B") (wm_t (wm_l (wm_i 3 rfl)))) (fun _ h9 => h9) rfl dX2_next_153 ?_
                  refine lv_aload_n hx hb dX2_next_156 rfl (lv_at hl 0 rfl) ?_
                  refine va_get (D := D) (ci := 2) (v := .int bsq) (C := RX2) (T := TX2) (N := 15) hx hb hts inX2_next_X2 hown hK hP 0 rfl rfl 11 (by decide) (hts (Cond.fieldLink RX2 61 "PortRooms$Duties" "start" "I") (wm_t (wm_l (wm_i 1 rfl)))) (fun _ h9 => h9) rfl dX2_next_157 ?_
                  refine va_bald hx hb hK hP 1 1 rfl rfl (i_in (by omega) (by omega)) dX2_next_160 ?_
                  refine lv_topi (fun v89 ev89 => ?_)
                  have tlv89 : v89.toInt = (tp bsq.toNatClampNeg).toInt := by rw [ev89]
                  refine lv_bipush (v := 62) hx hb dX2_next_161 (by decide) ?_
                  refine lv_icmp_ne (tgt := 171) hx hb dX2_next_163 (by decide) (fun c90 => ?_) (fun c90 => ?_)
                  · skip
                    have f91 := i_ne c90
                    refine lv_bipush (v := 9) hx hb dX2_next_171 (by decide) ?_
                    refine va_put (D := D) (ci := 2) (v := .int 9) (ty := .int) (C := RX2) (T := TX2) (N := 15) hx hb hts inX2_next_X2 tyX2 tyX2_ok nmX2 hown hK hP hD hS 0 rfl rfl 13 (by decide) (hts (Cond.fieldLink RX2 47 "PortRooms$Duties" "token" "I") (wm_t (wm_l (wm_i 4 rfl)))) (fun _ h9 => h9) rfl (tyX2_ok 13 (by decide)) rfl rfl (Nat.le_of_ble_eq_true rfl) dX2_next_173 (fun H locs => ?_)
                    clear hP hD hS
                    intro hP hD hS
                    replace hP : va_P D vwCl [(oC2 ad ln lfa dl dr bsq bsq (9) nb), (aI cY (ad 47) 300 tp)] H := hP
                    replace hD : va_D A [(oC2 ad ln lfa dl dr bsq bsq (9) nb), (aI cY (ad 47) 300 tp)] := hD
                    refine lv_aload_n hx hb dX2_next_176 rfl (lv_at hl 0 rfl) ?_
                    refine lv_dup hx hb dX2_next_177 rfl ?_
                    refine va_get (D := D) (ci := 2) (v := .int bsq) (C := RX2) (T := TX2) (N := 15) hx hb hts inX2_next_X2 hown hK hP 0 rfl rfl 12 (by decide) (hts (Cond.fieldLink RX2 38 "PortRooms$Duties" "end" "I") (wm_t (wm_l (wm_i 0 rfl)))) (fun _ h9 => h9) rfl dX2_next_178 ?_
                    refine lv_iconst (v := 1) hx hb dX2_next_181 (by decide) ?_
                    refine lv_iadd hx hb dX2_next_182 ?_
                    refine lv_topi (fun v92 ev92 => ?_)
                    try have tv92 : v92.toInt = bsq.toInt + 1 := by rw [ev92]; exact (i_add (x := bsq) (y := (1 : Int32)) (by rw [k1]; omega) (by rw [k1]; omega)).trans (by rw [k1])
                    refine va_put (D := D) (ci := 2) (v := .int v92) (ty := .int) (C := RX2) (T := TX2) (N := 15) hx hb hts inX2_next_X2 tyX2 tyX2_ok nmX2 hown hK hP hD hS 0 rfl rfl 12 (by decide) (hts (Cond.fieldLink RX2 38 "PortRooms$Duties" "end" "I") (wm_t (wm_l (wm_i 0 rfl)))) (fun _ h9 => h9) rfl (tyX2_ok 12 (by decide)) rfl rfl (Nat.le_of_ble_eq_true rfl) dX2_next_183 (fun H locs => ?_)
                    clear hP hD hS
                    intro hP hD hS
                    replace hP : va_P D vwCl [(oC2 ad ln lfa dl dr bsq v92 (9) nb), (aI cY (ad 47) 300 tp)] H := hP
                    replace hD : va_D A [(oC2 ad ln lfa dl dr bsq v92 (9) nb), (aI cY (ad 47) 300 tp)] := hD
                    have clc93 := i_cl (x := v92) (by omega)
                    obtain ⟨hE9, hK9⟩ := tok_sgn hs9 (by omega) (by omega) (by omega)
                    have hP9 := hP
                    have hD9 := hD
                    exact W.vret hx hb hr (fun t ht hW => ⟨⟨(bsq, v92, 9, nb), rfl, (by show 0 ≤ bsq.toInt ∧ bsq.toInt ≤ v92.toInt ∧ v92.toInt ≤ ln.toInt ∧ bsq.toInt = (tS tp ln.toNatClampNeg be.toNatClampNeg : Int) ∧ v92.toInt = (tE tp ln.toNatClampNeg be.toNatClampNeg : Int) ∧ (9 : Int32).toInt = tK tp ln.toNatClampNeg be.toNatClampNeg ∧ ((9 : Int32).toInt = 5 → nb.toInt = tN tp ln.toNatClampNeg be.toNatClampNeg); exact ⟨by omega, by omega, by omega, by omega, by omega, by rw [hK9]; (repeat' split) <;> omega, fun h9 => by exfalso; omega⟩), by rw [ht]; exact hP9, va_K.moved hW.alike hK, hD9⟩, hS.F ht⟩) hS.2.2 dX2_next_186
                  · skip
                    have f94 := i_eq c90
                    refine lv_bipush (v := 7) hx hb dX2_next_166 (by decide) ?_
                    refine lv_goto (tgt := 173) hx hb dX2_next_168 (by decide) ?_
                    refine va_put (D := D) (ci := 2) (v := .int 7) (ty := .int) (C := RX2) (T := TX2) (N := 15) hx hb hts inX2_next_X2 tyX2 tyX2_ok nmX2 hown hK hP hD hS 0 rfl rfl 13 (by decide) (hts (Cond.fieldLink RX2 47 "PortRooms$Duties" "token" "I") (wm_t (wm_l (wm_i 4 rfl)))) (fun _ h9 => h9) rfl (tyX2_ok 13 (by decide)) rfl rfl (Nat.le_of_ble_eq_true rfl) dX2_next_173 (fun H locs => ?_)
                    clear hP hD hS
                    intro hP hD hS
                    replace hP : va_P D vwCl [(oC2 ad ln lfa dl dr bsq bsq (7) nb), (aI cY (ad 47) 300 tp)] H := hP
                    replace hD : va_D A [(oC2 ad ln lfa dl dr bsq bsq (7) nb), (aI cY (ad 47) 300 tp)] := hD
                    refine lv_aload_n hx hb dX2_next_176 rfl (lv_at hl 0 rfl) ?_
                    refine lv_dup hx hb dX2_next_177 rfl ?_
                    refine va_get (D := D) (ci := 2) (v := .int bsq) (C := RX2) (T := TX2) (N := 15) hx hb hts inX2_next_X2 hown hK hP 0 rfl rfl 12 (by decide) (hts (Cond.fieldLink RX2 38 "PortRooms$Duties" "end" "I") (wm_t (wm_l (wm_i 0 rfl)))) (fun _ h9 => h9) rfl dX2_next_178 ?_
                    refine lv_iconst (v := 1) hx hb dX2_next_181 (by decide) ?_
                    refine lv_iadd hx hb dX2_next_182 ?_
                    refine lv_topi (fun v95 ev95 => ?_)
                    try have tv95 : v95.toInt = bsq.toInt + 1 := by rw [ev95]; exact (i_add (x := bsq) (y := (1 : Int32)) (by rw [k1]; omega) (by rw [k1]; omega)).trans (by rw [k1])
                    refine va_put (D := D) (ci := 2) (v := .int v95) (ty := .int) (C := RX2) (T := TX2) (N := 15) hx hb hts inX2_next_X2 tyX2 tyX2_ok nmX2 hown hK hP hD hS 0 rfl rfl 12 (by decide) (hts (Cond.fieldLink RX2 38 "PortRooms$Duties" "end" "I") (wm_t (wm_l (wm_i 0 rfl)))) (fun _ h9 => h9) rfl (tyX2_ok 12 (by decide)) rfl rfl (Nat.le_of_ble_eq_true rfl) dX2_next_183 (fun H locs => ?_)
                    clear hP hD hS
                    intro hP hD hS
                    replace hP : va_P D vwCl [(oC2 ad ln lfa dl dr bsq v95 (7) nb), (aI cY (ad 47) 300 tp)] H := hP
                    replace hD : va_D A [(oC2 ad ln lfa dl dr bsq v95 (7) nb), (aI cY (ad 47) 300 tp)] := hD
                    have clc96 := i_cl (x := v95) (by omega)
                    obtain ⟨hE9, hK9⟩ := tok_sgn hs9 (by omega) (by omega) (by omega)
                    have hP9 := hP
                    have hD9 := hD
                    exact W.vret hx hb hr (fun t ht hW => ⟨⟨(bsq, v95, 7, nb), rfl, (by show 0 ≤ bsq.toInt ∧ bsq.toInt ≤ v95.toInt ∧ v95.toInt ≤ ln.toInt ∧ bsq.toInt = (tS tp ln.toNatClampNeg be.toNatClampNeg : Int) ∧ v95.toInt = (tE tp ln.toNatClampNeg be.toNatClampNeg : Int) ∧ (7 : Int32).toInt = tK tp ln.toNatClampNeg be.toNatClampNeg ∧ ((7 : Int32).toInt = 5 → nb.toInt = tN tp ln.toNatClampNeg be.toNatClampNeg); exact ⟨by omega, by omega, by omega, by omega, by omega, by rw [hK9]; (repeat' split) <;> omega, fun h9 => by exfalso; omega⟩), by rw [ht]; exact hP9, va_K.moved hW.alike hK, hD9⟩, hS.F ht⟩) hS.2.2 dX2_next_186
                · skip
                  have f97 := i_eq c87
                  refine lv_bipush (v := 6) hx hb dX2_next_147 (by decide) ?_
                  refine lv_goto (tgt := 173) hx hb dX2_next_149 (by decide) ?_
                  refine va_put (D := D) (ci := 2) (v := .int 6) (ty := .int) (C := RX2) (T := TX2) (N := 15) hx hb hts inX2_next_X2 tyX2 tyX2_ok nmX2 hown hK hP hD hS 0 rfl rfl 13 (by decide) (hts (Cond.fieldLink RX2 47 "PortRooms$Duties" "token" "I") (wm_t (wm_l (wm_i 4 rfl)))) (fun _ h9 => h9) rfl (tyX2_ok 13 (by decide)) rfl rfl (Nat.le_of_ble_eq_true rfl) dX2_next_173 (fun H locs => ?_)
                  clear hP hD hS
                  intro hP hD hS
                  replace hP : va_P D vwCl [(oC2 ad ln lfa dl dr bsq bsq (6) nb), (aI cY (ad 47) 300 tp)] H := hP
                  replace hD : va_D A [(oC2 ad ln lfa dl dr bsq bsq (6) nb), (aI cY (ad 47) 300 tp)] := hD
                  refine lv_aload_n hx hb dX2_next_176 rfl (lv_at hl 0 rfl) ?_
                  refine lv_dup hx hb dX2_next_177 rfl ?_
                  refine va_get (D := D) (ci := 2) (v := .int bsq) (C := RX2) (T := TX2) (N := 15) hx hb hts inX2_next_X2 hown hK hP 0 rfl rfl 12 (by decide) (hts (Cond.fieldLink RX2 38 "PortRooms$Duties" "end" "I") (wm_t (wm_l (wm_i 0 rfl)))) (fun _ h9 => h9) rfl dX2_next_178 ?_
                  refine lv_iconst (v := 1) hx hb dX2_next_181 (by decide) ?_
                  refine lv_iadd hx hb dX2_next_182 ?_
                  refine lv_topi (fun v98 ev98 => ?_)
                  try have tv98 : v98.toInt = bsq.toInt + 1 := by rw [ev98]; exact (i_add (x := bsq) (y := (1 : Int32)) (by rw [k1]; omega) (by rw [k1]; omega)).trans (by rw [k1])
                  refine va_put (D := D) (ci := 2) (v := .int v98) (ty := .int) (C := RX2) (T := TX2) (N := 15) hx hb hts inX2_next_X2 tyX2 tyX2_ok nmX2 hown hK hP hD hS 0 rfl rfl 12 (by decide) (hts (Cond.fieldLink RX2 38 "PortRooms$Duties" "end" "I") (wm_t (wm_l (wm_i 0 rfl)))) (fun _ h9 => h9) rfl (tyX2_ok 12 (by decide)) rfl rfl (Nat.le_of_ble_eq_true rfl) dX2_next_183 (fun H locs => ?_)
                  clear hP hD hS
                  intro hP hD hS
                  replace hP : va_P D vwCl [(oC2 ad ln lfa dl dr bsq v98 (6) nb), (aI cY (ad 47) 300 tp)] H := hP
                  replace hD : va_D A [(oC2 ad ln lfa dl dr bsq v98 (6) nb), (aI cY (ad 47) 300 tp)] := hD
                  have clc99 := i_cl (x := v98) (by omega)
                  obtain ⟨hE9, hK9⟩ := tok_sgn hs9 (by omega) (by omega) (by omega)
                  have hP9 := hP
                  have hD9 := hD
                  exact W.vret hx hb hr (fun t ht hW => ⟨⟨(bsq, v98, 6, nb), rfl, (by show 0 ≤ bsq.toInt ∧ bsq.toInt ≤ v98.toInt ∧ v98.toInt ≤ ln.toInt ∧ bsq.toInt = (tS tp ln.toNatClampNeg be.toNatClampNeg : Int) ∧ v98.toInt = (tE tp ln.toNatClampNeg be.toNatClampNeg : Int) ∧ (6 : Int32).toInt = tK tp ln.toNatClampNeg be.toNatClampNeg ∧ ((6 : Int32).toInt = 5 → nb.toInt = tN tp ln.toNatClampNeg be.toNatClampNeg); exact ⟨by omega, by omega, by omega, by omega, by omega, by rw [hK9]; (repeat' split) <;> omega, fun h9 => by exfalso; omega⟩), by rw [ht]; exact hP9, va_K.moved hW.alike hK, hD9⟩, hS.F ht⟩) hS.2.2 dX2_next_186
              · skip
                have f100 := bo_t hw82 c84
                refine lv_aload_n hx hb dX2_next_125 rfl (lv_at hl 0 rfl) ?_
                refine st_v (wr := []) (va_runV (C := RX2) (As := []) (rest := []) ⟨hx, hb, hml, hown, hts⟩ (ct_X2_readNumber l D cI cY cJ cQ _ ad ln lfa dl dr bsq bsq tk nb tp h1 h2 (by omega) (by omega) (by omega) (by omega)) (cwV 0 hts gX2_next_X2_readNumber rfl rfl rfl ⟨rfl, cdX2_readNumber⟩ ⟨Nat.le_of_ble_eq_true rfl, Nat.le_of_ble_eq_true rfl⟩) (cPreV (hP.sub [0, 1] rfl) hK (hD.sub [0, 1] (by decide +kernel) rfl) hN (ci := 2) (q0 := 0) rfl rfl) rfl rfl hl.1 rfl (lv_room (Nat.le_of_ble_eq_true rfl)) dX2_next_126 ⟨Nat.le_of_ble_eq_true rfl, Nat.le_of_ble_eq_true rfl⟩) hP hD hS hA [0, 1] [] rfl rfl (by decide +kernel) (by decide +kernel) (fun u101 H locs hw102 => ?_)
                clear hP hD hS
                intro hP hD hS
                obtain ⟨be_104, tk_105, nb_106⟩ := u101
                replace hw102 : bsq.toInt ≤ be_104.toInt ∧ be_104.toInt ≤ ln.toInt ∧ be_104.toNatClampNeg = runTo fiB tp ln.toNatClampNeg bsq.toNatClampNeg ∧ tk_105.toInt = (if bsq.toNatClampNeg + 4 < be_104.toNatClampNeg then 9 else 5) ∧ (tk_105.toInt = 5 → nb_106.toInt = nmV tp bsq.toNatClampNeg (be_104.toNatClampNeg - bsq.toNatClampNeg)) := hw102
                replace hP : va_P D vwCl [(oC2 ad ln lfa dl dr bsq be_104 tk_105 nb_106), (aI cY (ad 47) 300 tp)] H := hP
                replace hD : va_D A [(oC2 ad ln lfa dl dr bsq be_104 tk_105 nb_106), (aI cY (ad 47) 300 tp)] := hD
                refine lv_goto (tgt := 186) hx hb dX2_next_129 (by decide) ?_
                have clc107 := i_cl (x := be_104) (by omega)
                obtain ⟨ha9, hb9, hc9, hd9, he9⟩ := hw102
                obtain ⟨hE9, hK9, hN9⟩ := tok_fig hs9 (by omega) (by omega) hc9.symm
                have hP9 := hP
                have hD9 := hD
                exact W.vret hx hb hr (fun t ht hW => ⟨⟨(bsq, be_104, tk_105, nb_106), rfl, (by show 0 ≤ bsq.toInt ∧ bsq.toInt ≤ be_104.toInt ∧ be_104.toInt ≤ ln.toInt ∧ bsq.toInt = (tS tp ln.toNatClampNeg be.toNatClampNeg : Int) ∧ be_104.toInt = (tE tp ln.toNatClampNeg be.toNatClampNeg : Int) ∧ tk_105.toInt = tK tp ln.toNatClampNeg be.toNatClampNeg ∧ (tk_105.toInt = 5 → nb_106.toInt = tN tp ln.toNatClampNeg be.toNatClampNeg); exact ⟨by omega, by omega, by omega, by omega, by omega, hd9.trans hK9.symm, fun h9 => (he9 h9).trans hN9.symm⟩), by rw [ht]; exact hP9, va_K.moved hW.alike hK, hD9⟩, hS.F ht⟩) hS.2.2 dX2_next_186
            · skip
              have f108 := bo_t hw76 c78
              refine lv_aload_n hx hb dX2_next_103 rfl (lv_at hl 0 rfl) ?_
              refine st_v (wr := []) (va_runV (C := RX2) (As := []) (rest := []) ⟨hx, hb, hml, hown, hts⟩ (ct_X2_readName l D cI cY cJ cQ _ aK aV ad ln lfa dl dr bsq bsq tk nb tp h1 h2 (by omega) (by omega) (by omega)) (cwV 0 hts gX2_next_X2_readName rfl rfl rfl ⟨rfl, cdX2_readName⟩ ⟨Nat.le_of_ble_eq_true rfl, Nat.le_of_ble_eq_true rfl⟩) (cPreTV (hP.sub [0, 1] rfl) hK (hD.sub [0, 1] (by decide +kernel) rfl) hN hS (va_free hD hS hA [0, 1] rfl) hT (ci := 2) (q0 := 0) rfl rfl) rfl rfl hl.1 rfl (lv_room (Nat.le_of_ble_eq_true rfl)) dX2_next_104 ⟨Nat.le_of_ble_eq_true rfl, Nat.le_of_ble_eq_true rfl⟩) hP hD hS hA [0, 1] [] rfl rfl (by decide +kernel) (by decide +kernel) (fun u109 H locs hw110 => ?_)
              clear hP hD hS
              intro hP hD hS
              obtain ⟨be_112, tk_113⟩ := u109
              replace hw110 : bsq.toInt ≤ be_112.toInt ∧ be_112.toInt ≤ ln.toInt ∧ be_112.toNatClampNeg = runTo leB tp ln.toNatClampNeg bsq.toNatClampNeg ∧ tk_113.toInt = (if bsq.toNatClampNeg + 6 < be_112.toNatClampNeg then 9 else wdK tp bsq.toNatClampNeg be_112.toNatClampNeg 5) := hw110
              replace hP : va_P D vwCl [(oC2 ad ln lfa dl dr bsq be_112 tk_113 nb), (aI cY (ad 47) 300 tp)] H := hP
              replace hD : va_D A [(oC2 ad ln lfa dl dr bsq be_112 tk_113 nb), (aI cY (ad 47) 300 tp)] := hD
              refine lv_goto (tgt := 186) hx hb dX2_next_107 (by decide) ?_
              have clc114 := i_cl (x := be_112) (by omega)
              obtain ⟨ha9, hb9, hc9, hd9⟩ := hw110
              obtain ⟨hE9, hK9⟩ := tok_let hs9 (by omega) (by omega) hc9.symm
              have hP9 := hP
              have hD9 := hD
              exact W.vret hx hb hr (fun t ht hW => ⟨⟨(bsq, be_112, tk_113, nb), rfl, (by show 0 ≤ bsq.toInt ∧ bsq.toInt ≤ be_112.toInt ∧ be_112.toInt ≤ ln.toInt ∧ bsq.toInt = (tS tp ln.toNatClampNeg be.toNatClampNeg : Int) ∧ be_112.toInt = (tE tp ln.toNatClampNeg be.toNatClampNeg : Int) ∧ tk_113.toInt = tK tp ln.toNatClampNeg be.toNatClampNeg ∧ (tk_113.toInt = 5 → nb.toInt = tN tp ln.toNatClampNeg be.toNatClampNeg); exact ⟨by omega, by omega, by omega, by omega, by omega, hd9.trans hK9.symm, fun h9 => by exfalso; have h8 := wdK_rng tp bsq.toNatClampNeg be_112.toNatClampNeg 5 (by omega); rw [hd9] at h9; split at h9 <;> omega⟩), by rw [ht]; exact hP9, va_K.moved hW.alike hK, hD9⟩, hS.F ht⟩) hS.2.2 dX2_next_186
          · skip
            have f115 := i_nlt c72
            refine lv_aload_n hx hb dX2_next_79 rfl (lv_at hl 0 rfl) ?_
            refine lv_bipush (v := 8) hx hb dX2_next_80 (by decide) ?_
            refine va_put (D := D) (ci := 2) (v := .int 8) (ty := .int) (C := RX2) (T := TX2) (N := 15) hx hb hts inX2_next_X2 tyX2 tyX2_ok nmX2 hown hK hP hD hS 0 rfl rfl 13 (by decide) (hts (Cond.fieldLink RX2 47 "PortRooms$Duties" "token" "I") (wm_t (wm_l (wm_i 4 rfl)))) (fun _ h9 => h9) rfl (tyX2_ok 13 (by decide)) rfl rfl (Nat.le_of_ble_eq_true rfl) dX2_next_82 (fun H locs => ?_)
            clear hP hD hS
            intro hP hD hS
            replace hP : va_P D vwCl [(oC2 ad ln lfa dl dr bsq bsq (8) nb), (aI cY (ad 47) 300 tp)] H := hP
            replace hD : va_D A [(oC2 ad ln lfa dl dr bsq bsq (8) nb), (aI cY (ad 47) 300 tp)] := hD
            refine lv_goto (tgt := 186) hx hb dX2_next_85 (by decide) ?_
            have clc116 := i_cl (x := bsq) (by omega)
            obtain ⟨hE9, hK9⟩ := tok_end hs9 (by omega)
            have hP9 := hP
            have hD9 := hD
            exact W.vret hx hb hr (fun t ht hW => ⟨⟨(bsq, bsq, 8, nb), rfl, (by show 0 ≤ bsq.toInt ∧ bsq.toInt ≤ bsq.toInt ∧ bsq.toInt ≤ ln.toInt ∧ bsq.toInt = (tS tp ln.toNatClampNeg be.toNatClampNeg : Int) ∧ bsq.toInt = (tE tp ln.toNatClampNeg be.toNatClampNeg : Int) ∧ (8 : Int32).toInt = tK tp ln.toNatClampNeg be.toNatClampNeg ∧ ((8 : Int32).toInt = 5 → nb.toInt = tN tp ln.toNatClampNeg be.toNatClampNeg); exact ⟨by omega, by omega, by omega, by omega, by omega, by omega, fun h9 => by exfalso; omega⟩), by rw [ht]; exact hP9, va_K.moved hW.alike hK, hD9⟩, hS.F ht⟩) hS.2.2 dX2_next_186
        · skip
          have f117 := i_eq c67
          refine lv_aload_n hx hb dX2_next_47 rfl (lv_at hl 0 rfl) ?_
          refine lv_dup hx hb dX2_next_48 rfl ?_
          refine va_get (D := D) (ci := 2) (v := .int bsq) (C := RX2) (T := TX2) (N := 15) hx hb hts inX2_next_X2 hown hK hP 0 rfl rfl 11 (by decide) (hts (Cond.fieldLink RX2 61 "PortRooms$Duties" "start" "I") (wm_t (wm_l (wm_i 1 rfl)))) (fun _ h9 => h9) rfl dX2_next_49 ?_
          refine lv_iconst (v := 1) hx hb dX2_next_52 (by decide) ?_
          refine lv_iadd hx hb dX2_next_53 ?_
          refine lv_topi (fun v118 ev118 => ?_)
          try have tv118 : v118.toInt = bsq.toInt + 1 := by rw [ev118]; exact (i_add (x := bsq) (y := (1 : Int32)) (by rw [k1]; omega) (by rw [k1]; omega)).trans (by rw [k1])
          refine va_put (D := D) (ci := 2) (v := .int v118) (ty := .int) (C := RX2) (T := TX2) (N := 15) hx hb hts inX2_next_X2 tyX2 tyX2_ok nmX2 hown hK hP hD hS 0 rfl rfl 11 (by decide) (hts (Cond.fieldLink RX2 61 "PortRooms$Duties" "start" "I") (wm_t (wm_l (wm_i 1 rfl)))) (fun _ h9 => h9) rfl (tyX2_ok 11 (by decide)) rfl rfl (Nat.le_of_ble_eq_true rfl) dX2_next_54 (fun H locs => ?_)
          clear hP hD hS
          intro hP hD hS
          replace hP : va_P D vwCl [(oC2 ad ln lfa dl dr v118 be tk nb), (aI cY (ad 47) 300 tp)] H := hP
          replace hD : va_D A [(oC2 ad ln lfa dl dr v118 be tk nb), (aI cY (ad 47) 300 tp)] := hD
          refine lv_goto (tgt := 8) hx hb dX2_next_57 (by decide) ?_
          have clc119 := i_cl (x := ln) (by omega)
          have clc120 := i_cl (x := bsq) (by omega)
          have clc121 := i_cl (x := v118) (by omega)
          exact ih4 v118 ls H locs ⟨(by omega), (by omega), (by rw [show v118.toNatClampNeg = bsq.toNatClampNeg + 1 by omega]; exact (sp_in (T := tp) (L := ln.toNatClampNeg) (i := bsq.toNatClampNeg) (by omega) (by omega)).symm.trans g3), lv_sub hl [0] rfl, hP.sub [0, 1] rfl, hD.sub [0, 1] (by decide +kernel) rfl, hS⟩ (by show ln.toInt - v118.toInt < _; omega)

set_option maxHeartbeats 4000000 in
set_option maxRecDepth 100000 in
theorem ct_X2_readAct (l : Launch) (D : va_G) (cI cY cJ cQ : ClassId) (sz : Nat) (aK aV : Nat) (ad : Nat → Nat) (ln lfa dl dr bs be tk nb : Int32) (tp xw xd xp : Nat → Int32)  (h1 : 0 ≤ ln.toInt) (h2 : ln.toInt ≤ 300) (h3 : 0 ≤ bs.toInt) (h4 : bs.toInt ≤ be.toInt) (h5 : be.toInt ≤ ln.toInt) (h6 : 0 ≤ dr.toInt) (h7 : dr.toInt ≤ 12)  : Met l yX2_readAct wsX2_readAct ({ frames := 7, cells := 0, slots := 0, locals := 149 }) (cPreT aK aV D (ty4 cI cY cJ cQ) [(oC2 ad ln lfa dl dr bs be tk nb), (aI cY (ad 47) 300 tp), (aI cI (ad 51) 12 xw), (aI cI (ad 52) 12 xd), (aI cI (ad 53) 12 xp)] sz [.ref (ad 6)]) (va_Qi (fun (r : Int32) (u : Int32 × Int32 × Int32 × Int32 × (Nat → Int32) × (Nat → Int32)) => 0 ≤ u.1.toInt ∧ u.1.toInt ≤ u.2.1.toInt ∧ u.2.1.toInt ≤ ln.toInt ∧ (r.toInt = 0 → dr.toInt < 12) ∧ raQ tp ln.toNatClampNeg dr bs be tk xw xd r u.1 u.2.1 u.2.2.1 u.2.2.2.1 u.2.2.2.2.1 u.2.2.2.2.2) (cB D (ty4 cI cY cJ cQ) (fun (u : Int32 × Int32 × Int32 × Int32 × (Nat → Int32) × (Nat → Int32)) => [(oC2 ad ln lfa dl dr u.1 u.2.1 u.2.2.1 u.2.2.2.1), (aI cY (ad 47) 300 tp), (aI cI (ad 51) 12 u.2.2.2.2.1), (aI cI (ad 52) 12 u.2.2.2.2.2), (aI cI (ad 53) 12 xp)]) (va_A [(oC2 ad ln lfa dl dr bs be tk nb), (aI cY (ad 47) 300 tp), (aI cI (ad 51) 12 xw), (aI cI (ad 52) 12 xd), (aI cI (ad 53) 12 xp)] sz)) (va_A [(oC2 ad ln lfa dl dr bs be tk nb), (aI cY (ad 47) 300 tp), (aI cI (ad 51) 12 xw), (aI cI (ad 52) 12 xd), (aI cI (ad 53) 12 xp)] sz)) 0 0 (va_A [(oC2 ad ln lfa dl dr bs be tk nb), (aI cY (ad 47) 300 tp), (aI cI (ad 51) 12 xw), (aI cI (ad 52) 12 xd), (aI cI (ad 53) 12 xp)] sz) := by
  refine Met.ofW (cc := cX2_readAct) (maxL := 1) (ret := (some .int)) (by decide) rfl ?_
  intro p e s m args below meth c s₁ B hml hv
  obtain ⟨rfl, hsz, hP, hK, hD0, hN, hT⟩ := hv
  have hx := B.exec
  have hb := B.bytes
  have hr := B.returns
  have hts := atoms_spec (ws := wsX2_readAct) B.pre
  have hown : s.vm.findClass RX2 = some m.cls := findClass_of_methodNamed B.named
  have hlocks := B.notSynchronized
  subst hsz
  have hD := hD0.self (sz := s.heap.size)
  generalize hAe : va_A [(oC2 ad ln lfa dl dr bs be tk nb), (aI cY (ad 47) 300 tp), (aI cI (ad 51) 12 xw), (aI cI (ad 52) 12 xd), (aI cI (ad 53) 12 xp)] s.heap.size = A at hD hT ⊢
  have hA : ∀ q : Nat, s.heap.size ≤ q → A q := fun q h => by rw [← hAe]; exact Or.inr h
  have hS : va_S A s.heap s.heap [] := va_S.rf
  have hP : va_P D vwCl [(oC2 ad ln lfa dl dr bs be tk nb), (aI cY (ad 47) 300 tp), (aI cI (ad 51) 12 xw), (aI cI (ad 52) 12 xd), (aI cI (ad 53) 12 xp)] s.heap := hP
  have hl := lv_entry ([.ref (ad 6)]) (n := 1) (Nat.le_of_ble_eq_true rfl)
  rw [lg_entry_eq]
  generalize (lg_sl ([.ref (ad 6)]) ++ List.replicate (1 - (lg_sl ([.ref (ad 6)])).length) Slot.unset).toArray = ls at hl ⊢
  have hl : lv_has ls 1 [(0, .ref (ad 6))] := hl
  have km1 : (-1 : Int32).toInt = -1 := by decide
  have k0 : (0 : Int32).toInt = 0 := by decide
  have k1 : (1 : Int32).toInt = 1 := by decide
  have k3 : (3 : Int32).toInt = 3 := by decide
  have k4 : (4 : Int32).toInt = 4 := by decide
  have k5 : (5 : Int32).toInt = 5 := by decide
  have k7 : (7 : Int32).toInt = 7 := by decide
  have k12 : (12 : Int32).toInt = 12 := by decide
  refine lv_aload_n hx hb dX2_readAct_0 rfl (lv_at hl 0 rfl) ?_
  refine va_get (D := D) (ci := 2) (v := .int tk) (C := RX2) (T := TX2) (N := 15) hx hb hts inX2_readAct_X2 hown hK hP 0 rfl rfl 13 (by decide) (hts (Cond.fieldLink RX2 47 "PortRooms$Duties" "token" "I") (wm_t (wm_l (wm_i 0 rfl)))) (fun _ h9 => h9) rfl dX2_readAct_1 ?_
  refine lv_iconst (v := 4) hx hb dX2_readAct_4 (by decide) ?_
  refine lv_icmp_lt (tgt := 10) hx hb dX2_readAct_5 (by decide) (fun c1 => ?_) (fun c1 => ?_)
  · skip
    have f2 := i_lt c1
    refine lv_aload_n hx hb dX2_readAct_10 rfl (lv_at hl 0 rfl) ?_
    refine va_get (D := D) (ci := 2) (v := .int dr) (C := RX2) (T := TX2) (N := 15) hx hb hts inX2_readAct_X2 hown hK hP 0 rfl rfl 10 (by decide) (hts (Cond.fieldLink RX2 41 "PortRooms$Duties" "drafted" "I") (wm_t (wm_l (wm_i 1 rfl)))) (fun _ h9 => h9) rfl dX2_readAct_11 ?_
    refine lv_bipush (v := 12) hx hb dX2_readAct_14 (by decide) ?_
    refine lv_icmp_lt (tgt := 21) hx hb dX2_readAct_16 (by decide) (fun c3 => ?_) (fun c3 => ?_)
    · skip
      have f4 := i_lt c3
      refine lv_aload_n hx hb dX2_readAct_21 rfl (lv_at hl 0 rfl) ?_
      refine va_get (D := D) (ci := 2) (v := .ref (ad 51)) (C := RX2) (T := TX2) (N := 15) hx hb hts inX2_readAct_X2 hown hK hP 0 rfl rfl 7 (by decide) (hts (Cond.fieldLink RX2 25 "PortRooms$Duties" "draftWhat" "[I") (wm_t (wm_l (wm_i 2 rfl)))) (fun _ h9 => h9) rfl dX2_readAct_22 ?_
      refine lv_aload_n hx hb dX2_readAct_25 rfl (lv_at hl 0 rfl) ?_
      refine va_get (D := D) (ci := 2) (v := .int dr) (C := RX2) (T := TX2) (N := 15) hx hb hts inX2_readAct_X2 hown hK hP 0 rfl rfl 10 (by decide) (hts (Cond.fieldLink RX2 41 "PortRooms$Duties" "drafted" "I") (wm_t (wm_l (wm_i 1 rfl)))) (fun _ h9 => h9) rfl dX2_readAct_26 ?_
      refine lv_aload_n hx hb dX2_readAct_29 rfl (lv_at hl 0 rfl) ?_
      refine va_get (D := D) (ci := 2) (v := .int tk) (C := RX2) (T := TX2) (N := 15) hx hb hts inX2_readAct_X2 hown hK hP 0 rfl rfl 13 (by decide) (hts (Cond.fieldLink RX2 47 "PortRooms$Duties" "token" "I") (wm_t (wm_l (wm_i 0 rfl)))) (fun _ h9 => h9) rfl dX2_readAct_30 ?_
      refine va_iast hx hb hK hP hD hS 2 0 rfl rfl (i_in (by omega) (by omega)) dX2_readAct_33 (fun H locs => ?_)
      clear hP hD hS
      intro hP hD hS
      replace hP : va_P D vwCl [(oC2 ad ln lfa dl dr bs be tk nb), (aI cY (ad 47) 300 tp), (aI cI (ad 51) 12 (upd xw dr.toNatClampNeg tk)), (aI cI (ad 52) 12 xd), (aI cI (ad 53) 12 xp)] H := hP
      replace hD : va_D A [(oC2 ad ln lfa dl dr bs be tk nb), (aI cY (ad 47) 300 tp), (aI cI (ad 51) 12 (upd xw dr.toNatClampNeg tk)), (aI cI (ad 52) 12 xd), (aI cI (ad 53) 12 xp)] := hD
      refine lv_aload_n hx hb dX2_readAct_34 rfl (lv_at hl 0 rfl) ?_
      refine va_get (D := D) (ci := 2) (v := .ref (ad 52)) (C := RX2) (T := TX2) (N := 15) hx hb hts inX2_readAct_X2 hown hK hP 0 rfl rfl 8 (by decide) (hts (Cond.fieldLink RX2 28 "PortRooms$Duties" "draftDays" "[I") (wm_t (wm_l (wm_i 3 rfl)))) (fun _ h9 => h9) rfl dX2_readAct_35 ?_
      refine lv_aload_n hx hb dX2_readAct_38 rfl (lv_at hl 0 rfl) ?_
      refine va_get (D := D) (ci := 2) (v := .int dr) (C := RX2) (T := TX2) (N := 15) hx hb hts inX2_readAct_X2 hown hK hP 0 rfl rfl 10 (by decide) (hts (Cond.fieldLink RX2 41 "PortRooms$Duties" "drafted" "I") (wm_t (wm_l (wm_i 1 rfl)))) (fun _ h9 => h9) rfl dX2_readAct_39 ?_
      refine lv_iconst (v := (-1)) hx hb dX2_readAct_42 (by decide) ?_
      refine va_iast hx hb hK hP hD hS 3 0 rfl rfl (i_in (by omega) (by omega)) dX2_readAct_43 (fun H locs => ?_)
      clear hP hD hS
      intro hP hD hS
      replace hP : va_P D vwCl [(oC2 ad ln lfa dl dr bs be tk nb), (aI cY (ad 47) 300 tp), (aI cI (ad 51) 12 (upd xw dr.toNatClampNeg tk)), (aI cI (ad 52) 12 (upd xd dr.toNatClampNeg (-1))), (aI cI (ad 53) 12 xp)] H := hP
      replace hD : va_D A [(oC2 ad ln lfa dl dr bs be tk nb), (aI cY (ad 47) 300 tp), (aI cI (ad 51) 12 (upd xw dr.toNatClampNeg tk)), (aI cI (ad 52) 12 (upd xd dr.toNatClampNeg (-1))), (aI cI (ad 53) 12 xp)] := hD
      refine lv_aload_n hx hb dX2_readAct_44 rfl (lv_at hl 0 rfl) ?_
      refine st_v (wr := [(aI cI (ad 51) 12 (upd xw dr.toNatClampNeg tk)), (aI cI (ad 52) 12 (upd xd dr.toNatClampNeg (-1))), (aI cI (ad 53) 12 xp)]) (va_runV (C := RX2) (As := []) (rest := []) ⟨hx, hb, hml, hown, hts⟩ (ct_X2_next l D cI cY cJ cQ _ aK aV ad ln lfa dl dr bs be tk nb tp h1 h2 (by omega) h5) (cwV 0 hts gX2_readAct_X2_next rfl rfl rfl ⟨rfl, cdX2_next⟩ ⟨Nat.le_of_ble_eq_true rfl, Nat.le_of_ble_eq_true rfl⟩) (cPreTV (hP.sub [0, 1] rfl) hK (hD.sub [0, 1] (by decide +kernel) rfl) hN hS (va_free hD hS hA [0, 1] rfl) hT (ci := 2) (q0 := 0) rfl rfl) rfl rfl hl.1 rfl (lv_room (Nat.le_of_ble_eq_true rfl)) dX2_readAct_45 ⟨Nat.le_of_ble_eq_true rfl, Nat.le_of_ble_eq_true rfl⟩) hP hD hS hA [0, 1] [2, 3, 4] rfl rfl (by decide +kernel) (by decide +kernel) (fun u5 H locs hw6 => ?_)
      clear hP hD hS
      intro hP hD hS
      obtain ⟨bs_8, be_9, tk_10, nb_11⟩ := u5
      replace hw6 : 0 ≤ bs_8.toInt ∧ bs_8.toInt ≤ be_9.toInt ∧ be_9.toInt ≤ ln.toInt ∧ bs_8.toInt = (tS tp ln.toNatClampNeg be.toNatClampNeg : Int) ∧ be_9.toInt = (tE tp ln.toNatClampNeg be.toNatClampNeg : Int) ∧ tk_10.toInt = tK tp ln.toNatClampNeg be.toNatClampNeg ∧ (tk_10.toInt = 5 → nb_11.toInt = tN tp ln.toNatClampNeg be.toNatClampNeg) := hw6
      replace hP : va_P D vwCl [(aI cI (ad 51) 12 (upd xw dr.toNatClampNeg tk)), (aI cI (ad 52) 12 (upd xd dr.toNatClampNeg (-1))), (aI cI (ad 53) 12 xp), (oC2 ad ln lfa dl dr bs_8 be_9 tk_10 nb_11), (aI cY (ad 47) 300 tp)] H := hP
      replace hD : va_D A [(aI cI (ad 51) 12 (upd xw dr.toNatClampNeg tk)), (aI cI (ad 52) 12 (upd xd dr.toNatClampNeg (-1))), (aI cI (ad 53) 12 xp), (oC2 ad ln lfa dl dr bs_8 be_9 tk_10 nb_11), (aI cY (ad 47) 300 tp)] := hD
      obtain ⟨hw6a, hw6b, hw6c, hw6d, hw6e, hw6f, hw6g⟩ := hw6
      refine lv_aload_n hx hb dX2_readAct_48 rfl (lv_at hl 0 rfl) ?_
      refine va_get (D := D) (ci := 2) (v := .int tk_10) (C := RX2) (T := TX2) (N := 15) hx hb hts inX2_readAct_X2 hown hK hP 3 rfl rfl 13 (by decide) (hts (Cond.fieldLink RX2 47 "PortRooms$Duties" "token" "I") (wm_t (wm_l (wm_i 0 rfl)))) (fun _ h9 => h9) rfl dX2_readAct_49 ?_
      refine lv_bipush (v := 7) hx hb dX2_readAct_52 (by decide) ?_
      refine lv_icmp_ne (tgt := 88) hx hb dX2_readAct_54 (by decide) (fun c12 => ?_) (fun c12 => ?_)
      · skip
        have f13 := i_ne c12
        refine lv_iconst (v := 0) hx hb dX2_readAct_88 (by decide) ?_
        have ea9 : acP tp ln.toNatClampNeg be.toNatClampNeg = be.toNatClampNeg := by unfold acP; rw [if_neg (by omega)]
        have er9 : acR tp ln.toNatClampNeg be.toNatClampNeg = 0 := by unfold acR; rw [if_neg (by omega)]
        have ed9 : acD tp ln.toNatClampNeg be.toNatClampNeg = -1 := by unfold acD; rw [if_neg (by omega)]
        have hP9 := hP.sub (ws' := [(oC2 ad ln lfa dl dr bs_8 be_9 tk_10 nb_11), (aI cY (ad 47) 300 tp), (aI cI (ad 51) 12 (upd xw dr.toNatClampNeg tk)), (aI cI (ad 52) 12 (upd xd dr.toNatClampNeg (-1))), (aI cI (ad 53) 12 xp)]) [3, 4, 0, 1, 2] rfl
        have hD9 := hD.sub (ws' := [(oC2 ad ln lfa dl dr bs_8 be_9 tk_10 nb_11), (aI cY (ad 47) 300 tp), (aI cI (ad 51) 12 (upd xw dr.toNatClampNeg tk)), (aI cI (ad 52) 12 (upd xd dr.toNatClampNeg (-1))), (aI cI (ad 53) 12 xp)]) [3, 4, 0, 1, 2] (by decide +kernel) rfl
        exact W.iret (v := 0) hx hb hr (fun t ht hW => ⟨⟨0, (bs_8, be_9, tk_10, nb_11, upd xw dr.toNatClampNeg tk, upd xd dr.toNatClampNeg (-1)), rfl, (by show 0 ≤ bs_8.toInt ∧ bs_8.toInt ≤ be_9.toInt ∧ be_9.toInt ≤ ln.toInt ∧ ((0 : Int32).toInt = 0 → dr.toInt < 12) ∧ raQ tp ln.toNatClampNeg dr bs be tk xw xd (0 : Int32) bs_8 be_9 tk_10 nb_11 (upd xw dr.toNatClampNeg tk) (upd xd dr.toNatClampNeg (-1)); exact ⟨by omega, by omega, by omega, fun h9 => by omega, ⟨(fun j hj => ⟨upd_n _ _ hj, by first | rw [upd_n _ _ hj, upd_n _ _ hj] | rw [upd_n _ _ hj]⟩), Or.inr (Or.inr ⟨by omega, by omega, by omega, (by rw [ea9]; exact ⟨hw6d, hw6e, hw6f, hw6g⟩), upd_s _ _ _, fun _ => by rw [upd_s]; omega⟩)⟩⟩), by rw [ht]; exact hP9, va_K.moved hW.alike hK, hD9⟩, hS.F ht⟩) hS.2.2 dX2_readAct_89
      · skip
        have f14 := i_eq c12
        refine lv_aload_n hx hb dX2_readAct_57 rfl (lv_at hl 0 rfl) ?_
        refine st_v (wr := [(aI cI (ad 51) 12 (upd xw dr.toNatClampNeg tk)), (aI cI (ad 52) 12 (upd xd dr.toNatClampNeg (-1))), (aI cI (ad 53) 12 xp)]) (va_runV (C := RX2) (As := []) (rest := []) ⟨hx, hb, hml, hown, hts⟩ (ct_X2_next l D cI cY cJ cQ _ aK aV ad ln lfa dl dr bs_8 be_9 tk_10 nb_11 tp h1 h2 (by omega) (by omega)) (cwV 0 hts gX2_readAct_X2_next rfl rfl rfl ⟨rfl, cdX2_next⟩ ⟨Nat.le_of_ble_eq_true rfl, Nat.le_of_ble_eq_true rfl⟩) (cPreTV (hP.sub [3, 4] rfl) hK (hD.sub [3, 4] (by decide +kernel) rfl) hN hS (va_free hD hS hA [3, 4] rfl) hT (ci := 2) (q0 := 0) rfl rfl) rfl rfl hl.1 rfl (lv_room (Nat.le_of_ble_eq_true rfl)) dX2_readAct_58 ⟨Nat.le_of_ble_eq_true rfl, Nat.le_of_ble_eq_true rfl⟩) hP hD hS hA [3, 4] [0, 1, 2] rfl rfl (by decide +kernel) (by decide +kernel) (fun u15 H locs hw16 => ?_)
        clear hP hD hS
        intro hP hD hS
        obtain ⟨bs_18, be_19, tk_20, nb_21⟩ := u15
        replace hw16 : 0 ≤ bs_18.toInt ∧ bs_18.toInt ≤ be_19.toInt ∧ be_19.toInt ≤ ln.toInt ∧ bs_18.toInt = (tS tp ln.toNatClampNeg be_9.toNatClampNeg : Int) ∧ be_19.toInt = (tE tp ln.toNatClampNeg be_9.toNatClampNeg : Int) ∧ tk_20.toInt = tK tp ln.toNatClampNeg be_9.toNatClampNeg ∧ (tk_20.toInt = 5 → nb_21.toInt = tN tp ln.toNatClampNeg be_9.toNatClampNeg) := hw16
        replace hP : va_P D vwCl [(aI cI (ad 51) 12 (upd xw dr.toNatClampNeg tk)), (aI cI (ad 52) 12 (upd xd dr.toNatClampNeg (-1))), (aI cI (ad 53) 12 xp), (oC2 ad ln lfa dl dr bs_18 be_19 tk_20 nb_21), (aI cY (ad 47) 300 tp)] H := hP
        replace hD : va_D A [(aI cI (ad 51) 12 (upd xw dr.toNatClampNeg tk)), (aI cI (ad 52) 12 (upd xd dr.toNatClampNeg (-1))), (aI cI (ad 53) 12 xp), (oC2 ad ln lfa dl dr bs_18 be_19 tk_20 nb_21), (aI cY (ad 47) 300 tp)] := hD
        obtain ⟨hw16a, hw16b, hw16c, hw16d, hw16e, hw16f, hw16g⟩ := hw16
        have cphw16 := i_cl (x := be_9) (by omega)
        have ephw16 : be_9.toNatClampNeg = tE tp ln.toNatClampNeg be.toNatClampNeg := by omega
        rw [ephw16] at hw16d hw16e hw16f hw16g
        refine lv_aload_n hx hb dX2_readAct_61 rfl (lv_at hl 0 rfl) ?_
        refine va_get (D := D) (ci := 2) (v := .int tk_20) (C := RX2) (T := TX2) (N := 15) hx hb hts inX2_readAct_X2 hown hK hP 3 rfl rfl 13 (by decide) (hts (Cond.fieldLink RX2 47 "PortRooms$Duties" "token" "I") (wm_t (wm_l (wm_i 0 rfl)))) (fun _ h9 => h9) rfl dX2_readAct_62 ?_
        refine lv_iconst (v := 5) hx hb dX2_readAct_65 (by decide) ?_
        refine lv_icmp_eq (tgt := 71) hx hb dX2_readAct_66 (by decide) (fun c22 => ?_) (fun c22 => ?_)
        · skip
          have f23 := i_eq c22
          refine lv_aload_n hx hb dX2_readAct_71 rfl (lv_at hl 0 rfl) ?_
          refine va_get (D := D) (ci := 2) (v := .ref (ad 52)) (C := RX2) (T := TX2) (N := 15) hx hb hts inX2_readAct_X2 hown hK hP 3 rfl rfl 8 (by decide) (hts (Cond.fieldLink RX2 28 "PortRooms$Duties" "draftDays" "[I") (wm_t (wm_l (wm_i 3 rfl)))) (fun _ h9 => h9) rfl dX2_readAct_72 ?_
          refine lv_aload_n hx hb dX2_readAct_75 rfl (lv_at hl 0 rfl) ?_
          refine va_get (D := D) (ci := 2) (v := .int dr) (C := RX2) (T := TX2) (N := 15) hx hb hts inX2_readAct_X2 hown hK hP 3 rfl rfl 10 (by decide) (hts (Cond.fieldLink RX2 41 "PortRooms$Duties" "drafted" "I") (wm_t (wm_l (wm_i 1 rfl)))) (fun _ h9 => h9) rfl dX2_readAct_76 ?_
          refine lv_aload_n hx hb dX2_readAct_79 rfl (lv_at hl 0 rfl) ?_
          refine va_get (D := D) (ci := 2) (v := .int nb_21) (C := RX2) (T := TX2) (N := 15) hx hb hts inX2_readAct_X2 hown hK hP 3 rfl rfl 14 (by decide) (hts (Cond.fieldLink RX2 76 "PortRooms$Duties" "number" "I") (wm_t (wm_l (wm_i 4 rfl)))) (fun _ h9 => h9) rfl dX2_readAct_80 ?_
          refine va_iast hx hb hK hP hD hS 1 0 rfl rfl (i_in (by omega) (by omega)) dX2_readAct_83 (fun H locs => ?_)
          clear hP hD hS
          intro hP hD hS
          replace hP : va_P D vwCl [(aI cI (ad 51) 12 (upd xw dr.toNatClampNeg tk)), (aI cI (ad 52) 12 (upd (upd xd dr.toNatClampNeg (-1)) dr.toNatClampNeg nb_21)), (aI cI (ad 53) 12 xp), (oC2 ad ln lfa dl dr bs_18 be_19 tk_20 nb_21), (aI cY (ad 47) 300 tp)] H := hP
          replace hD : va_D A [(aI cI (ad 51) 12 (upd xw dr.toNatClampNeg tk)), (aI cI (ad 52) 12 (upd (upd xd dr.toNatClampNeg (-1)) dr.toNatClampNeg nb_21)), (aI cI (ad 53) 12 xp), (oC2 ad ln lfa dl dr bs_18 be_19 tk_20 nb_21), (aI cY (ad 47) 300 tp)] := hD
          refine lv_aload_n hx hb dX2_readAct_84 rfl (lv_at hl 0 rfl) ?_
          refine st_v (wr := [(aI cI (ad 51) 12 (upd xw dr.toNatClampNeg tk)), (aI cI (ad 52) 12 (upd (upd xd dr.toNatClampNeg (-1)) dr.toNatClampNeg nb_21)), (aI cI (ad 53) 12 xp)]) (va_runV (C := RX2) (As := []) (rest := []) ⟨hx, hb, hml, hown, hts⟩ (ct_X2_next l D cI cY cJ cQ _ aK aV ad ln lfa dl dr bs_18 be_19 tk_20 nb_21 tp h1 h2 (by omega) (by omega)) (cwV 0 hts gX2_readAct_X2_next rfl rfl rfl ⟨rfl, cdX2_next⟩ ⟨Nat.le_of_ble_eq_true rfl, Nat.le_of_ble_eq_true rfl⟩) (cPreTV (hP.sub [3, 4] rfl) hK (hD.sub [3, 4] (by decide +kernel) rfl) hN hS (va_free hD hS hA [3, 4] rfl) hT (ci := 2) (q0 := 0) rfl rfl) rfl rfl hl.1 rfl (lv_room (Nat.le_of_ble_eq_true rfl)) dX2_readAct_85 ⟨Nat.le_of_ble_eq_true rfl, Nat.le_of_ble_eq_true rfl⟩) hP hD hS hA [3, 4] [0, 1, 2] rfl rfl (by decide +kernel) (by decide +kernel) (fun u24 H locs hw25 => ?_)
          clear hP hD hS
          intro hP hD hS
          obtain ⟨bs_27, be_28, tk_29, nb_30⟩ := u24
          replace hw25 : 0 ≤ bs_27.toInt ∧ bs_27.toInt ≤ be_28.toInt ∧ be_28.toInt ≤ ln.toInt ∧ bs_27.toInt = (tS tp ln.toNatClampNeg be_19.toNatClampNeg : Int) ∧ be_28.toInt = (tE tp ln.toNatClampNeg be_19.toNatClampNeg : Int) ∧ tk_29.toInt = tK tp ln.toNatClampNeg be_19.toNatClampNeg ∧ (tk_29.toInt = 5 → nb_30.toInt = tN tp ln.toNatClampNeg be_19.toNatClampNeg) := hw25
          replace hP : va_P D vwCl [(aI cI (ad 51) 12 (upd xw dr.toNatClampNeg tk)), (aI cI (ad 52) 12 (upd (upd xd dr.toNatClampNeg (-1)) dr.toNatClampNeg nb_21)), (aI cI (ad 53) 12 xp), (oC2 ad ln lfa dl dr bs_27 be_28 tk_29 nb_30), (aI cY (ad 47) 300 tp)] H := hP
          replace hD : va_D A [(aI cI (ad 51) 12 (upd xw dr.toNatClampNeg tk)), (aI cI (ad 52) 12 (upd (upd xd dr.toNatClampNeg (-1)) dr.toNatClampNeg nb_21)), (aI cI (ad 53) 12 xp), (oC2 ad ln lfa dl dr bs_27 be_28 tk_29 nb_30), (aI cY (ad 47) 300 tp)] := hD
          obtain ⟨hw25a, hw25b, hw25c, hw25d, hw25e, hw25f, hw25g⟩ := hw25
          have cphw25 := i_cl (x := be_19) (by omega)
          have ephw25 : be_19.toNatClampNeg = tE tp ln.toNatClampNeg (tE tp ln.toNatClampNeg be.toNatClampNeg) := by omega
          rw [ephw25] at hw25d hw25e hw25f hw25g
          refine lv_iconst (v := 0) hx hb dX2_readAct_88 (by decide) ?_
          have ea9 : acP tp ln.toNatClampNeg be.toNatClampNeg = tE tp ln.toNatClampNeg (tE tp ln.toNatClampNeg be.toNatClampNeg) := by unfold acP; rw [if_pos (by omega), if_pos (by omega)]
          have er9 : acR tp ln.toNatClampNeg be.toNatClampNeg = 0 := by unfold acR; rw [if_neg (by omega)]
          have ed9 : acD tp ln.toNatClampNeg be.toNatClampNeg = tN tp ln.toNatClampNeg (tE tp ln.toNatClampNeg be.toNatClampNeg) := by unfold acD; rw [if_pos (by omega)]
          have en9 := hw16g (by omega)
          have hP9 := hP.sub (ws' := [(oC2 ad ln lfa dl dr bs_27 be_28 tk_29 nb_30), (aI cY (ad 47) 300 tp), (aI cI (ad 51) 12 (upd xw dr.toNatClampNeg tk)), (aI cI (ad 52) 12 (upd (upd xd dr.toNatClampNeg (-1)) dr.toNatClampNeg nb_21)), (aI cI (ad 53) 12 xp)]) [3, 4, 0, 1, 2] rfl
          have hD9 := hD.sub (ws' := [(oC2 ad ln lfa dl dr bs_27 be_28 tk_29 nb_30), (aI cY (ad 47) 300 tp), (aI cI (ad 51) 12 (upd xw dr.toNatClampNeg tk)), (aI cI (ad 52) 12 (upd (upd xd dr.toNatClampNeg (-1)) dr.toNatClampNeg nb_21)), (aI cI (ad 53) 12 xp)]) [3, 4, 0, 1, 2] (by decide +kernel) rfl
          exact W.iret (v := 0) hx hb hr (fun t ht hW => ⟨⟨0, (bs_27, be_28, tk_29, nb_30, upd xw dr.toNatClampNeg tk, upd (upd xd dr.toNatClampNeg (-1)) dr.toNatClampNeg nb_21), rfl, (by show 0 ≤ bs_27.toInt ∧ bs_27.toInt ≤ be_28.toInt ∧ be_28.toInt ≤ ln.toInt ∧ ((0 : Int32).toInt = 0 → dr.toInt < 12) ∧ raQ tp ln.toNatClampNeg dr bs be tk xw xd (0 : Int32) bs_27 be_28 tk_29 nb_30 (upd xw dr.toNatClampNeg tk) (upd (upd xd dr.toNatClampNeg (-1)) dr.toNatClampNeg nb_21); exact ⟨by omega, by omega, by omega, fun h9 => by omega, ⟨(fun j hj => ⟨upd_n _ _ hj, by first | rw [upd_n _ _ hj, upd_n _ _ hj] | rw [upd_n _ _ hj]⟩), Or.inr (Or.inr ⟨by omega, by omega, by omega, (by rw [ea9]; exact ⟨hw25d, hw25e, hw25f, hw25g⟩), upd_s _ _ _, fun _ => by rw [upd_s]; omega⟩)⟩⟩), by rw [ht]; exact hP9, va_K.moved hW.alike hK, hD9⟩, hS.F ht⟩) hS.2.2 dX2_readAct_89
        · skip
          have f31 := i_ne c22
          refine lv_iconst (v := 1) hx hb dX2_readAct_69 (by decide) ?_
          have ea9 : acP tp ln.toNatClampNeg be.toNatClampNeg = tE tp ln.toNatClampNeg be.toNatClampNeg := by unfold acP; rw [if_pos (by omega), if_neg (by omega)]
          have er9 : acR tp ln.toNatClampNeg be.toNatClampNeg = 1 := by unfold acR; rw [if_pos (by omega)]
          have hP9 := hP.sub (ws' := [(oC2 ad ln lfa dl dr bs_18 be_19 tk_20 nb_21), (aI cY (ad 47) 300 tp), (aI cI (ad 51) 12 (upd xw dr.toNatClampNeg tk)), (aI cI (ad 52) 12 (upd xd dr.toNatClampNeg (-1))), (aI cI (ad 53) 12 xp)]) [3, 4, 0, 1, 2] rfl
          have hD9 := hD.sub (ws' := [(oC2 ad ln lfa dl dr bs_18 be_19 tk_20 nb_21), (aI cY (ad 47) 300 tp), (aI cI (ad 51) 12 (upd xw dr.toNatClampNeg tk)), (aI cI (ad 52) 12 (upd xd dr.toNatClampNeg (-1))), (aI cI (ad 53) 12 xp)]) [3, 4, 0, 1, 2] (by decide +kernel) rfl
          exact W.iret (v := 1) hx hb hr (fun t ht hW => ⟨⟨1, (bs_18, be_19, tk_20, nb_21, upd xw dr.toNatClampNeg tk, upd xd dr.toNatClampNeg (-1)), rfl, (by show 0 ≤ bs_18.toInt ∧ bs_18.toInt ≤ be_19.toInt ∧ be_19.toInt ≤ ln.toInt ∧ ((1 : Int32).toInt = 0 → dr.toInt < 12) ∧ raQ tp ln.toNatClampNeg dr bs be tk xw xd (1 : Int32) bs_18 be_19 tk_20 nb_21 (upd xw dr.toNatClampNeg tk) (upd xd dr.toNatClampNeg (-1)); exact ⟨by omega, by omega, by omega, fun h9 => by omega, ⟨(fun j hj => ⟨upd_n _ _ hj, by first | rw [upd_n _ _ hj, upd_n _ _ hj] | rw [upd_n _ _ hj]⟩), Or.inr (Or.inr ⟨by omega, by omega, by omega, (by rw [ea9]; exact ⟨hw16d, hw16e, hw16f, hw16g⟩), upd_s _ _ _, fun h9 => by exfalso; omega⟩)⟩⟩), by rw [ht]; exact hP9, va_K.moved hW.alike hK, hD9⟩, hS.F ht⟩) hS.2.2 dX2_readAct_70
    · skip
      have f32 := i_nlt c3
      refine lv_iconst (v := 3) hx hb dX2_readAct_19 (by decide) ?_
      have hP9 := hP
      have hD9 := hD
      exact W.iret (v := 3) hx hb hr (fun t ht hW => ⟨⟨3, (bs, be, tk, nb, xw, xd), rfl, (by show 0 ≤ bs.toInt ∧ bs.toInt ≤ be.toInt ∧ be.toInt ≤ ln.toInt ∧ ((3 : Int32).toInt = 0 → dr.toInt < 12) ∧ raQ tp ln.toNatClampNeg dr bs be tk xw xd (3 : Int32) bs be tk nb xw xd; exact ⟨by omega, by omega, by omega, fun h9 => by exfalso; omega, ⟨fun j hj => ⟨rfl, rfl⟩, Or.inr (Or.inl ⟨by omega, by omega, by omega, rfl⟩)⟩⟩), by rw [ht]; exact hP9, va_K.moved hW.alike hK, hD9⟩, hS.F ht⟩) hS.2.2 dX2_readAct_20
  · skip
    have f33 := i_nlt c1
    refine lv_iconst (v := 1) hx hb dX2_readAct_8 (by decide) ?_
    have hP9 := hP
    have hD9 := hD
    exact W.iret (v := 1) hx hb hr (fun t ht hW => ⟨⟨1, (bs, be, tk, nb, xw, xd), rfl, (by show 0 ≤ bs.toInt ∧ bs.toInt ≤ be.toInt ∧ be.toInt ≤ ln.toInt ∧ ((1 : Int32).toInt = 0 → dr.toInt < 12) ∧ raQ tp ln.toNatClampNeg dr bs be tk xw xd (1 : Int32) bs be tk nb xw xd; exact ⟨by omega, by omega, by omega, fun h9 => by exfalso; omega, ⟨fun j hj => ⟨rfl, rfl⟩, Or.inl ⟨by omega, by omega, rfl⟩⟩⟩), by rw [ht]; exact hP9, va_K.moved hW.alike hK, hD9⟩, hS.F ht⟩) hS.2.2 dX2_readAct_9

set_option maxHeartbeats 4000000 in
set_option maxRecDepth 100000 in
theorem ct_X2_readPart (l : Launch) (D : va_G) (cI cY cJ cQ : ClassId) (sz : Nat) (aK aV : Nat) (ad : Nat → Nat) (ln lfa dl dr bs be tk nb : Int32) (tp xw xd xp : Nat → Int32)  (h1 : 0 ≤ ln.toInt) (h2 : ln.toInt ≤ 300) (h3 : 0 ≤ bs.toInt) (h4 : bs.toInt ≤ be.toInt) (h5 : be.toInt ≤ ln.toInt) (h6 : 0 ≤ dr.toInt) (h7 : dr.toInt < 12)  : Met l yX2_readPart wsX2_readPart ({ frames := 7, cells := 0, slots := 0, locals := 149 }) (cPreT aK aV D (ty4 cI cY cJ cQ) [(oC2 ad ln lfa dl dr bs be tk nb), (aI cY (ad 47) 300 tp), (aI cI (ad 51) 12 xw), (aI cI (ad 52) 12 xd), (aI cI (ad 53) 12 xp)] sz [.ref (ad 6)]) (va_Qi (fun (r : Int32) (u : Int32 × Int32 × Int32 × Int32 × Int32 × (Nat → Int32)) => 0 ≤ u.1.toInt ∧ u.1.toInt ≤ u.2.1.toInt ∧ u.2.1.toInt ≤ ln.toInt ∧ 0 ≤ u.2.2.2.2.1.toInt ∧ u.2.2.2.2.1.toInt ≤ 12 ∧ rpQ tp ln.toNatClampNeg dr bs be tk xp r u.1 u.2.1 u.2.2.1 u.2.2.2.1 u.2.2.2.2.1 u.2.2.2.2.2) (cB D (ty4 cI cY cJ cQ) (fun (u : Int32 × Int32 × Int32 × Int32 × Int32 × (Nat → Int32)) => [(oC2 ad ln lfa dl u.2.2.2.2.1 u.1 u.2.1 u.2.2.1 u.2.2.2.1), (aI cY (ad 47) 300 tp), (aI cI (ad 51) 12 xw), (aI cI (ad 52) 12 xd), (aI cI (ad 53) 12 u.2.2.2.2.2)]) (va_A [(oC2 ad ln lfa dl dr bs be tk nb), (aI cY (ad 47) 300 tp), (aI cI (ad 51) 12 xw), (aI cI (ad 52) 12 xd), (aI cI (ad 53) 12 xp)] sz)) (va_A [(oC2 ad ln lfa dl dr bs be tk nb), (aI cY (ad 47) 300 tp), (aI cI (ad 51) 12 xw), (aI cI (ad 52) 12 xd), (aI cI (ad 53) 12 xp)] sz)) 0 0 (va_A [(oC2 ad ln lfa dl dr bs be tk nb), (aI cY (ad 47) 300 tp), (aI cI (ad 51) 12 xw), (aI cI (ad 52) 12 xd), (aI cI (ad 53) 12 xp)] sz) := by
  refine Met.ofW (cc := cX2_readPart) (maxL := 1) (ret := (some .int)) (by decide) rfl ?_
  intro p e s m args below meth c s₁ B hml hv
  obtain ⟨rfl, hsz, hP, hK, hD0, hN, hT⟩ := hv
  have hx := B.exec
  have hb := B.bytes
  have hr := B.returns
  have hts := atoms_spec (ws := wsX2_readPart) B.pre
  have hown : s.vm.findClass RX2 = some m.cls := findClass_of_methodNamed B.named
  have hlocks := B.notSynchronized
  subst hsz
  have hD := hD0.self (sz := s.heap.size)
  generalize hAe : va_A [(oC2 ad ln lfa dl dr bs be tk nb), (aI cY (ad 47) 300 tp), (aI cI (ad 51) 12 xw), (aI cI (ad 52) 12 xd), (aI cI (ad 53) 12 xp)] s.heap.size = A at hD hT ⊢
  have hA : ∀ q : Nat, s.heap.size ≤ q → A q := fun q h => by rw [← hAe]; exact Or.inr h
  have hS : va_S A s.heap s.heap [] := va_S.rf
  have hP : va_P D vwCl [(oC2 ad ln lfa dl dr bs be tk nb), (aI cY (ad 47) 300 tp), (aI cI (ad 51) 12 xw), (aI cI (ad 52) 12 xd), (aI cI (ad 53) 12 xp)] s.heap := hP
  have hl := lv_entry ([.ref (ad 6)]) (n := 1) (Nat.le_of_ble_eq_true rfl)
  rw [lg_entry_eq]
  generalize (lg_sl ([.ref (ad 6)]) ++ List.replicate (1 - (lg_sl ([.ref (ad 6)])).length) Slot.unset).toArray = ls at hl ⊢
  have hl : lv_has ls 1 [(0, .ref (ad 6))] := hl
  have k0 : (0 : Int32).toInt = 0 := by decide
  have k1 : (1 : Int32).toInt = 1 := by decide
  have k2 : (2 : Int32).toInt = 2 := by decide
  have k4 : (4 : Int32).toInt = 4 := by decide
  have k5 : (5 : Int32).toInt = 5 := by decide
  have k6 : (6 : Int32).toInt = 6 := by decide
  have k100 : (100 : Int32).toInt = 100 := by decide
  refine lv_aload_n hx hb dX2_readPart_0 rfl (lv_at hl 0 rfl) ?_
  refine va_get (D := D) (ci := 2) (v := .int tk) (C := RX2) (T := TX2) (N := 15) hx hb hts inX2_readPart_X2 hown hK hP 0 rfl rfl 13 (by decide) (hts (Cond.fieldLink RX2 47 "PortRooms$Duties" "token" "I") (wm_t (wm_l (wm_i 0 rfl)))) (fun _ h9 => h9) rfl dX2_readPart_1 ?_
  refine lv_iconst (v := 4) hx hb dX2_readPart_4 (by decide) ?_
  refine lv_icmp_eq (tgt := 10) hx hb dX2_readPart_5 (by decide) (fun c1 => ?_) (fun c1 => ?_)
  · skip
    have f2 := i_eq c1
    refine lv_aload_n hx hb dX2_readPart_10 rfl (lv_at hl 0 rfl) ?_
    refine st_v (wr := [(aI cI (ad 51) 12 xw), (aI cI (ad 52) 12 xd), (aI cI (ad 53) 12 xp)]) (va_runV (C := RX2) (As := []) (rest := []) ⟨hx, hb, hml, hown, hts⟩ (ct_X2_next l D cI cY cJ cQ _ aK aV ad ln lfa dl dr bs be tk nb tp h1 h2 (by omega) h5) (cwV 0 hts gX2_readPart_X2_next rfl rfl rfl ⟨rfl, cdX2_next⟩ ⟨Nat.le_of_ble_eq_true rfl, Nat.le_of_ble_eq_true rfl⟩) (cPreTV (hP.sub [0, 1] rfl) hK (hD.sub [0, 1] (by decide +kernel) rfl) hN hS (va_free hD hS hA [0, 1] rfl) hT (ci := 2) (q0 := 0) rfl rfl) rfl rfl hl.1 rfl (lv_room (Nat.le_of_ble_eq_true rfl)) dX2_readPart_11 ⟨Nat.le_of_ble_eq_true rfl, Nat.le_of_ble_eq_true rfl⟩) hP hD hS hA [0, 1] [2, 3, 4] rfl rfl (by decide +kernel) (by decide +kernel) (fun u3 H locs hw4 => ?_)
    clear hP hD hS
    intro hP hD hS
    obtain ⟨bs_6, be_7, tk_8, nb_9⟩ := u3
    replace hw4 : 0 ≤ bs_6.toInt ∧ bs_6.toInt ≤ be_7.toInt ∧ be_7.toInt ≤ ln.toInt ∧ bs_6.toInt = (tS tp ln.toNatClampNeg be.toNatClampNeg : Int) ∧ be_7.toInt = (tE tp ln.toNatClampNeg be.toNatClampNeg : Int) ∧ tk_8.toInt = tK tp ln.toNatClampNeg be.toNatClampNeg ∧ (tk_8.toInt = 5 → nb_9.toInt = tN tp ln.toNatClampNeg be.toNatClampNeg) := hw4
    replace hP : va_P D vwCl [(aI cI (ad 51) 12 xw), (aI cI (ad 52) 12 xd), (aI cI (ad 53) 12 xp), (oC2 ad ln lfa dl dr bs_6 be_7 tk_8 nb_9), (aI cY (ad 47) 300 tp)] H := hP
    replace hD : va_D A [(aI cI (ad 51) 12 xw), (aI cI (ad 52) 12 xd), (aI cI (ad 53) 12 xp), (oC2 ad ln lfa dl dr bs_6 be_7 tk_8 nb_9), (aI cY (ad 47) 300 tp)] := hD
    obtain ⟨hw4a, hw4b, hw4c, hw4d, hw4e, hw4f, hw4g⟩ := hw4
    have en9 : tk_8.toInt = 5 → nb_9.toInt = tN tp ln.toNatClampNeg be.toNatClampNeg := hw4g
    refine lv_aload_n hx hb dX2_readPart_14 rfl (lv_at hl 0 rfl) ?_
    refine va_get (D := D) (ci := 2) (v := .int tk_8) (C := RX2) (T := TX2) (N := 15) hx hb hts inX2_readPart_X2 hown hK hP 3 rfl rfl 13 (by decide) (hts (Cond.fieldLink RX2 47 "PortRooms$Duties" "token" "I") (wm_t (wm_l (wm_i 0 rfl)))) (fun _ h9 => h9) rfl dX2_readPart_15 ?_
    refine lv_iconst (v := 5) hx hb dX2_readPart_18 (by decide) ?_
    refine lv_icmp_eq (tgt := 24) hx hb dX2_readPart_19 (by decide) (fun c10 => ?_) (fun c10 => ?_)
    · skip
      have f11 := i_eq c10
      replace en9 := en9 (by omega)
      refine lv_aload_n hx hb dX2_readPart_24 rfl (lv_at hl 0 rfl) ?_
      refine va_get (D := D) (ci := 2) (v := .int nb_9) (C := RX2) (T := TX2) (N := 15) hx hb hts inX2_readPart_X2 hown hK hP 3 rfl rfl 14 (by decide) (hts (Cond.fieldLink RX2 76 "PortRooms$Duties" "number" "I") (wm_t (wm_l (wm_i 1 rfl)))) (fun _ h9 => h9) rfl dX2_readPart_25 ?_
      refine lv_bipush (v := 100) hx hb dX2_readPart_28 (by decide) ?_
      refine lv_icmp_le (tgt := 35) hx hb dX2_readPart_30 (by decide) (fun c12 => ?_) (fun c12 => ?_)
      · skip
        have f13 := i_le c12
        refine lv_aload_n hx hb dX2_readPart_35 rfl (lv_at hl 0 rfl) ?_
        refine va_get (D := D) (ci := 2) (v := .ref (ad 53)) (C := RX2) (T := TX2) (N := 15) hx hb hts inX2_readPart_X2 hown hK hP 3 rfl rfl 9 (by decide) (hts (Cond.fieldLink RX2 31 "PortRooms$Duties" "draftPart" "[I") (wm_t (wm_l (wm_i 2 rfl)))) (fun _ h9 => h9) rfl dX2_readPart_36 ?_
        refine lv_aload_n hx hb dX2_readPart_39 rfl (lv_at hl 0 rfl) ?_
        refine va_get (D := D) (ci := 2) (v := .int dr) (C := RX2) (T := TX2) (N := 15) hx hb hts inX2_readPart_X2 hown hK hP 3 rfl rfl 10 (by decide) (hts (Cond.fieldLink RX2 41 "PortRooms$Duties" "drafted" "I") (wm_t (wm_l (wm_i 3 rfl)))) (fun _ h9 => h9) rfl dX2_readPart_40 ?_
        refine lv_aload_n hx hb dX2_readPart_43 rfl (lv_at hl 0 rfl) ?_
        refine va_get (D := D) (ci := 2) (v := .int nb_9) (C := RX2) (T := TX2) (N := 15) hx hb hts inX2_readPart_X2 hown hK hP 3 rfl rfl 14 (by decide) (hts (Cond.fieldLink RX2 76 "PortRooms$Duties" "number" "I") (wm_t (wm_l (wm_i 1 rfl)))) (fun _ h9 => h9) rfl dX2_readPart_44 ?_
        refine va_iast hx hb hK hP hD hS 2 0 rfl rfl (i_in (by omega) (by omega)) dX2_readPart_47 (fun H locs => ?_)
        clear hP hD hS
        intro hP hD hS
        replace hP : va_P D vwCl [(aI cI (ad 51) 12 xw), (aI cI (ad 52) 12 xd), (aI cI (ad 53) 12 (upd xp dr.toNatClampNeg nb_9)), (oC2 ad ln lfa dl dr bs_6 be_7 tk_8 nb_9), (aI cY (ad 47) 300 tp)] H := hP
        replace hD : va_D A [(aI cI (ad 51) 12 xw), (aI cI (ad 52) 12 xd), (aI cI (ad 53) 12 (upd xp dr.toNatClampNeg nb_9)), (oC2 ad ln lfa dl dr bs_6 be_7 tk_8 nb_9), (aI cY (ad 47) 300 tp)] := hD
        refine lv_aload_n hx hb dX2_readPart_48 rfl (lv_at hl 0 rfl) ?_
        refine st_v (wr := [(aI cI (ad 51) 12 xw), (aI cI (ad 52) 12 xd), (aI cI (ad 53) 12 (upd xp dr.toNatClampNeg nb_9))]) (va_runV (C := RX2) (As := []) (rest := []) ⟨hx, hb, hml, hown, hts⟩ (ct_X2_next l D cI cY cJ cQ _ aK aV ad ln lfa dl dr bs_6 be_7 tk_8 nb_9 tp h1 h2 (by omega) (by omega)) (cwV 0 hts gX2_readPart_X2_next rfl rfl rfl ⟨rfl, cdX2_next⟩ ⟨Nat.le_of_ble_eq_true rfl, Nat.le_of_ble_eq_true rfl⟩) (cPreTV (hP.sub [3, 4] rfl) hK (hD.sub [3, 4] (by decide +kernel) rfl) hN hS (va_free hD hS hA [3, 4] rfl) hT (ci := 2) (q0 := 0) rfl rfl) rfl rfl hl.1 rfl (lv_room (Nat.le_of_ble_eq_true rfl)) dX2_readPart_49 ⟨Nat.le_of_ble_eq_true rfl, Nat.le_of_ble_eq_true rfl⟩) hP hD hS hA [3, 4] [0, 1, 2] rfl rfl (by decide +kernel) (by decide +kernel) (fun u14 H locs hw15 => ?_)
        clear hP hD hS
        intro hP hD hS
        obtain ⟨bs_17, be_18, tk_19, nb_20⟩ := u14
        replace hw15 : 0 ≤ bs_17.toInt ∧ bs_17.toInt ≤ be_18.toInt ∧ be_18.toInt ≤ ln.toInt ∧ bs_17.toInt = (tS tp ln.toNatClampNeg be_7.toNatClampNeg : Int) ∧ be_18.toInt = (tE tp ln.toNatClampNeg be_7.toNatClampNeg : Int) ∧ tk_19.toInt = tK tp ln.toNatClampNeg be_7.toNatClampNeg ∧ (tk_19.toInt = 5 → nb_20.toInt = tN tp ln.toNatClampNeg be_7.toNatClampNeg) := hw15
        replace hP : va_P D vwCl [(aI cI (ad 51) 12 xw), (aI cI (ad 52) 12 xd), (aI cI (ad 53) 12 (upd xp dr.toNatClampNeg nb_9)), (oC2 ad ln lfa dl dr bs_17 be_18 tk_19 nb_20), (aI cY (ad 47) 300 tp)] H := hP
        replace hD : va_D A [(aI cI (ad 51) 12 xw), (aI cI (ad 52) 12 xd), (aI cI (ad 53) 12 (upd xp dr.toNatClampNeg nb_9)), (oC2 ad ln lfa dl dr bs_17 be_18 tk_19 nb_20), (aI cY (ad 47) 300 tp)] := hD
        obtain ⟨hw15a, hw15b, hw15c, hw15d, hw15e, hw15f, hw15g⟩ := hw15
        have cphw15 := i_cl (x := be_7) (by omega)
        have ephw15 : be_7.toNatClampNeg = tE tp ln.toNatClampNeg be.toNatClampNeg := by omega
        rw [ephw15] at hw15d hw15e hw15f hw15g
        refine lv_aload_n hx hb dX2_readPart_52 rfl (lv_at hl 0 rfl) ?_
        refine va_get (D := D) (ci := 2) (v := .int tk_19) (C := RX2) (T := TX2) (N := 15) hx hb hts inX2_readPart_X2 hown hK hP 3 rfl rfl 13 (by decide) (hts (Cond.fieldLink RX2 47 "PortRooms$Duties" "token" "I") (wm_t (wm_l (wm_i 0 rfl)))) (fun _ h9 => h9) rfl dX2_readPart_53 ?_
        refine lv_bipush (v := 6) hx hb dX2_readPart_56 (by decide) ?_
        refine lv_icmp_eq (tgt := 63) hx hb dX2_readPart_58 (by decide) (fun c21 => ?_) (fun c21 => ?_)
        · skip
          have f22 := i_eq c21
          refine lv_aload_n hx hb dX2_readPart_63 rfl (lv_at hl 0 rfl) ?_
          refine lv_dup hx hb dX2_readPart_64 rfl ?_
          refine va_get (D := D) (ci := 2) (v := .int dr) (C := RX2) (T := TX2) (N := 15) hx hb hts inX2_readPart_X2 hown hK hP 3 rfl rfl 10 (by decide) (hts (Cond.fieldLink RX2 41 "PortRooms$Duties" "drafted" "I") (wm_t (wm_l (wm_i 3 rfl)))) (fun _ h9 => h9) rfl dX2_readPart_65 ?_
          refine lv_iconst (v := 1) hx hb dX2_readPart_68 (by decide) ?_
          refine lv_iadd hx hb dX2_readPart_69 ?_
          refine lv_topi (fun v23 ev23 => ?_)
          try have tv23 : v23.toInt = dr.toInt + 1 := by rw [ev23]; exact (i_add (x := dr) (y := (1 : Int32)) (by rw [k1]; omega) (by rw [k1]; omega)).trans (by rw [k1])
          refine va_put (D := D) (ci := 2) (v := .int v23) (ty := .int) (C := RX2) (T := TX2) (N := 15) hx hb hts inX2_readPart_X2 tyX2 tyX2_ok nmX2 hown hK hP hD hS 3 rfl rfl 10 (by decide) (hts (Cond.fieldLink RX2 41 "PortRooms$Duties" "drafted" "I") (wm_t (wm_l (wm_i 3 rfl)))) (fun _ h9 => h9) rfl (tyX2_ok 10 (by decide)) rfl rfl (Nat.le_of_ble_eq_true rfl) dX2_readPart_70 (fun H locs => ?_)
          clear hP hD hS
          intro hP hD hS
          replace hP : va_P D vwCl [(aI cI (ad 51) 12 xw), (aI cI (ad 52) 12 xd), (aI cI (ad 53) 12 (upd xp dr.toNatClampNeg nb_9)), (oC2 ad ln lfa dl v23 bs_17 be_18 tk_19 nb_20), (aI cY (ad 47) 300 tp)] H := hP
          replace hD : va_D A [(aI cI (ad 51) 12 xw), (aI cI (ad 52) 12 xd), (aI cI (ad 53) 12 (upd xp dr.toNatClampNeg nb_9)), (oC2 ad ln lfa dl v23 bs_17 be_18 tk_19 nb_20), (aI cY (ad 47) 300 tp)] := hD
          refine lv_aload_n hx hb dX2_readPart_73 rfl (lv_at hl 0 rfl) ?_
          refine st_v (wr := [(aI cI (ad 51) 12 xw), (aI cI (ad 52) 12 xd), (aI cI (ad 53) 12 (upd xp dr.toNatClampNeg nb_9))]) (va_runV (C := RX2) (As := []) (rest := []) ⟨hx, hb, hml, hown, hts⟩ (ct_X2_next l D cI cY cJ cQ _ aK aV ad ln lfa dl v23 bs_17 be_18 tk_19 nb_20 tp h1 h2 (by omega) (by omega)) (cwV 0 hts gX2_readPart_X2_next rfl rfl rfl ⟨rfl, cdX2_next⟩ ⟨Nat.le_of_ble_eq_true rfl, Nat.le_of_ble_eq_true rfl⟩) (cPreTV (hP.sub [3, 4] rfl) hK (hD.sub [3, 4] (by decide +kernel) rfl) hN hS (va_free hD hS hA [3, 4] rfl) hT (ci := 2) (q0 := 0) rfl rfl) rfl rfl hl.1 rfl (lv_room (Nat.le_of_ble_eq_true rfl)) dX2_readPart_74 ⟨Nat.le_of_ble_eq_true rfl, Nat.le_of_ble_eq_true rfl⟩) hP hD hS hA [3, 4] [0, 1, 2] rfl rfl (by decide +kernel) (by decide +kernel) (fun u24 H locs hw25 => ?_)
          clear hP hD hS
          intro hP hD hS
          obtain ⟨bs_27, be_28, tk_29, nb_30⟩ := u24
          replace hw25 : 0 ≤ bs_27.toInt ∧ bs_27.toInt ≤ be_28.toInt ∧ be_28.toInt ≤ ln.toInt ∧ bs_27.toInt = (tS tp ln.toNatClampNeg be_18.toNatClampNeg : Int) ∧ be_28.toInt = (tE tp ln.toNatClampNeg be_18.toNatClampNeg : Int) ∧ tk_29.toInt = tK tp ln.toNatClampNeg be_18.toNatClampNeg ∧ (tk_29.toInt = 5 → nb_30.toInt = tN tp ln.toNatClampNeg be_18.toNatClampNeg) := hw25
          replace hP : va_P D vwCl [(aI cI (ad 51) 12 xw), (aI cI (ad 52) 12 xd), (aI cI (ad 53) 12 (upd xp dr.toNatClampNeg nb_9)), (oC2 ad ln lfa dl v23 bs_27 be_28 tk_29 nb_30), (aI cY (ad 47) 300 tp)] H := hP
          replace hD : va_D A [(aI cI (ad 51) 12 xw), (aI cI (ad 52) 12 xd), (aI cI (ad 53) 12 (upd xp dr.toNatClampNeg nb_9)), (oC2 ad ln lfa dl v23 bs_27 be_28 tk_29 nb_30), (aI cY (ad 47) 300 tp)] := hD
          obtain ⟨hw25a, hw25b, hw25c, hw25d, hw25e, hw25f, hw25g⟩ := hw25
          have cphw25 := i_cl (x := be_18) (by omega)
          have ephw25 : be_18.toNatClampNeg = tE tp ln.toNatClampNeg (tE tp ln.toNatClampNeg be.toNatClampNeg) := by omega
          rw [ephw25] at hw25d hw25e hw25f hw25g
          refine lv_iconst (v := 0) hx hb dX2_readPart_77 (by decide) ?_
          have ep9 : paP tp ln.toNatClampNeg be.toNatClampNeg = tE tp ln.toNatClampNeg (tE tp ln.toNatClampNeg be.toNatClampNeg) := by unfold paP; rw [if_neg (by omega), if_neg (by omega), if_neg (by omega)]
          have er9 : paR tp ln.toNatClampNeg be.toNatClampNeg = 0 := by unfold paR; rw [if_neg (by omega), if_neg (by omega), if_neg (by omega)]
          have hP9 := hP.sub (ws' := [(oC2 ad ln lfa dl v23 bs_27 be_28 tk_29 nb_30), (aI cY (ad 47) 300 tp), (aI cI (ad 51) 12 xw), (aI cI (ad 52) 12 xd), (aI cI (ad 53) 12 (upd xp dr.toNatClampNeg nb_9))]) [3, 4, 0, 1, 2] rfl
          have hD9 := hD.sub (ws' := [(oC2 ad ln lfa dl v23 bs_27 be_28 tk_29 nb_30), (aI cY (ad 47) 300 tp), (aI cI (ad 51) 12 xw), (aI cI (ad 52) 12 xd), (aI cI (ad 53) 12 (upd xp dr.toNatClampNeg nb_9))]) [3, 4, 0, 1, 2] (by decide +kernel) rfl
          exact W.iret (v := 0) hx hb hr (fun t ht hW => ⟨⟨0, (bs_27, be_28, tk_29, nb_30, v23, upd xp dr.toNatClampNeg nb_9), rfl, (by show 0 ≤ bs_27.toInt ∧ bs_27.toInt ≤ be_28.toInt ∧ be_28.toInt ≤ ln.toInt ∧ 0 ≤ v23.toInt ∧ v23.toInt ≤ 12 ∧ rpQ tp ln.toNatClampNeg dr bs be tk xp (0 : Int32) bs_27 be_28 tk_29 nb_30 v23 (upd xp dr.toNatClampNeg nb_9); exact ⟨by omega, by omega, by omega, by omega, by omega, ⟨(fun j hj => upd_n _ _ hj), Or.inr ⟨by omega, by omega, (by rw [ep9]; exact ⟨hw25d, hw25e, hw25f, hw25g⟩), fun _ => ⟨by omega, by rw [upd_s]; omega⟩, fun h9 => absurd (by omega) h9⟩⟩⟩), by rw [ht]; exact hP9, va_K.moved hW.alike hK, hD9⟩, hS.F ht⟩) hS.2.2 dX2_readPart_78
        · skip
          have f31 := i_ne c21
          refine lv_iconst (v := 1) hx hb dX2_readPart_61 (by decide) ?_
          have ep9 : paP tp ln.toNatClampNeg be.toNatClampNeg = tE tp ln.toNatClampNeg be.toNatClampNeg := by unfold paP; rw [if_neg (by omega), if_neg (by omega), if_pos (by omega)]
          have er9 : paR tp ln.toNatClampNeg be.toNatClampNeg = 1 := by unfold paR; rw [if_neg (by omega), if_neg (by omega), if_pos (by omega)]
          have hP9 := hP.sub (ws' := [(oC2 ad ln lfa dl dr bs_17 be_18 tk_19 nb_20), (aI cY (ad 47) 300 tp), (aI cI (ad 51) 12 xw), (aI cI (ad 52) 12 xd), (aI cI (ad 53) 12 (upd xp dr.toNatClampNeg nb_9))]) [3, 4, 0, 1, 2] rfl
          have hD9 := hD.sub (ws' := [(oC2 ad ln lfa dl dr bs_17 be_18 tk_19 nb_20), (aI cY (ad 47) 300 tp), (aI cI (ad 51) 12 xw), (aI cI (ad 52) 12 xd), (aI cI (ad 53) 12 (upd xp dr.toNatClampNeg nb_9))]) [3, 4, 0, 1, 2] (by decide +kernel) rfl
          exact W.iret (v := 1) hx hb hr (fun t ht hW => ⟨⟨1, (bs_17, be_18, tk_19, nb_20, dr, upd xp dr.toNatClampNeg nb_9), rfl, (by show 0 ≤ bs_17.toInt ∧ bs_17.toInt ≤ be_18.toInt ∧ be_18.toInt ≤ ln.toInt ∧ 0 ≤ dr.toInt ∧ dr.toInt ≤ 12 ∧ rpQ tp ln.toNatClampNeg dr bs be tk xp (1 : Int32) bs_17 be_18 tk_19 nb_20 dr (upd xp dr.toNatClampNeg nb_9); exact ⟨by omega, by omega, by omega, by omega, by omega, ⟨(fun j hj => upd_n _ _ hj), Or.inr ⟨by omega, by omega, (by rw [ep9]; exact ⟨hw15d, hw15e, hw15f, hw15g⟩), fun h9 => by exfalso; omega, fun _ => rfl⟩⟩⟩), by rw [ht]; exact hP9, va_K.moved hW.alike hK, hD9⟩, hS.F ht⟩) hS.2.2 dX2_readPart_62
      · skip
        have f32 := i_nle c12
        refine lv_iconst (v := 2) hx hb dX2_readPart_33 (by decide) ?_
        have ep9 : paP tp ln.toNatClampNeg be.toNatClampNeg = be.toNatClampNeg := by unfold paP; rw [if_neg (by omega), if_pos (by omega)]
        have er9 : paR tp ln.toNatClampNeg be.toNatClampNeg = 2 := by unfold paR; rw [if_neg (by omega), if_pos (by omega)]
        have hP9 := hP.sub (ws' := [(oC2 ad ln lfa dl dr bs_6 be_7 tk_8 nb_9), (aI cY (ad 47) 300 tp), (aI cI (ad 51) 12 xw), (aI cI (ad 52) 12 xd), (aI cI (ad 53) 12 xp)]) [3, 4, 0, 1, 2] rfl
        have hD9 := hD.sub (ws' := [(oC2 ad ln lfa dl dr bs_6 be_7 tk_8 nb_9), (aI cY (ad 47) 300 tp), (aI cI (ad 51) 12 xw), (aI cI (ad 52) 12 xd), (aI cI (ad 53) 12 xp)]) [3, 4, 0, 1, 2] (by decide +kernel) rfl
        exact W.iret (v := 2) hx hb hr (fun t ht hW => ⟨⟨2, (bs_6, be_7, tk_8, nb_9, dr, xp), rfl, (by show 0 ≤ bs_6.toInt ∧ bs_6.toInt ≤ be_7.toInt ∧ be_7.toInt ≤ ln.toInt ∧ 0 ≤ dr.toInt ∧ dr.toInt ≤ 12 ∧ rpQ tp ln.toNatClampNeg dr bs be tk xp (2 : Int32) bs_6 be_7 tk_8 nb_9 dr xp; exact ⟨by omega, by omega, by omega, by omega, by omega, ⟨(fun j hj => rfl), Or.inr ⟨by omega, by omega, (by rw [ep9]; exact ⟨hw4d, hw4e, hw4f, hw4g⟩), fun h9 => by exfalso; omega, fun _ => rfl⟩⟩⟩), by rw [ht]; exact hP9, va_K.moved hW.alike hK, hD9⟩, hS.F ht⟩) hS.2.2 dX2_readPart_34
    · skip
      have f33 := i_ne c10
      refine lv_iconst (v := 1) hx hb dX2_readPart_22 (by decide) ?_
      have ep9 : paP tp ln.toNatClampNeg be.toNatClampNeg = be.toNatClampNeg := by unfold paP; rw [if_pos (by omega)]
      have er9 : paR tp ln.toNatClampNeg be.toNatClampNeg = 1 := by unfold paR; rw [if_pos (by omega)]
      have hP9 := hP.sub (ws' := [(oC2 ad ln lfa dl dr bs_6 be_7 tk_8 nb_9), (aI cY (ad 47) 300 tp), (aI cI (ad 51) 12 xw), (aI cI (ad 52) 12 xd), (aI cI (ad 53) 12 xp)]) [3, 4, 0, 1, 2] rfl
      have hD9 := hD.sub (ws' := [(oC2 ad ln lfa dl dr bs_6 be_7 tk_8 nb_9), (aI cY (ad 47) 300 tp), (aI cI (ad 51) 12 xw), (aI cI (ad 52) 12 xd), (aI cI (ad 53) 12 xp)]) [3, 4, 0, 1, 2] (by decide +kernel) rfl
      exact W.iret (v := 1) hx hb hr (fun t ht hW => ⟨⟨1, (bs_6, be_7, tk_8, nb_9, dr, xp), rfl, (by show 0 ≤ bs_6.toInt ∧ bs_6.toInt ≤ be_7.toInt ∧ be_7.toInt ≤ ln.toInt ∧ 0 ≤ dr.toInt ∧ dr.toInt ≤ 12 ∧ rpQ tp ln.toNatClampNeg dr bs be tk xp (1 : Int32) bs_6 be_7 tk_8 nb_9 dr xp; exact ⟨by omega, by omega, by omega, by omega, by omega, ⟨(fun j hj => rfl), Or.inr ⟨by omega, by omega, (by rw [ep9]; exact ⟨hw4d, hw4e, hw4f, hw4g⟩), fun h9 => by exfalso; omega, fun _ => rfl⟩⟩⟩), by rw [ht]; exact hP9, va_K.moved hW.alike hK, hD9⟩, hS.F ht⟩) hS.2.2 dX2_readPart_23
  · skip
    have f34 := i_ne c1
    refine lv_iconst (v := 1) hx hb dX2_readPart_8 (by decide) ?_
    have hP9 := hP
    have hD9 := hD
    exact W.iret (v := 1) hx hb hr (fun t ht hW => ⟨⟨1, (bs, be, tk, nb, dr, xp), rfl, (by show 0 ≤ bs.toInt ∧ bs.toInt ≤ be.toInt ∧ be.toInt ≤ ln.toInt ∧ 0 ≤ dr.toInt ∧ dr.toInt ≤ 12 ∧ rpQ tp ln.toNatClampNeg dr bs be tk xp (1 : Int32) bs be tk nb dr xp; exact ⟨by omega, by omega, by omega, by omega, by omega, ⟨(fun j hj => rfl), Or.inl ⟨by omega, by omega, rfl, rfl⟩⟩⟩), by rw [ht]; exact hP9, va_K.moved hW.alike hK, hD9⟩, hS.F ht⟩) hS.2.2 dX2_readPart_9


theorem cpy_lo {f g : Nat → Int32} {n j : Nat} (h : j < n) : va_cpy f g ((0 : Int32).toNatClampNeg) ((0 : Int32).toNatClampNeg) n j = f j := by
  have z0 : (0 : Int32).toNatClampNeg = 0 := rfl
  unfold va_cpy
  rw [z0, if_pos (by omega)]
  congr 1
  omega

set_option maxHeartbeats 4000000 in
set_option maxRecDepth 100000 in
theorem ct_X2_keepDraft (l : Launch) (D : va_G) (cI cY cJ cQ : ClassId) (sz : Nat) (ad : Nat → Nat) (ln lfa dl dr bs be tk nb : Int32) (dw dd dp xw xd xp : Nat → Int32)  (h1 : 0 ≤ dr.toInt) (h2 : dr.toInt ≤ 12)  : Met l yX2_keepDraft wsX2_keepDraft ({ frames := 1, cells := 0, slots := 0, locals := 40 }) (cPre D (ty4 cI cY cJ cQ) [(oC2 ad ln lfa dl dr bs be tk nb), (aI cI (ad 48) 12 dw), (aI cI (ad 49) 12 dd), (aI cI (ad 50) 12 dp), (aI cI (ad 51) 12 xw), (aI cI (ad 52) 12 xd), (aI cI (ad 53) 12 xp)] sz [.ref (ad 6)]) (va_Qv (fun (u : Int32 × (Nat → Int32) × (Nat → Int32) × (Nat → Int32)) => u.1 = dr ∧ ∀ j : Nat, (j : Int) < dr.toInt → u.2.1 j = xw j ∧ u.2.2.1 j = xd j ∧ u.2.2.2 j = xp j) (cB D (ty4 cI cY cJ cQ) (fun (u : Int32 × (Nat → Int32) × (Nat → Int32) × (Nat → Int32)) => [(oC2 ad ln lfa u.1 dr bs be tk nb), (aI cI (ad 48) 12 u.2.1), (aI cI (ad 49) 12 u.2.2.1), (aI cI (ad 50) 12 u.2.2.2), (aI cI (ad 51) 12 xw), (aI cI (ad 52) 12 xd), (aI cI (ad 53) 12 xp)]) (va_A [(oC2 ad ln lfa dl dr bs be tk nb), (aI cI (ad 48) 12 dw), (aI cI (ad 49) 12 dd), (aI cI (ad 50) 12 dp), (aI cI (ad 51) 12 xw), (aI cI (ad 52) 12 xd), (aI cI (ad 53) 12 xp)] sz)) (va_A [(oC2 ad ln lfa dl dr bs be tk nb), (aI cI (ad 48) 12 dw), (aI cI (ad 49) 12 dd), (aI cI (ad 50) 12 dp), (aI cI (ad 51) 12 xw), (aI cI (ad 52) 12 xd), (aI cI (ad 53) 12 xp)] sz)) 0 0 (va_A [(oC2 ad ln lfa dl dr bs be tk nb), (aI cI (ad 48) 12 dw), (aI cI (ad 49) 12 dd), (aI cI (ad 50) 12 dp), (aI cI (ad 51) 12 xw), (aI cI (ad 52) 12 xd), (aI cI (ad 53) 12 xp)] sz) := by
  refine Met.ofW (cc := cX2_keepDraft) (maxL := 1) (ret := none) (by decide) rfl ?_
  intro p e s m args below meth c s₁ B hml hv
  obtain ⟨rfl, hsz, hP, hK, hD0, hN⟩ := hv
  have hx := B.exec
  have hb := B.bytes
  have hr := B.returns
  have hts := atoms_spec (ws := wsX2_keepDraft) B.pre
  have hown : s.vm.findClass RX2 = some m.cls := findClass_of_methodNamed B.named
  have hlocks := B.notSynchronized
  subst hsz
  have hD := hD0.self (sz := s.heap.size)
  generalize hAe : va_A [(oC2 ad ln lfa dl dr bs be tk nb), (aI cI (ad 48) 12 dw), (aI cI (ad 49) 12 dd), (aI cI (ad 50) 12 dp), (aI cI (ad 51) 12 xw), (aI cI (ad 52) 12 xd), (aI cI (ad 53) 12 xp)] s.heap.size = A at hD ⊢
  have hA : ∀ q : Nat, s.heap.size ≤ q → A q := fun q h => by rw [← hAe]; exact Or.inr h
  have hS : va_S A s.heap s.heap [] := va_S.rf
  have hP : va_P D vwCl [(oC2 ad ln lfa dl dr bs be tk nb), (aI cI (ad 48) 12 dw), (aI cI (ad 49) 12 dd), (aI cI (ad 50) 12 dp), (aI cI (ad 51) 12 xw), (aI cI (ad 52) 12 xd), (aI cI (ad 53) 12 xp)] s.heap := hP
  have hl := lv_entry ([.ref (ad 6)]) (n := 1) (Nat.le_of_ble_eq_true rfl)
  rw [lg_entry_eq]
  generalize (lg_sl ([.ref (ad 6)]) ++ List.replicate (1 - (lg_sl ([.ref (ad 6)])).length) Slot.unset).toArray = ls at hl ⊢
  have hl : lv_has ls 1 [(0, .ref (ad 6))] := hl
  have k0 : (0 : Int32).toInt = 0 := by decide
  refine lv_aload_n hx hb dX2_keepDraft_0 rfl (lv_at hl 0 rfl) ?_
  refine va_get (D := D) (ci := 2) (v := .ref (ad 51)) (C := RX2) (T := TX2) (N := 15) hx hb hts inX2_keepDraft_X2 hown hK hP 0 rfl rfl 7 (by decide) (hts (Cond.fieldLink RX2 25 "PortRooms$Duties" "draftWhat" "[I") (wm_t (wm_l (wm_i 0 rfl)))) (fun _ h9 => h9) rfl dX2_keepDraft_1 ?_
  refine lv_iconst (v := 0) hx hb dX2_keepDraft_4 (by decide) ?_
  refine lv_aload_n hx hb dX2_keepDraft_5 rfl (lv_at hl 0 rfl) ?_
  refine va_get (D := D) (ci := 2) (v := .ref (ad 48)) (C := RX2) (T := TX2) (N := 15) hx hb hts inX2_keepDraft_X2 hown hK hP 0 rfl rfl 3 (by decide) (hts (Cond.fieldLink RX2 15 "PortRooms$Duties" "what" "[I") (wm_t (wm_l (wm_i 1 rfl)))) (fun _ h9 => h9) rfl dX2_keepDraft_6 ?_
  refine lv_iconst (v := 0) hx hb dX2_keepDraft_9 (by decide) ?_
  refine lv_aload_n hx hb dX2_keepDraft_10 rfl (lv_at hl 0 rfl) ?_
  refine va_get (D := D) (ci := 2) (v := .int dr) (C := RX2) (T := TX2) (N := 15) hx hb hts inX2_keepDraft_X2 hown hK hP 0 rfl rfl 10 (by decide) (hts (Cond.fieldLink RX2 41 "PortRooms$Duties" "drafted" "I") (wm_t (wm_l (wm_i 2 rfl)))) (fun _ h9 => h9) rfl dX2_keepDraft_11 ?_
  refine va_copyi hx hb (hml.trans hl.1.symm) hown (hts (Cond.methodLink RX2 70 arraycopyName) (wm_t (wm_l (wm_i 3 rfl)))) (hts (Cond.native arraycopyName) (wm_t (wm_l (wm_i 4 rfl)))) (hts (Cond.static arraycopyName) (wm_t (wm_l (wm_i 5 rfl)))) (hts (Cond.initialized "java/lang/System") (wm_t (wm_l (wm_i 6 rfl)))) hK hP hD hS 4 1 0 0 rfl rfl rfl rfl rfl (by decide) (by decide) (i_nn (by omega)) (by have := i_cl (x := (0 : Int32)) (by omega); have := i_cl (x := dr) (by omega); omega) (by have := i_cl (x := (0 : Int32)) (by omega); have := i_cl (x := dr) (by omega); omega) (fun _ _ => rfl) (Nat.le_of_ble_eq_true rfl) (Nat.le_of_ble_eq_true rfl) dX2_keepDraft_14 (fun H locs => ?_)
  clear hP hD hS
  intro hP hD hS
  replace hP : va_P D vwCl [(oC2 ad ln lfa dl dr bs be tk nb), (aI cI (ad 48) 12 (va_cpy xw dw ((0 : Int32).toNatClampNeg) ((0 : Int32).toNatClampNeg) dr.toNatClampNeg)), (aI cI (ad 49) 12 dd), (aI cI (ad 50) 12 dp), (aI cI (ad 51) 12 xw), (aI cI (ad 52) 12 xd), (aI cI (ad 53) 12 xp)] H := hP
  replace hD : va_D A [(oC2 ad ln lfa dl dr bs be tk nb), (aI cI (ad 48) 12 (va_cpy xw dw ((0 : Int32).toNatClampNeg) ((0 : Int32).toNatClampNeg) dr.toNatClampNeg)), (aI cI (ad 49) 12 dd), (aI cI (ad 50) 12 dp), (aI cI (ad 51) 12 xw), (aI cI (ad 52) 12 xd), (aI cI (ad 53) 12 xp)] := hD
  refine lv_aload_n hx hb dX2_keepDraft_17 rfl (lv_at hl 0 rfl) ?_
  refine va_get (D := D) (ci := 2) (v := .ref (ad 52)) (C := RX2) (T := TX2) (N := 15) hx hb hts inX2_keepDraft_X2 hown hK hP 0 rfl rfl 8 (by decide) (hts (Cond.fieldLink RX2 28 "PortRooms$Duties" "draftDays" "[I") (wm_t (wm_l (wm_i 7 rfl)))) (fun _ h9 => h9) rfl dX2_keepDraft_18 ?_
  refine lv_iconst (v := 0) hx hb dX2_keepDraft_21 (by decide) ?_
  refine lv_aload_n hx hb dX2_keepDraft_22 rfl (lv_at hl 0 rfl) ?_
  refine va_get (D := D) (ci := 2) (v := .ref (ad 49)) (C := RX2) (T := TX2) (N := 15) hx hb hts inX2_keepDraft_X2 hown hK hP 0 rfl rfl 4 (by decide) (hts (Cond.fieldLink RX2 19 "PortRooms$Duties" "days" "[I") (wm_t (wm_l (wm_i 8 rfl)))) (fun _ h9 => h9) rfl dX2_keepDraft_23 ?_
  refine lv_iconst (v := 0) hx hb dX2_keepDraft_26 (by decide) ?_
  refine lv_aload_n hx hb dX2_keepDraft_27 rfl (lv_at hl 0 rfl) ?_
  refine va_get (D := D) (ci := 2) (v := .int dr) (C := RX2) (T := TX2) (N := 15) hx hb hts inX2_keepDraft_X2 hown hK hP 0 rfl rfl 10 (by decide) (hts (Cond.fieldLink RX2 41 "PortRooms$Duties" "drafted" "I") (wm_t (wm_l (wm_i 2 rfl)))) (fun _ h9 => h9) rfl dX2_keepDraft_28 ?_
  refine va_copyi hx hb (hml.trans hl.1.symm) hown (hts (Cond.methodLink RX2 70 arraycopyName) (wm_t (wm_l (wm_i 3 rfl)))) (hts (Cond.native arraycopyName) (wm_t (wm_l (wm_i 4 rfl)))) (hts (Cond.static arraycopyName) (wm_t (wm_l (wm_i 5 rfl)))) (hts (Cond.initialized "java/lang/System") (wm_t (wm_l (wm_i 6 rfl)))) hK hP hD hS 5 2 0 0 rfl rfl rfl rfl rfl (by decide) (by decide) (i_nn (by omega)) (by have := i_cl (x := (0 : Int32)) (by omega); have := i_cl (x := dr) (by omega); omega) (by have := i_cl (x := (0 : Int32)) (by omega); have := i_cl (x := dr) (by omega); omega) (fun _ _ => rfl) (Nat.le_of_ble_eq_true rfl) (Nat.le_of_ble_eq_true rfl) dX2_keepDraft_31 (fun H locs => ?_)
  clear hP hD hS
  intro hP hD hS
  replace hP : va_P D vwCl [(oC2 ad ln lfa dl dr bs be tk nb), (aI cI (ad 48) 12 (va_cpy xw dw ((0 : Int32).toNatClampNeg) ((0 : Int32).toNatClampNeg) dr.toNatClampNeg)), (aI cI (ad 49) 12 (va_cpy xd dd ((0 : Int32).toNatClampNeg) ((0 : Int32).toNatClampNeg) dr.toNatClampNeg)), (aI cI (ad 50) 12 dp), (aI cI (ad 51) 12 xw), (aI cI (ad 52) 12 xd), (aI cI (ad 53) 12 xp)] H := hP
  replace hD : va_D A [(oC2 ad ln lfa dl dr bs be tk nb), (aI cI (ad 48) 12 (va_cpy xw dw ((0 : Int32).toNatClampNeg) ((0 : Int32).toNatClampNeg) dr.toNatClampNeg)), (aI cI (ad 49) 12 (va_cpy xd dd ((0 : Int32).toNatClampNeg) ((0 : Int32).toNatClampNeg) dr.toNatClampNeg)), (aI cI (ad 50) 12 dp), (aI cI (ad 51) 12 xw), (aI cI (ad 52) 12 xd), (aI cI (ad 53) 12 xp)] := hD
  refine lv_aload_n hx hb dX2_keepDraft_34 rfl (lv_at hl 0 rfl) ?_
  refine va_get (D := D) (ci := 2) (v := .ref (ad 53)) (C := RX2) (T := TX2) (N := 15) hx hb hts inX2_keepDraft_X2 hown hK hP 0 rfl rfl 9 (by decide) (hts (Cond.fieldLink RX2 31 "PortRooms$Duties" "draftPart" "[I") (wm_t (wm_l (wm_i 9 rfl)))) (fun _ h9 => h9) rfl dX2_keepDraft_35 ?_
  refine lv_iconst (v := 0) hx hb dX2_keepDraft_38 (by decide) ?_
  refine lv_aload_n hx hb dX2_keepDraft_39 rfl (lv_at hl 0 rfl) ?_
  refine va_get (D := D) (ci := 2) (v := .ref (ad 50)) (C := RX2) (T := TX2) (N := 15) hx hb hts inX2_keepDraft_X2 hown hK hP 0 rfl rfl 5 (by decide) (hts (Cond.fieldLink RX2 22 "PortRooms$Duties" "part" "[I") (wm_t (wm_l (wm_i 10 rfl)))) (fun _ h9 => h9) rfl dX2_keepDraft_40 ?_
  refine lv_iconst (v := 0) hx hb dX2_keepDraft_43 (by decide) ?_
  refine lv_aload_n hx hb dX2_keepDraft_44 rfl (lv_at hl 0 rfl) ?_
  refine va_get (D := D) (ci := 2) (v := .int dr) (C := RX2) (T := TX2) (N := 15) hx hb hts inX2_keepDraft_X2 hown hK hP 0 rfl rfl 10 (by decide) (hts (Cond.fieldLink RX2 41 "PortRooms$Duties" "drafted" "I") (wm_t (wm_l (wm_i 2 rfl)))) (fun _ h9 => h9) rfl dX2_keepDraft_45 ?_
  refine va_copyi hx hb (hml.trans hl.1.symm) hown (hts (Cond.methodLink RX2 70 arraycopyName) (wm_t (wm_l (wm_i 3 rfl)))) (hts (Cond.native arraycopyName) (wm_t (wm_l (wm_i 4 rfl)))) (hts (Cond.static arraycopyName) (wm_t (wm_l (wm_i 5 rfl)))) (hts (Cond.initialized "java/lang/System") (wm_t (wm_l (wm_i 6 rfl)))) hK hP hD hS 6 3 0 0 rfl rfl rfl rfl rfl (by decide) (by decide) (i_nn (by omega)) (by have := i_cl (x := (0 : Int32)) (by omega); have := i_cl (x := dr) (by omega); omega) (by have := i_cl (x := (0 : Int32)) (by omega); have := i_cl (x := dr) (by omega); omega) (fun _ _ => rfl) (Nat.le_of_ble_eq_true rfl) (Nat.le_of_ble_eq_true rfl) dX2_keepDraft_48 (fun H locs => ?_)
  clear hP hD hS
  intro hP hD hS
  replace hP : va_P D vwCl [(oC2 ad ln lfa dl dr bs be tk nb), (aI cI (ad 48) 12 (va_cpy xw dw ((0 : Int32).toNatClampNeg) ((0 : Int32).toNatClampNeg) dr.toNatClampNeg)), (aI cI (ad 49) 12 (va_cpy xd dd ((0 : Int32).toNatClampNeg) ((0 : Int32).toNatClampNeg) dr.toNatClampNeg)), (aI cI (ad 50) 12 (va_cpy xp dp ((0 : Int32).toNatClampNeg) ((0 : Int32).toNatClampNeg) dr.toNatClampNeg)), (aI cI (ad 51) 12 xw), (aI cI (ad 52) 12 xd), (aI cI (ad 53) 12 xp)] H := hP
  replace hD : va_D A [(oC2 ad ln lfa dl dr bs be tk nb), (aI cI (ad 48) 12 (va_cpy xw dw ((0 : Int32).toNatClampNeg) ((0 : Int32).toNatClampNeg) dr.toNatClampNeg)), (aI cI (ad 49) 12 (va_cpy xd dd ((0 : Int32).toNatClampNeg) ((0 : Int32).toNatClampNeg) dr.toNatClampNeg)), (aI cI (ad 50) 12 (va_cpy xp dp ((0 : Int32).toNatClampNeg) ((0 : Int32).toNatClampNeg) dr.toNatClampNeg)), (aI cI (ad 51) 12 xw), (aI cI (ad 52) 12 xd), (aI cI (ad 53) 12 xp)] := hD
  refine lv_aload_n hx hb dX2_keepDraft_51 rfl (lv_at hl 0 rfl) ?_
  refine lv_aload_n hx hb dX2_keepDraft_52 rfl (lv_at hl 0 rfl) ?_
  refine va_get (D := D) (ci := 2) (v := .int dr) (C := RX2) (T := TX2) (N := 15) hx hb hts inX2_keepDraft_X2 hown hK hP 0 rfl rfl 10 (by decide) (hts (Cond.fieldLink RX2 41 "PortRooms$Duties" "drafted" "I") (wm_t (wm_l (wm_i 2 rfl)))) (fun _ h9 => h9) rfl dX2_keepDraft_53 ?_
  refine va_put (D := D) (ci := 2) (v := .int dr) (ty := .int) (C := RX2) (T := TX2) (N := 15) hx hb hts inX2_keepDraft_X2 tyX2 tyX2_ok nmX2 hown hK hP hD hS 0 rfl rfl 6 (by decide) (hts (Cond.fieldLink RX2 67 "PortRooms$Duties" "lines" "I") (wm_t (wm_l (wm_i 11 rfl)))) (fun _ h9 => h9) rfl (tyX2_ok 6 (by decide)) rfl rfl (Nat.le_of_ble_eq_true rfl) dX2_keepDraft_56 (fun H locs => ?_)
  clear hP hD hS
  intro hP hD hS
  replace hP : va_P D vwCl [(oC2 ad ln lfa dr dr bs be tk nb), (aI cI (ad 48) 12 (va_cpy xw dw ((0 : Int32).toNatClampNeg) ((0 : Int32).toNatClampNeg) dr.toNatClampNeg)), (aI cI (ad 49) 12 (va_cpy xd dd ((0 : Int32).toNatClampNeg) ((0 : Int32).toNatClampNeg) dr.toNatClampNeg)), (aI cI (ad 50) 12 (va_cpy xp dp ((0 : Int32).toNatClampNeg) ((0 : Int32).toNatClampNeg) dr.toNatClampNeg)), (aI cI (ad 51) 12 xw), (aI cI (ad 52) 12 xd), (aI cI (ad 53) 12 xp)] H := hP
  replace hD : va_D A [(oC2 ad ln lfa dr dr bs be tk nb), (aI cI (ad 48) 12 (va_cpy xw dw ((0 : Int32).toNatClampNeg) ((0 : Int32).toNatClampNeg) dr.toNatClampNeg)), (aI cI (ad 49) 12 (va_cpy xd dd ((0 : Int32).toNatClampNeg) ((0 : Int32).toNatClampNeg) dr.toNatClampNeg)), (aI cI (ad 50) 12 (va_cpy xp dp ((0 : Int32).toNatClampNeg) ((0 : Int32).toNatClampNeg) dr.toNatClampNeg)), (aI cI (ad 51) 12 xw), (aI cI (ad 52) 12 xd), (aI cI (ad 53) 12 xp)] := hD
  have cd9 := i_cl (x := dr) (by omega)
  have hP9 := hP
  have hD9 := hD
  exact W.vret hx hb hr (fun t ht hW => ⟨⟨(dr, va_cpy xw dw ((0 : Int32).toNatClampNeg) ((0 : Int32).toNatClampNeg) dr.toNatClampNeg, va_cpy xd dd ((0 : Int32).toNatClampNeg) ((0 : Int32).toNatClampNeg) dr.toNatClampNeg, va_cpy xp dp ((0 : Int32).toNatClampNeg) ((0 : Int32).toNatClampNeg) dr.toNatClampNeg), rfl, (by show dr = dr ∧ ∀ j : Nat, (j : Int) < dr.toInt → (va_cpy xw dw ((0 : Int32).toNatClampNeg) ((0 : Int32).toNatClampNeg) dr.toNatClampNeg) j = xw j ∧ (va_cpy xd dd ((0 : Int32).toNatClampNeg) ((0 : Int32).toNatClampNeg) dr.toNatClampNeg) j = xd j ∧ (va_cpy xp dp ((0 : Int32).toNatClampNeg) ((0 : Int32).toNatClampNeg) dr.toNatClampNeg) j = xp j; exact ⟨rfl, fun j hj => ⟨cpy_lo (by omega), cpy_lo (by omega), cpy_lo (by omega)⟩⟩), by rw [ht]; exact hP9, va_K.moved hW.alike hK, hD9⟩, hS.F ht⟩) hS.2.2 dX2_keepDraft_59
