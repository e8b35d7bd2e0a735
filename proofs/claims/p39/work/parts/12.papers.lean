section
theorem Gd_X70 : gdA wsX70 := gd_all (by decide +kernel)
theorem cdX7_tell : yX7_tell.cls ≠ "java/lang/invoke/MethodHandle" ∧ yX7_tell.cls ≠ "java/lang/invoke/VarHandle" ∧ (parseMethodDescriptor yX7_tell.desc).map (fun d => d.parameters.length) = some 5 := by decide +kernel
theorem cdX7_isAhead : yX7_isAhead.cls ≠ "java/lang/invoke/MethodHandle" ∧ yX7_isAhead.cls ≠ "java/lang/invoke/VarHandle" ∧ (parseMethodDescriptor yX7_isAhead.desc).map (fun d => d.parameters.length) = some 2 := by decide +kernel
theorem cdX7_isKnown : yX7_isKnown.cls ≠ "java/lang/invoke/MethodHandle" ∧ yX7_isKnown.cls ≠ "java/lang/invoke/VarHandle" ∧ (parseMethodDescriptor yX7_isKnown.desc).map (fun d => d.parameters.length) = some 3 := by decide +kernel
theorem cdX7_ownerOf : yX7_ownerOf.cls ≠ "java/lang/invoke/MethodHandle" ∧ yX7_ownerOf.cls ≠ "java/lang/invoke/VarHandle" ∧ (parseMethodDescriptor yX7_ownerOf.desc).map (fun d => d.parameters.length) = some 4 := by decide +kernel
theorem cdX7_notGood : yX7_notGood.cls ≠ "java/lang/invoke/MethodHandle" ∧ yX7_notGood.cls ≠ "java/lang/invoke/VarHandle" ∧ (parseMethodDescriptor yX7_notGood.desc).map (fun d => d.parameters.length) = some 3 := by decide +kernel
theorem Gd_X7_isAhead : gdA wsX7_isAhead := gd_cons (by decide +kernel) (gd_app (gd_all (ws := wsX7_isAhead_o1) (by decide +kernel)) Gd_X70)
theorem inX7_isAhead_X7 : ∀ w ∈ u_ws RX7 TX7 7, w ∈ wsX7_isAhead := fun _ h => (List.mem_cons_of_mem _ (List.mem_append_right _ h))
theorem Gd_X7_tell : gdA wsX7_tell := gd_cons (by decide +kernel) (gd_app (gd_all (ws := wsX7_tell_o1) (by decide +kernel)) (gd_app Gd_X70 Gd_X7_isAhead))
theorem inX7_tell_X7 : ∀ w ∈ u_ws RX7 TX7 7, w ∈ wsX7_tell := fun _ h => (List.mem_cons_of_mem _ (List.mem_append_right _ (List.mem_append_left _ h)))
theorem Gd_X7_isKnown : gdA wsX7_isKnown := gd_cons (by decide +kernel) (gd_app (gd_all (ws := wsX7_isKnown_o1) (by decide +kernel)) Gd_X70)
theorem inX7_isKnown_X7 : ∀ w ∈ u_ws RX7 TX7 7, w ∈ wsX7_isKnown := fun _ h => (List.mem_cons_of_mem _ (List.mem_append_right _ h))
theorem Gd_X7_ownerOf : gdA wsX7_ownerOf := gd_cons (by decide +kernel) (gd_app (gd_all (ws := wsX7_ownerOf_o1) (by decide +kernel)) (gd_app Gd_X70 Gd_X7_isKnown))
theorem inX7_ownerOf_X7 : ∀ w ∈ u_ws RX7 TX7 7, w ∈ wsX7_ownerOf := fun _ h => (List.mem_cons_of_mem _ (List.mem_append_right _ (List.mem_append_left _ h)))
theorem Gd_X7_notGood : gdA wsX7_notGood := gd_cons (by decide +kernel) (gd_app (gd_all (ws := wsX7_notGood_o1) (by decide +kernel)) (gd_app Gd_X70 Gd_X7_isKnown))
theorem inX7_notGood_X7 : ∀ w ∈ u_ws RX7 TX7 7, w ∈ wsX7_notGood := fun _ h => (List.mem_cons_of_mem _ (List.mem_append_right _ (List.mem_append_left _ h)))
theorem inX10_paper_X7 : ∀ w ∈ u_ws RX7 TX7 7, w ∈ wsX10_paper := fun _ h => (List.mem_cons_of_mem _ (List.mem_append_right _ (List.mem_append_left _ (List.mem_append_left _ (List.mem_append_right _ h)))))
theorem inX10_paper_X10 : ∀ w ∈ u_ws RX10 TX10 14, w ∈ wsX10_paper := fun _ h => (List.mem_cons_of_mem _ (List.mem_append_right _ (List.mem_append_left _ (List.mem_append_left _ (List.mem_append_left _ h)))))
theorem inX10_owner_X10 : ∀ w ∈ u_ws RX10 TX10 14, w ∈ wsX10_owner := fun _ h => (List.mem_cons_of_mem _ (List.mem_append_right _ (List.mem_append_left _ (List.mem_append_left _ (List.mem_append_left _ h)))))
theorem inX10_owner_X1 : ∀ w ∈ u_ws RX1 TX1 6, w ∈ wsX10_owner := fun _ h => (List.mem_cons_of_mem _ (List.mem_append_right _ (List.mem_append_left _ (List.mem_append_left _ (List.mem_append_right _ h)))))
theorem inX10_quarrels_X1 : ∀ w ∈ u_ws RX1 TX1 6, w ∈ wsX10_quarrels := fun _ h => (List.mem_cons_of_mem _ (List.mem_append_right _ (List.mem_append_left _ (List.mem_append_left _ (List.mem_append_right _ h)))))
theorem inX10_quarrels_X10 : ∀ w ∈ u_ws RX10 TX10 14, w ∈ wsX10_quarrels := fun _ h => (List.mem_cons_of_mem _ (List.mem_append_right _ (List.mem_append_left _ (List.mem_append_left _ (List.mem_append_left _ h)))))
theorem ggX7_tell_X7_isAhead : GoodIn wsX7_tell wsX7_isAhead := goodIn_s (fun _ h => wm_t (wm_r (wm_r h))) Gd_X7_isAhead
theorem gX7_tell_X7_isAhead : GoodIn wsX7_tell (wsV RX7 34 RX7 yX7_isAhead wsX7_isAhead) := goodIn_V (own := RX7) (idx := 34) (C := RX7) (y := yX7_isAhead) (wm_t (wm_l (wm_i 7 rfl))) (wm_t (wm_l (wm_i 8 rfl))) (wm_t (wm_l (wm_i 9 rfl))) (wm_t (wm_l (wm_i 10 rfl))) ggX7_tell_X7_isAhead
theorem dX7_tell_all0 : decode cX7_tell 0 = .ok (.aload_n 0, 1) ∧ decode cX7_tell 1 = .ok (.getfield 9, 3) ∧ decode cX7_tell 4 = .ok (.aload_n 0, 1) ∧ decode cX7_tell 5 = .ok (.getfield 30, 3) ∧ decode cX7_tell 8 = .ok (.iload_n 1, 1) ∧ decode cX7_tell 9 = .ok (.iastore, 1) ∧ decode cX7_tell 10 = .ok (.aload_n 0, 1) ∧ decode cX7_tell 11 = .ok (.getfield 15, 3) ∧ decode cX7_tell 14 = .ok (.aload_n 0, 1) ∧ decode cX7_tell 15 = .ok (.getfield 30, 3) ∧ decode cX7_tell 18 = .ok (.iload_n 2, 1) ∧ decode cX7_tell 19 = .ok (.iastore, 1) := by decide +kernel
theorem dX7_tell_0 : decode cX7_tell 0 = .ok (.aload_n 0, 1) := dX7_tell_all0.1
theorem dX7_tell_1 : decode cX7_tell 1 = .ok (.getfield 9, 3) := dX7_tell_all0.2.1
theorem dX7_tell_4 : decode cX7_tell 4 = .ok (.aload_n 0, 1) := dX7_tell_all0.2.2.1
theorem dX7_tell_5 : decode cX7_tell 5 = .ok (.getfield 30, 3) := dX7_tell_all0.2.2.2.1
theorem dX7_tell_8 : decode cX7_tell 8 = .ok (.iload_n 1, 1) := dX7_tell_all0.2.2.2.2.1
theorem dX7_tell_9 : decode cX7_tell 9 = .ok (.iastore, 1) := dX7_tell_all0.2.2.2.2.2.1
theorem dX7_tell_10 : decode cX7_tell 10 = .ok (.aload_n 0, 1) := dX7_tell_all0.2.2.2.2.2.2.1
theorem dX7_tell_11 : decode cX7_tell 11 = .ok (.getfield 15, 3) := dX7_tell_all0.2.2.2.2.2.2.2.1
theorem dX7_tell_14 : decode cX7_tell 14 = .ok (.aload_n 0, 1) := dX7_tell_all0.2.2.2.2.2.2.2.2.1
theorem dX7_tell_15 : decode cX7_tell 15 = .ok (.getfield 30, 3) := dX7_tell_all0.2.2.2.2.2.2.2.2.2.1
theorem dX7_tell_18 : decode cX7_tell 18 = .ok (.iload_n 2, 1) := dX7_tell_all0.2.2.2.2.2.2.2.2.2.2.1
theorem dX7_tell_19 : decode cX7_tell 19 = .ok (.iastore, 1) := dX7_tell_all0.2.2.2.2.2.2.2.2.2.2.2
theorem dX7_tell_all1 : decode cX7_tell 20 = .ok (.aload_n 0, 1) ∧ decode cX7_tell 21 = .ok (.getfield 18, 3) ∧ decode cX7_tell 24 = .ok (.aload_n 0, 1) ∧ decode cX7_tell 25 = .ok (.getfield 30, 3) ∧ decode cX7_tell 28 = .ok (.iload_n 3, 1) ∧ decode cX7_tell 29 = .ok (.iastore, 1) ∧ decode cX7_tell 30 = .ok (.aload_n 0, 1) ∧ decode cX7_tell 31 = .ok (.getfield 21, 3) ∧ decode cX7_tell 34 = .ok (.aload_n 0, 1) ∧ decode cX7_tell 35 = .ok (.getfield 30, 3) ∧ decode cX7_tell 38 = .ok (.iload 4, 2) ∧ decode cX7_tell 40 = .ok (.iastore, 1) := by decide +kernel
theorem dX7_tell_20 : decode cX7_tell 20 = .ok (.aload_n 0, 1) := dX7_tell_all1.1
theorem dX7_tell_21 : decode cX7_tell 21 = .ok (.getfield 18, 3) := dX7_tell_all1.2.1
theorem dX7_tell_24 : decode cX7_tell 24 = .ok (.aload_n 0, 1) := dX7_tell_all1.2.2.1
theorem dX7_tell_25 : decode cX7_tell 25 = .ok (.getfield 30, 3) := dX7_tell_all1.2.2.2.1
theorem dX7_tell_28 : decode cX7_tell 28 = .ok (.iload_n 3, 1) := dX7_tell_all1.2.2.2.2.1
theorem dX7_tell_29 : decode cX7_tell 29 = .ok (.iastore, 1) := dX7_tell_all1.2.2.2.2.2.1
theorem dX7_tell_30 : decode cX7_tell 30 = .ok (.aload_n 0, 1) := dX7_tell_all1.2.2.2.2.2.2.1
theorem dX7_tell_31 : decode cX7_tell 31 = .ok (.getfield 21, 3) := dX7_tell_all1.2.2.2.2.2.2.2.1
theorem dX7_tell_34 : decode cX7_tell 34 = .ok (.aload_n 0, 1) := dX7_tell_all1.2.2.2.2.2.2.2.2.1
theorem dX7_tell_35 : decode cX7_tell 35 = .ok (.getfield 30, 3) := dX7_tell_all1.2.2.2.2.2.2.2.2.2.1
theorem dX7_tell_38 : decode cX7_tell 38 = .ok (.iload 4, 2) := dX7_tell_all1.2.2.2.2.2.2.2.2.2.2.1
theorem dX7_tell_40 : decode cX7_tell 40 = .ok (.iastore, 1) := dX7_tell_all1.2.2.2.2.2.2.2.2.2.2.2
theorem dX7_tell_all2 : decode cX7_tell 41 = .ok (.aload_n 0, 1) ∧ decode cX7_tell 42 = .ok (.getfield 24, 3) ∧ decode cX7_tell 45 = .ok (.aload_n 0, 1) ∧ decode cX7_tell 46 = .ok (.getfield 30, 3) ∧ decode cX7_tell 49 = .ok (.iload 5, 2) ∧ decode cX7_tell 51 = .ok (.iastore, 1) ∧ decode cX7_tell 52 = .ok (.aload_n 0, 1) ∧ decode cX7_tell 53 = .ok (.getfield 30, 3) ∧ decode cX7_tell 56 = .ok (.istore 6, 2) ∧ decode cX7_tell 58 = .ok (.iload 6, 2) ∧ decode cX7_tell 60 = .ok (.ifCond .le 45, 3) ∧ decode cX7_tell 63 = .ok (.aload_n 0, 1) := by decide +kernel
theorem dX7_tell_41 : decode cX7_tell 41 = .ok (.aload_n 0, 1) := dX7_tell_all2.1
theorem dX7_tell_42 : decode cX7_tell 42 = .ok (.getfield 24, 3) := dX7_tell_all2.2.1
theorem dX7_tell_45 : decode cX7_tell 45 = .ok (.aload_n 0, 1) := dX7_tell_all2.2.2.1
theorem dX7_tell_46 : decode cX7_tell 46 = .ok (.getfield 30, 3) := dX7_tell_all2.2.2.2.1
theorem dX7_tell_49 : decode cX7_tell 49 = .ok (.iload 5, 2) := dX7_tell_all2.2.2.2.2.1
theorem dX7_tell_51 : decode cX7_tell 51 = .ok (.iastore, 1) := dX7_tell_all2.2.2.2.2.2.1
theorem dX7_tell_52 : decode cX7_tell 52 = .ok (.aload_n 0, 1) := dX7_tell_all2.2.2.2.2.2.2.1
theorem dX7_tell_53 : decode cX7_tell 53 = .ok (.getfield 30, 3) := dX7_tell_all2.2.2.2.2.2.2.2.1
theorem dX7_tell_56 : decode cX7_tell 56 = .ok (.istore 6, 2) := dX7_tell_all2.2.2.2.2.2.2.2.2.1
theorem dX7_tell_58 : decode cX7_tell 58 = .ok (.iload 6, 2) := dX7_tell_all2.2.2.2.2.2.2.2.2.2.1
theorem dX7_tell_60 : decode cX7_tell 60 = .ok (.ifCond .le 45, 3) := dX7_tell_all2.2.2.2.2.2.2.2.2.2.2.1
theorem dX7_tell_63 : decode cX7_tell 63 = .ok (.aload_n 0, 1) := dX7_tell_all2.2.2.2.2.2.2.2.2.2.2.2
theorem dX7_tell_all3 : decode cX7_tell 64 = .ok (.aload_n 0, 1) ∧ decode cX7_tell 65 = .ok (.getfield 30, 3) ∧ decode cX7_tell 68 = .ok (.aload_n 0, 1) ∧ decode cX7_tell 69 = .ok (.getfield 27, 3) ∧ decode cX7_tell 72 = .ok (.iload 6, 2) ∧ decode cX7_tell 74 = .ok (.iconst 1, 1) ∧ decode cX7_tell 75 = .ok (.isub, 1) ∧ decode cX7_tell 76 = .ok (.iaload, 1) ∧ decode cX7_tell 77 = .ok (.invokevirtual 34, 3) ∧ decode cX7_tell 80 = .ok (.ifCond .eq 25, 3) ∧ decode cX7_tell 83 = .ok (.aload_n 0, 1) ∧ decode cX7_tell 84 = .ok (.getfield 27, 3) := by decide +kernel
theorem dX7_tell_64 : decode cX7_tell 64 = .ok (.aload_n 0, 1) := dX7_tell_all3.1
theorem dX7_tell_65 : decode cX7_tell 65 = .ok (.getfield 30, 3) := dX7_tell_all3.2.1
theorem dX7_tell_68 : decode cX7_tell 68 = .ok (.aload_n 0, 1) := dX7_tell_all3.2.2.1
theorem dX7_tell_69 : decode cX7_tell 69 = .ok (.getfield 27, 3) := dX7_tell_all3.2.2.2.1
theorem dX7_tell_72 : decode cX7_tell 72 = .ok (.iload 6, 2) := dX7_tell_all3.2.2.2.2.1
theorem dX7_tell_74 : decode cX7_tell 74 = .ok (.iconst 1, 1) := dX7_tell_all3.2.2.2.2.2.1
theorem dX7_tell_75 : decode cX7_tell 75 = .ok (.isub, 1) := dX7_tell_all3.2.2.2.2.2.2.1
theorem dX7_tell_76 : decode cX7_tell 76 = .ok (.iaload, 1) := dX7_tell_all3.2.2.2.2.2.2.2.1
theorem dX7_tell_77 : decode cX7_tell 77 = .ok (.invokevirtual 34, 3) := dX7_tell_all3.2.2.2.2.2.2.2.2.1
theorem dX7_tell_80 : decode cX7_tell 80 = .ok (.ifCond .eq 25, 3) := dX7_tell_all3.2.2.2.2.2.2.2.2.2.1
theorem dX7_tell_83 : decode cX7_tell 83 = .ok (.aload_n 0, 1) := dX7_tell_all3.2.2.2.2.2.2.2.2.2.2.1
theorem dX7_tell_84 : decode cX7_tell 84 = .ok (.getfield 27, 3) := dX7_tell_all3.2.2.2.2.2.2.2.2.2.2.2
theorem dX7_tell_all4 : decode cX7_tell 87 = .ok (.iload 6, 2) ∧ decode cX7_tell 89 = .ok (.aload_n 0, 1) ∧ decode cX7_tell 90 = .ok (.getfield 27, 3) ∧ decode cX7_tell 93 = .ok (.iload 6, 2) ∧ decode cX7_tell 95 = .ok (.iconst 1, 1) ∧ decode cX7_tell 96 = .ok (.isub, 1) ∧ decode cX7_tell 97 = .ok (.iaload, 1) ∧ decode cX7_tell 98 = .ok (.iastore, 1) ∧ decode cX7_tell 99 = .ok (.iinc 6 (-1), 3) ∧ decode cX7_tell 102 = .ok (.goto (-44), 3) ∧ decode cX7_tell 105 = .ok (.aload_n 0, 1) ∧ decode cX7_tell 106 = .ok (.getfield 27, 3) := by decide +kernel
theorem dX7_tell_87 : decode cX7_tell 87 = .ok (.iload 6, 2) := dX7_tell_all4.1
theorem dX7_tell_89 : decode cX7_tell 89 = .ok (.aload_n 0, 1) := dX7_tell_all4.2.1
theorem dX7_tell_90 : decode cX7_tell 90 = .ok (.getfield 27, 3) := dX7_tell_all4.2.2.1
theorem dX7_tell_93 : decode cX7_tell 93 = .ok (.iload 6, 2) := dX7_tell_all4.2.2.2.1
theorem dX7_tell_95 : decode cX7_tell 95 = .ok (.iconst 1, 1) := dX7_tell_all4.2.2.2.2.1
theorem dX7_tell_96 : decode cX7_tell 96 = .ok (.isub, 1) := dX7_tell_all4.2.2.2.2.2.1
theorem dX7_tell_97 : decode cX7_tell 97 = .ok (.iaload, 1) := dX7_tell_all4.2.2.2.2.2.2.1
theorem dX7_tell_98 : decode cX7_tell 98 = .ok (.iastore, 1) := dX7_tell_all4.2.2.2.2.2.2.2.1
theorem dX7_tell_99 : decode cX7_tell 99 = .ok (.iinc 6 (-1), 3) := dX7_tell_all4.2.2.2.2.2.2.2.2.1
theorem dX7_tell_102 : decode cX7_tell 102 = .ok (.goto (-44), 3) := dX7_tell_all4.2.2.2.2.2.2.2.2.2.1
theorem dX7_tell_105 : decode cX7_tell 105 = .ok (.aload_n 0, 1) := dX7_tell_all4.2.2.2.2.2.2.2.2.2.2.1
theorem dX7_tell_106 : decode cX7_tell 106 = .ok (.getfield 27, 3) := dX7_tell_all4.2.2.2.2.2.2.2.2.2.2.2
theorem dX7_tell_all5 : decode cX7_tell 109 = .ok (.iload 6, 2) ∧ decode cX7_tell 111 = .ok (.aload_n 0, 1) ∧ decode cX7_tell 112 = .ok (.getfield 30, 3) ∧ decode cX7_tell 115 = .ok (.iastore, 1) ∧ decode cX7_tell 116 = .ok (.aload_n 0, 1) ∧ decode cX7_tell 117 = .ok (.dup, 1) ∧ decode cX7_tell 118 = .ok (.getfield 30, 3) ∧ decode cX7_tell 121 = .ok (.iconst 1, 1) ∧ decode cX7_tell 122 = .ok (.iadd, 1) ∧ decode cX7_tell 123 = .ok (.putfield 30, 3) ∧ decode cX7_tell 126 = .ok (.aload_n 0, 1) ∧ decode cX7_tell 127 = .ok (.getfield 30, 3) := by decide +kernel
theorem dX7_tell_109 : decode cX7_tell 109 = .ok (.iload 6, 2) := dX7_tell_all5.1
theorem dX7_tell_111 : decode cX7_tell 111 = .ok (.aload_n 0, 1) := dX7_tell_all5.2.1
theorem dX7_tell_112 : decode cX7_tell 112 = .ok (.getfield 30, 3) := dX7_tell_all5.2.2.1
theorem dX7_tell_115 : decode cX7_tell 115 = .ok (.iastore, 1) := dX7_tell_all5.2.2.2.1
theorem dX7_tell_116 : decode cX7_tell 116 = .ok (.aload_n 0, 1) := dX7_tell_all5.2.2.2.2.1
theorem dX7_tell_117 : decode cX7_tell 117 = .ok (.dup, 1) := dX7_tell_all5.2.2.2.2.2.1
theorem dX7_tell_118 : decode cX7_tell 118 = .ok (.getfield 30, 3) := dX7_tell_all5.2.2.2.2.2.2.1
theorem dX7_tell_121 : decode cX7_tell 121 = .ok (.iconst 1, 1) := dX7_tell_all5.2.2.2.2.2.2.2.1
theorem dX7_tell_122 : decode cX7_tell 122 = .ok (.iadd, 1) := dX7_tell_all5.2.2.2.2.2.2.2.2.1
theorem dX7_tell_123 : decode cX7_tell 123 = .ok (.putfield 30, 3) := dX7_tell_all5.2.2.2.2.2.2.2.2.2.1
theorem dX7_tell_126 : decode cX7_tell 126 = .ok (.aload_n 0, 1) := dX7_tell_all5.2.2.2.2.2.2.2.2.2.2.1
theorem dX7_tell_127 : decode cX7_tell 127 = .ok (.getfield 30, 3) := dX7_tell_all5.2.2.2.2.2.2.2.2.2.2.2
theorem dX7_tell_130 : decode cX7_tell 130 = .ok (.ireturn, 1) := by decide +kernel
theorem dX7_isAhead_all0 : decode cX7_isAhead 0 = .ok (.aload_n 0, 1) ∧ decode cX7_isAhead 1 = .ok (.getfield 21, 3) ∧ decode cX7_isAhead 4 = .ok (.iload_n 1, 1) ∧ decode cX7_isAhead 5 = .ok (.iaload, 1) ∧ decode cX7_isAhead 6 = .ok (.aload_n 0, 1) ∧ decode cX7_isAhead 7 = .ok (.getfield 21, 3) ∧ decode cX7_isAhead 10 = .ok (.iload_n 2, 1) ∧ decode cX7_isAhead 11 = .ok (.iaload, 1) ∧ decode cX7_isAhead 12 = .ok (.if_icmp .lt 33, 3) ∧ decode cX7_isAhead 15 = .ok (.aload_n 0, 1) ∧ decode cX7_isAhead 16 = .ok (.getfield 21, 3) ∧ decode cX7_isAhead 19 = .ok (.iload_n 1, 1) := by decide +kernel
theorem dX7_isAhead_0 : decode cX7_isAhead 0 = .ok (.aload_n 0, 1) := dX7_isAhead_all0.1
theorem dX7_isAhead_1 : decode cX7_isAhead 1 = .ok (.getfield 21, 3) := dX7_isAhead_all0.2.1
theorem dX7_isAhead_4 : decode cX7_isAhead 4 = .ok (.iload_n 1, 1) := dX7_isAhead_all0.2.2.1
theorem dX7_isAhead_5 : decode cX7_isAhead 5 = .ok (.iaload, 1) := dX7_isAhead_all0.2.2.2.1
theorem dX7_isAhead_6 : decode cX7_isAhead 6 = .ok (.aload_n 0, 1) := dX7_isAhead_all0.2.2.2.2.1
theorem dX7_isAhead_7 : decode cX7_isAhead 7 = .ok (.getfield 21, 3) := dX7_isAhead_all0.2.2.2.2.2.1
theorem dX7_isAhead_10 : decode cX7_isAhead 10 = .ok (.iload_n 2, 1) := dX7_isAhead_all0.2.2.2.2.2.2.1
theorem dX7_isAhead_11 : decode cX7_isAhead 11 = .ok (.iaload, 1) := dX7_isAhead_all0.2.2.2.2.2.2.2.1
theorem dX7_isAhead_12 : decode cX7_isAhead 12 = .ok (.if_icmp .lt 33, 3) := dX7_isAhead_all0.2.2.2.2.2.2.2.2.1
theorem dX7_isAhead_15 : decode cX7_isAhead 15 = .ok (.aload_n 0, 1) := dX7_isAhead_all0.2.2.2.2.2.2.2.2.2.1
theorem dX7_isAhead_16 : decode cX7_isAhead 16 = .ok (.getfield 21, 3) := dX7_isAhead_all0.2.2.2.2.2.2.2.2.2.2.1
theorem dX7_isAhead_19 : decode cX7_isAhead 19 = .ok (.iload_n 1, 1) := dX7_isAhead_all0.2.2.2.2.2.2.2.2.2.2.2
theorem dX7_isAhead_all1 : decode cX7_isAhead 20 = .ok (.iaload, 1) ∧ decode cX7_isAhead 21 = .ok (.aload_n 0, 1) ∧ decode cX7_isAhead 22 = .ok (.getfield 21, 3) ∧ decode cX7_isAhead 25 = .ok (.iload_n 2, 1) ∧ decode cX7_isAhead 26 = .ok (.iaload, 1) ∧ decode cX7_isAhead 27 = .ok (.if_icmp .ne 22, 3) ∧ decode cX7_isAhead 30 = .ok (.aload_n 0, 1) ∧ decode cX7_isAhead 31 = .ok (.getfield 24, 3) ∧ decode cX7_isAhead 34 = .ok (.iload_n 1, 1) ∧ decode cX7_isAhead 35 = .ok (.iaload, 1) ∧ decode cX7_isAhead 36 = .ok (.aload_n 0, 1) ∧ decode cX7_isAhead 37 = .ok (.getfield 24, 3) := by decide +kernel
theorem dX7_isAhead_20 : decode cX7_isAhead 20 = .ok (.iaload, 1) := dX7_isAhead_all1.1
theorem dX7_isAhead_21 : decode cX7_isAhead 21 = .ok (.aload_n 0, 1) := dX7_isAhead_all1.2.1
theorem dX7_isAhead_22 : decode cX7_isAhead 22 = .ok (.getfield 21, 3) := dX7_isAhead_all1.2.2.1
theorem dX7_isAhead_25 : decode cX7_isAhead 25 = .ok (.iload_n 2, 1) := dX7_isAhead_all1.2.2.2.1
theorem dX7_isAhead_26 : decode cX7_isAhead 26 = .ok (.iaload, 1) := dX7_isAhead_all1.2.2.2.2.1
theorem dX7_isAhead_27 : decode cX7_isAhead 27 = .ok (.if_icmp .ne 22, 3) := dX7_isAhead_all1.2.2.2.2.2.1
theorem dX7_isAhead_30 : decode cX7_isAhead 30 = .ok (.aload_n 0, 1) := dX7_isAhead_all1.2.2.2.2.2.2.1
theorem dX7_isAhead_31 : decode cX7_isAhead 31 = .ok (.getfield 24, 3) := dX7_isAhead_all1.2.2.2.2.2.2.2.1
theorem dX7_isAhead_34 : decode cX7_isAhead 34 = .ok (.iload_n 1, 1) := dX7_isAhead_all1.2.2.2.2.2.2.2.2.1
theorem dX7_isAhead_35 : decode cX7_isAhead 35 = .ok (.iaload, 1) := dX7_isAhead_all1.2.2.2.2.2.2.2.2.2.1
theorem dX7_isAhead_36 : decode cX7_isAhead 36 = .ok (.aload_n 0, 1) := dX7_isAhead_all1.2.2.2.2.2.2.2.2.2.2.1
theorem dX7_isAhead_37 : decode cX7_isAhead 37 = .ok (.getfield 24, 3) := dX7_isAhead_all1.2.2.2.2.2.2.2.2.2.2.2
theorem dX7_isAhead_all2 : decode cX7_isAhead 40 = .ok (.iload_n 2, 1) ∧ decode cX7_isAhead 41 = .ok (.iaload, 1) ∧ decode cX7_isAhead 42 = .ok (.if_icmp .ge 7, 3) ∧ decode cX7_isAhead 45 = .ok (.iconst 1, 1) ∧ decode cX7_isAhead 46 = .ok (.goto 4, 3) ∧ decode cX7_isAhead 49 = .ok (.iconst 0, 1) ∧ decode cX7_isAhead 50 = .ok (.ireturn, 1) := by decide +kernel
theorem dX7_isAhead_40 : decode cX7_isAhead 40 = .ok (.iload_n 2, 1) := dX7_isAhead_all2.1
theorem dX7_isAhead_41 : decode cX7_isAhead 41 = .ok (.iaload, 1) := dX7_isAhead_all2.2.1
theorem dX7_isAhead_42 : decode cX7_isAhead 42 = .ok (.if_icmp .ge 7, 3) := dX7_isAhead_all2.2.2.1
theorem dX7_isAhead_45 : decode cX7_isAhead 45 = .ok (.iconst 1, 1) := dX7_isAhead_all2.2.2.2.1
theorem dX7_isAhead_46 : decode cX7_isAhead 46 = .ok (.goto 4, 3) := dX7_isAhead_all2.2.2.2.2.1
theorem dX7_isAhead_49 : decode cX7_isAhead 49 = .ok (.iconst 0, 1) := dX7_isAhead_all2.2.2.2.2.2.1
theorem dX7_isAhead_50 : decode cX7_isAhead 50 = .ok (.ireturn, 1) := dX7_isAhead_all2.2.2.2.2.2.2
theorem dX7_isKnown_all0 : decode cX7_isKnown 0 = .ok (.aload_n 0, 1) ∧ decode cX7_isKnown 1 = .ok (.getfield 9, 3) ∧ decode cX7_isKnown 4 = .ok (.iload_n 1, 1) ∧ decode cX7_isKnown 5 = .ok (.iaload, 1) ∧ decode cX7_isKnown 6 = .ok (.iload_n 2, 1) ∧ decode cX7_isKnown 7 = .ok (.if_icmp .ne 17, 3) ∧ decode cX7_isKnown 10 = .ok (.aload_n 0, 1) ∧ decode cX7_isKnown 11 = .ok (.getfield 24, 3) ∧ decode cX7_isKnown 14 = .ok (.iload_n 1, 1) ∧ decode cX7_isKnown 15 = .ok (.iaload, 1) ∧ decode cX7_isKnown 16 = .ok (.iload_n 3, 1) ∧ decode cX7_isKnown 17 = .ok (.if_icmp .gt 7, 3) := by decide +kernel
theorem dX7_isKnown_0 : decode cX7_isKnown 0 = .ok (.aload_n 0, 1) := dX7_isKnown_all0.1
theorem dX7_isKnown_1 : decode cX7_isKnown 1 = .ok (.getfield 9, 3) := dX7_isKnown_all0.2.1
theorem dX7_isKnown_4 : decode cX7_isKnown 4 = .ok (.iload_n 1, 1) := dX7_isKnown_all0.2.2.1
theorem dX7_isKnown_5 : decode cX7_isKnown 5 = .ok (.iaload, 1) := dX7_isKnown_all0.2.2.2.1
theorem dX7_isKnown_6 : decode cX7_isKnown 6 = .ok (.iload_n 2, 1) := dX7_isKnown_all0.2.2.2.2.1
theorem dX7_isKnown_7 : decode cX7_isKnown 7 = .ok (.if_icmp .ne 17, 3) := dX7_isKnown_all0.2.2.2.2.2.1
theorem dX7_isKnown_10 : decode cX7_isKnown 10 = .ok (.aload_n 0, 1) := dX7_isKnown_all0.2.2.2.2.2.2.1
theorem dX7_isKnown_11 : decode cX7_isKnown 11 = .ok (.getfield 24, 3) := dX7_isKnown_all0.2.2.2.2.2.2.2.1
theorem dX7_isKnown_14 : decode cX7_isKnown 14 = .ok (.iload_n 1, 1) := dX7_isKnown_all0.2.2.2.2.2.2.2.2.1
theorem dX7_isKnown_15 : decode cX7_isKnown 15 = .ok (.iaload, 1) := dX7_isKnown_all0.2.2.2.2.2.2.2.2.2.1
theorem dX7_isKnown_16 : decode cX7_isKnown 16 = .ok (.iload_n 3, 1) := dX7_isKnown_all0.2.2.2.2.2.2.2.2.2.2.1
theorem dX7_isKnown_17 : decode cX7_isKnown 17 = .ok (.if_icmp .gt 7, 3) := dX7_isKnown_all0.2.2.2.2.2.2.2.2.2.2.2
theorem dX7_isKnown_all1 : decode cX7_isKnown 20 = .ok (.iconst 1, 1) ∧ decode cX7_isKnown 21 = .ok (.goto 4, 3) ∧ decode cX7_isKnown 24 = .ok (.iconst 0, 1) ∧ decode cX7_isKnown 25 = .ok (.ireturn, 1) := by decide +kernel
theorem dX7_isKnown_20 : decode cX7_isKnown 20 = .ok (.iconst 1, 1) := dX7_isKnown_all1.1
theorem dX7_isKnown_21 : decode cX7_isKnown 21 = .ok (.goto 4, 3) := dX7_isKnown_all1.2.1
theorem dX7_isKnown_24 : decode cX7_isKnown 24 = .ok (.iconst 0, 1) := dX7_isKnown_all1.2.2.1
theorem dX7_isKnown_25 : decode cX7_isKnown 25 = .ok (.ireturn, 1) := dX7_isKnown_all1.2.2.2
theorem ggX7_ownerOf_X7_isKnown : GoodIn wsX7_ownerOf wsX7_isKnown := goodIn_s (fun _ h => wm_t (wm_r (wm_r h))) Gd_X7_isKnown
theorem gX7_ownerOf_X7_isKnown : GoodIn wsX7_ownerOf (wsV RX7 38 RX7 yX7_isKnown wsX7_isKnown) := goodIn_V (own := RX7) (idx := 38) (C := RX7) (y := yX7_isKnown) (wm_t (wm_l (wm_i 5 rfl))) (wm_t (wm_l (wm_i 6 rfl))) (wm_t (wm_l (wm_i 7 rfl))) (wm_t (wm_l (wm_i 8 rfl))) ggX7_ownerOf_X7_isKnown
theorem dX7_ownerOf_all0 : decode cX7_ownerOf 0 = .ok (.iload_n 2, 1) ∧ decode cX7_ownerOf 1 = .ok (.istore 5, 2) ∧ decode cX7_ownerOf 3 = .ok (.iconst 0, 1) ∧ decode cX7_ownerOf 4 = .ok (.istore 6, 2) ∧ decode cX7_ownerOf 6 = .ok (.iload 6, 2) ∧ decode cX7_ownerOf 8 = .ok (.aload_n 0, 1) ∧ decode cX7_ownerOf 9 = .ok (.getfield 30, 3) ∧ decode cX7_ownerOf 12 = .ok (.if_icmp .ge 62, 3) ∧ decode cX7_ownerOf 15 = .ok (.aload_n 0, 1) ∧ decode cX7_ownerOf 16 = .ok (.getfield 27, 3) ∧ decode cX7_ownerOf 19 = .ok (.iload 6, 2) ∧ decode cX7_ownerOf 21 = .ok (.iaload, 1) := by decide +kernel
theorem dX7_ownerOf_0 : decode cX7_ownerOf 0 = .ok (.iload_n 2, 1) := dX7_ownerOf_all0.1
theorem dX7_ownerOf_1 : decode cX7_ownerOf 1 = .ok (.istore 5, 2) := dX7_ownerOf_all0.2.1
theorem dX7_ownerOf_3 : decode cX7_ownerOf 3 = .ok (.iconst 0, 1) := dX7_ownerOf_all0.2.2.1
theorem dX7_ownerOf_4 : decode cX7_ownerOf 4 = .ok (.istore 6, 2) := dX7_ownerOf_all0.2.2.2.1
theorem dX7_ownerOf_6 : decode cX7_ownerOf 6 = .ok (.iload 6, 2) := dX7_ownerOf_all0.2.2.2.2.1
theorem dX7_ownerOf_8 : decode cX7_ownerOf 8 = .ok (.aload_n 0, 1) := dX7_ownerOf_all0.2.2.2.2.2.1
theorem dX7_ownerOf_9 : decode cX7_ownerOf 9 = .ok (.getfield 30, 3) := dX7_ownerOf_all0.2.2.2.2.2.2.1
theorem dX7_ownerOf_12 : decode cX7_ownerOf 12 = .ok (.if_icmp .ge 62, 3) := dX7_ownerOf_all0.2.2.2.2.2.2.2.1
theorem dX7_ownerOf_15 : decode cX7_ownerOf 15 = .ok (.aload_n 0, 1) := dX7_ownerOf_all0.2.2.2.2.2.2.2.2.1
theorem dX7_ownerOf_16 : decode cX7_ownerOf 16 = .ok (.getfield 27, 3) := dX7_ownerOf_all0.2.2.2.2.2.2.2.2.2.1
theorem dX7_ownerOf_19 : decode cX7_ownerOf 19 = .ok (.iload 6, 2) := dX7_ownerOf_all0.2.2.2.2.2.2.2.2.2.2.1
theorem dX7_ownerOf_21 : decode cX7_ownerOf 21 = .ok (.iaload, 1) := dX7_ownerOf_all0.2.2.2.2.2.2.2.2.2.2.2
theorem dX7_ownerOf_all1 : decode cX7_ownerOf 22 = .ok (.istore 7, 2) ∧ decode cX7_ownerOf 24 = .ok (.aload_n 0, 1) ∧ decode cX7_ownerOf 25 = .ok (.iload 7, 2) ∧ decode cX7_ownerOf 27 = .ok (.iload_n 1, 1) ∧ decode cX7_ownerOf 28 = .ok (.iload 4, 2) ∧ decode cX7_ownerOf 30 = .ok (.invokevirtual 38, 3) ∧ decode cX7_ownerOf 33 = .ok (.ifCond .eq 35, 3) ∧ decode cX7_ownerOf 36 = .ok (.aload_n 0, 1) ∧ decode cX7_ownerOf 37 = .ok (.getfield 21, 3) ∧ decode cX7_ownerOf 40 = .ok (.iload 7, 2) ∧ decode cX7_ownerOf 42 = .ok (.iaload, 1) ∧ decode cX7_ownerOf 43 = .ok (.iload_n 3, 1) := by decide +kernel
theorem dX7_ownerOf_22 : decode cX7_ownerOf 22 = .ok (.istore 7, 2) := dX7_ownerOf_all1.1
theorem dX7_ownerOf_24 : decode cX7_ownerOf 24 = .ok (.aload_n 0, 1) := dX7_ownerOf_all1.2.1
theorem dX7_ownerOf_25 : decode cX7_ownerOf 25 = .ok (.iload 7, 2) := dX7_ownerOf_all1.2.2.1
theorem dX7_ownerOf_27 : decode cX7_ownerOf 27 = .ok (.iload_n 1, 1) := dX7_ownerOf_all1.2.2.2.1
theorem dX7_ownerOf_28 : decode cX7_ownerOf 28 = .ok (.iload 4, 2) := dX7_ownerOf_all1.2.2.2.2.1
theorem dX7_ownerOf_30 : decode cX7_ownerOf 30 = .ok (.invokevirtual 38, 3) := dX7_ownerOf_all1.2.2.2.2.2.1
theorem dX7_ownerOf_33 : decode cX7_ownerOf 33 = .ok (.ifCond .eq 35, 3) := dX7_ownerOf_all1.2.2.2.2.2.2.1
theorem dX7_ownerOf_36 : decode cX7_ownerOf 36 = .ok (.aload_n 0, 1) := dX7_ownerOf_all1.2.2.2.2.2.2.2.1
theorem dX7_ownerOf_37 : decode cX7_ownerOf 37 = .ok (.getfield 21, 3) := dX7_ownerOf_all1.2.2.2.2.2.2.2.2.1
theorem dX7_ownerOf_40 : decode cX7_ownerOf 40 = .ok (.iload 7, 2) := dX7_ownerOf_all1.2.2.2.2.2.2.2.2.2.1
theorem dX7_ownerOf_42 : decode cX7_ownerOf 42 = .ok (.iaload, 1) := dX7_ownerOf_all1.2.2.2.2.2.2.2.2.2.2.1
theorem dX7_ownerOf_43 : decode cX7_ownerOf 43 = .ok (.iload_n 3, 1) := dX7_ownerOf_all1.2.2.2.2.2.2.2.2.2.2.2
theorem dX7_ownerOf_all2 : decode cX7_ownerOf 44 = .ok (.if_icmp .gt 24, 3) ∧ decode cX7_ownerOf 47 = .ok (.aload_n 0, 1) ∧ decode cX7_ownerOf 48 = .ok (.getfield 15, 3) ∧ decode cX7_ownerOf 51 = .ok (.iload 7, 2) ∧ decode cX7_ownerOf 53 = .ok (.iaload, 1) ∧ decode cX7_ownerOf 54 = .ok (.iload 5, 2) ∧ decode cX7_ownerOf 56 = .ok (.if_icmp .ne 12, 3) ∧ decode cX7_ownerOf 59 = .ok (.aload_n 0, 1) ∧ decode cX7_ownerOf 60 = .ok (.getfield 18, 3) ∧ decode cX7_ownerOf 63 = .ok (.iload 7, 2) ∧ decode cX7_ownerOf 65 = .ok (.iaload, 1) ∧ decode cX7_ownerOf 66 = .ok (.istore 5, 2) := by decide +kernel
theorem dX7_ownerOf_44 : decode cX7_ownerOf 44 = .ok (.if_icmp .gt 24, 3) := dX7_ownerOf_all2.1
theorem dX7_ownerOf_47 : decode cX7_ownerOf 47 = .ok (.aload_n 0, 1) := dX7_ownerOf_all2.2.1
theorem dX7_ownerOf_48 : decode cX7_ownerOf 48 = .ok (.getfield 15, 3) := dX7_ownerOf_all2.2.2.1
theorem dX7_ownerOf_51 : decode cX7_ownerOf 51 = .ok (.iload 7, 2) := dX7_ownerOf_all2.2.2.2.1
theorem dX7_ownerOf_53 : decode cX7_ownerOf 53 = .ok (.iaload, 1) := dX7_ownerOf_all2.2.2.2.2.1
theorem dX7_ownerOf_54 : decode cX7_ownerOf 54 = .ok (.iload 5, 2) := dX7_ownerOf_all2.2.2.2.2.2.1
theorem dX7_ownerOf_56 : decode cX7_ownerOf 56 = .ok (.if_icmp .ne 12, 3) := dX7_ownerOf_all2.2.2.2.2.2.2.1
theorem dX7_ownerOf_59 : decode cX7_ownerOf 59 = .ok (.aload_n 0, 1) := dX7_ownerOf_all2.2.2.2.2.2.2.2.1
theorem dX7_ownerOf_60 : decode cX7_ownerOf 60 = .ok (.getfield 18, 3) := dX7_ownerOf_all2.2.2.2.2.2.2.2.2.1
theorem dX7_ownerOf_63 : decode cX7_ownerOf 63 = .ok (.iload 7, 2) := dX7_ownerOf_all2.2.2.2.2.2.2.2.2.2.1
theorem dX7_ownerOf_65 : decode cX7_ownerOf 65 = .ok (.iaload, 1) := dX7_ownerOf_all2.2.2.2.2.2.2.2.2.2.2.1
theorem dX7_ownerOf_66 : decode cX7_ownerOf 66 = .ok (.istore 5, 2) := dX7_ownerOf_all2.2.2.2.2.2.2.2.2.2.2.2
theorem dX7_ownerOf_all3 : decode cX7_ownerOf 68 = .ok (.iinc 6 1, 3) ∧ decode cX7_ownerOf 71 = .ok (.goto (-65), 3) ∧ decode cX7_ownerOf 74 = .ok (.iload 5, 2) ∧ decode cX7_ownerOf 76 = .ok (.ireturn, 1) := by decide +kernel
theorem dX7_ownerOf_68 : decode cX7_ownerOf 68 = .ok (.iinc 6 1, 3) := dX7_ownerOf_all3.1
theorem dX7_ownerOf_71 : decode cX7_ownerOf 71 = .ok (.goto (-65), 3) := dX7_ownerOf_all3.2.1
theorem dX7_ownerOf_74 : decode cX7_ownerOf 74 = .ok (.iload 5, 2) := dX7_ownerOf_all3.2.2.1
theorem dX7_ownerOf_76 : decode cX7_ownerOf 76 = .ok (.ireturn, 1) := dX7_ownerOf_all3.2.2.2
theorem ggX7_notGood_X7_isKnown : GoodIn wsX7_notGood wsX7_isKnown := goodIn_s (fun _ h => wm_t (wm_r (wm_r h))) Gd_X7_isKnown
theorem gX7_notGood_X7_isKnown : GoodIn wsX7_notGood (wsV RX7 38 RX7 yX7_isKnown wsX7_isKnown) := goodIn_V (own := RX7) (idx := 38) (C := RX7) (y := yX7_isKnown) (wm_t (wm_l (wm_i 4 rfl))) (wm_t (wm_l (wm_i 5 rfl))) (wm_t (wm_l (wm_i 6 rfl))) (wm_t (wm_l (wm_i 7 rfl))) ggX7_notGood_X7_isKnown
theorem dX7_notGood_all0 : decode cX7_notGood 0 = .ok (.iload_n 2, 1) ∧ decode cX7_notGood 1 = .ok (.istore 4, 2) ∧ decode cX7_notGood 3 = .ok (.iconst 0, 1) ∧ decode cX7_notGood 4 = .ok (.istore 5, 2) ∧ decode cX7_notGood 6 = .ok (.iconst 0, 1) ∧ decode cX7_notGood 7 = .ok (.istore 6, 2) ∧ decode cX7_notGood 9 = .ok (.iload 6, 2) ∧ decode cX7_notGood 11 = .ok (.aload_n 0, 1) ∧ decode cX7_notGood 12 = .ok (.getfield 30, 3) ∧ decode cX7_notGood 15 = .ok (.if_icmp .ge 59, 3) ∧ decode cX7_notGood 18 = .ok (.aload_n 0, 1) ∧ decode cX7_notGood 19 = .ok (.getfield 27, 3) := by decide +kernel
theorem dX7_notGood_0 : decode cX7_notGood 0 = .ok (.iload_n 2, 1) := dX7_notGood_all0.1
theorem dX7_notGood_1 : decode cX7_notGood 1 = .ok (.istore 4, 2) := dX7_notGood_all0.2.1
theorem dX7_notGood_3 : decode cX7_notGood 3 = .ok (.iconst 0, 1) := dX7_notGood_all0.2.2.1
theorem dX7_notGood_4 : decode cX7_notGood 4 = .ok (.istore 5, 2) := dX7_notGood_all0.2.2.2.1
theorem dX7_notGood_6 : decode cX7_notGood 6 = .ok (.iconst 0, 1) := dX7_notGood_all0.2.2.2.2.1
theorem dX7_notGood_7 : decode cX7_notGood 7 = .ok (.istore 6, 2) := dX7_notGood_all0.2.2.2.2.2.1
theorem dX7_notGood_9 : decode cX7_notGood 9 = .ok (.iload 6, 2) := dX7_notGood_all0.2.2.2.2.2.2.1
theorem dX7_notGood_11 : decode cX7_notGood 11 = .ok (.aload_n 0, 1) := dX7_notGood_all0.2.2.2.2.2.2.2.1
theorem dX7_notGood_12 : decode cX7_notGood 12 = .ok (.getfield 30, 3) := dX7_notGood_all0.2.2.2.2.2.2.2.2.1
theorem dX7_notGood_15 : decode cX7_notGood 15 = .ok (.if_icmp .ge 59, 3) := dX7_notGood_all0.2.2.2.2.2.2.2.2.2.1
theorem dX7_notGood_18 : decode cX7_notGood 18 = .ok (.aload_n 0, 1) := dX7_notGood_all0.2.2.2.2.2.2.2.2.2.2.1
theorem dX7_notGood_19 : decode cX7_notGood 19 = .ok (.getfield 27, 3) := dX7_notGood_all0.2.2.2.2.2.2.2.2.2.2.2
theorem dX7_notGood_all1 : decode cX7_notGood 22 = .ok (.iload 6, 2) ∧ decode cX7_notGood 24 = .ok (.iaload, 1) ∧ decode cX7_notGood 25 = .ok (.istore 7, 2) ∧ decode cX7_notGood 27 = .ok (.aload_n 0, 1) ∧ decode cX7_notGood 28 = .ok (.iload 7, 2) ∧ decode cX7_notGood 30 = .ok (.iload_n 1, 1) ∧ decode cX7_notGood 31 = .ok (.iload_n 3, 1) ∧ decode cX7_notGood 32 = .ok (.invokevirtual 38, 3) ∧ decode cX7_notGood 35 = .ok (.ifCond .ne 6, 3) ∧ decode cX7_notGood 38 = .ok (.goto 30, 3) ∧ decode cX7_notGood 41 = .ok (.aload_n 0, 1) ∧ decode cX7_notGood 42 = .ok (.getfield 15, 3) := by decide +kernel
theorem dX7_notGood_22 : decode cX7_notGood 22 = .ok (.iload 6, 2) := dX7_notGood_all1.1
theorem dX7_notGood_24 : decode cX7_notGood 24 = .ok (.iaload, 1) := dX7_notGood_all1.2.1
theorem dX7_notGood_25 : decode cX7_notGood 25 = .ok (.istore 7, 2) := dX7_notGood_all1.2.2.1
theorem dX7_notGood_27 : decode cX7_notGood 27 = .ok (.aload_n 0, 1) := dX7_notGood_all1.2.2.2.1
theorem dX7_notGood_28 : decode cX7_notGood 28 = .ok (.iload 7, 2) := dX7_notGood_all1.2.2.2.2.1
theorem dX7_notGood_30 : decode cX7_notGood 30 = .ok (.iload_n 1, 1) := dX7_notGood_all1.2.2.2.2.2.1
theorem dX7_notGood_31 : decode cX7_notGood 31 = .ok (.iload_n 3, 1) := dX7_notGood_all1.2.2.2.2.2.2.1
theorem dX7_notGood_32 : decode cX7_notGood 32 = .ok (.invokevirtual 38, 3) := dX7_notGood_all1.2.2.2.2.2.2.2.1
theorem dX7_notGood_35 : decode cX7_notGood 35 = .ok (.ifCond .ne 6, 3) := dX7_notGood_all1.2.2.2.2.2.2.2.2.1
theorem dX7_notGood_38 : decode cX7_notGood 38 = .ok (.goto 30, 3) := dX7_notGood_all1.2.2.2.2.2.2.2.2.2.1
theorem dX7_notGood_41 : decode cX7_notGood 41 = .ok (.aload_n 0, 1) := dX7_notGood_all1.2.2.2.2.2.2.2.2.2.2.1
theorem dX7_notGood_42 : decode cX7_notGood 42 = .ok (.getfield 15, 3) := dX7_notGood_all1.2.2.2.2.2.2.2.2.2.2.2
theorem dX7_notGood_all2 : decode cX7_notGood 45 = .ok (.iload 7, 2) ∧ decode cX7_notGood 47 = .ok (.iaload, 1) ∧ decode cX7_notGood 48 = .ok (.iload 4, 2) ∧ decode cX7_notGood 50 = .ok (.if_icmp .ne 15, 3) ∧ decode cX7_notGood 53 = .ok (.aload_n 0, 1) ∧ decode cX7_notGood 54 = .ok (.getfield 18, 3) ∧ decode cX7_notGood 57 = .ok (.iload 7, 2) ∧ decode cX7_notGood 59 = .ok (.iaload, 1) ∧ decode cX7_notGood 60 = .ok (.istore 4, 2) ∧ decode cX7_notGood 62 = .ok (.goto 6, 3) ∧ decode cX7_notGood 65 = .ok (.iinc 5 1, 3) ∧ decode cX7_notGood 68 = .ok (.iinc 6 1, 3) := by decide +kernel
theorem dX7_notGood_45 : decode cX7_notGood 45 = .ok (.iload 7, 2) := dX7_notGood_all2.1
theorem dX7_notGood_47 : decode cX7_notGood 47 = .ok (.iaload, 1) := dX7_notGood_all2.2.1
theorem dX7_notGood_48 : decode cX7_notGood 48 = .ok (.iload 4, 2) := dX7_notGood_all2.2.2.1
theorem dX7_notGood_50 : decode cX7_notGood 50 = .ok (.if_icmp .ne 15, 3) := dX7_notGood_all2.2.2.2.1
theorem dX7_notGood_53 : decode cX7_notGood 53 = .ok (.aload_n 0, 1) := dX7_notGood_all2.2.2.2.2.1
theorem dX7_notGood_54 : decode cX7_notGood 54 = .ok (.getfield 18, 3) := dX7_notGood_all2.2.2.2.2.2.1
theorem dX7_notGood_57 : decode cX7_notGood 57 = .ok (.iload 7, 2) := dX7_notGood_all2.2.2.2.2.2.2.1
theorem dX7_notGood_59 : decode cX7_notGood 59 = .ok (.iaload, 1) := dX7_notGood_all2.2.2.2.2.2.2.2.1
theorem dX7_notGood_60 : decode cX7_notGood 60 = .ok (.istore 4, 2) := dX7_notGood_all2.2.2.2.2.2.2.2.2.1
theorem dX7_notGood_62 : decode cX7_notGood 62 = .ok (.goto 6, 3) := dX7_notGood_all2.2.2.2.2.2.2.2.2.2.1
theorem dX7_notGood_65 : decode cX7_notGood 65 = .ok (.iinc 5 1, 3) := dX7_notGood_all2.2.2.2.2.2.2.2.2.2.2.1
theorem dX7_notGood_68 : decode cX7_notGood 68 = .ok (.iinc 6 1, 3) := dX7_notGood_all2.2.2.2.2.2.2.2.2.2.2.2
theorem dX7_notGood_all3 : decode cX7_notGood 71 = .ok (.goto (-62), 3) ∧ decode cX7_notGood 74 = .ok (.iload 5, 2) ∧ decode cX7_notGood 76 = .ok (.ireturn, 1) := by decide +kernel
theorem dX7_notGood_71 : decode cX7_notGood 71 = .ok (.goto (-62), 3) := dX7_notGood_all3.1
theorem dX7_notGood_74 : decode cX7_notGood 74 = .ok (.iload 5, 2) := dX7_notGood_all3.2.1
theorem dX7_notGood_76 : decode cX7_notGood 76 = .ok (.ireturn, 1) := dX7_notGood_all3.2.2
theorem ggX10_paper_X10_isCrate : GoodIn wsX10_paper wsX10_isCrate := goodIn_s (fun _ h => wm_t (wm_r (wm_l (wm_r (wm_r h))))) Gd_X10_isCrate
theorem gX10_paper_X10_isCrate : GoodIn wsX10_paper (wsV RX10 180 RX10 yX10_isCrate wsX10_isCrate) := goodIn_V (own := RX10) (idx := 180) (C := RX10) (y := yX10_isCrate) (wm_t (wm_l (wm_i 4 rfl))) (wm_t (wm_l (wm_i 5 rfl))) (wm_t (wm_l (wm_i 6 rfl))) (wm_t (wm_l (wm_i 7 rfl))) ggX10_paper_X10_isCrate
theorem ggX10_paper_X10_isOwner : GoodIn wsX10_paper wsX10_isOwner := goodIn_s (fun _ h => wm_t (wm_r (wm_r (wm_l (wm_l h))))) Gd_X10_isOwner
theorem gX10_paper_X10_isOwner : GoodIn wsX10_paper (va_wsS RX10 163 yX10_isOwner wsX10_isOwner) := goodIn_S (own := RX10) (idx := 163) (y := yX10_isOwner) (wm_t (wm_l (wm_i 8 rfl))) (wm_t (wm_l (wm_i 9 rfl))) (wm_t (wm_l (wm_i 7 rfl))) ggX10_paper_X10_isOwner
theorem ggX10_paper_X10_areDays : GoodIn wsX10_paper wsX10_areDays := goodIn_s (fun _ h => wm_t (wm_r (wm_r (wm_l (wm_r h))))) Gd_X10_areDays
theorem gX10_paper_X10_areDays : GoodIn wsX10_paper (va_wsS RX10 183 yX10_areDays wsX10_areDays) := goodIn_S (own := RX10) (idx := 183) (y := yX10_areDays) (wm_t (wm_l (wm_i 10 rfl))) (wm_t (wm_l (wm_i 11 rfl))) (wm_t (wm_l (wm_i 7 rfl))) ggX10_paper_X10_areDays
theorem ggX10_paper_X7_tell : GoodIn wsX10_paper wsX7_tell := goodIn_s (fun _ h => wm_t (wm_r (wm_r (wm_r h)))) Gd_X7_tell
theorem gX10_paper_X7_tell : GoodIn wsX10_paper (wsV RX10 187 RX7 yX7_tell wsX7_tell) := goodIn_V (own := RX10) (idx := 187) (C := RX7) (y := yX7_tell) (wm_t (wm_l (wm_i 12 rfl))) (wm_t (wm_l (wm_i 13 rfl))) (wm_t (wm_l (wm_i 14 rfl))) (wm_t (wm_l (wm_i 15 rfl))) ggX10_paper_X7_tell
theorem dX10_paper_all0 : decode cX10_paper 0 = .ok (.aload_n 0, 1) ∧ decode cX10_paper 1 = .ok (.iload_n 1, 1) ∧ decode cX10_paper 2 = .ok (.invokevirtual 180, 3) ∧ decode cX10_paper 5 = .ok (.ifCond .eq 32, 3) ∧ decode cX10_paper 8 = .ok (.iload_n 2, 1) ∧ decode cX10_paper 9 = .ok (.invokestatic 163, 3) ∧ decode cX10_paper 12 = .ok (.ifCond .eq 25, 3) ∧ decode cX10_paper 15 = .ok (.iload_n 3, 1) ∧ decode cX10_paper 16 = .ok (.invokestatic 163, 3) ∧ decode cX10_paper 19 = .ok (.ifCond .eq 18, 3) ∧ decode cX10_paper 22 = .ok (.iload_n 2, 1) ∧ decode cX10_paper 23 = .ok (.iload_n 3, 1) := by decide +kernel
theorem dX10_paper_0 : decode cX10_paper 0 = .ok (.aload_n 0, 1) := dX10_paper_all0.1
theorem dX10_paper_1 : decode cX10_paper 1 = .ok (.iload_n 1, 1) := dX10_paper_all0.2.1
theorem dX10_paper_2 : decode cX10_paper 2 = .ok (.invokevirtual 180, 3) := dX10_paper_all0.2.2.1
theorem dX10_paper_5 : decode cX10_paper 5 = .ok (.ifCond .eq 32, 3) := dX10_paper_all0.2.2.2.1
theorem dX10_paper_8 : decode cX10_paper 8 = .ok (.iload_n 2, 1) := dX10_paper_all0.2.2.2.2.1
theorem dX10_paper_9 : decode cX10_paper 9 = .ok (.invokestatic 163, 3) := dX10_paper_all0.2.2.2.2.2.1
theorem dX10_paper_12 : decode cX10_paper 12 = .ok (.ifCond .eq 25, 3) := dX10_paper_all0.2.2.2.2.2.2.1
theorem dX10_paper_15 : decode cX10_paper 15 = .ok (.iload_n 3, 1) := dX10_paper_all0.2.2.2.2.2.2.2.1
theorem dX10_paper_16 : decode cX10_paper 16 = .ok (.invokestatic 163, 3) := dX10_paper_all0.2.2.2.2.2.2.2.2.1
theorem dX10_paper_19 : decode cX10_paper 19 = .ok (.ifCond .eq 18, 3) := dX10_paper_all0.2.2.2.2.2.2.2.2.2.1
theorem dX10_paper_22 : decode cX10_paper 22 = .ok (.iload_n 2, 1) := dX10_paper_all0.2.2.2.2.2.2.2.2.2.2.1
theorem dX10_paper_23 : decode cX10_paper 23 = .ok (.iload_n 3, 1) := dX10_paper_all0.2.2.2.2.2.2.2.2.2.2.2
theorem dX10_paper_all1 : decode cX10_paper 24 = .ok (.if_icmp .eq 13, 3) ∧ decode cX10_paper 27 = .ok (.iload 4, 2) ∧ decode cX10_paper 29 = .ok (.iload 5, 2) ∧ decode cX10_paper 31 = .ok (.invokestatic 183, 3) ∧ decode cX10_paper 34 = .ok (.ifCond .ne 6, 3) ∧ decode cX10_paper 37 = .ok (.ldc 89, 2) ∧ decode cX10_paper 39 = .ok (.ireturn, 1) ∧ decode cX10_paper 40 = .ok (.aload_n 0, 1) ∧ decode cX10_paper 41 = .ok (.getfield 33, 3) ∧ decode cX10_paper 44 = .ok (.getfield 186, 3) ∧ decode cX10_paper 47 = .ok (.bipush 40, 2) ∧ decode cX10_paper 49 = .ok (.if_icmp .lt 6, 3) := by decide +kernel
theorem dX10_paper_24 : decode cX10_paper 24 = .ok (.if_icmp .eq 13, 3) := dX10_paper_all1.1
theorem dX10_paper_27 : decode cX10_paper 27 = .ok (.iload 4, 2) := dX10_paper_all1.2.1
theorem dX10_paper_29 : decode cX10_paper 29 = .ok (.iload 5, 2) := dX10_paper_all1.2.2.1
theorem dX10_paper_31 : decode cX10_paper 31 = .ok (.invokestatic 183, 3) := dX10_paper_all1.2.2.2.1
theorem dX10_paper_34 : decode cX10_paper 34 = .ok (.ifCond .ne 6, 3) := dX10_paper_all1.2.2.2.2.1
theorem dX10_paper_37 : decode cX10_paper 37 = .ok (.ldc 89, 2) := dX10_paper_all1.2.2.2.2.2.1
theorem dX10_paper_39 : decode cX10_paper 39 = .ok (.ireturn, 1) := dX10_paper_all1.2.2.2.2.2.2.1
theorem dX10_paper_40 : decode cX10_paper 40 = .ok (.aload_n 0, 1) := dX10_paper_all1.2.2.2.2.2.2.2.1
theorem dX10_paper_41 : decode cX10_paper 41 = .ok (.getfield 33, 3) := dX10_paper_all1.2.2.2.2.2.2.2.2.1
theorem dX10_paper_44 : decode cX10_paper 44 = .ok (.getfield 186, 3) := dX10_paper_all1.2.2.2.2.2.2.2.2.2.1
theorem dX10_paper_47 : decode cX10_paper 47 = .ok (.bipush 40, 2) := dX10_paper_all1.2.2.2.2.2.2.2.2.2.2.1
theorem dX10_paper_49 : decode cX10_paper 49 = .ok (.if_icmp .lt 6, 3) := dX10_paper_all1.2.2.2.2.2.2.2.2.2.2.2
theorem dX10_paper_all2 : decode cX10_paper 52 = .ok (.ldc 145, 2) ∧ decode cX10_paper 54 = .ok (.ireturn, 1) ∧ decode cX10_paper 55 = .ok (.aload_n 0, 1) ∧ decode cX10_paper 56 = .ok (.getfield 33, 3) ∧ decode cX10_paper 59 = .ok (.iload_n 1, 1) ∧ decode cX10_paper 60 = .ok (.iload_n 2, 1) ∧ decode cX10_paper 61 = .ok (.iload_n 3, 1) ∧ decode cX10_paper 62 = .ok (.iload 4, 2) ∧ decode cX10_paper 64 = .ok (.iload 5, 2) ∧ decode cX10_paper 66 = .ok (.invokevirtual 187, 3) ∧ decode cX10_paper 69 = .ok (.ireturn, 1) := by decide +kernel
theorem dX10_paper_52 : decode cX10_paper 52 = .ok (.ldc 145, 2) := dX10_paper_all2.1
theorem dX10_paper_54 : decode cX10_paper 54 = .ok (.ireturn, 1) := dX10_paper_all2.2.1
theorem dX10_paper_55 : decode cX10_paper 55 = .ok (.aload_n 0, 1) := dX10_paper_all2.2.2.1
theorem dX10_paper_56 : decode cX10_paper 56 = .ok (.getfield 33, 3) := dX10_paper_all2.2.2.2.1
theorem dX10_paper_59 : decode cX10_paper 59 = .ok (.iload_n 1, 1) := dX10_paper_all2.2.2.2.2.1
theorem dX10_paper_60 : decode cX10_paper 60 = .ok (.iload_n 2, 1) := dX10_paper_all2.2.2.2.2.2.1
theorem dX10_paper_61 : decode cX10_paper 61 = .ok (.iload_n 3, 1) := dX10_paper_all2.2.2.2.2.2.2.1
theorem dX10_paper_62 : decode cX10_paper 62 = .ok (.iload 4, 2) := dX10_paper_all2.2.2.2.2.2.2.2.1
theorem dX10_paper_64 : decode cX10_paper 64 = .ok (.iload 5, 2) := dX10_paper_all2.2.2.2.2.2.2.2.2.1
theorem dX10_paper_66 : decode cX10_paper 66 = .ok (.invokevirtual 187, 3) := dX10_paper_all2.2.2.2.2.2.2.2.2.2.1
theorem dX10_paper_69 : decode cX10_paper 69 = .ok (.ireturn, 1) := dX10_paper_all2.2.2.2.2.2.2.2.2.2.2
theorem ggX10_owner_X10_isCrate : GoodIn wsX10_owner wsX10_isCrate := goodIn_s (fun _ h => wm_t (wm_r (wm_r (wm_l (wm_l h))))) Gd_X10_isCrate
theorem gX10_owner_X10_isCrate : GoodIn wsX10_owner (wsV RX10 180 RX10 yX10_isCrate wsX10_isCrate) := goodIn_V (own := RX10) (idx := 180) (C := RX10) (y := yX10_isCrate) (wm_t (wm_l (wm_i 4 rfl))) (wm_t (wm_l (wm_i 5 rfl))) (wm_t (wm_l (wm_i 6 rfl))) (wm_t (wm_l (wm_i 7 rfl))) ggX10_owner_X10_isCrate
theorem ggX10_owner_X10_isDay : GoodIn wsX10_owner wsX10_isDay := goodIn_s (fun _ h => wm_t (wm_r (wm_r (wm_l (wm_r h))))) Gd_X10_isDay
theorem gX10_owner_X10_isDay : GoodIn wsX10_owner (va_wsS RX10 138 yX10_isDay wsX10_isDay) := goodIn_S (own := RX10) (idx := 138) (y := yX10_isDay) (wm_t (wm_l (wm_i 8 rfl))) (wm_t (wm_l (wm_i 9 rfl))) (wm_t (wm_l (wm_i 7 rfl))) ggX10_owner_X10_isDay
theorem ggX10_owner_X7_ownerOf : GoodIn wsX10_owner wsX7_ownerOf := goodIn_s (fun _ h => wm_t (wm_r (wm_r (wm_r h)))) Gd_X7_ownerOf
theorem gX10_owner_X7_ownerOf : GoodIn wsX10_owner (wsV RX10 193 RX7 yX7_ownerOf wsX7_ownerOf) := goodIn_V (own := RX10) (idx := 193) (C := RX7) (y := yX7_ownerOf) (wm_t (wm_l (wm_i 10 rfl))) (wm_t (wm_l (wm_i 11 rfl))) (wm_t (wm_l (wm_i 12 rfl))) (wm_t (wm_l (wm_i 13 rfl))) ggX10_owner_X7_ownerOf
theorem dX10_owner_all0 : decode cX10_owner 0 = .ok (.aload_n 0, 1) ∧ decode cX10_owner 1 = .ok (.iload_n 1, 1) ∧ decode cX10_owner 2 = .ok (.invokevirtual 180, 3) ∧ decode cX10_owner 5 = .ok (.ifCond .eq 17, 3) ∧ decode cX10_owner 8 = .ok (.iload_n 2, 1) ∧ decode cX10_owner 9 = .ok (.invokestatic 138, 3) ∧ decode cX10_owner 12 = .ok (.ifCond .eq 10, 3) ∧ decode cX10_owner 15 = .ok (.iload_n 3, 1) ∧ decode cX10_owner 16 = .ok (.invokestatic 138, 3) ∧ decode cX10_owner 19 = .ok (.ifCond .ne 6, 3) ∧ decode cX10_owner 22 = .ok (.ldc 89, 2) ∧ decode cX10_owner 24 = .ok (.ireturn, 1) := by decide +kernel
theorem dX10_owner_0 : decode cX10_owner 0 = .ok (.aload_n 0, 1) := dX10_owner_all0.1
theorem dX10_owner_1 : decode cX10_owner 1 = .ok (.iload_n 1, 1) := dX10_owner_all0.2.1
theorem dX10_owner_2 : decode cX10_owner 2 = .ok (.invokevirtual 180, 3) := dX10_owner_all0.2.2.1
theorem dX10_owner_5 : decode cX10_owner 5 = .ok (.ifCond .eq 17, 3) := dX10_owner_all0.2.2.2.1
theorem dX10_owner_8 : decode cX10_owner 8 = .ok (.iload_n 2, 1) := dX10_owner_all0.2.2.2.2.1
theorem dX10_owner_9 : decode cX10_owner 9 = .ok (.invokestatic 138, 3) := dX10_owner_all0.2.2.2.2.2.1
theorem dX10_owner_12 : decode cX10_owner 12 = .ok (.ifCond .eq 10, 3) := dX10_owner_all0.2.2.2.2.2.2.1
theorem dX10_owner_15 : decode cX10_owner 15 = .ok (.iload_n 3, 1) := dX10_owner_all0.2.2.2.2.2.2.2.1
theorem dX10_owner_16 : decode cX10_owner 16 = .ok (.invokestatic 138, 3) := dX10_owner_all0.2.2.2.2.2.2.2.2.1
theorem dX10_owner_19 : decode cX10_owner 19 = .ok (.ifCond .ne 6, 3) := dX10_owner_all0.2.2.2.2.2.2.2.2.2.1
theorem dX10_owner_22 : decode cX10_owner 22 = .ok (.ldc 89, 2) := dX10_owner_all0.2.2.2.2.2.2.2.2.2.2.1
theorem dX10_owner_24 : decode cX10_owner 24 = .ok (.ireturn, 1) := dX10_owner_all0.2.2.2.2.2.2.2.2.2.2.2
theorem dX10_owner_all1 : decode cX10_owner 25 = .ok (.aload_n 0, 1) ∧ decode cX10_owner 26 = .ok (.getfield 33, 3) ∧ decode cX10_owner 29 = .ok (.iload_n 1, 1) ∧ decode cX10_owner 30 = .ok (.aload_n 0, 1) ∧ decode cX10_owner 31 = .ok (.getfield 26, 3) ∧ decode cX10_owner 34 = .ok (.getfield 190, 3) ∧ decode cX10_owner 37 = .ok (.iload_n 1, 1) ∧ decode cX10_owner 38 = .ok (.iaload, 1) ∧ decode cX10_owner 39 = .ok (.iload_n 2, 1) ∧ decode cX10_owner 40 = .ok (.iload_n 3, 1) ∧ decode cX10_owner 41 = .ok (.invokevirtual 193, 3) ∧ decode cX10_owner 44 = .ok (.ireturn, 1) := by decide +kernel
theorem dX10_owner_25 : decode cX10_owner 25 = .ok (.aload_n 0, 1) := dX10_owner_all1.1
theorem dX10_owner_26 : decode cX10_owner 26 = .ok (.getfield 33, 3) := dX10_owner_all1.2.1
theorem dX10_owner_29 : decode cX10_owner 29 = .ok (.iload_n 1, 1) := dX10_owner_all1.2.2.1
theorem dX10_owner_30 : decode cX10_owner 30 = .ok (.aload_n 0, 1) := dX10_owner_all1.2.2.2.1
theorem dX10_owner_31 : decode cX10_owner 31 = .ok (.getfield 26, 3) := dX10_owner_all1.2.2.2.2.1
theorem dX10_owner_34 : decode cX10_owner 34 = .ok (.getfield 190, 3) := dX10_owner_all1.2.2.2.2.2.1
theorem dX10_owner_37 : decode cX10_owner 37 = .ok (.iload_n 1, 1) := dX10_owner_all1.2.2.2.2.2.2.1
theorem dX10_owner_38 : decode cX10_owner 38 = .ok (.iaload, 1) := dX10_owner_all1.2.2.2.2.2.2.2.1
theorem dX10_owner_39 : decode cX10_owner 39 = .ok (.iload_n 2, 1) := dX10_owner_all1.2.2.2.2.2.2.2.2.1
theorem dX10_owner_40 : decode cX10_owner 40 = .ok (.iload_n 3, 1) := dX10_owner_all1.2.2.2.2.2.2.2.2.2.1
theorem dX10_owner_41 : decode cX10_owner 41 = .ok (.invokevirtual 193, 3) := dX10_owner_all1.2.2.2.2.2.2.2.2.2.2.1
theorem dX10_owner_44 : decode cX10_owner 44 = .ok (.ireturn, 1) := dX10_owner_all1.2.2.2.2.2.2.2.2.2.2.2
theorem ggX10_quarrels_X10_isCrate : GoodIn wsX10_quarrels wsX10_isCrate := goodIn_s (fun _ h => wm_t (wm_r (wm_r (wm_l (wm_l h))))) Gd_X10_isCrate
theorem gX10_quarrels_X10_isCrate : GoodIn wsX10_quarrels (wsV RX10 180 RX10 yX10_isCrate wsX10_isCrate) := goodIn_V (own := RX10) (idx := 180) (C := RX10) (y := yX10_isCrate) (wm_t (wm_l (wm_i 4 rfl))) (wm_t (wm_l (wm_i 5 rfl))) (wm_t (wm_l (wm_i 6 rfl))) (wm_t (wm_l (wm_i 7 rfl))) ggX10_quarrels_X10_isCrate
theorem ggX10_quarrels_X10_isDay : GoodIn wsX10_quarrels wsX10_isDay := goodIn_s (fun _ h => wm_t (wm_r (wm_r (wm_l (wm_r h))))) Gd_X10_isDay
theorem gX10_quarrels_X10_isDay : GoodIn wsX10_quarrels (va_wsS RX10 138 yX10_isDay wsX10_isDay) := goodIn_S (own := RX10) (idx := 138) (y := yX10_isDay) (wm_t (wm_l (wm_i 8 rfl))) (wm_t (wm_l (wm_i 9 rfl))) (wm_t (wm_l (wm_i 7 rfl))) ggX10_quarrels_X10_isDay
theorem ggX10_quarrels_X7_notGood : GoodIn wsX10_quarrels wsX7_notGood := goodIn_s (fun _ h => wm_t (wm_r (wm_r (wm_r h)))) Gd_X7_notGood
theorem gX10_quarrels_X7_notGood : GoodIn wsX10_quarrels (wsV RX10 196 RX7 yX7_notGood wsX7_notGood) := goodIn_V (own := RX10) (idx := 196) (C := RX7) (y := yX7_notGood) (wm_t (wm_l (wm_i 10 rfl))) (wm_t (wm_l (wm_i 11 rfl))) (wm_t (wm_l (wm_i 12 rfl))) (wm_t (wm_l (wm_i 13 rfl))) ggX10_quarrels_X7_notGood
theorem dX10_quarrels_all0 : decode cX10_quarrels 0 = .ok (.aload_n 0, 1) ∧ decode cX10_quarrels 1 = .ok (.iload_n 1, 1) ∧ decode cX10_quarrels 2 = .ok (.invokevirtual 180, 3) ∧ decode cX10_quarrels 5 = .ok (.ifCond .eq 10, 3) ∧ decode cX10_quarrels 8 = .ok (.iload_n 2, 1) ∧ decode cX10_quarrels 9 = .ok (.invokestatic 138, 3) ∧ decode cX10_quarrels 12 = .ok (.ifCond .ne 6, 3) ∧ decode cX10_quarrels 15 = .ok (.ldc 89, 2) ∧ decode cX10_quarrels 17 = .ok (.ireturn, 1) ∧ decode cX10_quarrels 18 = .ok (.aload_n 0, 1) ∧ decode cX10_quarrels 19 = .ok (.getfield 33, 3) ∧ decode cX10_quarrels 22 = .ok (.iload_n 1, 1) := by decide +kernel
theorem dX10_quarrels_0 : decode cX10_quarrels 0 = .ok (.aload_n 0, 1) := dX10_quarrels_all0.1
theorem dX10_quarrels_1 : decode cX10_quarrels 1 = .ok (.iload_n 1, 1) := dX10_quarrels_all0.2.1
theorem dX10_quarrels_2 : decode cX10_quarrels 2 = .ok (.invokevirtual 180, 3) := dX10_quarrels_all0.2.2.1
theorem dX10_quarrels_5 : decode cX10_quarrels 5 = .ok (.ifCond .eq 10, 3) := dX10_quarrels_all0.2.2.2.1
theorem dX10_quarrels_8 : decode cX10_quarrels 8 = .ok (.iload_n 2, 1) := dX10_quarrels_all0.2.2.2.2.1
theorem dX10_quarrels_9 : decode cX10_quarrels 9 = .ok (.invokestatic 138, 3) := dX10_quarrels_all0.2.2.2.2.2.1
theorem dX10_quarrels_12 : decode cX10_quarrels 12 = .ok (.ifCond .ne 6, 3) := dX10_quarrels_all0.2.2.2.2.2.2.1
theorem dX10_quarrels_15 : decode cX10_quarrels 15 = .ok (.ldc 89, 2) := dX10_quarrels_all0.2.2.2.2.2.2.2.1
theorem dX10_quarrels_17 : decode cX10_quarrels 17 = .ok (.ireturn, 1) := dX10_quarrels_all0.2.2.2.2.2.2.2.2.1
theorem dX10_quarrels_18 : decode cX10_quarrels 18 = .ok (.aload_n 0, 1) := dX10_quarrels_all0.2.2.2.2.2.2.2.2.2.1
theorem dX10_quarrels_19 : decode cX10_quarrels 19 = .ok (.getfield 33, 3) := dX10_quarrels_all0.2.2.2.2.2.2.2.2.2.2.1
theorem dX10_quarrels_22 : decode cX10_quarrels 22 = .ok (.iload_n 1, 1) := dX10_quarrels_all0.2.2.2.2.2.2.2.2.2.2.2
theorem dX10_quarrels_all1 : decode cX10_quarrels 23 = .ok (.aload_n 0, 1) ∧ decode cX10_quarrels 24 = .ok (.getfield 26, 3) ∧ decode cX10_quarrels 27 = .ok (.getfield 190, 3) ∧ decode cX10_quarrels 30 = .ok (.iload_n 1, 1) ∧ decode cX10_quarrels 31 = .ok (.iaload, 1) ∧ decode cX10_quarrels 32 = .ok (.iload_n 2, 1) ∧ decode cX10_quarrels 33 = .ok (.invokevirtual 196, 3) ∧ decode cX10_quarrels 36 = .ok (.ireturn, 1) := by decide +kernel
theorem dX10_quarrels_23 : decode cX10_quarrels 23 = .ok (.aload_n 0, 1) := dX10_quarrels_all1.1
theorem dX10_quarrels_24 : decode cX10_quarrels 24 = .ok (.getfield 26, 3) := dX10_quarrels_all1.2.1
theorem dX10_quarrels_27 : decode cX10_quarrels 27 = .ok (.getfield 190, 3) := dX10_quarrels_all1.2.2.1
theorem dX10_quarrels_30 : decode cX10_quarrels 30 = .ok (.iload_n 1, 1) := dX10_quarrels_all1.2.2.2.1
theorem dX10_quarrels_31 : decode cX10_quarrels 31 = .ok (.iaload, 1) := dX10_quarrels_all1.2.2.2.2.1
theorem dX10_quarrels_32 : decode cX10_quarrels 32 = .ok (.iload_n 2, 1) := dX10_quarrels_all1.2.2.2.2.2.1
theorem dX10_quarrels_33 : decode cX10_quarrels 33 = .ok (.invokevirtual 196, 3) := dX10_quarrels_all1.2.2.2.2.2.2.1
theorem dX10_quarrels_36 : decode cX10_quarrels 36 = .ok (.ireturn, 1) := dX10_quarrels_all1.2.2.2.2.2.2.2

/-- the papers' order names papers -/
def okO (pn : Int32) (pr : Nat → Int32) : Prop := ∀ j : Nat, (j : Int) < pn.toInt → 0 ≤ (pr j).toInt ∧ (pr j).toInt < pn.toInt
/-- .. but for the place at -/
def okP (pn a : Int32) (pr : Nat → Int32) : Prop := ∀ j : Nat, (j : Int) ≤ pn.toInt → ¬ (j : Int) = a.toInt → 0 ≤ (pr j).toInt ∧ (pr j).toInt < pn.toInt
theorem okO_at {pn : Int32} {pr : Nat → Int32} (h : okO pn pr) {v i : Int32} (e : v = pr i.toNatClampNeg) (h0 : 0 ≤ i.toInt) (h1 : i.toInt < pn.toInt) : 0 ≤ v.toInt ∧ v.toInt < pn.toInt := by
  have := i_cl h0
  rw [e]
  exact h _ (by omega)
theorem okP_at {pn a : Int32} {pr : Nat → Int32} (h : okP pn a pr) {v i : Int32} (e : v = pr i.toNatClampNeg) (h0 : 0 ≤ i.toInt) (h1 : i.toInt ≤ pn.toInt) (h2 : ¬ i.toInt = a.toInt) : 0 ≤ v.toInt ∧ v.toInt < pn.toInt := by
  have := i_cl h0
  rw [e]
  exact h _ (by omega) (by omega)
theorem okP_0 {pn : Int32} {pr : Nat → Int32} (h : okO pn pr) : okP pn pn pr := fun j h1 h2 => h j (by omega)
theorem okP_step {pn a b v w : Int32} {f : Nat → Int32} (h : okP pn a f) (hv : v = f w.toNatClampNeg) (hw : w.toInt = a.toInt - 1) (hb : b.toInt = a.toInt - 1) (h0 : 0 < a.toInt) (h1 : a.toInt ≤ pn.toInt) : okP pn b (upd f a.toNatClampNeg v) := by
  have ca := i_cl (x := a) (by omega)
  have hv' := okP_at h hv (by omega) (by omega) (by omega)
  intro j h2 h3
  by_cases hj : j = a.toNatClampNeg
  · subst hj; rw [upd_s]; exact hv'
  · rw [upd_n _ _ hj]; exact h j h2 (by omega)
theorem okP_end {pn a b : Int32} {f : Nat → Int32} (h : okP pn a f) (hb : b.toInt = pn.toInt + 1) (h0 : 0 ≤ a.toInt) (hp : 0 ≤ pn.toInt) : okO b (upd f a.toNatClampNeg pn) := by
  have ca := i_cl h0
  intro j h2
  by_cases hj : j = a.toNatClampNeg
  · subst hj; rw [upd_s]; omega
  · rw [upd_n _ _ hj]; have := h j (by omega) (by omega); omega


/-- one paper stands ahead of another -/
def lt3 (pd pe : Nat → Int32) (x y : Nat) : Prop := (pd x).toInt < (pd y).toInt ∨ ((pd x).toInt = (pd y).toInt ∧ ((pe x).toInt < (pe y).toInt ∨ ((pe x).toInt = (pe y).toInt ∧ x < y)))
/-- the order is by the days, and names every paper -/
def okW (pn : Int32) (pr pd pe : Nat → Int32) : Prop := (∀ i j : Nat, i < j → (j : Int) < pn.toInt → lt3 pd pe (pr i).toNatClampNeg (pr j).toNatClampNeg) ∧ (∀ x : Nat, (x : Int) < pn.toInt → ∃ j : Nat, (j : Int) < pn.toInt ∧ (pr j).toNatClampNeg = x)
/-- the places from a on have gone one up, and what stood there is P -/
def shf (pn a : Int32) (pr f : Nat → Int32) (P : Nat → Prop) : Prop := (∀ j : Nat, (j : Int) < a.toInt → f j = pr j) ∧ (∀ j : Nat, a.toInt ≤ (j : Int) → (j : Int) < pn.toInt → f (j + 1) = pr j) ∧ (∀ j : Nat, a.toInt ≤ (j : Int) → (j : Int) < pn.toInt → P j)
theorem shf_0 {pn : Int32} {pr : Nat → Int32} {P : Nat → Prop} : shf pn pn pr pr P := ⟨fun _ _ => rfl, fun j h1 h2 => absurd h2 (by omega), fun j h1 h2 => absurd h2 (by omega)⟩
theorem shf_step {pn a b v w : Int32} {pr f : Nat → Int32} {P : Nat → Prop} (h : shf pn a pr f P) (hv : v = f w.toNatClampNeg) (hw : w.toInt = a.toInt - 1) (hb : b.toInt = a.toInt - 1) (h0 : 0 < a.toInt) (h1 : a.toInt ≤ pn.toInt) (hP : v = pr w.toNatClampNeg → P w.toNatClampNeg) : shf pn b pr (upd f a.toNatClampNeg v) P := by
  have ca := i_cl (x := a) (by omega)
  have cw := i_cl (x := w) (by omega)
  have e := h.1 w.toNatClampNeg (by omega)
  refine ⟨fun j hj => ?_, fun j h2 h3 => ?_, fun j h2 h3 => ?_⟩
  · rw [upd_n _ _ (by omega)]; exact h.1 j (by omega)
  · by_cases ej : j + 1 = a.toNatClampNeg
    · rw [ej, upd_s, hv, e]; congr 1; omega
    · rw [upd_n _ _ ej]; exact h.2.1 j (by omega) h3
  · by_cases ej : j + 1 = a.toNatClampNeg
    · rw [show j = w.toNatClampNeg by omega]; exact hP (hv.trans e)
    · exact h.2.2 j (by omega) h3
theorem okW_ins {pn a b xa xb : Int32} {pr f pd pe : Nat → Int32} {P : Nat → Prop} (ho : okO pn pr) (h : shf pn a pr f P) (hb : b.toInt = pn.toInt + 1) (h0 : 0 ≤ a.toInt) (h1 : a.toInt ≤ pn.toInt) (hp : 0 ≤ pn.toInt) (hP : ∀ j, P j → lt3 (upd pd pn.toNatClampNeg xa) (upd pe pn.toNatClampNeg xb) pn.toNatClampNeg (pr j).toNatClampNeg) (he : ∀ j : Nat, (j : Int) + 1 = a.toInt → lt3 (upd pd pn.toNatClampNeg xa) (upd pe pn.toNatClampNeg xb) (pr j).toNatClampNeg pn.toNatClampNeg) (hq : okW pn pr pd pe) : okW b (upd f a.toNatClampNeg pn) (upd pd pn.toNatClampNeg xa) (upd pe pn.toNatClampNeg xb) := by
  have ca := i_cl h0
  have cp := i_cl hp
  obtain ⟨s1, s2, s3⟩ := h
  have lo : ∀ j : Nat, (j : Int) < pn.toInt → (pr j).toNatClampNeg < pn.toNatClampNeg := fun j hj => by
    have := ho j hj
    have := i_cl this.1
    omega
  have old : ∀ i j : Nat, i < j → (j : Int) < pn.toInt → lt3 (upd pd pn.toNatClampNeg xa) (upd pe pn.toNatClampNeg xb) (pr i).toNatClampNeg (pr j).toNatClampNeg := fun i j hij hj => by
    have l1 := lo i (by omega)
    have l2 := lo j hj
    have := hq.1 i j hij hj
    unfold lt3 at this ⊢
    rw [upd_n _ _ (by omega), upd_n _ _ (by omega), upd_n _ _ (by omega), upd_n _ _ (by omega)]
    exact this
  have lo2 : ∀ i : Nat, (i : Int) < a.toInt → lt3 (upd pd pn.toNatClampNeg xa) (upd pe pn.toNatClampNeg xb) (pr i).toNatClampNeg pn.toNatClampNeg := fun i hi => by
    have e9 := he (a.toNatClampNeg - 1) (by omega)
    by_cases e : i = a.toNatClampNeg - 1
    · rw [e]; exact e9
    · have o9 := old i (a.toNatClampNeg - 1) (by omega) (by omega)
      unfold lt3 at *
      omega
  refine ⟨fun i j hij hj => ?_, fun x hx => ?_⟩
  · by_cases ei : i = a.toNatClampNeg
    · subst ei
      rw [upd_s, upd_n _ _ (by omega)]
      obtain ⟨j', rfl⟩ : ∃ j', j = j' + 1 := ⟨j - 1, by omega⟩
      rw [s2 j' (by omega) (by omega)]
      exact hP j' (s3 j' (by omega) (by omega))
    · rw [upd_n _ _ ei]
      by_cases ej : j = a.toNatClampNeg
      · subst ej
        rw [upd_s, s1 i (by omega)]
        exact lo2 i (by omega)
      · rw [upd_n _ _ ej]
        by_cases ji : (j : Int) < a.toInt
        · rw [s1 i (by omega), s1 j ji]
          exact old i j hij (by omega)
        · obtain ⟨j', rfl⟩ : ∃ j', j = j' + 1 := ⟨j - 1, by omega⟩
          rw [s2 j' (by omega) (by omega)]
          by_cases ii : (i : Int) < a.toInt
          · rw [s1 i ii]
            exact old i j' (by omega) (by omega)
          · obtain ⟨i', rfl⟩ : ∃ i', i = i' + 1 := ⟨i - 1, by omega⟩
            rw [s2 i' (by omega) (by omega)]
            exact old i' j' (by omega) (by omega)
  · by_cases ex : x = pn.toNatClampNeg
    · exact ⟨a.toNatClampNeg, by omega, by rw [upd_s, ex]⟩
    · obtain ⟨j, hj, e⟩ := hq.2 x (by omega)
      by_cases ja : (j : Int) < a.toInt
      · exact ⟨j, by omega, by rw [upd_n _ _ (by omega), s1 j ja, e]⟩
      · exact ⟨j + 1, by omega, by rw [upd_n _ _ (by omega), s2 j (by omega) hj, e]⟩
/-- the owner by the papers in their order -/
def owV (pk pf po pd pe pr : Nat → Int32) (k d n x : Int32) : Nat → Int32
  | 0 => x
  | m + 1 => if (pk (pr m).toNatClampNeg).toInt = k.toInt ∧ (pe (pr m).toNatClampNeg).toInt ≤ n.toInt ∧ (pd (pr m).toNatClampNeg).toInt ≤ d.toInt ∧ (pf (pr m).toNatClampNeg).toInt = (owV pk pf po pd pe pr k d n x m).toInt then po (pr m).toNatClampNeg else owV pk pf po pd pe pr k d n x m
theorem owV_s (pk pf po pd pe pr : Nat → Int32) (k d n x : Int32) (m : Nat) : owV pk pf po pd pe pr k d n x (m + 1) = if (pk (pr m).toNatClampNeg).toInt = k.toInt ∧ (pe (pr m).toNatClampNeg).toInt ≤ n.toInt ∧ (pd (pr m).toNatClampNeg).toInt ≤ d.toInt ∧ (pf (pr m).toNatClampNeg).toInt = (owV pk pf po pd pe pr k d n x m).toInt then po (pr m).toNatClampNeg else owV pk pf po pd pe pr k d n x m := rfl
/-- the owner by all papers known, and how many are not good -/
def ngV (pk pf po pe pr : Nat → Int32) (k n x : Int32) : Nat → Int32 × Int32
  | 0 => (x, 0)
  | m + 1 => if (pk (pr m).toNatClampNeg).toInt = k.toInt ∧ (pe (pr m).toNatClampNeg).toInt ≤ n.toInt then (if (pf (pr m).toNatClampNeg).toInt = (ngV pk pf po pe pr k n x m).1.toInt then (po (pr m).toNatClampNeg, (ngV pk pf po pe pr k n x m).2) else ((ngV pk pf po pe pr k n x m).1, (ngV pk pf po pe pr k n x m).2 + 1)) else ngV pk pf po pe pr k n x m
theorem ngV_s (pk pf po pe pr : Nat → Int32) (k n x : Int32) (m : Nat) : ngV pk pf po pe pr k n x (m + 1) = if (pk (pr m).toNatClampNeg).toInt = k.toInt ∧ (pe (pr m).toNatClampNeg).toInt ≤ n.toInt then (if (pf (pr m).toNatClampNeg).toInt = (ngV pk pf po pe pr k n x m).1.toInt then (po (pr m).toNatClampNeg, (ngV pk pf po pe pr k n x m).2) else ((ngV pk pf po pe pr k n x m).1, (ngV pk pf po pe pr k n x m).2 + 1)) else ngV pk pf po pe pr k n x m := rfl
def sp_owner (cn pn : Int32) (fo pk pf po pd pe pr : Nat → Int32) (k d n : Int32) : Int32 := if 0 ≤ k.toInt ∧ k.toInt < cn.toInt ∧ 0 ≤ d.toInt ∧ d.toInt < 10000 ∧ 0 ≤ n.toInt ∧ n.toInt < 10000 then owV pk pf po pd pe pr k d n (fo k.toNatClampNeg) pn.toNatClampNeg else -1000001
def sp_quarrels (cn pn : Int32) (fo pk pf po pe pr : Nat → Int32) (k n : Int32) : Int32 := if 0 ≤ k.toInt ∧ k.toInt < cn.toInt ∧ 0 ≤ n.toInt ∧ n.toInt < 10000 then (ngV pk pf po pe pr k n (fo k.toNatClampNeg) pn.toNatClampNeg).2 else -1000001

set_option maxHeartbeats 4000000 in
set_option maxRecDepth 100000 in
theorem ct_X7_isAhead (l : Launch) (D : va_G) (cI cY cJ cQ : ClassId) (sz : Nat) (ad : Nat → Nat) (pn : Int32) (pd pe : Nat → Int32) (x : Int32) (y : Int32)  (h1 : 0 ≤ x.toInt) (h2 : x.toInt < 40) (h3 : 0 ≤ y.toInt) (h4 : y.toInt < 40)  : Met l yX7_isAhead wsX7_isAhead ({ frames := 0, cells := 0, slots := 0, locals := 0 }) (cPre D (ty4 cI cY cJ cQ) [(oC7 ad pn), (aI cI (ad 39) 40 pd), (aI cI (ad 40) 40 pe)] sz [.ref (ad 4), .int x, .int y]) (va_Qi (fun (r : Int32) (u : Unit) => r = if ((pd x.toNatClampNeg).toInt < (pd y.toNatClampNeg).toInt ∨ ((pd x.toNatClampNeg).toInt = (pd y.toNatClampNeg).toInt ∧ (pe x.toNatClampNeg).toInt < (pe y.toNatClampNeg).toInt)) then 1 else 0) (cB D (ty4 cI cY cJ cQ) (fun (u : Unit) => [(oC7 ad pn), (aI cI (ad 39) 40 pd), (aI cI (ad 40) 40 pe)]) (va_A [(oC7 ad pn), (aI cI (ad 39) 40 pd), (aI cI (ad 40) 40 pe)] sz)) (va_A [(oC7 ad pn), (aI cI (ad 39) 40 pd), (aI cI (ad 40) 40 pe)] sz)) 0 0 (va_A [(oC7 ad pn), (aI cI (ad 39) 40 pd), (aI cI (ad 40) 40 pe)] sz) := by
  refine Met.ofW (cc := cX7_isAhead) (maxL := 3) (ret := (some .boolean)) (by decide) rfl ?_
  intro p e s m args below meth c s₁ B hml hv
  obtain ⟨rfl, hsz, hP, hK, hD0, hN⟩ := hv
  have hx := B.exec
  have hb := B.bytes
  have hr := B.returns
  have hts := atoms_spec (ws := wsX7_isAhead) B.pre
  have hown : s.vm.findClass RX7 = some m.cls := findClass_of_methodNamed B.named
  have hlocks := B.notSynchronized
  subst hsz
  have hD := hD0.self (sz := s.heap.size)
  generalize hAe : va_A [(oC7 ad pn), (aI cI (ad 39) 40 pd), (aI cI (ad 40) 40 pe)] s.heap.size = A at hD ⊢
  have hA : ∀ q : Nat, s.heap.size ≤ q → A q := fun q h => by rw [← hAe]; exact Or.inr h
  have hS : va_S A s.heap s.heap [] := va_S.rf
  have hP : va_P D vwCl [(oC7 ad pn), (aI cI (ad 39) 40 pd), (aI cI (ad 40) 40 pe)] s.heap := hP
  have hl := lv_entry ([.ref (ad 4), .int x, .int y]) (n := 3) (Nat.le_of_ble_eq_true rfl)
  rw [lg_entry_eq]
  generalize (lg_sl ([.ref (ad 4), .int x, .int y]) ++ List.replicate (3 - (lg_sl ([.ref (ad 4), .int x, .int y])).length) Slot.unset).toArray = ls at hl ⊢
  have hl : lv_has ls 3 [(0, .ref (ad 4)), (1, .int x), (2, .int y)] := hl
  refine lv_aload_n hx hb dX7_isAhead_0 rfl (lv_at hl 0 rfl) ?_
  refine va_get (D := D) (ci := 7) (v := .ref (ad 39)) (C := RX7) (T := TX7) (N := 7) hx hb hts inX7_isAhead_X7 hown hK hP 0 rfl rfl 3 (by decide) (hts (Cond.fieldLink RX7 21 "PortRooms$Papers" "said" "[I") (wm_t (wm_l (wm_i 0 rfl)))) (fun _ h9 => h9) rfl dX7_isAhead_1 ?_
  refine lv_iload_n hx hb dX7_isAhead_4 rfl (lv_at hl 1 rfl) ?_
  refine va_iald hx hb hK hP 1 0 rfl rfl (i_in (by omega) (by omega)) dX7_isAhead_5 ?_
  refine lv_topi (fun v1 ev1 => ?_)
  have tlv1 : v1.toInt = (pd x.toNatClampNeg).toInt := by rw [ev1]
  refine lv_aload_n hx hb dX7_isAhead_6 rfl (lv_at hl 0 rfl) ?_
  refine va_get (D := D) (ci := 7) (v := .ref (ad 39)) (C := RX7) (T := TX7) (N := 7) hx hb hts inX7_isAhead_X7 hown hK hP 0 rfl rfl 3 (by decide) (hts (Cond.fieldLink RX7 21 "PortRooms$Papers" "said" "[I") (wm_t (wm_l (wm_i 0 rfl)))) (fun _ h9 => h9) rfl dX7_isAhead_7 ?_
  refine lv_iload_n hx hb dX7_isAhead_10 rfl (lv_at hl 2 rfl) ?_
  refine va_iald hx hb hK hP 1 0 rfl rfl (i_in (by omega) (by omega)) dX7_isAhead_11 ?_
  refine lv_topi (fun v2 ev2 => ?_)
  have tlv2 : v2.toInt = (pd y.toNatClampNeg).toInt := by rw [ev2]
  refine lv_icmp_lt (tgt := 45) hx hb dX7_isAhead_12 (by decide) (fun c3 => ?_) (fun c3 => ?_)
  · skip
    have f4 := i_lt c3
    refine lv_iconst (v := 1) hx hb dX7_isAhead_45 (by decide) ?_
    refine lv_goto (tgt := 50) hx hb dX7_isAhead_46 (by decide) ?_
    have hP9 := hP
    have hD9 := hD
    exact W.zret (v := 1) hx hb hr rfl (fun t ht hW => ⟨⟨1, (), rfl, bo_yes (by omega), by rw [ht]; exact hP9, va_K.moved hW.alike hK, hD9⟩, hS.F ht⟩) hS.2.2 dX7_isAhead_50
  · skip
    have f5 := i_nlt c3
    refine lv_aload_n hx hb dX7_isAhead_15 rfl (lv_at hl 0 rfl) ?_
    refine va_get (D := D) (ci := 7) (v := .ref (ad 39)) (C := RX7) (T := TX7) (N := 7) hx hb hts inX7_isAhead_X7 hown hK hP 0 rfl rfl 3 (by decide) (hts (Cond.fieldLink RX7 21 "PortRooms$Papers" "said" "[I") (wm_t (wm_l (wm_i 0 rfl)))) (fun _ h9 => h9) rfl dX7_isAhead_16 ?_
    refine lv_iload_n hx hb dX7_isAhead_19 rfl (lv_at hl 1 rfl) ?_
    refine va_iald hx hb hK hP 1 0 rfl rfl (i_in (by omega) (by omega)) dX7_isAhead_20 ?_
    refine lv_topi (fun v6 ev6 => ?_)
    have tlv6 : v6.toInt = (pd x.toNatClampNeg).toInt := by rw [ev6]
    refine lv_aload_n hx hb dX7_isAhead_21 rfl (lv_at hl 0 rfl) ?_
    refine va_get (D := D) (ci := 7) (v := .ref (ad 39)) (C := RX7) (T := TX7) (N := 7) hx hb hts inX7_isAhead_X7 hown hK hP 0 rfl rfl 3 (by decide) (hts (Cond.fieldLink RX7 21 "PortRooms$Papers" "said" "[I") (wm_t (wm_l (wm_i 0 rfl)))) (fun _ h9 => h9) rfl dX7_isAhead_22 ?_
    refine lv_iload_n hx hb dX7_isAhead_25 rfl (lv_at hl 2 rfl) ?_
    refine va_iald hx hb hK hP 1 0 rfl rfl (i_in (by omega) (by omega)) dX7_isAhead_26 ?_
    refine lv_topi (fun v7 ev7 => ?_)
    have tlv7 : v7.toInt = (pd y.toNatClampNeg).toInt := by rw [ev7]
    refine lv_icmp_ne (tgt := 49) hx hb dX7_isAhead_27 (by decide) (fun c8 => ?_) (fun c8 => ?_)
    · skip
      have f9 := i_ne c8
      refine lv_iconst (v := 0) hx hb dX7_isAhead_49 (by decide) ?_
      have hP9 := hP
      have hD9 := hD
      exact W.zret (v := 0) hx hb hr rfl (fun t ht hW => ⟨⟨0, (), rfl, bo_no (by omega), by rw [ht]; exact hP9, va_K.moved hW.alike hK, hD9⟩, hS.F ht⟩) hS.2.2 dX7_isAhead_50
    · skip
      have f10 := i_eq c8
      refine lv_aload_n hx hb dX7_isAhead_30 rfl (lv_at hl 0 rfl) ?_
      refine va_get (D := D) (ci := 7) (v := .ref (ad 40)) (C := RX7) (T := TX7) (N := 7) hx hb hts inX7_isAhead_X7 hown hK hP 0 rfl rfl 4 (by decide) (hts (Cond.fieldLink RX7 24 "PortRooms$Papers" "filed" "[I") (wm_t (wm_l (wm_i 1 rfl)))) (fun _ h9 => h9) rfl dX7_isAhead_31 ?_
      refine lv_iload_n hx hb dX7_isAhead_34 rfl (lv_at hl 1 rfl) ?_
      refine va_iald hx hb hK hP 2 0 rfl rfl (i_in (by omega) (by omega)) dX7_isAhead_35 ?_
      refine lv_topi (fun v11 ev11 => ?_)
      have tlv11 : v11.toInt = (pe x.toNatClampNeg).toInt := by rw [ev11]
      refine lv_aload_n hx hb dX7_isAhead_36 rfl (lv_at hl 0 rfl) ?_
      refine va_get (D := D) (ci := 7) (v := .ref (ad 40)) (C := RX7) (T := TX7) (N := 7) hx hb hts inX7_isAhead_X7 hown hK hP 0 rfl rfl 4 (by decide) (hts (Cond.fieldLink RX7 24 "PortRooms$Papers" "filed" "[I") (wm_t (wm_l (wm_i 1 rfl)))) (fun _ h9 => h9) rfl dX7_isAhead_37 ?_
      refine lv_iload_n hx hb dX7_isAhead_40 rfl (lv_at hl 2 rfl) ?_
      refine va_iald hx hb hK hP 2 0 rfl rfl (i_in (by omega) (by omega)) dX7_isAhead_41 ?_
      refine lv_topi (fun v12 ev12 => ?_)
      have tlv12 : v12.toInt = (pe y.toNatClampNeg).toInt := by rw [ev12]
      refine lv_icmp_ge (tgt := 49) hx hb dX7_isAhead_42 (by decide) (fun c13 => ?_) (fun c13 => ?_)
      · skip
        have f14 := i_le c13
        refine lv_iconst (v := 0) hx hb dX7_isAhead_49 (by decide) ?_
        have hP9 := hP
        have hD9 := hD
        exact W.zret (v := 0) hx hb hr rfl (fun t ht hW => ⟨⟨0, (), rfl, bo_no (by omega), by rw [ht]; exact hP9, va_K.moved hW.alike hK, hD9⟩, hS.F ht⟩) hS.2.2 dX7_isAhead_50
      · skip
        have f15 := i_nle c13
        refine lv_iconst (v := 1) hx hb dX7_isAhead_45 (by decide) ?_
        refine lv_goto (tgt := 50) hx hb dX7_isAhead_46 (by decide) ?_
        have hP9 := hP
        have hD9 := hD
        exact W.zret (v := 1) hx hb hr rfl (fun t ht hW => ⟨⟨1, (), rfl, bo_yes (by omega), by rw [ht]; exact hP9, va_K.moved hW.alike hK, hD9⟩, hS.F ht⟩) hS.2.2 dX7_isAhead_50

set_option maxHeartbeats 4000000 in
set_option maxRecDepth 100000 in
theorem ct_X7_isKnown (l : Launch) (D : va_G) (cI cY cJ cQ : ClassId) (sz : Nat) (ad : Nat → Nat) (pn : Int32) (pk pe : Nat → Int32) (x : Int32) (k : Int32) (d : Int32)  (h1 : 0 ≤ x.toInt) (h2 : x.toInt < 40)  : Met l yX7_isKnown wsX7_isKnown ({ frames := 0, cells := 0, slots := 0, locals := 0 }) (cPre D (ty4 cI cY cJ cQ) [(oC7 ad pn), (aI cI (ad 36) 40 pk), (aI cI (ad 40) 40 pe)] sz [.ref (ad 4), .int x, .int k, .int d]) (va_Qi (fun (r : Int32) (u : Unit) => r = if (pk x.toNatClampNeg).toInt = k.toInt ∧ (pe x.toNatClampNeg).toInt ≤ d.toInt then 1 else 0) (cB D (ty4 cI cY cJ cQ) (fun (u : Unit) => [(oC7 ad pn), (aI cI (ad 36) 40 pk), (aI cI (ad 40) 40 pe)]) (va_A [(oC7 ad pn), (aI cI (ad 36) 40 pk), (aI cI (ad 40) 40 pe)] sz)) (va_A [(oC7 ad pn), (aI cI (ad 36) 40 pk), (aI cI (ad 40) 40 pe)] sz)) 0 0 (va_A [(oC7 ad pn), (aI cI (ad 36) 40 pk), (aI cI (ad 40) 40 pe)] sz) := by
  refine Met.ofW (cc := cX7_isKnown) (maxL := 4) (ret := (some .boolean)) (by decide) rfl ?_
  intro p e s m args below meth c s₁ B hml hv
  obtain ⟨rfl, hsz, hP, hK, hD0, hN⟩ := hv
  have hx := B.exec
  have hb := B.bytes
  have hr := B.returns
  have hts := atoms_spec (ws := wsX7_isKnown) B.pre
  have hown : s.vm.findClass RX7 = some m.cls := findClass_of_methodNamed B.named
  have hlocks := B.notSynchronized
  subst hsz
  have hD := hD0.self (sz := s.heap.size)
  generalize hAe : va_A [(oC7 ad pn), (aI cI (ad 36) 40 pk), (aI cI (ad 40) 40 pe)] s.heap.size = A at hD ⊢
  have hA : ∀ q : Nat, s.heap.size ≤ q → A q := fun q h => by rw [← hAe]; exact Or.inr h
  have hS : va_S A s.heap s.heap [] := va_S.rf
  have hP : va_P D vwCl [(oC7 ad pn), (aI cI (ad 36) 40 pk), (aI cI (ad 40) 40 pe)] s.heap := hP
  have hl := lv_entry ([.ref (ad 4), .int x, .int k, .int d]) (n := 4) (Nat.le_of_ble_eq_true rfl)
  rw [lg_entry_eq]
  generalize (lg_sl ([.ref (ad 4), .int x, .int k, .int d]) ++ List.replicate (4 - (lg_sl ([.ref (ad 4), .int x, .int k, .int d])).length) Slot.unset).toArray = ls at hl ⊢
  have hl : lv_has ls 4 [(0, .ref (ad 4)), (1, .int x), (2, .int k), (3, .int d)] := hl
  refine lv_aload_n hx hb dX7_isKnown_0 rfl (lv_at hl 0 rfl) ?_
  refine va_get (D := D) (ci := 7) (v := .ref (ad 36)) (C := RX7) (T := TX7) (N := 7) hx hb hts inX7_isKnown_X7 hown hK hP 0 rfl rfl 0 (by decide) (hts (Cond.fieldLink RX7 9 "PortRooms$Papers" "crate" "[I") (wm_t (wm_l (wm_i 0 rfl)))) (fun _ h9 => h9) rfl dX7_isKnown_1 ?_
  refine lv_iload_n hx hb dX7_isKnown_4 rfl (lv_at hl 1 rfl) ?_
  refine va_iald hx hb hK hP 1 0 rfl rfl (i_in (by omega) (by omega)) dX7_isKnown_5 ?_
  refine lv_topi (fun v1 ev1 => ?_)
  have tlv1 : v1.toInt = (pk x.toNatClampNeg).toInt := by rw [ev1]
  refine lv_iload_n hx hb dX7_isKnown_6 rfl (lv_at hl 2 rfl) ?_
  refine lv_icmp_ne (tgt := 24) hx hb dX7_isKnown_7 (by decide) (fun c2 => ?_) (fun c2 => ?_)
  · skip
    have f3 := i_ne c2
    refine lv_iconst (v := 0) hx hb dX7_isKnown_24 (by decide) ?_
    have hP9 := hP
    have hD9 := hD
    exact W.zret (v := 0) hx hb hr rfl (fun t ht hW => ⟨⟨0, (), rfl, bo_no (by omega), by rw [ht]; exact hP9, va_K.moved hW.alike hK, hD9⟩, hS.F ht⟩) hS.2.2 dX7_isKnown_25
  · skip
    have f4 := i_eq c2
    refine lv_aload_n hx hb dX7_isKnown_10 rfl (lv_at hl 0 rfl) ?_
    refine va_get (D := D) (ci := 7) (v := .ref (ad 40)) (C := RX7) (T := TX7) (N := 7) hx hb hts inX7_isKnown_X7 hown hK hP 0 rfl rfl 4 (by decide) (hts (Cond.fieldLink RX7 24 "PortRooms$Papers" "filed" "[I") (wm_t (wm_l (wm_i 1 rfl)))) (fun _ h9 => h9) rfl dX7_isKnown_11 ?_
    refine lv_iload_n hx hb dX7_isKnown_14 rfl (lv_at hl 1 rfl) ?_
    refine va_iald hx hb hK hP 2 0 rfl rfl (i_in (by omega) (by omega)) dX7_isKnown_15 ?_
    refine lv_topi (fun v5 ev5 => ?_)
    have tlv5 : v5.toInt = (pe x.toNatClampNeg).toInt := by rw [ev5]
    refine lv_iload_n hx hb dX7_isKnown_16 rfl (lv_at hl 3 rfl) ?_
    refine lv_icmp_gt (tgt := 24) hx hb dX7_isKnown_17 (by decide) (fun c6 => ?_) (fun c6 => ?_)
    · skip
      have f7 := i_lt c6
      refine lv_iconst (v := 0) hx hb dX7_isKnown_24 (by decide) ?_
      have hP9 := hP
      have hD9 := hD
      exact W.zret (v := 0) hx hb hr rfl (fun t ht hW => ⟨⟨0, (), rfl, bo_no (by omega), by rw [ht]; exact hP9, va_K.moved hW.alike hK, hD9⟩, hS.F ht⟩) hS.2.2 dX7_isKnown_25
    · skip
      have f8 := i_nlt c6
      refine lv_iconst (v := 1) hx hb dX7_isKnown_20 (by decide) ?_
      refine lv_goto (tgt := 25) hx hb dX7_isKnown_21 (by decide) ?_
      have hP9 := hP
      have hD9 := hD
      exact W.zret (v := 1) hx hb hr rfl (fun t ht hW => ⟨⟨1, (), rfl, bo_yes (by omega), by rw [ht]; exact hP9, va_K.moved hW.alike hK, hD9⟩, hS.F ht⟩) hS.2.2 dX7_isKnown_25

set_option maxHeartbeats 4000000 in
set_option maxRecDepth 100000 in
theorem ct_X7_tell (l : Launch) (D : va_G) (cI cY cJ cQ : ClassId) (sz : Nat) (ad : Nat → Nat) (pn : Int32) (pk pf po pd pe pr : Nat → Int32) (k : Int32) (x : Int32) (y : Int32) (a : Int32) (b : Int32)  (h1 : 0 ≤ pn.toInt) (h2 : pn.toInt < 40) (h3 : okO pn pr)  : Met l yX7_tell wsX7_tell ({ frames := 1, cells := 0, slots := 0, locals := 22 }) (cPre D (ty4 cI cY cJ cQ) [(oC7 ad pn), (aI cI (ad 36) 40 pk), (aI cI (ad 37) 40 pf), (aI cI (ad 38) 40 po), (aI cI (ad 39) 40 pd), (aI cI (ad 40) 40 pe), (aI cI (ad 41) 40 pr)] sz [.ref (ad 4), .int k, .int x, .int y, .int a, .int b]) (va_Qi (fun (r : Int32) (u : (Nat → Int32)) => r = pn + 1 ∧ okO (pn + 1) u ∧ (okW pn pr pd pe → okW (pn + 1) u (upd pd pn.toNatClampNeg a) (upd pe pn.toNatClampNeg b))) (cB D (ty4 cI cY cJ cQ) (fun (u : (Nat → Int32)) => [(oC7 ad (pn + 1)), (aI cI (ad 36) 40 (upd pk pn.toNatClampNeg k)), (aI cI (ad 37) 40 (upd pf pn.toNatClampNeg x)), (aI cI (ad 38) 40 (upd po pn.toNatClampNeg y)), (aI cI (ad 39) 40 (upd pd pn.toNatClampNeg a)), (aI cI (ad 40) 40 (upd pe pn.toNatClampNeg b)), (aI cI (ad 41) 40 u)]) (va_A [(oC7 ad pn), (aI cI (ad 36) 40 pk), (aI cI (ad 37) 40 pf), (aI cI (ad 38) 40 po), (aI cI (ad 39) 40 pd), (aI cI (ad 40) 40 pe), (aI cI (ad 41) 40 pr)] sz)) (va_A [(oC7 ad pn), (aI cI (ad 36) 40 pk), (aI cI (ad 37) 40 pf), (aI cI (ad 38) 40 po), (aI cI (ad 39) 40 pd), (aI cI (ad 40) 40 pe), (aI cI (ad 41) 40 pr)] sz)) 0 0 (va_A [(oC7 ad pn), (aI cI (ad 36) 40 pk), (aI cI (ad 37) 40 pf), (aI cI (ad 38) 40 po), (aI cI (ad 39) 40 pd), (aI cI (ad 40) 40 pe), (aI cI (ad 41) 40 pr)] sz) := by
  refine Met.ofW (cc := cX7_tell) (maxL := 7) (ret := (some .int)) (by decide) rfl ?_
  intro p e s m args below meth c s₁ B hml hv
  obtain ⟨rfl, hsz, hP, hK, hD0, hN⟩ := hv
  have hx := B.exec
  have hb := B.bytes
  have hr := B.returns
  have hts := atoms_spec (ws := wsX7_tell) B.pre
  have hown : s.vm.findClass RX7 = some m.cls := findClass_of_methodNamed B.named
  have hlocks := B.notSynchronized
  subst hsz
  have hD := hD0.self (sz := s.heap.size)
  generalize hAe : va_A [(oC7 ad pn), (aI cI (ad 36) 40 pk), (aI cI (ad 37) 40 pf), (aI cI (ad 38) 40 po), (aI cI (ad 39) 40 pd), (aI cI (ad 40) 40 pe), (aI cI (ad 41) 40 pr)] s.heap.size = A at hD ⊢
  have hA : ∀ q : Nat, s.heap.size ≤ q → A q := fun q h => by rw [← hAe]; exact Or.inr h
  have hS : va_S A s.heap s.heap [] := va_S.rf
  have hP : va_P D vwCl [(oC7 ad pn), (aI cI (ad 36) 40 pk), (aI cI (ad 37) 40 pf), (aI cI (ad 38) 40 po), (aI cI (ad 39) 40 pd), (aI cI (ad 40) 40 pe), (aI cI (ad 41) 40 pr)] s.heap := hP
  have hl := lv_entry ([.ref (ad 4), .int k, .int x, .int y, .int a, .int b]) (n := 7) (Nat.le_of_ble_eq_true rfl)
  rw [lg_entry_eq]
  generalize (lg_sl ([.ref (ad 4), .int k, .int x, .int y, .int a, .int b]) ++ List.replicate (7 - (lg_sl ([.ref (ad 4), .int k, .int x, .int y, .int a, .int b])).length) Slot.unset).toArray = ls at hl ⊢
  have hl : lv_has ls 7 [(0, .ref (ad 4)), (1, .int k), (2, .int x), (3, .int y), (4, .int a), (5, .int b)] := hl
  have km1 : (-1 : Int32).toInt = -1 := by decide
  have k0 : (0 : Int32).toInt = 0 := by decide
  have k1 : (1 : Int32).toInt = 1 := by decide
  refine lv_aload_n hx hb dX7_tell_0 rfl (lv_at hl 0 rfl) ?_
  refine va_get (D := D) (ci := 7) (v := .ref (ad 36)) (C := RX7) (T := TX7) (N := 7) hx hb hts inX7_tell_X7 hown hK hP 0 rfl rfl 0 (by decide) (hts (Cond.fieldLink RX7 9 "PortRooms$Papers" "crate" "[I") (wm_t (wm_l (wm_i 0 rfl)))) (fun _ h9 => h9) rfl dX7_tell_1 ?_
  refine lv_aload_n hx hb dX7_tell_4 rfl (lv_at hl 0 rfl) ?_
  refine va_get (D := D) (ci := 7) (v := .int pn) (C := RX7) (T := TX7) (N := 7) hx hb hts inX7_tell_X7 hown hK hP 0 rfl rfl 6 (by decide) (hts (Cond.fieldLink RX7 30 "PortRooms$Papers" "count" "I") (wm_t (wm_l (wm_i 1 rfl)))) (fun _ h9 => h9) rfl dX7_tell_5 ?_
  refine lv_iload_n hx hb dX7_tell_8 rfl (lv_at hl 1 rfl) ?_
  refine va_iast hx hb hK hP hD hS 1 0 rfl rfl (i_in (by omega) (by omega)) dX7_tell_9 (fun H locs => ?_)
  clear hP hD hS
  intro hP hD hS
  replace hP : va_P D vwCl [(oC7 ad pn), (aI cI (ad 36) 40 (upd pk pn.toNatClampNeg k)), (aI cI (ad 37) 40 pf), (aI cI (ad 38) 40 po), (aI cI (ad 39) 40 pd), (aI cI (ad 40) 40 pe), (aI cI (ad 41) 40 pr)] H := hP
  replace hD : va_D A [(oC7 ad pn), (aI cI (ad 36) 40 (upd pk pn.toNatClampNeg k)), (aI cI (ad 37) 40 pf), (aI cI (ad 38) 40 po), (aI cI (ad 39) 40 pd), (aI cI (ad 40) 40 pe), (aI cI (ad 41) 40 pr)] := hD
  refine lv_aload_n hx hb dX7_tell_10 rfl (lv_at hl 0 rfl) ?_
  refine va_get (D := D) (ci := 7) (v := .ref (ad 37)) (C := RX7) (T := TX7) (N := 7) hx hb hts inX7_tell_X7 hown hK hP 0 rfl rfl 1 (by decide) (hts (Cond.fieldLink RX7 15 "PortRooms$Papers" "from" "[I") (wm_t (wm_l (wm_i 2 rfl)))) (fun _ h9 => h9) rfl dX7_tell_11 ?_
  refine lv_aload_n hx hb dX7_tell_14 rfl (lv_at hl 0 rfl) ?_
  refine va_get (D := D) (ci := 7) (v := .int pn) (C := RX7) (T := TX7) (N := 7) hx hb hts inX7_tell_X7 hown hK hP 0 rfl rfl 6 (by decide) (hts (Cond.fieldLink RX7 30 "PortRooms$Papers" "count" "I") (wm_t (wm_l (wm_i 1 rfl)))) (fun _ h9 => h9) rfl dX7_tell_15 ?_
  refine lv_iload_n hx hb dX7_tell_18 rfl (lv_at hl 2 rfl) ?_
  refine va_iast hx hb hK hP hD hS 2 0 rfl rfl (i_in (by omega) (by omega)) dX7_tell_19 (fun H locs => ?_)
  clear hP hD hS
  intro hP hD hS
  replace hP : va_P D vwCl [(oC7 ad pn), (aI cI (ad 36) 40 (upd pk pn.toNatClampNeg k)), (aI cI (ad 37) 40 (upd pf pn.toNatClampNeg x)), (aI cI (ad 38) 40 po), (aI cI (ad 39) 40 pd), (aI cI (ad 40) 40 pe), (aI cI (ad 41) 40 pr)] H := hP
  replace hD : va_D A [(oC7 ad pn), (aI cI (ad 36) 40 (upd pk pn.toNatClampNeg k)), (aI cI (ad 37) 40 (upd pf pn.toNatClampNeg x)), (aI cI (ad 38) 40 po), (aI cI (ad 39) 40 pd), (aI cI (ad 40) 40 pe), (aI cI (ad 41) 40 pr)] := hD
  refine lv_aload_n hx hb dX7_tell_20 rfl (lv_at hl 0 rfl) ?_
  refine va_get (D := D) (ci := 7) (v := .ref (ad 38)) (C := RX7) (T := TX7) (N := 7) hx hb hts inX7_tell_X7 hown hK hP 0 rfl rfl 2 (by decide) (hts (Cond.fieldLink RX7 18 "PortRooms$Papers" "to" "[I") (wm_t (wm_l (wm_i 3 rfl)))) (fun _ h9 => h9) rfl dX7_tell_21 ?_
  refine lv_aload_n hx hb dX7_tell_24 rfl (lv_at hl 0 rfl) ?_
  refine va_get (D := D) (ci := 7) (v := .int pn) (C := RX7) (T := TX7) (N := 7) hx hb hts inX7_tell_X7 hown hK hP 0 rfl rfl 6 (by decide) (hts (Cond.fieldLink RX7 30 "PortRooms$Papers" "count" "I") (wm_t (wm_l (wm_i 1 rfl)))) (fun _ h9 => h9) rfl dX7_tell_25 ?_
  refine lv_iload_n hx hb dX7_tell_28 rfl (lv_at hl 3 rfl) ?_
  refine va_iast hx hb hK hP hD hS 3 0 rfl rfl (i_in (by omega) (by omega)) dX7_tell_29 (fun H locs => ?_)
  clear hP hD hS
  intro hP hD hS
  replace hP : va_P D vwCl [(oC7 ad pn), (aI cI (ad 36) 40 (upd pk pn.toNatClampNeg k)), (aI cI (ad 37) 40 (upd pf pn.toNatClampNeg x)), (aI cI (ad 38) 40 (upd po pn.toNatClampNeg y)), (aI cI (ad 39) 40 pd), (aI cI (ad 40) 40 pe), (aI cI (ad 41) 40 pr)] H := hP
  replace hD : va_D A [(oC7 ad pn), (aI cI (ad 36) 40 (upd pk pn.toNatClampNeg k)), (aI cI (ad 37) 40 (upd pf pn.toNatClampNeg x)), (aI cI (ad 38) 40 (upd po pn.toNatClampNeg y)), (aI cI (ad 39) 40 pd), (aI cI (ad 40) 40 pe), (aI cI (ad 41) 40 pr)] := hD
  refine lv_aload_n hx hb dX7_tell_30 rfl (lv_at hl 0 rfl) ?_
  refine va_get (D := D) (ci := 7) (v := .ref (ad 39)) (C := RX7) (T := TX7) (N := 7) hx hb hts inX7_tell_X7 hown hK hP 0 rfl rfl 3 (by decide) (hts (Cond.fieldLink RX7 21 "PortRooms$Papers" "said" "[I") (wm_t (wm_l (wm_i 4 rfl)))) (fun _ h9 => h9) rfl dX7_tell_31 ?_
  refine lv_aload_n hx hb dX7_tell_34 rfl (lv_at hl 0 rfl) ?_
  refine va_get (D := D) (ci := 7) (v := .int pn) (C := RX7) (T := TX7) (N := 7) hx hb hts inX7_tell_X7 hown hK hP 0 rfl rfl 6 (by decide) (hts (Cond.fieldLink RX7 30 "PortRooms$Papers" "count" "I") (wm_t (wm_l (wm_i 1 rfl)))) (fun _ h9 => h9) rfl dX7_tell_35 ?_
  refine lv_iload hx hb dX7_tell_38 (lv_at hl 4 rfl) ?_
  refine va_iast hx hb hK hP hD hS 4 0 rfl rfl (i_in (by omega) (by omega)) dX7_tell_40 (fun H locs => ?_)
  clear hP hD hS
  intro hP hD hS
  replace hP : va_P D vwCl [(oC7 ad pn), (aI cI (ad 36) 40 (upd pk pn.toNatClampNeg k)), (aI cI (ad 37) 40 (upd pf pn.toNatClampNeg x)), (aI cI (ad 38) 40 (upd po pn.toNatClampNeg y)), (aI cI (ad 39) 40 (upd pd pn.toNatClampNeg a)), (aI cI (ad 40) 40 pe), (aI cI (ad 41) 40 pr)] H := hP
  replace hD : va_D A [(oC7 ad pn), (aI cI (ad 36) 40 (upd pk pn.toNatClampNeg k)), (aI cI (ad 37) 40 (upd pf pn.toNatClampNeg x)), (aI cI (ad 38) 40 (upd po pn.toNatClampNeg y)), (aI cI (ad 39) 40 (upd pd pn.toNatClampNeg a)), (aI cI (ad 40) 40 pe), (aI cI (ad 41) 40 pr)] := hD
  refine lv_aload_n hx hb dX7_tell_41 rfl (lv_at hl 0 rfl) ?_
  refine va_get (D := D) (ci := 7) (v := .ref (ad 40)) (C := RX7) (T := TX7) (N := 7) hx hb hts inX7_tell_X7 hown hK hP 0 rfl rfl 4 (by decide) (hts (Cond.fieldLink RX7 24 "PortRooms$Papers" "filed" "[I") (wm_t (wm_l (wm_i 5 rfl)))) (fun _ h9 => h9) rfl dX7_tell_42 ?_
  refine lv_aload_n hx hb dX7_tell_45 rfl (lv_at hl 0 rfl) ?_
  refine va_get (D := D) (ci := 7) (v := .int pn) (C := RX7) (T := TX7) (N := 7) hx hb hts inX7_tell_X7 hown hK hP 0 rfl rfl 6 (by decide) (hts (Cond.fieldLink RX7 30 "PortRooms$Papers" "count" "I") (wm_t (wm_l (wm_i 1 rfl)))) (fun _ h9 => h9) rfl dX7_tell_46 ?_
  refine lv_iload hx hb dX7_tell_49 (lv_at hl 5 rfl) ?_
  refine va_iast hx hb hK hP hD hS 5 0 rfl rfl (i_in (by omega) (by omega)) dX7_tell_51 (fun H locs => ?_)
  clear hP hD hS
  intro hP hD hS
  replace hP : va_P D vwCl [(oC7 ad pn), (aI cI (ad 36) 40 (upd pk pn.toNatClampNeg k)), (aI cI (ad 37) 40 (upd pf pn.toNatClampNeg x)), (aI cI (ad 38) 40 (upd po pn.toNatClampNeg y)), (aI cI (ad 39) 40 (upd pd pn.toNatClampNeg a)), (aI cI (ad 40) 40 (upd pe pn.toNatClampNeg b)), (aI cI (ad 41) 40 pr)] H := hP
  replace hD : va_D A [(oC7 ad pn), (aI cI (ad 36) 40 (upd pk pn.toNatClampNeg k)), (aI cI (ad 37) 40 (upd pf pn.toNatClampNeg x)), (aI cI (ad 38) 40 (upd po pn.toNatClampNeg y)), (aI cI (ad 39) 40 (upd pd pn.toNatClampNeg a)), (aI cI (ad 40) 40 (upd pe pn.toNatClampNeg b)), (aI cI (ad 41) 40 pr)] := hD
  refine lv_aload_n hx hb dX7_tell_52 rfl (lv_at hl 0 rfl) ?_
  refine va_get (D := D) (ci := 7) (v := .int pn) (C := RX7) (T := TX7) (N := 7) hx hb hts inX7_tell_X7 hown hK hP 0 rfl rfl 6 (by decide) (hts (Cond.fieldLink RX7 30 "PortRooms$Papers" "count" "I") (wm_t (wm_l (wm_i 1 rfl)))) (fun _ h9 => h9) rfl dX7_tell_53 ?_
  refine lv_istore (lv' := [(6, .int pn), (0, .ref (ad 4)), (1, .int k), (2, .int x), (3, .int y), (4, .int a), (5, .int b)]) hx hb dX7_tell_56 hl (by decide) rfl (fun ls hl => ?_)
  refine st_loop 58 (fun _ => []) (fun (z : Int32 × (Nat → Int32)) (ls : Array Slot) (H : Heap) (locs : List Loc) => match z with | (q58_6, oq) => (0 ≤ q58_6.toInt) ∧ (q58_6.toInt ≤ pn.toInt) ∧ (okP pn q58_6 oq) ∧ (shf pn q58_6 pr oq (fun j => (((upd pd pn.toNatClampNeg a) pn.toNatClampNeg).toInt < ((upd pd pn.toNatClampNeg a) (pr j).toNatClampNeg).toInt ∨ (((upd pd pn.toNatClampNeg a) pn.toNatClampNeg).toInt = ((upd pd pn.toNatClampNeg a) (pr j).toNatClampNeg).toInt ∧ ((upd pe pn.toNatClampNeg b) pn.toNatClampNeg).toInt < ((upd pe pn.toNatClampNeg b) (pr j).toNatClampNeg).toInt)))) ∧ lv_has ls 7 [(0, .ref (ad 4)), (1, .int k), (2, .int x), (3, .int y), (4, .int a), (5, .int b), (6, .int q58_6)] ∧ va_P D vwCl [(oC7 ad pn), (aI cI (ad 36) 40 (upd pk pn.toNatClampNeg k)), (aI cI (ad 37) 40 (upd pf pn.toNatClampNeg x)), (aI cI (ad 38) 40 (upd po pn.toNatClampNeg y)), (aI cI (ad 39) 40 (upd pd pn.toNatClampNeg a)), (aI cI (ad 40) 40 (upd pe pn.toNatClampNeg b)), (aI cI (ad 41) 40 oq)] H ∧ va_D A [(oC7 ad pn), (aI cI (ad 36) 40 (upd pk pn.toNatClampNeg k)), (aI cI (ad 37) 40 (upd pf pn.toNatClampNeg x)), (aI cI (ad 38) 40 (upd po pn.toNatClampNeg y)), (aI cI (ad 39) 40 (upd pd pn.toNatClampNeg a)), (aI cI (ad 40) 40 (upd pe pn.toNatClampNeg b)), (aI cI (ad 41) 40 oq)] ∧ va_S A s.heap H locs) (fun (z : Int32 × (Nat → Int32)) => match z with | (q58_6, oq) => q58_6.toInt) ?_ ?_ (pn, pr) ⟨(by omega), (by omega), (by exact okP_0 h3), (by exact shf_0), lv_sub hl [1, 2, 3, 4, 5, 6, 0] rfl, hP, hD, hS⟩
  · rintro ⟨q58_6, oq⟩ ls H locs ⟨g1, g2, g3, g4, hl, hP, hD, hS⟩
    show (0 : Int) ≤ q58_6.toInt
    omega
  · rintro n7 ih5 ⟨q58_6, oq⟩ ls H locs ⟨g1, g2, g3, g4, hl, hP, hD, hS⟩ hm6
    have hm6 : q58_6.toInt < (n7 : Int) + 1 := hm6
    replace hl : lv_has ls 7 [(0, .ref (ad 4)), (1, .int k), (2, .int x), (3, .int y), (4, .int a), (5, .int b), (6, .int q58_6)] := hl
    replace hP : va_P D vwCl [(oC7 ad pn), (aI cI (ad 36) 40 (upd pk pn.toNatClampNeg k)), (aI cI (ad 37) 40 (upd pf pn.toNatClampNeg x)), (aI cI (ad 38) 40 (upd po pn.toNatClampNeg y)), (aI cI (ad 39) 40 (upd pd pn.toNatClampNeg a)), (aI cI (ad 40) 40 (upd pe pn.toNatClampNeg b)), (aI cI (ad 41) 40 oq)] H := hP
    replace hD : va_D A [(oC7 ad pn), (aI cI (ad 36) 40 (upd pk pn.toNatClampNeg k)), (aI cI (ad 37) 40 (upd pf pn.toNatClampNeg x)), (aI cI (ad 38) 40 (upd po pn.toNatClampNeg y)), (aI cI (ad 39) 40 (upd pd pn.toNatClampNeg a)), (aI cI (ad 40) 40 (upd pe pn.toNatClampNeg b)), (aI cI (ad 41) 40 oq)] := hD
    show W _ _ _ _ _ _ _ _ _ _ _ _ _ _ _ (F0 m 58 ls [])
    refine lv_iload hx hb dX7_tell_58 (lv_at hl 6 rfl) ?_
    refine lv_if_le (tgt := 105) hx hb dX7_tell_60 (by decide) (fun c8 => ?_) (fun c8 => ?_)
    · skip
      have f9 := i_le c8
      refine lv_aload_n hx hb dX7_tell_105 rfl (lv_at hl 0 rfl) ?_
      refine va_get (D := D) (ci := 7) (v := .ref (ad 41)) (C := RX7) (T := TX7) (N := 7) hx hb hts inX7_tell_X7 hown hK hP 0 rfl rfl 5 (by decide) (hts (Cond.fieldLink RX7 27 "PortRooms$Papers" "order" "[I") (wm_t (wm_l (wm_i 6 rfl)))) (fun _ h9 => h9) rfl dX7_tell_106 ?_
      refine lv_iload hx hb dX7_tell_109 (lv_at hl 6 rfl) ?_
      refine lv_aload_n hx hb dX7_tell_111 rfl (lv_at hl 0 rfl) ?_
      refine va_get (D := D) (ci := 7) (v := .int pn) (C := RX7) (T := TX7) (N := 7) hx hb hts inX7_tell_X7 hown hK hP 0 rfl rfl 6 (by decide) (hts (Cond.fieldLink RX7 30 "PortRooms$Papers" "count" "I") (wm_t (wm_l (wm_i 1 rfl)))) (fun _ h9 => h9) rfl dX7_tell_112 ?_
      refine va_iast hx hb hK hP hD hS 6 0 rfl rfl (i_in (by omega) (by omega)) dX7_tell_115 (fun H locs => ?_)
      clear hP hD hS
      intro hP hD hS
      replace hP : va_P D vwCl [(oC7 ad pn), (aI cI (ad 36) 40 (upd pk pn.toNatClampNeg k)), (aI cI (ad 37) 40 (upd pf pn.toNatClampNeg x)), (aI cI (ad 38) 40 (upd po pn.toNatClampNeg y)), (aI cI (ad 39) 40 (upd pd pn.toNatClampNeg a)), (aI cI (ad 40) 40 (upd pe pn.toNatClampNeg b)), (aI cI (ad 41) 40 (upd oq q58_6.toNatClampNeg pn))] H := hP
      replace hD : va_D A [(oC7 ad pn), (aI cI (ad 36) 40 (upd pk pn.toNatClampNeg k)), (aI cI (ad 37) 40 (upd pf pn.toNatClampNeg x)), (aI cI (ad 38) 40 (upd po pn.toNatClampNeg y)), (aI cI (ad 39) 40 (upd pd pn.toNatClampNeg a)), (aI cI (ad 40) 40 (upd pe pn.toNatClampNeg b)), (aI cI (ad 41) 40 (upd oq q58_6.toNatClampNeg pn))] := hD
      refine lv_aload_n hx hb dX7_tell_116 rfl (lv_at hl 0 rfl) ?_
      refine lv_dup hx hb dX7_tell_117 rfl ?_
      refine va_get (D := D) (ci := 7) (v := .int pn) (C := RX7) (T := TX7) (N := 7) hx hb hts inX7_tell_X7 hown hK hP 0 rfl rfl 6 (by decide) (hts (Cond.fieldLink RX7 30 "PortRooms$Papers" "count" "I") (wm_t (wm_l (wm_i 1 rfl)))) (fun _ h9 => h9) rfl dX7_tell_118 ?_
      refine lv_iconst (v := 1) hx hb dX7_tell_121 (by decide) ?_
      refine lv_iadd hx hb dX7_tell_122 ?_
      refine lv_topi (fun v10 ev10 => ?_)
      try have tv10 : v10.toInt = pn.toInt + 1 := by rw [ev10]; exact (i_add (x := pn) (y := (1 : Int32)) (by rw [k1]; omega) (by rw [k1]; omega)).trans (by rw [k1])
      refine va_put (D := D) (ci := 7) (v := .int v10) (ty := .int) (C := RX7) (T := TX7) (N := 7) hx hb hts inX7_tell_X7 tyX7 tyX7_ok nmX7 hown hK hP hD hS 0 rfl rfl 6 (by decide) (hts (Cond.fieldLink RX7 30 "PortRooms$Papers" "count" "I") (wm_t (wm_l (wm_i 1 rfl)))) (fun _ h9 => h9) rfl (tyX7_ok 6 (by decide)) rfl rfl (Nat.le_of_ble_eq_true rfl) dX7_tell_123 (fun H locs => ?_)
      clear hP hD hS
      intro hP hD hS
      replace hP : va_P D vwCl [(oC7 ad v10), (aI cI (ad 36) 40 (upd pk pn.toNatClampNeg k)), (aI cI (ad 37) 40 (upd pf pn.toNatClampNeg x)), (aI cI (ad 38) 40 (upd po pn.toNatClampNeg y)), (aI cI (ad 39) 40 (upd pd pn.toNatClampNeg a)), (aI cI (ad 40) 40 (upd pe pn.toNatClampNeg b)), (aI cI (ad 41) 40 (upd oq q58_6.toNatClampNeg pn))] H := hP
      replace hD : va_D A [(oC7 ad v10), (aI cI (ad 36) 40 (upd pk pn.toNatClampNeg k)), (aI cI (ad 37) 40 (upd pf pn.toNatClampNeg x)), (aI cI (ad 38) 40 (upd po pn.toNatClampNeg y)), (aI cI (ad 39) 40 (upd pd pn.toNatClampNeg a)), (aI cI (ad 40) 40 (upd pe pn.toNatClampNeg b)), (aI cI (ad 41) 40 (upd oq q58_6.toNatClampNeg pn))] := hD
      refine lv_aload_n hx hb dX7_tell_126 rfl (lv_at hl 0 rfl) ?_
      refine va_get (D := D) (ci := 7) (v := .int v10) (C := RX7) (T := TX7) (N := 7) hx hb hts inX7_tell_X7 hown hK hP 0 rfl rfl 6 (by decide) (hts (Cond.fieldLink RX7 30 "PortRooms$Papers" "count" "I") (wm_t (wm_l (wm_i 1 rfl)))) (fun _ h9 => h9) rfl dX7_tell_127 ?_
      have hok9 := okP_end g3 tv10 (by omega) (by omega)
      have hoq9 : okW pn pr pd pe → okW v10 (upd oq q58_6.toNatClampNeg pn) (upd pd pn.toNatClampNeg a) (upd pe pn.toNatClampNeg b) := fun hq9 => okW_ins h3 g4 tv10 (by omega) (by omega) (by omega) (fun j hj => by unfold lt3; omega) (fun j hj => by exfalso; omega) hq9
      subst ev10
      have hP9 := hP
      have hD9 := hD
      exact W.iret (v := pn + 1) hx hb hr (fun t ht hW => ⟨⟨pn + 1, upd oq q58_6.toNatClampNeg pn, rfl, ⟨rfl, hok9, hoq9⟩, by rw [ht]; exact hP9, va_K.moved hW.alike hK, hD9⟩, hS.F ht⟩) hS.2.2 dX7_tell_130
    · skip
      have f11 := i_nle c8
      refine lv_aload_n hx hb dX7_tell_63 rfl (lv_at hl 0 rfl) ?_
      refine lv_aload_n hx hb dX7_tell_64 rfl (lv_at hl 0 rfl) ?_
      refine va_get (D := D) (ci := 7) (v := .int pn) (C := RX7) (T := TX7) (N := 7) hx hb hts inX7_tell_X7 hown hK hP 0 rfl rfl 6 (by decide) (hts (Cond.fieldLink RX7 30 "PortRooms$Papers" "count" "I") (wm_t (wm_l (wm_i 1 rfl)))) (fun _ h9 => h9) rfl dX7_tell_65 ?_
      refine lv_aload_n hx hb dX7_tell_68 rfl (lv_at hl 0 rfl) ?_
      refine va_get (D := D) (ci := 7) (v := .ref (ad 41)) (C := RX7) (T := TX7) (N := 7) hx hb hts inX7_tell_X7 hown hK hP 0 rfl rfl 5 (by decide) (hts (Cond.fieldLink RX7 27 "PortRooms$Papers" "order" "[I") (wm_t (wm_l (wm_i 6 rfl)))) (fun _ h9 => h9) rfl dX7_tell_69 ?_
      refine lv_iload hx hb dX7_tell_72 (lv_at hl 6 rfl) ?_
      refine lv_iconst (v := 1) hx hb dX7_tell_74 (by decide) ?_
      refine lv_isub hx hb dX7_tell_75 ?_
      refine lv_topi (fun v12 ev12 => ?_)
      try have tv12 : v12.toInt = q58_6.toInt - 1 := by rw [ev12]; exact (i_sub (x := q58_6) (y := (1 : Int32)) (by rw [k1]; omega) (by rw [k1]; omega)).trans (by rw [k1])
      refine va_iald hx hb hK hP 6 0 rfl rfl (i_in (by omega) (by omega)) dX7_tell_76 ?_
      refine lv_topi (fun v13 ev13 => ?_)
      have tlv13 : v13.toInt = (oq v12.toNatClampNeg).toInt := by rw [ev13]
      have qv13 := okP_at g3 ev13 (by omega) (by omega) (by omega)
      refine st_i1 (va_runV (C := RX7) (As := [.int pn, .int v13]) (rest := []) ⟨hx, hb, hml, hown, hts⟩ (ct_X7_isAhead l D cI cY cJ cQ _ ad pn (upd pd pn.toNatClampNeg a) (upd pe pn.toNatClampNeg b) pn v13 h1 h2 (by omega) (by omega)) (cwV 2 hts gX7_tell_X7_isAhead rfl rfl rfl ⟨rfl, cdX7_isAhead⟩ ⟨Nat.le_of_ble_eq_true rfl, Nat.le_of_ble_eq_true rfl⟩) (cPreV (hP.sub [0, 4, 5] rfl) hK (hD.sub [0, 4, 5] (by decide +kernel) rfl) hN (ci := 7) (q0 := 0) rfl rfl) rfl rfl hl.1 rfl (lv_room (Nat.le_of_ble_eq_true rfl)) dX7_tell_77 ⟨Nat.le_of_ble_eq_true rfl, Nat.le_of_ble_eq_true rfl⟩) hP hD hS hA [0, 4, 5] rfl (fun _ => rfl) (fun r16 u14 H locs hw15 => ?_)
      clear hP hS
      intro hP hS
      replace hw15 : r16 = if (((upd pd pn.toNatClampNeg a) pn.toNatClampNeg).toInt < ((upd pd pn.toNatClampNeg a) v13.toNatClampNeg).toInt ∨ (((upd pd pn.toNatClampNeg a) pn.toNatClampNeg).toInt = ((upd pd pn.toNatClampNeg a) v13.toNatClampNeg).toInt ∧ ((upd pe pn.toNatClampNeg b) pn.toNatClampNeg).toInt < ((upd pe pn.toNatClampNeg b) v13.toNatClampNeg).toInt)) then 1 else 0 := hw15
      refine lv_if_eq (tgt := 105) hx hb dX7_tell_80 (by decide) (fun c17 => ?_) (fun c17 => ?_)
      · skip
        have f18 := bo_f hw15 c17
        refine lv_aload_n hx hb dX7_tell_105 rfl (lv_at hl 0 rfl) ?_
        refine va_get (D := D) (ci := 7) (v := .ref (ad 41)) (C := RX7) (T := TX7) (N := 7) hx hb hts inX7_tell_X7 hown hK hP 0 rfl rfl 5 (by decide) (hts (Cond.fieldLink RX7 27 "PortRooms$Papers" "order" "[I") (wm_t (wm_l (wm_i 6 rfl)))) (fun _ h9 => h9) rfl dX7_tell_106 ?_
        refine lv_iload hx hb dX7_tell_109 (lv_at hl 6 rfl) ?_
        refine lv_aload_n hx hb dX7_tell_111 rfl (lv_at hl 0 rfl) ?_
        refine va_get (D := D) (ci := 7) (v := .int pn) (C := RX7) (T := TX7) (N := 7) hx hb hts inX7_tell_X7 hown hK hP 0 rfl rfl 6 (by decide) (hts (Cond.fieldLink RX7 30 "PortRooms$Papers" "count" "I") (wm_t (wm_l (wm_i 1 rfl)))) (fun _ h9 => h9) rfl dX7_tell_112 ?_
        refine va_iast hx hb hK hP hD hS 6 0 rfl rfl (i_in (by omega) (by omega)) dX7_tell_115 (fun H locs => ?_)
        clear hP hD hS
        intro hP hD hS
        replace hP : va_P D vwCl [(oC7 ad pn), (aI cI (ad 36) 40 (upd pk pn.toNatClampNeg k)), (aI cI (ad 37) 40 (upd pf pn.toNatClampNeg x)), (aI cI (ad 38) 40 (upd po pn.toNatClampNeg y)), (aI cI (ad 39) 40 (upd pd pn.toNatClampNeg a)), (aI cI (ad 40) 40 (upd pe pn.toNatClampNeg b)), (aI cI (ad 41) 40 (upd oq q58_6.toNatClampNeg pn))] H := hP
        replace hD : va_D A [(oC7 ad pn), (aI cI (ad 36) 40 (upd pk pn.toNatClampNeg k)), (aI cI (ad 37) 40 (upd pf pn.toNatClampNeg x)), (aI cI (ad 38) 40 (upd po pn.toNatClampNeg y)), (aI cI (ad 39) 40 (upd pd pn.toNatClampNeg a)), (aI cI (ad 40) 40 (upd pe pn.toNatClampNeg b)), (aI cI (ad 41) 40 (upd oq q58_6.toNatClampNeg pn))] := hD
        refine lv_aload_n hx hb dX7_tell_116 rfl (lv_at hl 0 rfl) ?_
        refine lv_dup hx hb dX7_tell_117 rfl ?_
        refine va_get (D := D) (ci := 7) (v := .int pn) (C := RX7) (T := TX7) (N := 7) hx hb hts inX7_tell_X7 hown hK hP 0 rfl rfl 6 (by decide) (hts (Cond.fieldLink RX7 30 "PortRooms$Papers" "count" "I") (wm_t (wm_l (wm_i 1 rfl)))) (fun _ h9 => h9) rfl dX7_tell_118 ?_
        refine lv_iconst (v := 1) hx hb dX7_tell_121 (by decide) ?_
        refine lv_iadd hx hb dX7_tell_122 ?_
        refine lv_topi (fun v19 ev19 => ?_)
        try have tv19 : v19.toInt = pn.toInt + 1 := by rw [ev19]; exact (i_add (x := pn) (y := (1 : Int32)) (by rw [k1]; omega) (by rw [k1]; omega)).trans (by rw [k1])
        refine va_put (D := D) (ci := 7) (v := .int v19) (ty := .int) (C := RX7) (T := TX7) (N := 7) hx hb hts inX7_tell_X7 tyX7 tyX7_ok nmX7 hown hK hP hD hS 0 rfl rfl 6 (by decide) (hts (Cond.fieldLink RX7 30 "PortRooms$Papers" "count" "I") (wm_t (wm_l (wm_i 1 rfl)))) (fun _ h9 => h9) rfl (tyX7_ok 6 (by decide)) rfl rfl (Nat.le_of_ble_eq_true rfl) dX7_tell_123 (fun H locs => ?_)
        clear hP hD hS
        intro hP hD hS
        replace hP : va_P D vwCl [(oC7 ad v19), (aI cI (ad 36) 40 (upd pk pn.toNatClampNeg k)), (aI cI (ad 37) 40 (upd pf pn.toNatClampNeg x)), (aI cI (ad 38) 40 (upd po pn.toNatClampNeg y)), (aI cI (ad 39) 40 (upd pd pn.toNatClampNeg a)), (aI cI (ad 40) 40 (upd pe pn.toNatClampNeg b)), (aI cI (ad 41) 40 (upd oq q58_6.toNatClampNeg pn))] H := hP
        replace hD : va_D A [(oC7 ad v19), (aI cI (ad 36) 40 (upd pk pn.toNatClampNeg k)), (aI cI (ad 37) 40 (upd pf pn.toNatClampNeg x)), (aI cI (ad 38) 40 (upd po pn.toNatClampNeg y)), (aI cI (ad 39) 40 (upd pd pn.toNatClampNeg a)), (aI cI (ad 40) 40 (upd pe pn.toNatClampNeg b)), (aI cI (ad 41) 40 (upd oq q58_6.toNatClampNeg pn))] := hD
        refine lv_aload_n hx hb dX7_tell_126 rfl (lv_at hl 0 rfl) ?_
        refine va_get (D := D) (ci := 7) (v := .int v19) (C := RX7) (T := TX7) (N := 7) hx hb hts inX7_tell_X7 hown hK hP 0 rfl rfl 6 (by decide) (hts (Cond.fieldLink RX7 30 "PortRooms$Papers" "count" "I") (wm_t (wm_l (wm_i 1 rfl)))) (fun _ h9 => h9) rfl dX7_tell_127 ?_
        have hok9 := okP_end g3 tv19 (by omega) (by omega)
        have ciw9 := i_cl (x := v12) (by omega)
        have qy9 := okP_at g3 ev13 (by omega) (by omega) (by omega)
        have cy9 := i_cl (x := v13) (by omega)
        have cpn9 := i_cl (x := pn) (by omega)
        have hoq9 : okW pn pr pd pe → okW v19 (upd oq q58_6.toNatClampNeg pn) (upd pd pn.toNatClampNeg a) (upd pe pn.toNatClampNeg b) := fun hq9 => okW_ins h3 g4 tv19 (by omega) (by omega) (by omega) (fun j hj => by unfold lt3; omega) (fun j hj => by have ej9 : pr j = v13 := (((g4).1 j (by omega)).symm.trans (by rw [ev13]; congr 1; omega)); rw [ej9]; unfold lt3; omega) hq9
        subst ev19
        have hP9 := hP
        have hD9 := hD
        exact W.iret (v := pn + 1) hx hb hr (fun t ht hW => ⟨⟨pn + 1, upd oq q58_6.toNatClampNeg pn, rfl, ⟨rfl, hok9, hoq9⟩, by rw [ht]; exact hP9, va_K.moved hW.alike hK, hD9⟩, hS.F ht⟩) hS.2.2 dX7_tell_130
      · skip
        have f20 := bo_t hw15 c17
        refine lv_aload_n hx hb dX7_tell_83 rfl (lv_at hl 0 rfl) ?_
        refine va_get (D := D) (ci := 7) (v := .ref (ad 41)) (C := RX7) (T := TX7) (N := 7) hx hb hts inX7_tell_X7 hown hK hP 0 rfl rfl 5 (by decide) (hts (Cond.fieldLink RX7 27 "PortRooms$Papers" "order" "[I") (wm_t (wm_l (wm_i 6 rfl)))) (fun _ h9 => h9) rfl dX7_tell_84 ?_
        refine lv_iload hx hb dX7_tell_87 (lv_at hl 6 rfl) ?_
        refine lv_aload_n hx hb dX7_tell_89 rfl (lv_at hl 0 rfl) ?_
        refine va_get (D := D) (ci := 7) (v := .ref (ad 41)) (C := RX7) (T := TX7) (N := 7) hx hb hts inX7_tell_X7 hown hK hP 0 rfl rfl 5 (by decide) (hts (Cond.fieldLink RX7 27 "PortRooms$Papers" "order" "[I") (wm_t (wm_l (wm_i 6 rfl)))) (fun _ h9 => h9) rfl dX7_tell_90 ?_
        refine lv_iload hx hb dX7_tell_93 (lv_at hl 6 rfl) ?_
        refine lv_iconst (v := 1) hx hb dX7_tell_95 (by decide) ?_
        refine lv_isub hx hb dX7_tell_96 ?_
        refine lv_topi (fun v21 ev21 => ?_)
        try have tv21 : v21.toInt = q58_6.toInt - 1 := by rw [ev21]; exact (i_sub (x := q58_6) (y := (1 : Int32)) (by rw [k1]; omega) (by rw [k1]; omega)).trans (by rw [k1])
        refine va_iald hx hb hK hP 6 0 rfl rfl (i_in (by omega) (by omega)) dX7_tell_97 ?_
        refine lv_topi (fun v22 ev22 => ?_)
        have tlv22 : v22.toInt = (oq v21.toNatClampNeg).toInt := by rw [ev22]
        have qv22 := okP_at g3 ev22 (by omega) (by omega) (by omega)
        refine va_iast hx hb hK hP hD hS 6 0 rfl rfl (i_in (by omega) (by omega)) dX7_tell_98 (fun H locs => ?_)
        clear hP hD hS
        intro hP hD hS
        replace hP : va_P D vwCl [(oC7 ad pn), (aI cI (ad 36) 40 (upd pk pn.toNatClampNeg k)), (aI cI (ad 37) 40 (upd pf pn.toNatClampNeg x)), (aI cI (ad 38) 40 (upd po pn.toNatClampNeg y)), (aI cI (ad 39) 40 (upd pd pn.toNatClampNeg a)), (aI cI (ad 40) 40 (upd pe pn.toNatClampNeg b)), (aI cI (ad 41) 40 (upd oq q58_6.toNatClampNeg v22))] H := hP
        replace hD : va_D A [(oC7 ad pn), (aI cI (ad 36) 40 (upd pk pn.toNatClampNeg k)), (aI cI (ad 37) 40 (upd pf pn.toNatClampNeg x)), (aI cI (ad 38) 40 (upd po pn.toNatClampNeg y)), (aI cI (ad 39) 40 (upd pd pn.toNatClampNeg a)), (aI cI (ad 40) 40 (upd pe pn.toNatClampNeg b)), (aI cI (ad 41) 40 (upd oq q58_6.toNatClampNeg v22))] := hD
        obtain ⟨v23, ev23⟩ : ∃ y : Int32, y = q58_6 + (-1) := ⟨_, rfl⟩
        try have tv23 : v23.toInt = q58_6.toInt + (-1) := by rw [ev23]; exact (i_add (x := q58_6) (y := ((-1) : Int32)) (by rw [km1]; omega) (by rw [km1]; omega)).trans (by rw [km1])
        refine lv_iinc (v := v23) (lv' := [(6, .int v23), (0, .ref (ad 4)), (1, .int k), (2, .int x), (3, .int y), (4, .int a), (5, .int b)]) hx hb dX7_tell_99 hl (k := 6) rfl (by rw [ev23]; rfl) (by decide) rfl (fun ls hl => ?_)
        refine lv_goto (tgt := 58) hx hb dX7_tell_102 (by decide) ?_
        have ci_v22 := i_cl (x := v21) (by omega)
        have ci_v13 := i_cl (x := v12) (by omega)
        exact ih5 (v23, upd oq q58_6.toNatClampNeg v22) ls H locs ⟨(by omega), (by omega), (by exact okP_step g3 (by assumption) (by omega) (by omega) (by omega) (by omega)), (by exact shf_step g4 (by assumption) (by omega) (by omega) (by omega) (by omega) (fun z9 => by rw [← z9]; first | exact f20 | (have zz : v22 = v13 := (by rw [ev22, ev13]; congr 1; omega); rw [zz]; exact f20))), lv_sub hl [1, 2, 3, 4, 5, 6, 0] rfl, hP.sub [0, 1, 2, 3, 4, 5, 6] rfl, hD.sub [0, 1, 2, 3, 4, 5, 6] (by decide +kernel) rfl, hS⟩ (by show v23.toInt < _; omega)

def sp_paper (pn : Int32) (pk pf po pd pe : Nat → Int32) (cn k x y a b : Int32) : Int32 × Int32 × (Nat → Int32) × (Nat → Int32) × (Nat → Int32) × (Nat → Int32) × (Nat → Int32) := if 0 ≤ k.toInt ∧ k.toInt < cn.toInt ∧ 0 ≤ x.toInt ∧ x.toInt < 20 ∧ 0 ≤ y.toInt ∧ y.toInt < 20 ∧ ¬ x.toInt = y.toInt ∧ 0 ≤ a.toInt ∧ b.toInt < 10000 ∧ a.toInt ≤ b.toInt then (if 40 ≤ pn.toInt then (-1000003, pn, pk, pf, po, pd, pe) else (pn + 1, pn + 1, upd pk pn.toNatClampNeg k, upd pf pn.toNatClampNeg x, upd po pn.toNatClampNeg y, upd pd pn.toNatClampNeg a, upd pe pn.toNatClampNeg b)) else (-1000001, pn, pk, pf, po, pd, pe)

set_option maxHeartbeats 4000000 in
set_option maxRecDepth 100000 in
theorem ct_X10_paper (l : Launch) (D : va_G) (cI cY cJ cQ : ClassId) (sz : Nat) (ad : Nat → Nat) (tn td lf cn pn : Int32) (pk pf po pd pe pr : Nat → Int32) (k : Int32) (x : Int32) (y : Int32) (a : Int32) (b : Int32)  (h1 : 0 ≤ pn.toInt) (h2 : pn.toInt ≤ 40) (h3 : okO pn pr)  : Met l yX10_paper wsX10_paper ({ frames := 3, cells := 0, slots := 0, locals := 62 }) (cPre D (ty4 cI cY cJ cQ) [(oC10 ad tn td lf), (oC1 ad cn), (oC7 ad pn), (aI cI (ad 36) 40 pk), (aI cI (ad 37) 40 pf), (aI cI (ad 38) 40 po), (aI cI (ad 39) 40 pd), (aI cI (ad 40) 40 pe), (aI cI (ad 41) 40 pr)] sz [.ref (ad 0), .int k, .int x, .int y, .int a, .int b]) (va_Qi (fun (r : Int32) (u : Int32 × (Nat → Int32) × (Nat → Int32) × (Nat → Int32) × (Nat → Int32) × (Nat → Int32) × (Nat → Int32)) => (r, u.1, u.2.1, u.2.2.1, u.2.2.2.1, u.2.2.2.2.1, u.2.2.2.2.2.1) = sp_paper pn pk pf po pd pe cn k x y a b ∧ okO u.1 u.2.2.2.2.2.2 ∧ (okW pn pr pd pe → okW u.1 u.2.2.2.2.2.2 u.2.2.2.2.1 u.2.2.2.2.2.1)) (cB D (ty4 cI cY cJ cQ) (fun (u : Int32 × (Nat → Int32) × (Nat → Int32) × (Nat → Int32) × (Nat → Int32) × (Nat → Int32) × (Nat → Int32)) => [(oC10 ad tn td lf), (oC1 ad cn), (oC7 ad u.1), (aI cI (ad 36) 40 u.2.1), (aI cI (ad 37) 40 u.2.2.1), (aI cI (ad 38) 40 u.2.2.2.1), (aI cI (ad 39) 40 u.2.2.2.2.1), (aI cI (ad 40) 40 u.2.2.2.2.2.1), (aI cI (ad 41) 40 u.2.2.2.2.2.2)]) (va_A [(oC10 ad tn td lf), (oC1 ad cn), (oC7 ad pn), (aI cI (ad 36) 40 pk), (aI cI (ad 37) 40 pf), (aI cI (ad 38) 40 po), (aI cI (ad 39) 40 pd), (aI cI (ad 40) 40 pe), (aI cI (ad 41) 40 pr)] sz)) (va_A [(oC10 ad tn td lf), (oC1 ad cn), (oC7 ad pn), (aI cI (ad 36) 40 pk), (aI cI (ad 37) 40 pf), (aI cI (ad 38) 40 po), (aI cI (ad 39) 40 pd), (aI cI (ad 40) 40 pe), (aI cI (ad 41) 40 pr)] sz)) 0 0 (va_A [(oC10 ad tn td lf), (oC1 ad cn), (oC7 ad pn), (aI cI (ad 36) 40 pk), (aI cI (ad 37) 40 pf), (aI cI (ad 38) 40 po), (aI cI (ad 39) 40 pd), (aI cI (ad 40) 40 pe), (aI cI (ad 41) 40 pr)] sz) := by
  refine Met.ofW (cc := cX10_paper) (maxL := 6) (ret := (some .int)) (by decide) rfl ?_
  intro p e s m args below meth c s₁ B hml hv
  obtain ⟨rfl, hsz, hP, hK, hD0, hN⟩ := hv
  have hx := B.exec
  have hb := B.bytes
  have hr := B.returns
  have hts := atoms_spec (ws := wsX10_paper) B.pre
  have hown : s.vm.findClass RX10 = some m.cls := findClass_of_methodNamed B.named
  have hlocks := B.notSynchronized
  subst hsz
  have hD := hD0.self (sz := s.heap.size)
  generalize hAe : va_A [(oC10 ad tn td lf), (oC1 ad cn), (oC7 ad pn), (aI cI (ad 36) 40 pk), (aI cI (ad 37) 40 pf), (aI cI (ad 38) 40 po), (aI cI (ad 39) 40 pd), (aI cI (ad 40) 40 pe), (aI cI (ad 41) 40 pr)] s.heap.size = A at hD ⊢
  have hA : ∀ q : Nat, s.heap.size ≤ q → A q := fun q h => by rw [← hAe]; exact Or.inr h
  have hS : va_S A s.heap s.heap [] := va_S.rf
  have hP : va_P D vwCl [(oC10 ad tn td lf), (oC1 ad cn), (oC7 ad pn), (aI cI (ad 36) 40 pk), (aI cI (ad 37) 40 pf), (aI cI (ad 38) 40 po), (aI cI (ad 39) 40 pd), (aI cI (ad 40) 40 pe), (aI cI (ad 41) 40 pr)] s.heap := hP
  have hl := lv_entry ([.ref (ad 0), .int k, .int x, .int y, .int a, .int b]) (n := 6) (Nat.le_of_ble_eq_true rfl)
  rw [lg_entry_eq]
  generalize (lg_sl ([.ref (ad 0), .int k, .int x, .int y, .int a, .int b]) ++ List.replicate (6 - (lg_sl ([.ref (ad 0), .int k, .int x, .int y, .int a, .int b])).length) Slot.unset).toArray = ls at hl ⊢
  have hl : lv_has ls 6 [(0, .ref (ad 0)), (1, .int k), (2, .int x), (3, .int y), (4, .int a), (5, .int b)] := hl
  have km1000003 : (-1000003 : Int32).toInt = -1000003 := by decide
  have km1000001 : (-1000001 : Int32).toInt = -1000001 := by decide
  have k0 : (0 : Int32).toInt = 0 := by decide
  have k40 : (40 : Int32).toInt = 40 := by decide
  refine lv_aload_n hx hb dX10_paper_0 rfl (lv_at hl 0 rfl) ?_
  refine lv_iload_n hx hb dX10_paper_1 rfl (lv_at hl 1 rfl) ?_
  refine st_i1 (va_runV (C := RX10) (As := [.int k]) (rest := []) ⟨hx, hb, hml, hown, hts⟩ (ct_X10_isCrate l D cI cY cJ cQ _ ad tn td lf cn k) (cwV 1 hts gX10_paper_X10_isCrate rfl rfl rfl ⟨rfl, cdX10_isCrate⟩ ⟨Nat.le_of_ble_eq_true rfl, Nat.le_of_ble_eq_true rfl⟩) (cPreV (hP.sub [0, 1] rfl) hK (hD.sub [0, 1] (by decide +kernel) rfl) hN (ci := 10) (q0 := 0) rfl rfl) rfl rfl hl.1 rfl (lv_room (Nat.le_of_ble_eq_true rfl)) dX10_paper_2 ⟨Nat.le_of_ble_eq_true rfl, Nat.le_of_ble_eq_true rfl⟩) hP hD hS hA [0, 1] rfl (fun _ => rfl) (fun r3 u1 H locs hw2 => ?_)
  clear hP hS
  intro hP hS
  replace hw2 : r3 = if 0 ≤ k.toInt ∧ k.toInt < cn.toInt then 1 else 0 := hw2
  refine lv_if_eq (tgt := 37) hx hb dX10_paper_5 (by decide) (fun c4 => ?_) (fun c4 => ?_)
  · skip
    have f5 := bo_f hw2 c4
    refine lv_ldc hx hb hown (hts (Cond.constant RX10 89 (-1000001)) (wm_t (wm_l (wm_i 0 rfl)))) dX10_paper_37 ?_
    have hP9 := hP
    have hD9 := hD
    exact W.iret (v := (-1000001)) hx hb hr (fun t ht hW => ⟨⟨(-1000001), (pn, pk, pf, po, pd, pe, pr), rfl, ⟨(by unfold sp_paper; (repeat' split) <;> first | rfl | (exfalso; omega)), (by assumption), (by first | exact fun h9 => h9 | assumption)⟩, by rw [ht]; exact hP9, va_K.moved hW.alike hK, hD9⟩, hS.F ht⟩) hS.2.2 dX10_paper_39
  · skip
    have f6 := bo_t hw2 c4
    refine lv_iload_n hx hb dX10_paper_8 rfl (lv_at hl 2 rfl) ?_
    refine st_i1 (va_runS (As := [.int x]) (rest := []) ⟨hx, hb, hml, hown, hts⟩ (ct_X10_isOwner l D cI cY cJ cQ _ x) (va_cwS 1 hts gX10_paper_X10_isOwner rfl rfl rfl cdX10_isOwner ⟨Nat.le_of_ble_eq_true rfl, Nat.le_of_ble_eq_true rfl⟩) (cPreS (hP.sub [] rfl) hK (hD.sub [] (by decide +kernel) rfl) hN) rfl rfl hl.1 rfl (lv_room (Nat.le_of_ble_eq_true rfl)) dX10_paper_9 ⟨Nat.le_of_ble_eq_true rfl, Nat.le_of_ble_eq_true rfl⟩) hP hD hS hA [] rfl (fun _ => rfl) (fun r9 u7 H locs hw8 => ?_)
    clear hP hS
    intro hP hS
    replace hw8 : r9 = if 0 ≤ x.toInt ∧ x.toInt < 20 then 1 else 0 := hw8
    refine lv_if_eq (tgt := 37) hx hb dX10_paper_12 (by decide) (fun c10 => ?_) (fun c10 => ?_)
    · skip
      have f11 := bo_f hw8 c10
      refine lv_ldc hx hb hown (hts (Cond.constant RX10 89 (-1000001)) (wm_t (wm_l (wm_i 0 rfl)))) dX10_paper_37 ?_
      have hP9 := hP
      have hD9 := hD
      exact W.iret (v := (-1000001)) hx hb hr (fun t ht hW => ⟨⟨(-1000001), (pn, pk, pf, po, pd, pe, pr), rfl, ⟨(by unfold sp_paper; (repeat' split) <;> first | rfl | (exfalso; omega)), (by assumption), (by first | exact fun h9 => h9 | assumption)⟩, by rw [ht]; exact hP9, va_K.moved hW.alike hK, hD9⟩, hS.F ht⟩) hS.2.2 dX10_paper_39
    · skip
      have f12 := bo_t hw8 c10
      refine lv_iload_n hx hb dX10_paper_15 rfl (lv_at hl 3 rfl) ?_
      refine st_i1 (va_runS (As := [.int y]) (rest := []) ⟨hx, hb, hml, hown, hts⟩ (ct_X10_isOwner l D cI cY cJ cQ _ y) (va_cwS 1 hts gX10_paper_X10_isOwner rfl rfl rfl cdX10_isOwner ⟨Nat.le_of_ble_eq_true rfl, Nat.le_of_ble_eq_true rfl⟩) (cPreS (hP.sub [] rfl) hK (hD.sub [] (by decide +kernel) rfl) hN) rfl rfl hl.1 rfl (lv_room (Nat.le_of_ble_eq_true rfl)) dX10_paper_16 ⟨Nat.le_of_ble_eq_true rfl, Nat.le_of_ble_eq_true rfl⟩) hP hD hS hA [] rfl (fun _ => rfl) (fun r15 u13 H locs hw14 => ?_)
      clear hP hS
      intro hP hS
      replace hw14 : r15 = if 0 ≤ y.toInt ∧ y.toInt < 20 then 1 else 0 := hw14
      refine lv_if_eq (tgt := 37) hx hb dX10_paper_19 (by decide) (fun c16 => ?_) (fun c16 => ?_)
      · skip
        have f17 := bo_f hw14 c16
        refine lv_ldc hx hb hown (hts (Cond.constant RX10 89 (-1000001)) (wm_t (wm_l (wm_i 0 rfl)))) dX10_paper_37 ?_
        have hP9 := hP
        have hD9 := hD
        exact W.iret (v := (-1000001)) hx hb hr (fun t ht hW => ⟨⟨(-1000001), (pn, pk, pf, po, pd, pe, pr), rfl, ⟨(by unfold sp_paper; (repeat' split) <;> first | rfl | (exfalso; omega)), (by assumption), (by first | exact fun h9 => h9 | assumption)⟩, by rw [ht]; exact hP9, va_K.moved hW.alike hK, hD9⟩, hS.F ht⟩) hS.2.2 dX10_paper_39
      · skip
        have f18 := bo_t hw14 c16
        refine lv_iload_n hx hb dX10_paper_22 rfl (lv_at hl 2 rfl) ?_
        refine lv_iload_n hx hb dX10_paper_23 rfl (lv_at hl 3 rfl) ?_
        refine lv_icmp_eq (tgt := 37) hx hb dX10_paper_24 (by decide) (fun c19 => ?_) (fun c19 => ?_)
        · skip
          have f20 := i_eq c19
          refine lv_ldc hx hb hown (hts (Cond.constant RX10 89 (-1000001)) (wm_t (wm_l (wm_i 0 rfl)))) dX10_paper_37 ?_
          have hP9 := hP
          have hD9 := hD
          exact W.iret (v := (-1000001)) hx hb hr (fun t ht hW => ⟨⟨(-1000001), (pn, pk, pf, po, pd, pe, pr), rfl, ⟨(by unfold sp_paper; (repeat' split) <;> first | rfl | (exfalso; omega)), (by assumption), (by first | exact fun h9 => h9 | assumption)⟩, by rw [ht]; exact hP9, va_K.moved hW.alike hK, hD9⟩, hS.F ht⟩) hS.2.2 dX10_paper_39
        · skip
          have f21 := i_ne c19
          refine lv_iload hx hb dX10_paper_27 (lv_at hl 4 rfl) ?_
          refine lv_iload hx hb dX10_paper_29 (lv_at hl 5 rfl) ?_
          refine st_i1 (va_runS (As := [.int a, .int b]) (rest := []) ⟨hx, hb, hml, hown, hts⟩ (ct_X10_areDays l D cI cY cJ cQ _ a b) (va_cwS 2 hts gX10_paper_X10_areDays rfl rfl rfl cdX10_areDays ⟨Nat.le_of_ble_eq_true rfl, Nat.le_of_ble_eq_true rfl⟩) (cPreS (hP.sub [] rfl) hK (hD.sub [] (by decide +kernel) rfl) hN) rfl rfl hl.1 rfl (lv_room (Nat.le_of_ble_eq_true rfl)) dX10_paper_31 ⟨Nat.le_of_ble_eq_true rfl, Nat.le_of_ble_eq_true rfl⟩) hP hD hS hA [] rfl (fun _ => rfl) (fun r24 u22 H locs hw23 => ?_)
          clear hP hS
          intro hP hS
          replace hw23 : r24 = if 0 ≤ a.toInt ∧ b.toInt < 10000 ∧ a.toInt ≤ b.toInt then 1 else 0 := hw23
          refine lv_if_ne (tgt := 40) hx hb dX10_paper_34 (by decide) (fun c25 => ?_) (fun c25 => ?_)
          · skip
            have f26 := bo_t hw23 c25
            refine lv_aload_n hx hb dX10_paper_40 rfl (lv_at hl 0 rfl) ?_
            refine va_get (D := D) (ci := 10) (v := .ref (ad 4)) (C := RX10) (T := TX10) (N := 14) hx hb hts inX10_paper_X10 hown hK hP 0 rfl rfl 3 (by decide) (hts (Cond.fieldLink RX10 33 "PortRooms" "papers" "LPortRooms$Papers;") (wm_t (wm_l (wm_i 1 rfl)))) (fun _ h9 => h9) rfl dX10_paper_41 ?_
            refine va_get (D := D) (ci := 7) (v := .int pn) (C := RX7) (T := TX7) (N := 7) hx hb hts inX10_paper_X7 hown hK hP 2 rfl rfl 6 (by decide) (hts (Cond.fieldLink RX10 186 "PortRooms$Papers" "count" "I") (wm_t (wm_l (wm_i 2 rfl)))) (fun _ h9 => h9) rfl dX10_paper_44 ?_
            refine lv_bipush (v := 40) hx hb dX10_paper_47 (by decide) ?_
            refine lv_icmp_lt (tgt := 55) hx hb dX10_paper_49 (by decide) (fun c27 => ?_) (fun c27 => ?_)
            · skip
              have f28 := i_lt c27
              refine lv_aload_n hx hb dX10_paper_55 rfl (lv_at hl 0 rfl) ?_
              refine va_get (D := D) (ci := 10) (v := .ref (ad 4)) (C := RX10) (T := TX10) (N := 14) hx hb hts inX10_paper_X10 hown hK hP 0 rfl rfl 3 (by decide) (hts (Cond.fieldLink RX10 33 "PortRooms" "papers" "LPortRooms$Papers;") (wm_t (wm_l (wm_i 1 rfl)))) (fun _ h9 => h9) rfl dX10_paper_56 ?_
              refine lv_iload_n hx hb dX10_paper_59 rfl (lv_at hl 1 rfl) ?_
              refine lv_iload_n hx hb dX10_paper_60 rfl (lv_at hl 2 rfl) ?_
              refine lv_iload_n hx hb dX10_paper_61 rfl (lv_at hl 3 rfl) ?_
              refine lv_iload hx hb dX10_paper_62 (lv_at hl 4 rfl) ?_
              refine lv_iload hx hb dX10_paper_64 (lv_at hl 5 rfl) ?_
              refine st_i (wr := [(oC10 ad tn td lf), (oC1 ad cn)]) (va_runV (C := RX7) (As := [.int k, .int x, .int y, .int a, .int b]) (rest := []) ⟨hx, hb, hml, hown, hts⟩ (ct_X7_tell l D cI cY cJ cQ _ ad pn pk pf po pd pe pr k x y a b h1 (by omega) h3) (cwV 5 hts gX10_paper_X7_tell rfl rfl rfl ⟨rfl, cdX7_tell⟩ ⟨Nat.le_of_ble_eq_true rfl, Nat.le_of_ble_eq_true rfl⟩) (cPreV (hP.sub [2, 3, 4, 5, 6, 7, 8] rfl) hK (hD.sub [2, 3, 4, 5, 6, 7, 8] (by decide +kernel) rfl) hN (ci := 7) (q0 := 0) rfl rfl) rfl rfl hl.1 rfl (lv_room (Nat.le_of_ble_eq_true rfl)) dX10_paper_66 ⟨Nat.le_of_ble_eq_true rfl, Nat.le_of_ble_eq_true rfl⟩) hP hD hS hA [2, 3, 4, 5, 6, 7, 8] [0, 1] rfl rfl (by decide +kernel) (by decide +kernel) (fun r31 u29 H locs hw30 => ?_)
              clear hP hD hS
              intro hP hD hS
              replace hw30 : r31 = pn + 1 ∧ okO (pn + 1) u29 ∧ (okW pn pr pd pe → okW (pn + 1) u29 (upd pd pn.toNatClampNeg a) (upd pe pn.toNatClampNeg b)) := hw30
              replace hP : va_P D vwCl [(oC10 ad tn td lf), (oC1 ad cn), (oC7 ad (pn + 1)), (aI cI (ad 36) 40 (upd pk pn.toNatClampNeg k)), (aI cI (ad 37) 40 (upd pf pn.toNatClampNeg x)), (aI cI (ad 38) 40 (upd po pn.toNatClampNeg y)), (aI cI (ad 39) 40 (upd pd pn.toNatClampNeg a)), (aI cI (ad 40) 40 (upd pe pn.toNatClampNeg b)), (aI cI (ad 41) 40 u29)] H := hP
              replace hD : va_D A [(oC10 ad tn td lf), (oC1 ad cn), (oC7 ad (pn + 1)), (aI cI (ad 36) 40 (upd pk pn.toNatClampNeg k)), (aI cI (ad 37) 40 (upd pf pn.toNatClampNeg x)), (aI cI (ad 38) 40 (upd po pn.toNatClampNeg y)), (aI cI (ad 39) 40 (upd pd pn.toNatClampNeg a)), (aI cI (ad 40) 40 (upd pe pn.toNatClampNeg b)), (aI cI (ad 41) 40 u29)] := hD
              obtain ⟨hw30, hw30o, hw30q⟩ := hw30
              subst hw30
              have hP9 := hP
              have hD9 := hD
              exact W.iret (v := pn + 1) hx hb hr (fun t ht hW => ⟨⟨pn + 1, (pn + 1, upd pk pn.toNatClampNeg k, upd pf pn.toNatClampNeg x, upd po pn.toNatClampNeg y, upd pd pn.toNatClampNeg a, upd pe pn.toNatClampNeg b, u29), rfl, ⟨(by unfold sp_paper; (repeat' split) <;> first | rfl | (exfalso; omega)), (by assumption), (by first | exact fun h9 => h9 | assumption)⟩, by rw [ht]; exact hP9, va_K.moved hW.alike hK, hD9⟩, hS.F ht⟩) hS.2.2 dX10_paper_69
            · skip
              have f32 := i_nlt c27
              refine lv_ldc hx hb hown (hts (Cond.constant RX10 145 (-1000003)) (wm_t (wm_l (wm_i 3 rfl)))) dX10_paper_52 ?_
              have hP9 := hP
              have hD9 := hD
              exact W.iret (v := (-1000003)) hx hb hr (fun t ht hW => ⟨⟨(-1000003), (pn, pk, pf, po, pd, pe, pr), rfl, ⟨(by unfold sp_paper; (repeat' split) <;> first | rfl | (exfalso; omega)), (by assumption), (by first | exact fun h9 => h9 | assumption)⟩, by rw [ht]; exact hP9, va_K.moved hW.alike hK, hD9⟩, hS.F ht⟩) hS.2.2 dX10_paper_54
          · skip
            have f33 := bo_f hw23 c25
            refine lv_ldc hx hb hown (hts (Cond.constant RX10 89 (-1000001)) (wm_t (wm_l (wm_i 0 rfl)))) dX10_paper_37 ?_
            have hP9 := hP
            have hD9 := hD
            exact W.iret (v := (-1000001)) hx hb hr (fun t ht hW => ⟨⟨(-1000001), (pn, pk, pf, po, pd, pe, pr), rfl, ⟨(by unfold sp_paper; (repeat' split) <;> first | rfl | (exfalso; omega)), (by assumption), (by first | exact fun h9 => h9 | assumption)⟩, by rw [ht]; exact hP9, va_K.moved hW.alike hK, hD9⟩, hS.F ht⟩) hS.2.2 dX10_paper_39

set_option maxHeartbeats 4000000 in
set_option maxRecDepth 100000 in
theorem ct_X7_ownerOf (l : Launch) (D : va_G) (cI cY cJ cQ : ClassId) (sz : Nat) (ad : Nat → Nat) (pn : Int32) (pk pf po pd pe pr : Nat → Int32) (k : Int32) (x : Int32) (d : Int32) (n : Int32)  (h1 : 0 ≤ pn.toInt) (h2 : pn.toInt ≤ 40) (h3 : okO pn pr)  : Met l yX7_ownerOf wsX7_ownerOf ({ frames := 1, cells := 0, slots := 0, locals := 23 }) (cPre D (ty4 cI cY cJ cQ) [(oC7 ad pn), (aI cI (ad 36) 40 pk), (aI cI (ad 37) 40 pf), (aI cI (ad 38) 40 po), (aI cI (ad 39) 40 pd), (aI cI (ad 40) 40 pe), (aI cI (ad 41) 40 pr)] sz [.ref (ad 4), .int k, .int x, .int d, .int n]) (va_Qi (fun (r : Int32) (u : Unit) => r = owV pk pf po pd pe pr k d n x pn.toNatClampNeg) (cB D (ty4 cI cY cJ cQ) (fun (u : Unit) => [(oC7 ad pn), (aI cI (ad 36) 40 pk), (aI cI (ad 37) 40 pf), (aI cI (ad 38) 40 po), (aI cI (ad 39) 40 pd), (aI cI (ad 40) 40 pe), (aI cI (ad 41) 40 pr)]) (va_A [(oC7 ad pn), (aI cI (ad 36) 40 pk), (aI cI (ad 37) 40 pf), (aI cI (ad 38) 40 po), (aI cI (ad 39) 40 pd), (aI cI (ad 40) 40 pe), (aI cI (ad 41) 40 pr)] sz)) (va_A [(oC7 ad pn), (aI cI (ad 36) 40 pk), (aI cI (ad 37) 40 pf), (aI cI (ad 38) 40 po), (aI cI (ad 39) 40 pd), (aI cI (ad 40) 40 pe), (aI cI (ad 41) 40 pr)] sz)) 0 0 (va_A [(oC7 ad pn), (aI cI (ad 36) 40 pk), (aI cI (ad 37) 40 pf), (aI cI (ad 38) 40 po), (aI cI (ad 39) 40 pd), (aI cI (ad 40) 40 pe), (aI cI (ad 41) 40 pr)] sz) := by
  refine Met.ofW (cc := cX7_ownerOf) (maxL := 8) (ret := (some .int)) (by decide) rfl ?_
  intro p e s m args below meth c s₁ B hml hv
  obtain ⟨rfl, hsz, hP, hK, hD0, hN⟩ := hv
  have hx := B.exec
  have hb := B.bytes
  have hr := B.returns
  have hts := atoms_spec (ws := wsX7_ownerOf) B.pre
  have hown : s.vm.findClass RX7 = some m.cls := findClass_of_methodNamed B.named
  have hlocks := B.notSynchronized
  subst hsz
  have hD := hD0.self (sz := s.heap.size)
  generalize hAe : va_A [(oC7 ad pn), (aI cI (ad 36) 40 pk), (aI cI (ad 37) 40 pf), (aI cI (ad 38) 40 po), (aI cI (ad 39) 40 pd), (aI cI (ad 40) 40 pe), (aI cI (ad 41) 40 pr)] s.heap.size = A at hD ⊢
  have hA : ∀ q : Nat, s.heap.size ≤ q → A q := fun q h => by rw [← hAe]; exact Or.inr h
  have hS : va_S A s.heap s.heap [] := va_S.rf
  have hP : va_P D vwCl [(oC7 ad pn), (aI cI (ad 36) 40 pk), (aI cI (ad 37) 40 pf), (aI cI (ad 38) 40 po), (aI cI (ad 39) 40 pd), (aI cI (ad 40) 40 pe), (aI cI (ad 41) 40 pr)] s.heap := hP
  have hl := lv_entry ([.ref (ad 4), .int k, .int x, .int d, .int n]) (n := 8) (Nat.le_of_ble_eq_true rfl)
  rw [lg_entry_eq]
  generalize (lg_sl ([.ref (ad 4), .int k, .int x, .int d, .int n]) ++ List.replicate (8 - (lg_sl ([.ref (ad 4), .int k, .int x, .int d, .int n])).length) Slot.unset).toArray = ls at hl ⊢
  have hl : lv_has ls 8 [(0, .ref (ad 4)), (1, .int k), (2, .int x), (3, .int d), (4, .int n)] := hl
  have k0 : (0 : Int32).toInt = 0 := by decide
  have k1 : (1 : Int32).toInt = 1 := by decide
  refine lv_iload_n hx hb dX7_ownerOf_0 rfl (lv_at hl 2 rfl) ?_
  refine lv_istore (lv' := [(5, .int x), (0, .ref (ad 4)), (1, .int k), (2, .int x), (3, .int d), (4, .int n)]) hx hb dX7_ownerOf_1 hl (by decide) rfl (fun ls hl => ?_)
  refine lv_iconst (v := 0) hx hb dX7_ownerOf_3 (by decide) ?_
  refine lv_istore (lv' := [(6, .int 0), (5, .int x), (0, .ref (ad 4)), (1, .int k), (2, .int x), (3, .int d), (4, .int n)]) hx hb dX7_ownerOf_4 hl (by decide) rfl (fun ls hl => ?_)
  refine st_loop 6 (fun _ => []) (fun (z : Int32 × Int32) (ls : Array Slot) (H : Heap) (locs : List Loc) => match z with | (q6_5, q6_6) => (0 ≤ q6_6.toInt) ∧ (q6_6.toInt ≤ pn.toInt) ∧ (q6_5 = owV pk pf po pd pe pr k d n x q6_6.toNatClampNeg) ∧ lv_has ls 8 [(0, .ref (ad 4)), (1, .int k), (2, .int x), (3, .int d), (4, .int n), (5, .int q6_5), (6, .int q6_6)] ∧ va_P D vwCl [(oC7 ad pn), (aI cI (ad 36) 40 pk), (aI cI (ad 37) 40 pf), (aI cI (ad 38) 40 po), (aI cI (ad 39) 40 pd), (aI cI (ad 40) 40 pe), (aI cI (ad 41) 40 pr)] H ∧ va_D A [(oC7 ad pn), (aI cI (ad 36) 40 pk), (aI cI (ad 37) 40 pf), (aI cI (ad 38) 40 po), (aI cI (ad 39) 40 pd), (aI cI (ad 40) 40 pe), (aI cI (ad 41) 40 pr)] ∧ va_S A s.heap H locs) (fun (z : Int32 × Int32) => match z with | (q6_5, q6_6) => pn.toInt - q6_6.toInt) ?_ ?_ (x, (0 : Int32)) ⟨(by omega), (by omega), (by rfl), lv_sub hl [2, 3, 4, 5, 6, 1, 0] rfl, hP, hD, hS⟩
  · rintro ⟨q6_5, q6_6⟩ ls H locs ⟨g1, g2, g3, hl, hP, hD, hS⟩
    show (0 : Int) ≤ pn.toInt - q6_6.toInt
    omega
  · rintro n6 ih4 ⟨q6_5, q6_6⟩ ls H locs ⟨g1, g2, g3, hl, hP, hD, hS⟩ hm5
    have hm5 : pn.toInt - q6_6.toInt < (n6 : Int) + 1 := hm5
    replace hl : lv_has ls 8 [(0, .ref (ad 4)), (1, .int k), (2, .int x), (3, .int d), (4, .int n), (5, .int q6_5), (6, .int q6_6)] := hl
    replace hP : va_P D vwCl [(oC7 ad pn), (aI cI (ad 36) 40 pk), (aI cI (ad 37) 40 pf), (aI cI (ad 38) 40 po), (aI cI (ad 39) 40 pd), (aI cI (ad 40) 40 pe), (aI cI (ad 41) 40 pr)] H := hP
    replace hD : va_D A [(oC7 ad pn), (aI cI (ad 36) 40 pk), (aI cI (ad 37) 40 pf), (aI cI (ad 38) 40 po), (aI cI (ad 39) 40 pd), (aI cI (ad 40) 40 pe), (aI cI (ad 41) 40 pr)] := hD
    show W _ _ _ _ _ _ _ _ _ _ _ _ _ _ _ (F0 m 6 ls [])
    refine lv_iload hx hb dX7_ownerOf_6 (lv_at hl 6 rfl) ?_
    refine lv_aload_n hx hb dX7_ownerOf_8 rfl (lv_at hl 0 rfl) ?_
    refine va_get (D := D) (ci := 7) (v := .int pn) (C := RX7) (T := TX7) (N := 7) hx hb hts inX7_ownerOf_X7 hown hK hP 0 rfl rfl 6 (by decide) (hts (Cond.fieldLink RX7 30 "PortRooms$Papers" "count" "I") (wm_t (wm_l (wm_i 0 rfl)))) (fun _ h9 => h9) rfl dX7_ownerOf_9 ?_
    refine lv_icmp_ge (tgt := 74) hx hb dX7_ownerOf_12 (by decide) (fun c7 => ?_) (fun c7 => ?_)
    · skip
      have f8 := i_le c7
      refine lv_iload hx hb dX7_ownerOf_74 (lv_at hl 5 rfl) ?_
      have ce8 := i_cl (x := q6_6) (by omega)
      have ce9 := i_cl (x := pn) (by omega)
      have ee9 : q6_6.toNatClampNeg = pn.toNatClampNeg := by omega
      have hz9 := g3
      rw [ee9] at hz9
      have hP9 := hP
      have hD9 := hD
      exact W.iret (v := q6_5) hx hb hr (fun t ht hW => ⟨⟨q6_5, (), rfl, hz9, by rw [ht]; exact hP9, va_K.moved hW.alike hK, hD9⟩, hS.F ht⟩) hS.2.2 dX7_ownerOf_76
    · skip
      have f9 := i_nle c7
      refine lv_aload_n hx hb dX7_ownerOf_15 rfl (lv_at hl 0 rfl) ?_
      refine va_get (D := D) (ci := 7) (v := .ref (ad 41)) (C := RX7) (T := TX7) (N := 7) hx hb hts inX7_ownerOf_X7 hown hK hP 0 rfl rfl 5 (by decide) (hts (Cond.fieldLink RX7 27 "PortRooms$Papers" "order" "[I") (wm_t (wm_l (wm_i 1 rfl)))) (fun _ h9 => h9) rfl dX7_ownerOf_16 ?_
      refine lv_iload hx hb dX7_ownerOf_19 (lv_at hl 6 rfl) ?_
      refine va_iald hx hb hK hP 6 0 rfl rfl (i_in (by omega) (by omega)) dX7_ownerOf_21 ?_
      refine lv_topi (fun v10 ev10 => ?_)
      have tlv10 : v10.toInt = (pr q6_6.toNatClampNeg).toInt := by rw [ev10]
      have qv10 := okO_at h3 ev10 (by omega) (by omega)
      refine lv_istore (lv' := [(7, .int v10), (0, .ref (ad 4)), (1, .int k), (2, .int x), (3, .int d), (4, .int n), (5, .int q6_5), (6, .int q6_6)]) hx hb dX7_ownerOf_22 hl (by decide) rfl (fun ls hl => ?_)
      refine lv_aload_n hx hb dX7_ownerOf_24 rfl (lv_at hl 1 rfl) ?_
      refine lv_iload hx hb dX7_ownerOf_25 (lv_at hl 0 rfl) ?_
      refine lv_iload_n hx hb dX7_ownerOf_27 rfl (lv_at hl 2 rfl) ?_
      refine lv_iload hx hb dX7_ownerOf_28 (lv_at hl 5 rfl) ?_
      refine st_i1 (va_runV (C := RX7) (As := [.int v10, .int k, .int n]) (rest := []) ⟨hx, hb, hml, hown, hts⟩ (ct_X7_isKnown l D cI cY cJ cQ _ ad pn pk pe v10 k n (by omega) (by omega)) (cwV 3 hts gX7_ownerOf_X7_isKnown rfl rfl rfl ⟨rfl, cdX7_isKnown⟩ ⟨Nat.le_of_ble_eq_true rfl, Nat.le_of_ble_eq_true rfl⟩) (cPreV (hP.sub [0, 1, 5] rfl) hK (hD.sub [0, 1, 5] (by decide +kernel) rfl) hN (ci := 7) (q0 := 0) rfl rfl) rfl rfl hl.1 rfl (lv_room (Nat.le_of_ble_eq_true rfl)) dX7_ownerOf_30 ⟨Nat.le_of_ble_eq_true rfl, Nat.le_of_ble_eq_true rfl⟩) hP hD hS hA [0, 1, 5] rfl (fun _ => rfl) (fun r13 u11 H locs hw12 => ?_)
      clear hP hS
      intro hP hS
      replace hw12 : r13 = if (pk v10.toNatClampNeg).toInt = k.toInt ∧ (pe v10.toNatClampNeg).toInt ≤ n.toInt then 1 else 0 := hw12
      refine lv_if_eq (tgt := 68) hx hb dX7_ownerOf_33 (by decide) (fun c14 => ?_) (fun c14 => ?_)
      · skip
        have f15 := bo_f hw12 c14
        obtain ⟨v16, ev16⟩ : ∃ y : Int32, y = q6_6 + 1 := ⟨_, rfl⟩
        try have tv16 : v16.toInt = q6_6.toInt + 1 := by rw [ev16]; exact (i_add (x := q6_6) (y := (1 : Int32)) (by rw [k1]; omega) (by rw [k1]; omega)).trans (by rw [k1])
        refine lv_iinc (v := v16) (lv' := [(6, .int v16), (7, .int v10), (0, .ref (ad 4)), (1, .int k), (2, .int x), (3, .int d), (4, .int n), (5, .int q6_5)]) hx hb dX7_ownerOf_68 hl (k := 7) rfl (by rw [ev16]; rfl) (by decide) rfl (fun ls hl => ?_)
        refine lv_goto (tgt := 6) hx hb dX7_ownerOf_71 (by decide) ?_
        have clk8 := i_cl (x := q6_6) (by omega)
        have clk9 := i_cl (x := v16) (by omega)
        have ek9 : v16.toNatClampNeg = q6_6.toNatClampNeg + 1 := by omega
        exact ih4 (q6_5, v16) ls H locs ⟨(by omega), (by omega), (by rw [ek9, owV_s, ← g3, ← ev10]; (repeat' split) <;> first | (exfalso; omega) | rfl | (subst_vars; rfl)), lv_sub hl [2, 3, 4, 5, 6, 7, 0] rfl, hP.sub [0, 1, 2, 3, 4, 5, 6] rfl, hD.sub [0, 1, 2, 3, 4, 5, 6] (by decide +kernel) rfl, hS⟩ (by show pn.toInt - v16.toInt < _; omega)
      · skip
        have f17 := bo_t hw12 c14
        refine lv_aload_n hx hb dX7_ownerOf_36 rfl (lv_at hl 1 rfl) ?_
        refine va_get (D := D) (ci := 7) (v := .ref (ad 39)) (C := RX7) (T := TX7) (N := 7) hx hb hts inX7_ownerOf_X7 hown hK hP 0 rfl rfl 3 (by decide) (hts (Cond.fieldLink RX7 21 "PortRooms$Papers" "said" "[I") (wm_t (wm_l (wm_i 2 rfl)))) (fun _ h9 => h9) rfl dX7_ownerOf_37 ?_
        refine lv_iload hx hb dX7_ownerOf_40 (lv_at hl 0 rfl) ?_
        refine va_iald hx hb hK hP 4 0 rfl rfl (i_in (by omega) (by omega)) dX7_ownerOf_42 ?_
        refine lv_topi (fun v18 ev18 => ?_)
        have tlv18 : v18.toInt = (pd v10.toNatClampNeg).toInt := by rw [ev18]
        refine lv_iload_n hx hb dX7_ownerOf_43 rfl (lv_at hl 4 rfl) ?_
        refine lv_icmp_gt (tgt := 68) hx hb dX7_ownerOf_44 (by decide) (fun c19 => ?_) (fun c19 => ?_)
        · skip
          have f20 := i_lt c19
          obtain ⟨v21, ev21⟩ : ∃ y : Int32, y = q6_6 + 1 := ⟨_, rfl⟩
          try have tv21 : v21.toInt = q6_6.toInt + 1 := by rw [ev21]; exact (i_add (x := q6_6) (y := (1 : Int32)) (by rw [k1]; omega) (by rw [k1]; omega)).trans (by rw [k1])
          refine lv_iinc (v := v21) (lv' := [(6, .int v21), (7, .int v10), (0, .ref (ad 4)), (1, .int k), (2, .int x), (3, .int d), (4, .int n), (5, .int q6_5)]) hx hb dX7_ownerOf_68 hl (k := 7) rfl (by rw [ev21]; rfl) (by decide) rfl (fun ls hl => ?_)
          refine lv_goto (tgt := 6) hx hb dX7_ownerOf_71 (by decide) ?_
          have clk8 := i_cl (x := q6_6) (by omega)
          have clk9 := i_cl (x := v21) (by omega)
          have ek9 : v21.toNatClampNeg = q6_6.toNatClampNeg + 1 := by omega
          exact ih4 (q6_5, v21) ls H locs ⟨(by omega), (by omega), (by rw [ek9, owV_s, ← g3, ← ev10]; (repeat' split) <;> first | (exfalso; omega) | rfl | (subst_vars; rfl)), lv_sub hl [2, 3, 4, 5, 6, 7, 0] rfl, hP.sub [0, 1, 2, 3, 4, 5, 6] rfl, hD.sub [0, 1, 2, 3, 4, 5, 6] (by decide +kernel) rfl, hS⟩ (by show pn.toInt - v21.toInt < _; omega)
        · skip
          have f22 := i_nlt c19
          refine lv_aload_n hx hb dX7_ownerOf_47 rfl (lv_at hl 1 rfl) ?_
          refine va_get (D := D) (ci := 7) (v := .ref (ad 37)) (C := RX7) (T := TX7) (N := 7) hx hb hts inX7_ownerOf_X7 hown hK hP 0 rfl rfl 1 (by decide) (hts (Cond.fieldLink RX7 15 "PortRooms$Papers" "from" "[I") (wm_t (wm_l (wm_i 3 rfl)))) (fun _ h9 => h9) rfl dX7_ownerOf_48 ?_
          refine lv_iload hx hb dX7_ownerOf_51 (lv_at hl 0 rfl) ?_
          refine va_iald hx hb hK hP 2 0 rfl rfl (i_in (by omega) (by omega)) dX7_ownerOf_53 ?_
          refine lv_topi (fun v23 ev23 => ?_)
          have tlv23 : v23.toInt = (pf v10.toNatClampNeg).toInt := by rw [ev23]
          refine lv_iload hx hb dX7_ownerOf_54 (lv_at hl 6 rfl) ?_
          refine lv_icmp_ne (tgt := 68) hx hb dX7_ownerOf_56 (by decide) (fun c24 => ?_) (fun c24 => ?_)
          · skip
            have f25 := i_ne c24
            obtain ⟨v26, ev26⟩ : ∃ y : Int32, y = q6_6 + 1 := ⟨_, rfl⟩
            try have tv26 : v26.toInt = q6_6.toInt + 1 := by rw [ev26]; exact (i_add (x := q6_6) (y := (1 : Int32)) (by rw [k1]; omega) (by rw [k1]; omega)).trans (by rw [k1])
            refine lv_iinc (v := v26) (lv' := [(6, .int v26), (7, .int v10), (0, .ref (ad 4)), (1, .int k), (2, .int x), (3, .int d), (4, .int n), (5, .int q6_5)]) hx hb dX7_ownerOf_68 hl (k := 7) rfl (by rw [ev26]; rfl) (by decide) rfl (fun ls hl => ?_)
            refine lv_goto (tgt := 6) hx hb dX7_ownerOf_71 (by decide) ?_
            have clk8 := i_cl (x := q6_6) (by omega)
            have clk9 := i_cl (x := v26) (by omega)
            have ek9 : v26.toNatClampNeg = q6_6.toNatClampNeg + 1 := by omega
            exact ih4 (q6_5, v26) ls H locs ⟨(by omega), (by omega), (by rw [ek9, owV_s, ← g3, ← ev10]; (repeat' split) <;> first | (exfalso; omega) | rfl | (subst_vars; rfl)), lv_sub hl [2, 3, 4, 5, 6, 7, 0] rfl, hP.sub [0, 1, 2, 3, 4, 5, 6] rfl, hD.sub [0, 1, 2, 3, 4, 5, 6] (by decide +kernel) rfl, hS⟩ (by show pn.toInt - v26.toInt < _; omega)
          · skip
            have f27 := i_eq c24
            refine lv_aload_n hx hb dX7_ownerOf_59 rfl (lv_at hl 1 rfl) ?_
            refine va_get (D := D) (ci := 7) (v := .ref (ad 38)) (C := RX7) (T := TX7) (N := 7) hx hb hts inX7_ownerOf_X7 hown hK hP 0 rfl rfl 2 (by decide) (hts (Cond.fieldLink RX7 18 "PortRooms$Papers" "to" "[I") (wm_t (wm_l (wm_i 4 rfl)))) (fun _ h9 => h9) rfl dX7_ownerOf_60 ?_
            refine lv_iload hx hb dX7_ownerOf_63 (lv_at hl 0 rfl) ?_
            refine va_iald hx hb hK hP 3 0 rfl rfl (i_in (by omega) (by omega)) dX7_ownerOf_65 ?_
            refine lv_topi (fun v28 ev28 => ?_)
            have tlv28 : v28.toInt = (po v10.toNatClampNeg).toInt := by rw [ev28]
            refine lv_istore (lv' := [(5, .int v28), (7, .int v10), (0, .ref (ad 4)), (1, .int k), (2, .int x), (3, .int d), (4, .int n), (6, .int q6_6)]) hx hb dX7_ownerOf_66 hl (by decide) rfl (fun ls hl => ?_)
            obtain ⟨v29, ev29⟩ : ∃ y : Int32, y = q6_6 + 1 := ⟨_, rfl⟩
            try have tv29 : v29.toInt = q6_6.toInt + 1 := by rw [ev29]; exact (i_add (x := q6_6) (y := (1 : Int32)) (by rw [k1]; omega) (by rw [k1]; omega)).trans (by rw [k1])
            refine lv_iinc (v := v29) (lv' := [(6, .int v29), (5, .int v28), (7, .int v10), (0, .ref (ad 4)), (1, .int k), (2, .int x), (3, .int d), (4, .int n)]) hx hb dX7_ownerOf_68 hl (k := 7) rfl (by rw [ev29]; rfl) (by decide) rfl (fun ls hl => ?_)
            refine lv_goto (tgt := 6) hx hb dX7_ownerOf_71 (by decide) ?_
            have clk8 := i_cl (x := q6_6) (by omega)
            have clk9 := i_cl (x := v29) (by omega)
            have ek9 : v29.toNatClampNeg = q6_6.toNatClampNeg + 1 := by omega
            exact ih4 (v28, v29) ls H locs ⟨(by omega), (by omega), (by rw [ek9, owV_s, ← g3, ← ev10]; (repeat' split) <;> first | (exfalso; omega) | rfl | (subst_vars; rfl)), lv_sub hl [3, 4, 5, 6, 7, 1, 0] rfl, hP.sub [0, 1, 2, 3, 4, 5, 6] rfl, hD.sub [0, 1, 2, 3, 4, 5, 6] (by decide +kernel) rfl, hS⟩ (by show pn.toInt - v29.toInt < _; omega)

set_option maxHeartbeats 4000000 in
set_option maxRecDepth 100000 in
theorem ct_X7_notGood (l : Launch) (D : va_G) (cI cY cJ cQ : ClassId) (sz : Nat) (ad : Nat → Nat) (pn : Int32) (pk pf po pd pe pr : Nat → Int32) (k : Int32) (x : Int32) (n : Int32)  (h1 : 0 ≤ pn.toInt) (h2 : pn.toInt ≤ 40) (h3 : okO pn pr)  : Met l yX7_notGood wsX7_notGood ({ frames := 1, cells := 0, slots := 0, locals := 23 }) (cPre D (ty4 cI cY cJ cQ) [(oC7 ad pn), (aI cI (ad 36) 40 pk), (aI cI (ad 37) 40 pf), (aI cI (ad 38) 40 po), (aI cI (ad 39) 40 pd), (aI cI (ad 40) 40 pe), (aI cI (ad 41) 40 pr)] sz [.ref (ad 4), .int k, .int x, .int n]) (va_Qi (fun (r : Int32) (u : Unit) => r = (ngV pk pf po pe pr k n x pn.toNatClampNeg).2) (cB D (ty4 cI cY cJ cQ) (fun (u : Unit) => [(oC7 ad pn), (aI cI (ad 36) 40 pk), (aI cI (ad 37) 40 pf), (aI cI (ad 38) 40 po), (aI cI (ad 39) 40 pd), (aI cI (ad 40) 40 pe), (aI cI (ad 41) 40 pr)]) (va_A [(oC7 ad pn), (aI cI (ad 36) 40 pk), (aI cI (ad 37) 40 pf), (aI cI (ad 38) 40 po), (aI cI (ad 39) 40 pd), (aI cI (ad 40) 40 pe), (aI cI (ad 41) 40 pr)] sz)) (va_A [(oC7 ad pn), (aI cI (ad 36) 40 pk), (aI cI (ad 37) 40 pf), (aI cI (ad 38) 40 po), (aI cI (ad 39) 40 pd), (aI cI (ad 40) 40 pe), (aI cI (ad 41) 40 pr)] sz)) 0 0 (va_A [(oC7 ad pn), (aI cI (ad 36) 40 pk), (aI cI (ad 37) 40 pf), (aI cI (ad 38) 40 po), (aI cI (ad 39) 40 pd), (aI cI (ad 40) 40 pe), (aI cI (ad 41) 40 pr)] sz) := by
  refine Met.ofW (cc := cX7_notGood) (maxL := 8) (ret := (some .int)) (by decide) rfl ?_
  intro p e s m args below meth c s₁ B hml hv
  obtain ⟨rfl, hsz, hP, hK, hD0, hN⟩ := hv
  have hx := B.exec
  have hb := B.bytes
  have hr := B.returns
  have hts := atoms_spec (ws := wsX7_notGood) B.pre
  have hown : s.vm.findClass RX7 = some m.cls := findClass_of_methodNamed B.named
  have hlocks := B.notSynchronized
  subst hsz
  have hD := hD0.self (sz := s.heap.size)
  generalize hAe : va_A [(oC7 ad pn), (aI cI (ad 36) 40 pk), (aI cI (ad 37) 40 pf), (aI cI (ad 38) 40 po), (aI cI (ad 39) 40 pd), (aI cI (ad 40) 40 pe), (aI cI (ad 41) 40 pr)] s.heap.size = A at hD ⊢
  have hA : ∀ q : Nat, s.heap.size ≤ q → A q := fun q h => by rw [← hAe]; exact Or.inr h
  have hS : va_S A s.heap s.heap [] := va_S.rf
  have hP : va_P D vwCl [(oC7 ad pn), (aI cI (ad 36) 40 pk), (aI cI (ad 37) 40 pf), (aI cI (ad 38) 40 po), (aI cI (ad 39) 40 pd), (aI cI (ad 40) 40 pe), (aI cI (ad 41) 40 pr)] s.heap := hP
  have hl := lv_entry ([.ref (ad 4), .int k, .int x, .int n]) (n := 8) (Nat.le_of_ble_eq_true rfl)
  rw [lg_entry_eq]
  generalize (lg_sl ([.ref (ad 4), .int k, .int x, .int n]) ++ List.replicate (8 - (lg_sl ([.ref (ad 4), .int k, .int x, .int n])).length) Slot.unset).toArray = ls at hl ⊢
  have hl : lv_has ls 8 [(0, .ref (ad 4)), (1, .int k), (2, .int x), (3, .int n)] := hl
  have k0 : (0 : Int32).toInt = 0 := by decide
  have k1 : (1 : Int32).toInt = 1 := by decide
  refine lv_iload_n hx hb dX7_notGood_0 rfl (lv_at hl 2 rfl) ?_
  refine lv_istore (lv' := [(4, .int x), (0, .ref (ad 4)), (1, .int k), (2, .int x), (3, .int n)]) hx hb dX7_notGood_1 hl (by decide) rfl (fun ls hl => ?_)
  refine lv_iconst (v := 0) hx hb dX7_notGood_3 (by decide) ?_
  refine lv_istore (lv' := [(5, .int 0), (4, .int x), (0, .ref (ad 4)), (1, .int k), (2, .int x), (3, .int n)]) hx hb dX7_notGood_4 hl (by decide) rfl (fun ls hl => ?_)
  refine lv_iconst (v := 0) hx hb dX7_notGood_6 (by decide) ?_
  refine lv_istore (lv' := [(6, .int 0), (5, .int 0), (4, .int x), (0, .ref (ad 4)), (1, .int k), (2, .int x), (3, .int n)]) hx hb dX7_notGood_7 hl (by decide) rfl (fun ls hl => ?_)
  refine st_loop 9 (fun _ => []) (fun (z : Int32 × Int32 × Int32) (ls : Array Slot) (H : Heap) (locs : List Loc) => match z with | (q9_4, q9_5, q9_6) => (0 ≤ q9_6.toInt) ∧ (q9_6.toInt ≤ pn.toInt) ∧ ((q9_4, q9_5) = ngV pk pf po pe pr k n x q9_6.toNatClampNeg) ∧ lv_has ls 8 [(0, .ref (ad 4)), (1, .int k), (2, .int x), (3, .int n), (4, .int q9_4), (5, .int q9_5), (6, .int q9_6)] ∧ va_P D vwCl [(oC7 ad pn), (aI cI (ad 36) 40 pk), (aI cI (ad 37) 40 pf), (aI cI (ad 38) 40 po), (aI cI (ad 39) 40 pd), (aI cI (ad 40) 40 pe), (aI cI (ad 41) 40 pr)] H ∧ va_D A [(oC7 ad pn), (aI cI (ad 36) 40 pk), (aI cI (ad 37) 40 pf), (aI cI (ad 38) 40 po), (aI cI (ad 39) 40 pd), (aI cI (ad 40) 40 pe), (aI cI (ad 41) 40 pr)] ∧ va_S A s.heap H locs) (fun (z : Int32 × Int32 × Int32) => match z with | (q9_4, q9_5, q9_6) => pn.toInt - q9_6.toInt) ?_ ?_ (x, (0 : Int32), (0 : Int32)) ⟨(by omega), (by omega), (by rfl), lv_sub hl [3, 4, 5, 6, 2, 1, 0] rfl, hP, hD, hS⟩
  · rintro ⟨q9_4, q9_5, q9_6⟩ ls H locs ⟨g1, g2, g3, hl, hP, hD, hS⟩
    show (0 : Int) ≤ pn.toInt - q9_6.toInt
    omega
  · rintro n6 ih4 ⟨q9_4, q9_5, q9_6⟩ ls H locs ⟨g1, g2, g3, hl, hP, hD, hS⟩ hm5
    have hm5 : pn.toInt - q9_6.toInt < (n6 : Int) + 1 := hm5
    replace hl : lv_has ls 8 [(0, .ref (ad 4)), (1, .int k), (2, .int x), (3, .int n), (4, .int q9_4), (5, .int q9_5), (6, .int q9_6)] := hl
    replace hP : va_P D vwCl [(oC7 ad pn), (aI cI (ad 36) 40 pk), (aI cI (ad 37) 40 pf), (aI cI (ad 38) 40 po), (aI cI (ad 39) 40 pd), (aI cI (ad 40) 40 pe), (aI cI (ad 41) 40 pr)] H := hP
    replace hD : va_D A [(oC7 ad pn), (aI cI (ad 36) 40 pk), (aI cI (ad 37) 40 pf), (aI cI (ad 38) 40 po), (aI cI (ad 39) 40 pd), (aI cI (ad 40) 40 pe), (aI cI (ad 41) 40 pr)] := hD
    show W _ _ _ _ _ _ _ _ _ _ _ _ _ _ _ (F0 m 9 ls [])
    refine lv_iload hx hb dX7_notGood_9 (lv_at hl 6 rfl) ?_
    refine lv_aload_n hx hb dX7_notGood_11 rfl (lv_at hl 0 rfl) ?_
    refine va_get (D := D) (ci := 7) (v := .int pn) (C := RX7) (T := TX7) (N := 7) hx hb hts inX7_notGood_X7 hown hK hP 0 rfl rfl 6 (by decide) (hts (Cond.fieldLink RX7 30 "PortRooms$Papers" "count" "I") (wm_t (wm_l (wm_i 0 rfl)))) (fun _ h9 => h9) rfl dX7_notGood_12 ?_
    refine lv_icmp_ge (tgt := 74) hx hb dX7_notGood_15 (by decide) (fun c7 => ?_) (fun c7 => ?_)
    · skip
      have f8 := i_le c7
      refine lv_iload hx hb dX7_notGood_74 (lv_at hl 5 rfl) ?_
      have ce8 := i_cl (x := q9_6) (by omega)
      have ce9 := i_cl (x := pn) (by omega)
      have ee9 : q9_6.toNatClampNeg = pn.toNatClampNeg := by omega
      have hz9 := g3
      rw [ee9] at hz9
      have hP9 := hP
      have hD9 := hD
      exact W.iret (v := q9_5) hx hb hr (fun t ht hW => ⟨⟨q9_5, (), rfl, (by rw [← hz9]), by rw [ht]; exact hP9, va_K.moved hW.alike hK, hD9⟩, hS.F ht⟩) hS.2.2 dX7_notGood_76
    · skip
      have f9 := i_nle c7
      refine lv_aload_n hx hb dX7_notGood_18 rfl (lv_at hl 0 rfl) ?_
      refine va_get (D := D) (ci := 7) (v := .ref (ad 41)) (C := RX7) (T := TX7) (N := 7) hx hb hts inX7_notGood_X7 hown hK hP 0 rfl rfl 5 (by decide) (hts (Cond.fieldLink RX7 27 "PortRooms$Papers" "order" "[I") (wm_t (wm_l (wm_i 1 rfl)))) (fun _ h9 => h9) rfl dX7_notGood_19 ?_
      refine lv_iload hx hb dX7_notGood_22 (lv_at hl 6 rfl) ?_
      refine va_iald hx hb hK hP 6 0 rfl rfl (i_in (by omega) (by omega)) dX7_notGood_24 ?_
      refine lv_topi (fun v10 ev10 => ?_)
      have tlv10 : v10.toInt = (pr q9_6.toNatClampNeg).toInt := by rw [ev10]
      have qv10 := okO_at h3 ev10 (by omega) (by omega)
      refine lv_istore (lv' := [(7, .int v10), (0, .ref (ad 4)), (1, .int k), (2, .int x), (3, .int n), (4, .int q9_4), (5, .int q9_5), (6, .int q9_6)]) hx hb dX7_notGood_25 hl (by decide) rfl (fun ls hl => ?_)
      refine lv_aload_n hx hb dX7_notGood_27 rfl (lv_at hl 1 rfl) ?_
      refine lv_iload hx hb dX7_notGood_28 (lv_at hl 0 rfl) ?_
      refine lv_iload_n hx hb dX7_notGood_30 rfl (lv_at hl 2 rfl) ?_
      refine lv_iload_n hx hb dX7_notGood_31 rfl (lv_at hl 4 rfl) ?_
      refine st_i1 (va_runV (C := RX7) (As := [.int v10, .int k, .int n]) (rest := []) ⟨hx, hb, hml, hown, hts⟩ (ct_X7_isKnown l D cI cY cJ cQ _ ad pn pk pe v10 k n (by omega) (by omega)) (cwV 3 hts gX7_notGood_X7_isKnown rfl rfl rfl ⟨rfl, cdX7_isKnown⟩ ⟨Nat.le_of_ble_eq_true rfl, Nat.le_of_ble_eq_true rfl⟩) (cPreV (hP.sub [0, 1, 5] rfl) hK (hD.sub [0, 1, 5] (by decide +kernel) rfl) hN (ci := 7) (q0 := 0) rfl rfl) rfl rfl hl.1 rfl (lv_room (Nat.le_of_ble_eq_true rfl)) dX7_notGood_32 ⟨Nat.le_of_ble_eq_true rfl, Nat.le_of_ble_eq_true rfl⟩) hP hD hS hA [0, 1, 5] rfl (fun _ => rfl) (fun r13 u11 H locs hw12 => ?_)
      clear hP hS
      intro hP hS
      replace hw12 : r13 = if (pk v10.toNatClampNeg).toInt = k.toInt ∧ (pe v10.toNatClampNeg).toInt ≤ n.toInt then 1 else 0 := hw12
      refine lv_if_ne (tgt := 41) hx hb dX7_notGood_35 (by decide) (fun c14 => ?_) (fun c14 => ?_)
      · skip
        have f15 := bo_t hw12 c14
        refine lv_aload_n hx hb dX7_notGood_41 rfl (lv_at hl 1 rfl) ?_
        refine va_get (D := D) (ci := 7) (v := .ref (ad 37)) (C := RX7) (T := TX7) (N := 7) hx hb hts inX7_notGood_X7 hown hK hP 0 rfl rfl 1 (by decide) (hts (Cond.fieldLink RX7 15 "PortRooms$Papers" "from" "[I") (wm_t (wm_l (wm_i 2 rfl)))) (fun _ h9 => h9) rfl dX7_notGood_42 ?_
        refine lv_iload hx hb dX7_notGood_45 (lv_at hl 0 rfl) ?_
        refine va_iald hx hb hK hP 2 0 rfl rfl (i_in (by omega) (by omega)) dX7_notGood_47 ?_
        refine lv_topi (fun v16 ev16 => ?_)
        have tlv16 : v16.toInt = (pf v10.toNatClampNeg).toInt := by rw [ev16]
        refine lv_iload hx hb dX7_notGood_48 (lv_at hl 5 rfl) ?_
        refine lv_icmp_ne (tgt := 65) hx hb dX7_notGood_50 (by decide) (fun c17 => ?_) (fun c17 => ?_)
        · skip
          have f18 := i_ne c17
          obtain ⟨v19, ev19⟩ : ∃ y : Int32, y = q9_5 + 1 := ⟨_, rfl⟩
          try have tv19 : v19.toInt = q9_5.toInt + 1 := by rw [ev19]; exact (i_add (x := q9_5) (y := (1 : Int32)) (by rw [k1]; omega) (by rw [k1]; omega)).trans (by rw [k1])
          refine lv_iinc (v := v19) (lv' := [(5, .int v19), (7, .int v10), (0, .ref (ad 4)), (1, .int k), (2, .int x), (3, .int n), (4, .int q9_4), (6, .int q9_6)]) hx hb dX7_notGood_65 hl (k := 6) rfl (by rw [ev19]; rfl) (by decide) rfl (fun ls hl => ?_)
          obtain ⟨v20, ev20⟩ : ∃ y : Int32, y = q9_6 + 1 := ⟨_, rfl⟩
          try have tv20 : v20.toInt = q9_6.toInt + 1 := by rw [ev20]; exact (i_add (x := q9_6) (y := (1 : Int32)) (by rw [k1]; omega) (by rw [k1]; omega)).trans (by rw [k1])
          refine lv_iinc (v := v20) (lv' := [(6, .int v20), (5, .int v19), (7, .int v10), (0, .ref (ad 4)), (1, .int k), (2, .int x), (3, .int n), (4, .int q9_4)]) hx hb dX7_notGood_68 hl (k := 7) rfl (by rw [ev20]; rfl) (by decide) rfl (fun ls hl => ?_)
          refine lv_goto (tgt := 9) hx hb dX7_notGood_71 (by decide) ?_
          have clk8 := i_cl (x := q9_6) (by omega)
          have clk9 := i_cl (x := v20) (by omega)
          have ek9 : v20.toNatClampNeg = q9_6.toNatClampNeg + 1 := by omega
          exact ih4 (q9_4, v19, v20) ls H locs ⟨(by omega), (by omega), (by rw [ek9, ngV_s, ← g3, ← ev10]; dsimp only; (repeat' split) <;> first | (exfalso; omega) | rfl | (subst_vars; rfl)), lv_sub hl [3, 4, 5, 6, 7, 1, 0] rfl, hP.sub [0, 1, 2, 3, 4, 5, 6] rfl, hD.sub [0, 1, 2, 3, 4, 5, 6] (by decide +kernel) rfl, hS⟩ (by show pn.toInt - v20.toInt < _; omega)
        · skip
          have f21 := i_eq c17
          refine lv_aload_n hx hb dX7_notGood_53 rfl (lv_at hl 1 rfl) ?_
          refine va_get (D := D) (ci := 7) (v := .ref (ad 38)) (C := RX7) (T := TX7) (N := 7) hx hb hts inX7_notGood_X7 hown hK hP 0 rfl rfl 2 (by decide) (hts (Cond.fieldLink RX7 18 "PortRooms$Papers" "to" "[I") (wm_t (wm_l (wm_i 3 rfl)))) (fun _ h9 => h9) rfl dX7_notGood_54 ?_
          refine lv_iload hx hb dX7_notGood_57 (lv_at hl 0 rfl) ?_
          refine va_iald hx hb hK hP 3 0 rfl rfl (i_in (by omega) (by omega)) dX7_notGood_59 ?_
          refine lv_topi (fun v22 ev22 => ?_)
          have tlv22 : v22.toInt = (po v10.toNatClampNeg).toInt := by rw [ev22]
          refine lv_istore (lv' := [(4, .int v22), (7, .int v10), (0, .ref (ad 4)), (1, .int k), (2, .int x), (3, .int n), (5, .int q9_5), (6, .int q9_6)]) hx hb dX7_notGood_60 hl (by decide) rfl (fun ls hl => ?_)
          refine lv_goto (tgt := 68) hx hb dX7_notGood_62 (by decide) ?_
          obtain ⟨v23, ev23⟩ : ∃ y : Int32, y = q9_6 + 1 := ⟨_, rfl⟩
          try have tv23 : v23.toInt = q9_6.toInt + 1 := by rw [ev23]; exact (i_add (x := q9_6) (y := (1 : Int32)) (by rw [k1]; omega) (by rw [k1]; omega)).trans (by rw [k1])
          refine lv_iinc (v := v23) (lv' := [(6, .int v23), (4, .int v22), (7, .int v10), (0, .ref (ad 4)), (1, .int k), (2, .int x), (3, .int n), (5, .int q9_5)]) hx hb dX7_notGood_68 hl (k := 7) rfl (by rw [ev23]; rfl) (by decide) rfl (fun ls hl => ?_)
          refine lv_goto (tgt := 9) hx hb dX7_notGood_71 (by decide) ?_
          have clk8 := i_cl (x := q9_6) (by omega)
          have clk9 := i_cl (x := v23) (by omega)
          have ek9 : v23.toNatClampNeg = q9_6.toNatClampNeg + 1 := by omega
          exact ih4 (v22, q9_5, v23) ls H locs ⟨(by omega), (by omega), (by rw [ek9, ngV_s, ← g3, ← ev10]; dsimp only; (repeat' split) <;> first | (exfalso; omega) | rfl | (subst_vars; rfl)), lv_sub hl [3, 4, 5, 6, 1, 7, 0] rfl, hP.sub [0, 1, 2, 3, 4, 5, 6] rfl, hD.sub [0, 1, 2, 3, 4, 5, 6] (by decide +kernel) rfl, hS⟩ (by show pn.toInt - v23.toInt < _; omega)
      · skip
        have f24 := bo_f hw12 c14
        refine lv_goto (tgt := 68) hx hb dX7_notGood_38 (by decide) ?_
        obtain ⟨v25, ev25⟩ : ∃ y : Int32, y = q9_6 + 1 := ⟨_, rfl⟩
        try have tv25 : v25.toInt = q9_6.toInt + 1 := by rw [ev25]; exact (i_add (x := q9_6) (y := (1 : Int32)) (by rw [k1]; omega) (by rw [k1]; omega)).trans (by rw [k1])
        refine lv_iinc (v := v25) (lv' := [(6, .int v25), (7, .int v10), (0, .ref (ad 4)), (1, .int k), (2, .int x), (3, .int n), (4, .int q9_4), (5, .int q9_5)]) hx hb dX7_notGood_68 hl (k := 7) rfl (by rw [ev25]; rfl) (by decide) rfl (fun ls hl => ?_)
        refine lv_goto (tgt := 9) hx hb dX7_notGood_71 (by decide) ?_
        have clk8 := i_cl (x := q9_6) (by omega)
        have clk9 := i_cl (x := v25) (by omega)
        have ek9 : v25.toNatClampNeg = q9_6.toNatClampNeg + 1 := by omega
        exact ih4 (q9_4, q9_5, v25) ls H locs ⟨(by omega), (by omega), (by rw [ek9, ngV_s, ← g3, ← ev10]; dsimp only; (repeat' split) <;> first | (exfalso; omega) | rfl | (subst_vars; rfl)), lv_sub hl [2, 3, 4, 5, 6, 7, 0] rfl, hP.sub [0, 1, 2, 3, 4, 5, 6] rfl, hD.sub [0, 1, 2, 3, 4, 5, 6] (by decide +kernel) rfl, hS⟩ (by show pn.toInt - v25.toInt < _; omega)

set_option maxHeartbeats 4000000 in
set_option maxRecDepth 100000 in
theorem ct_X10_owner (l : Launch) (D : va_G) (cI cY cJ cQ : ClassId) (sz : Nat) (ad : Nat → Nat) (tn td lf cn pn : Int32) (fo pk pf po pd pe pr : Nat → Int32) (k : Int32) (d : Int32) (n : Int32)  (h1 : 0 ≤ cn.toInt) (h2 : cn.toInt ≤ 12) (h3 : 0 ≤ pn.toInt) (h4 : pn.toInt ≤ 40) (h5 : okO pn pr)  : Met l yX10_owner wsX10_owner ({ frames := 2, cells := 0, slots := 0, locals := 50 }) (cPre D (ty4 cI cY cJ cQ) [(oC10 ad tn td lf), (oC1 ad cn), (aI cI (ad 31) 12 fo), (oC7 ad pn), (aI cI (ad 36) 40 pk), (aI cI (ad 37) 40 pf), (aI cI (ad 38) 40 po), (aI cI (ad 39) 40 pd), (aI cI (ad 40) 40 pe), (aI cI (ad 41) 40 pr)] sz [.ref (ad 0), .int k, .int d, .int n]) (va_Qi (fun (r : Int32) (u : Unit) => r = sp_owner cn pn fo pk pf po pd pe pr k d n) (cB D (ty4 cI cY cJ cQ) (fun (u : Unit) => [(oC10 ad tn td lf), (oC1 ad cn), (aI cI (ad 31) 12 fo), (oC7 ad pn), (aI cI (ad 36) 40 pk), (aI cI (ad 37) 40 pf), (aI cI (ad 38) 40 po), (aI cI (ad 39) 40 pd), (aI cI (ad 40) 40 pe), (aI cI (ad 41) 40 pr)]) (va_A [(oC10 ad tn td lf), (oC1 ad cn), (aI cI (ad 31) 12 fo), (oC7 ad pn), (aI cI (ad 36) 40 pk), (aI cI (ad 37) 40 pf), (aI cI (ad 38) 40 po), (aI cI (ad 39) 40 pd), (aI cI (ad 40) 40 pe), (aI cI (ad 41) 40 pr)] sz)) (va_A [(oC10 ad tn td lf), (oC1 ad cn), (aI cI (ad 31) 12 fo), (oC7 ad pn), (aI cI (ad 36) 40 pk), (aI cI (ad 37) 40 pf), (aI cI (ad 38) 40 po), (aI cI (ad 39) 40 pd), (aI cI (ad 40) 40 pe), (aI cI (ad 41) 40 pr)] sz)) 0 0 (va_A [(oC10 ad tn td lf), (oC1 ad cn), (aI cI (ad 31) 12 fo), (oC7 ad pn), (aI cI (ad 36) 40 pk), (aI cI (ad 37) 40 pf), (aI cI (ad 38) 40 po), (aI cI (ad 39) 40 pd), (aI cI (ad 40) 40 pe), (aI cI (ad 41) 40 pr)] sz) := by
  refine Met.ofW (cc := cX10_owner) (maxL := 4) (ret := (some .int)) (by decide) rfl ?_
  intro p e s m args below meth c s₁ B hml hv
  obtain ⟨rfl, hsz, hP, hK, hD0, hN⟩ := hv
  have hx := B.exec
  have hb := B.bytes
  have hr := B.returns
  have hts := atoms_spec (ws := wsX10_owner) B.pre
  have hown : s.vm.findClass RX10 = some m.cls := findClass_of_methodNamed B.named
  have hlocks := B.notSynchronized
  subst hsz
  have hD := hD0.self (sz := s.heap.size)
  generalize hAe : va_A [(oC10 ad tn td lf), (oC1 ad cn), (aI cI (ad 31) 12 fo), (oC7 ad pn), (aI cI (ad 36) 40 pk), (aI cI (ad 37) 40 pf), (aI cI (ad 38) 40 po), (aI cI (ad 39) 40 pd), (aI cI (ad 40) 40 pe), (aI cI (ad 41) 40 pr)] s.heap.size = A at hD ⊢
  have hA : ∀ q : Nat, s.heap.size ≤ q → A q := fun q h => by rw [← hAe]; exact Or.inr h
  have hS : va_S A s.heap s.heap [] := va_S.rf
  have hP : va_P D vwCl [(oC10 ad tn td lf), (oC1 ad cn), (aI cI (ad 31) 12 fo), (oC7 ad pn), (aI cI (ad 36) 40 pk), (aI cI (ad 37) 40 pf), (aI cI (ad 38) 40 po), (aI cI (ad 39) 40 pd), (aI cI (ad 40) 40 pe), (aI cI (ad 41) 40 pr)] s.heap := hP
  have hl := lv_entry ([.ref (ad 0), .int k, .int d, .int n]) (n := 4) (Nat.le_of_ble_eq_true rfl)
  rw [lg_entry_eq]
  generalize (lg_sl ([.ref (ad 0), .int k, .int d, .int n]) ++ List.replicate (4 - (lg_sl ([.ref (ad 0), .int k, .int d, .int n])).length) Slot.unset).toArray = ls at hl ⊢
  have hl : lv_has ls 4 [(0, .ref (ad 0)), (1, .int k), (2, .int d), (3, .int n)] := hl
  have km1000001 : (-1000001 : Int32).toInt = -1000001 := by decide
  have k0 : (0 : Int32).toInt = 0 := by decide
  refine lv_aload_n hx hb dX10_owner_0 rfl (lv_at hl 0 rfl) ?_
  refine lv_iload_n hx hb dX10_owner_1 rfl (lv_at hl 1 rfl) ?_
  refine st_i1 (va_runV (C := RX10) (As := [.int k]) (rest := []) ⟨hx, hb, hml, hown, hts⟩ (ct_X10_isCrate l D cI cY cJ cQ _ ad tn td lf cn k) (cwV 1 hts gX10_owner_X10_isCrate rfl rfl rfl ⟨rfl, cdX10_isCrate⟩ ⟨Nat.le_of_ble_eq_true rfl, Nat.le_of_ble_eq_true rfl⟩) (cPreV (hP.sub [0, 1] rfl) hK (hD.sub [0, 1] (by decide +kernel) rfl) hN (ci := 10) (q0 := 0) rfl rfl) rfl rfl hl.1 rfl (lv_room (Nat.le_of_ble_eq_true rfl)) dX10_owner_2 ⟨Nat.le_of_ble_eq_true rfl, Nat.le_of_ble_eq_true rfl⟩) hP hD hS hA [0, 1] rfl (fun _ => rfl) (fun r3 u1 H locs hw2 => ?_)
  clear hP hS
  intro hP hS
  replace hw2 : r3 = if 0 ≤ k.toInt ∧ k.toInt < cn.toInt then 1 else 0 := hw2
  refine lv_if_eq (tgt := 22) hx hb dX10_owner_5 (by decide) (fun c4 => ?_) (fun c4 => ?_)
  · skip
    have f5 := bo_f hw2 c4
    refine lv_ldc hx hb hown (hts (Cond.constant RX10 89 (-1000001)) (wm_t (wm_l (wm_i 0 rfl)))) dX10_owner_22 ?_
    have hP9 := hP
    have hD9 := hD
    exact W.iret (v := (-1000001)) hx hb hr (fun t ht hW => ⟨⟨(-1000001), (), rfl, (by unfold sp_owner; (repeat' split) <;> first | rfl | (exfalso; omega) | (subst_vars; rfl)), by rw [ht]; exact hP9, va_K.moved hW.alike hK, hD9⟩, hS.F ht⟩) hS.2.2 dX10_owner_24
  · skip
    have f6 := bo_t hw2 c4
    refine lv_iload_n hx hb dX10_owner_8 rfl (lv_at hl 2 rfl) ?_
    refine st_i1 (va_runS (As := [.int d]) (rest := []) ⟨hx, hb, hml, hown, hts⟩ (ct_X10_isDay l D cI cY cJ cQ _ d) (va_cwS 1 hts gX10_owner_X10_isDay rfl rfl rfl cdX10_isDay ⟨Nat.le_of_ble_eq_true rfl, Nat.le_of_ble_eq_true rfl⟩) (cPreS (hP.sub [] rfl) hK (hD.sub [] (by decide +kernel) rfl) hN) rfl rfl hl.1 rfl (lv_room (Nat.le_of_ble_eq_true rfl)) dX10_owner_9 ⟨Nat.le_of_ble_eq_true rfl, Nat.le_of_ble_eq_true rfl⟩) hP hD hS hA [] rfl (fun _ => rfl) (fun r9 u7 H locs hw8 => ?_)
    clear hP hS
    intro hP hS
    replace hw8 : r9 = if 0 ≤ d.toInt ∧ d.toInt < 10000 then 1 else 0 := hw8
    refine lv_if_eq (tgt := 22) hx hb dX10_owner_12 (by decide) (fun c10 => ?_) (fun c10 => ?_)
    · skip
      have f11 := bo_f hw8 c10
      refine lv_ldc hx hb hown (hts (Cond.constant RX10 89 (-1000001)) (wm_t (wm_l (wm_i 0 rfl)))) dX10_owner_22 ?_
      have hP9 := hP
      have hD9 := hD
      exact W.iret (v := (-1000001)) hx hb hr (fun t ht hW => ⟨⟨(-1000001), (), rfl, (by unfold sp_owner; (repeat' split) <;> first | rfl | (exfalso; omega) | (subst_vars; rfl)), by rw [ht]; exact hP9, va_K.moved hW.alike hK, hD9⟩, hS.F ht⟩) hS.2.2 dX10_owner_24
    · skip
      have f12 := bo_t hw8 c10
      refine lv_iload_n hx hb dX10_owner_15 rfl (lv_at hl 3 rfl) ?_
      refine st_i1 (va_runS (As := [.int n]) (rest := []) ⟨hx, hb, hml, hown, hts⟩ (ct_X10_isDay l D cI cY cJ cQ _ n) (va_cwS 1 hts gX10_owner_X10_isDay rfl rfl rfl cdX10_isDay ⟨Nat.le_of_ble_eq_true rfl, Nat.le_of_ble_eq_true rfl⟩) (cPreS (hP.sub [] rfl) hK (hD.sub [] (by decide +kernel) rfl) hN) rfl rfl hl.1 rfl (lv_room (Nat.le_of_ble_eq_true rfl)) dX10_owner_16 ⟨Nat.le_of_ble_eq_true rfl, Nat.le_of_ble_eq_true rfl⟩) hP hD hS hA [] rfl (fun _ => rfl) (fun r15 u13 H locs hw14 => ?_)
      clear hP hS
      intro hP hS
      replace hw14 : r15 = if 0 ≤ n.toInt ∧ n.toInt < 10000 then 1 else 0 := hw14
      refine lv_if_ne (tgt := 25) hx hb dX10_owner_19 (by decide) (fun c16 => ?_) (fun c16 => ?_)
      · skip
        have f17 := bo_t hw14 c16
        refine lv_aload_n hx hb dX10_owner_25 rfl (lv_at hl 0 rfl) ?_
        refine va_get (D := D) (ci := 10) (v := .ref (ad 4)) (C := RX10) (T := TX10) (N := 14) hx hb hts inX10_owner_X10 hown hK hP 0 rfl rfl 3 (by decide) (hts (Cond.fieldLink RX10 33 "PortRooms" "papers" "LPortRooms$Papers;") (wm_t (wm_l (wm_i 1 rfl)))) (fun _ h9 => h9) rfl dX10_owner_26 ?_
        refine lv_iload_n hx hb dX10_owner_29 rfl (lv_at hl 1 rfl) ?_
        refine lv_aload_n hx hb dX10_owner_30 rfl (lv_at hl 0 rfl) ?_
        refine va_get (D := D) (ci := 10) (v := .ref (ad 3)) (C := RX10) (T := TX10) (N := 14) hx hb hts inX10_owner_X10 hown hK hP 0 rfl rfl 2 (by decide) (hts (Cond.fieldLink RX10 26 "PortRooms" "crates" "LPortRooms$Crates;") (wm_t (wm_l (wm_i 2 rfl)))) (fun _ h9 => h9) rfl dX10_owner_31 ?_
        refine va_get (D := D) (ci := 1) (v := .ref (ad 31)) (C := RX1) (T := TX1) (N := 6) hx hb hts inX10_owner_X1 hown hK hP 1 rfl rfl 0 (by decide) (hts (Cond.fieldLink RX10 190 "PortRooms$Crates" "firstOwner" "[I") (wm_t (wm_l (wm_i 3 rfl)))) (fun _ h9 => h9) rfl dX10_owner_34 ?_
        refine lv_iload_n hx hb dX10_owner_37 rfl (lv_at hl 1 rfl) ?_
        refine va_iald hx hb hK hP 2 0 rfl rfl (i_in (by omega) (by omega)) dX10_owner_38 ?_
        refine lv_topi (fun v18 ev18 => ?_)
        refine lv_iload_n hx hb dX10_owner_39 rfl (lv_at hl 2 rfl) ?_
        refine lv_iload_n hx hb dX10_owner_40 rfl (lv_at hl 3 rfl) ?_
        refine st_i1 (va_runV (C := RX7) (As := [.int k, .int v18, .int d, .int n]) (rest := []) ⟨hx, hb, hml, hown, hts⟩ (ct_X7_ownerOf l D cI cY cJ cQ _ ad pn pk pf po pd pe pr k v18 d n h3 h4 h5) (cwV 4 hts gX10_owner_X7_ownerOf rfl rfl rfl ⟨rfl, cdX7_ownerOf⟩ ⟨Nat.le_of_ble_eq_true rfl, Nat.le_of_ble_eq_true rfl⟩) (cPreV (hP.sub [3, 4, 5, 6, 7, 8, 9] rfl) hK (hD.sub [3, 4, 5, 6, 7, 8, 9] (by decide +kernel) rfl) hN (ci := 7) (q0 := 0) rfl rfl) rfl rfl hl.1 rfl (lv_room (Nat.le_of_ble_eq_true rfl)) dX10_owner_41 ⟨Nat.le_of_ble_eq_true rfl, Nat.le_of_ble_eq_true rfl⟩) hP hD hS hA [3, 4, 5, 6, 7, 8, 9] rfl (fun _ => rfl) (fun r21 u19 H locs hw20 => ?_)
        clear hP hS
        intro hP hS
        replace hw20 : r21 = owV pk pf po pd pe pr k d n v18 pn.toNatClampNeg := hw20
        subst hw20
        have hP9 := hP
        have hD9 := hD
        exact W.iret (v := owV pk pf po pd pe pr k d n v18 pn.toNatClampNeg) hx hb hr (fun t ht hW => ⟨⟨owV pk pf po pd pe pr k d n v18 pn.toNatClampNeg, (), rfl, (by unfold sp_owner; (repeat' split) <;> first | rfl | (exfalso; omega) | (subst_vars; rfl)), by rw [ht]; exact hP9, va_K.moved hW.alike hK, hD9⟩, hS.F ht⟩) hS.2.2 dX10_owner_44
      · skip
        have f22 := bo_f hw14 c16
        refine lv_ldc hx hb hown (hts (Cond.constant RX10 89 (-1000001)) (wm_t (wm_l (wm_i 0 rfl)))) dX10_owner_22 ?_
        have hP9 := hP
        have hD9 := hD
        exact W.iret (v := (-1000001)) hx hb hr (fun t ht hW => ⟨⟨(-1000001), (), rfl, (by unfold sp_owner; (repeat' split) <;> first | rfl | (exfalso; omega) | (subst_vars; rfl)), by rw [ht]; exact hP9, va_K.moved hW.alike hK, hD9⟩, hS.F ht⟩) hS.2.2 dX10_owner_24

set_option maxHeartbeats 4000000 in
set_option maxRecDepth 100000 in
theorem ct_X10_quarrels (l : Launch) (D : va_G) (cI cY cJ cQ : ClassId) (sz : Nat) (ad : Nat → Nat) (tn td lf cn pn : Int32) (fo pk pf po pd pe pr : Nat → Int32) (k : Int32) (n : Int32)  (h1 : 0 ≤ cn.toInt) (h2 : cn.toInt ≤ 12) (h3 : 0 ≤ pn.toInt) (h4 : pn.toInt ≤ 40) (h5 : okO pn pr)  : Met l yX10_quarrels wsX10_quarrels ({ frames := 2, cells := 0, slots := 0, locals := 50 }) (cPre D (ty4 cI cY cJ cQ) [(oC10 ad tn td lf), (oC1 ad cn), (aI cI (ad 31) 12 fo), (oC7 ad pn), (aI cI (ad 36) 40 pk), (aI cI (ad 37) 40 pf), (aI cI (ad 38) 40 po), (aI cI (ad 39) 40 pd), (aI cI (ad 40) 40 pe), (aI cI (ad 41) 40 pr)] sz [.ref (ad 0), .int k, .int n]) (va_Qi (fun (r : Int32) (u : Unit) => r = sp_quarrels cn pn fo pk pf po pe pr k n) (cB D (ty4 cI cY cJ cQ) (fun (u : Unit) => [(oC10 ad tn td lf), (oC1 ad cn), (aI cI (ad 31) 12 fo), (oC7 ad pn), (aI cI (ad 36) 40 pk), (aI cI (ad 37) 40 pf), (aI cI (ad 38) 40 po), (aI cI (ad 39) 40 pd), (aI cI (ad 40) 40 pe), (aI cI (ad 41) 40 pr)]) (va_A [(oC10 ad tn td lf), (oC1 ad cn), (aI cI (ad 31) 12 fo), (oC7 ad pn), (aI cI (ad 36) 40 pk), (aI cI (ad 37) 40 pf), (aI cI (ad 38) 40 po), (aI cI (ad 39) 40 pd), (aI cI (ad 40) 40 pe), (aI cI (ad 41) 40 pr)] sz)) (va_A [(oC10 ad tn td lf), (oC1 ad cn), (aI cI (ad 31) 12 fo), (oC7 ad pn), (aI cI (ad 36) 40 pk), (aI cI (ad 37) 40 pf), (aI cI (ad 38) 40 po), (aI cI (ad 39) 40 pd), (aI cI (ad 40) 40 pe), (aI cI (ad 41) 40 pr)] sz)) 0 0 (va_A [(oC10 ad tn td lf), (oC1 ad cn), (aI cI (ad 31) 12 fo), (oC7 ad pn), (aI cI (ad 36) 40 pk), (aI cI (ad 37) 40 pf), (aI cI (ad 38) 40 po), (aI cI (ad 39) 40 pd), (aI cI (ad 40) 40 pe), (aI cI (ad 41) 40 pr)] sz) := by
  refine Met.ofW (cc := cX10_quarrels) (maxL := 3) (ret := (some .int)) (by decide) rfl ?_
  intro p e s m args below meth c s₁ B hml hv
  obtain ⟨rfl, hsz, hP, hK, hD0, hN⟩ := hv
  have hx := B.exec
  have hb := B.bytes
  have hr := B.returns
  have hts := atoms_spec (ws := wsX10_quarrels) B.pre
  have hown : s.vm.findClass RX10 = some m.cls := findClass_of_methodNamed B.named
  have hlocks := B.notSynchronized
  subst hsz
  have hD := hD0.self (sz := s.heap.size)
  generalize hAe : va_A [(oC10 ad tn td lf), (oC1 ad cn), (aI cI (ad 31) 12 fo), (oC7 ad pn), (aI cI (ad 36) 40 pk), (aI cI (ad 37) 40 pf), (aI cI (ad 38) 40 po), (aI cI (ad 39) 40 pd), (aI cI (ad 40) 40 pe), (aI cI (ad 41) 40 pr)] s.heap.size = A at hD ⊢
  have hA : ∀ q : Nat, s.heap.size ≤ q → A q := fun q h => by rw [← hAe]; exact Or.inr h
  have hS : va_S A s.heap s.heap [] := va_S.rf
  have hP : va_P D vwCl [(oC10 ad tn td lf), (oC1 ad cn), (aI cI (ad 31) 12 fo), (oC7 ad pn), (aI cI (ad 36) 40 pk), (aI cI (ad 37) 40 pf), (aI cI (ad 38) 40 po), (aI cI (ad 39) 40 pd), (aI cI (ad 40) 40 pe), (aI cI (ad 41) 40 pr)] s.heap := hP
  have hl := lv_entry ([.ref (ad 0), .int k, .int n]) (n := 3) (Nat.le_of_ble_eq_true rfl)
  rw [lg_entry_eq]
  generalize (lg_sl ([.ref (ad 0), .int k, .int n]) ++ List.replicate (3 - (lg_sl ([.ref (ad 0), .int k, .int n])).length) Slot.unset).toArray = ls at hl ⊢
  have hl : lv_has ls 3 [(0, .ref (ad 0)), (1, .int k), (2, .int n)] := hl
  have km1000001 : (-1000001 : Int32).toInt = -1000001 := by decide
  have k0 : (0 : Int32).toInt = 0 := by decide
  refine lv_aload_n hx hb dX10_quarrels_0 rfl (lv_at hl 0 rfl) ?_
  refine lv_iload_n hx hb dX10_quarrels_1 rfl (lv_at hl 1 rfl) ?_
  refine st_i1 (va_runV (C := RX10) (As := [.int k]) (rest := []) ⟨hx, hb, hml, hown, hts⟩ (ct_X10_isCrate l D cI cY cJ cQ _ ad tn td lf cn k) (cwV 1 hts gX10_quarrels_X10_isCrate rfl rfl rfl ⟨rfl, cdX10_isCrate⟩ ⟨Nat.le_of_ble_eq_true rfl, Nat.le_of_ble_eq_true rfl⟩) (cPreV (hP.sub [0, 1] rfl) hK (hD.sub [0, 1] (by decide +kernel) rfl) hN (ci := 10) (q0 := 0) rfl rfl) rfl rfl hl.1 rfl (lv_room (Nat.le_of_ble_eq_true rfl)) dX10_quarrels_2 ⟨Nat.le_of_ble_eq_true rfl, Nat.le_of_ble_eq_true rfl⟩) hP hD hS hA [0, 1] rfl (fun _ => rfl) (fun r3 u1 H locs hw2 => ?_)
  clear hP hS
  intro hP hS
  replace hw2 : r3 = if 0 ≤ k.toInt ∧ k.toInt < cn.toInt then 1 else 0 := hw2
  refine lv_if_eq (tgt := 15) hx hb dX10_quarrels_5 (by decide) (fun c4 => ?_) (fun c4 => ?_)
  · skip
    have f5 := bo_f hw2 c4
    refine lv_ldc hx hb hown (hts (Cond.constant RX10 89 (-1000001)) (wm_t (wm_l (wm_i 0 rfl)))) dX10_quarrels_15 ?_
    have hP9 := hP
    have hD9 := hD
    exact W.iret (v := (-1000001)) hx hb hr (fun t ht hW => ⟨⟨(-1000001), (), rfl, (by unfold sp_quarrels; (repeat' split) <;> first | rfl | (exfalso; omega) | (subst_vars; rfl)), by rw [ht]; exact hP9, va_K.moved hW.alike hK, hD9⟩, hS.F ht⟩) hS.2.2 dX10_quarrels_17
  · skip
    have f6 := bo_t hw2 c4
    refine lv_iload_n hx hb dX10_quarrels_8 rfl (lv_at hl 2 rfl) ?_
    refine st_i1 (va_runS (As := [.int n]) (rest := []) ⟨hx, hb, hml, hown, hts⟩ (ct_X10_isDay l D cI cY cJ cQ _ n) (va_cwS 1 hts gX10_quarrels_X10_isDay rfl rfl rfl cdX10_isDay ⟨Nat.le_of_ble_eq_true rfl, Nat.le_of_ble_eq_true rfl⟩) (cPreS (hP.sub [] rfl) hK (hD.sub [] (by decide +kernel) rfl) hN) rfl rfl hl.1 rfl (lv_room (Nat.le_of_ble_eq_true rfl)) dX10_quarrels_9 ⟨Nat.le_of_ble_eq_true rfl, Nat.le_of_ble_eq_true rfl⟩) hP hD hS hA [] rfl (fun _ => rfl) (fun r9 u7 H locs hw8 => ?_)
    clear hP hS
    intro hP hS
    replace hw8 : r9 = if 0 ≤ n.toInt ∧ n.toInt < 10000 then 1 else 0 := hw8
    refine lv_if_ne (tgt := 18) hx hb dX10_quarrels_12 (by decide) (fun c10 => ?_) (fun c10 => ?_)
    · skip
      have f11 := bo_t hw8 c10
      refine lv_aload_n hx hb dX10_quarrels_18 rfl (lv_at hl 0 rfl) ?_
      refine va_get (D := D) (ci := 10) (v := .ref (ad 4)) (C := RX10) (T := TX10) (N := 14) hx hb hts inX10_quarrels_X10 hown hK hP 0 rfl rfl 3 (by decide) (hts (Cond.fieldLink RX10 33 "PortRooms" "papers" "LPortRooms$Papers;") (wm_t (wm_l (wm_i 1 rfl)))) (fun _ h9 => h9) rfl dX10_quarrels_19 ?_
      refine lv_iload_n hx hb dX10_quarrels_22 rfl (lv_at hl 1 rfl) ?_
      refine lv_aload_n hx hb dX10_quarrels_23 rfl (lv_at hl 0 rfl) ?_
      refine va_get (D := D) (ci := 10) (v := .ref (ad 3)) (C := RX10) (T := TX10) (N := 14) hx hb hts inX10_quarrels_X10 hown hK hP 0 rfl rfl 2 (by decide) (hts (Cond.fieldLink RX10 26 "PortRooms" "crates" "LPortRooms$Crates;") (wm_t (wm_l (wm_i 2 rfl)))) (fun _ h9 => h9) rfl dX10_quarrels_24 ?_
      refine va_get (D := D) (ci := 1) (v := .ref (ad 31)) (C := RX1) (T := TX1) (N := 6) hx hb hts inX10_quarrels_X1 hown hK hP 1 rfl rfl 0 (by decide) (hts (Cond.fieldLink RX10 190 "PortRooms$Crates" "firstOwner" "[I") (wm_t (wm_l (wm_i 3 rfl)))) (fun _ h9 => h9) rfl dX10_quarrels_27 ?_
      refine lv_iload_n hx hb dX10_quarrels_30 rfl (lv_at hl 1 rfl) ?_
      refine va_iald hx hb hK hP 2 0 rfl rfl (i_in (by omega) (by omega)) dX10_quarrels_31 ?_
      refine lv_topi (fun v12 ev12 => ?_)
      refine lv_iload_n hx hb dX10_quarrels_32 rfl (lv_at hl 2 rfl) ?_
      refine st_i1 (va_runV (C := RX7) (As := [.int k, .int v12, .int n]) (rest := []) ⟨hx, hb, hml, hown, hts⟩ (ct_X7_notGood l D cI cY cJ cQ _ ad pn pk pf po pd pe pr k v12 n h3 h4 h5) (cwV 3 hts gX10_quarrels_X7_notGood rfl rfl rfl ⟨rfl, cdX7_notGood⟩ ⟨Nat.le_of_ble_eq_true rfl, Nat.le_of_ble_eq_true rfl⟩) (cPreV (hP.sub [3, 4, 5, 6, 7, 8, 9] rfl) hK (hD.sub [3, 4, 5, 6, 7, 8, 9] (by decide +kernel) rfl) hN (ci := 7) (q0 := 0) rfl rfl) rfl rfl hl.1 rfl (lv_room (Nat.le_of_ble_eq_true rfl)) dX10_quarrels_33 ⟨Nat.le_of_ble_eq_true rfl, Nat.le_of_ble_eq_true rfl⟩) hP hD hS hA [3, 4, 5, 6, 7, 8, 9] rfl (fun _ => rfl) (fun r15 u13 H locs hw14 => ?_)
      clear hP hS
      intro hP hS
      replace hw14 : r15 = (ngV pk pf po pe pr k n v12 pn.toNatClampNeg).2 := hw14
      subst hw14
      have hP9 := hP
      have hD9 := hD
      exact W.iret (v := (ngV pk pf po pe pr k n v12 pn.toNatClampNeg).2) hx hb hr (fun t ht hW => ⟨⟨(ngV pk pf po pe pr k n v12 pn.toNatClampNeg).2, (), rfl, (by unfold sp_quarrels; (repeat' split) <;> first | rfl | (exfalso; omega) | (subst_vars; rfl)), by rw [ht]; exact hP9, va_K.moved hW.alike hK, hD9⟩, hS.F ht⟩) hS.2.2 dX10_quarrels_36
    · skip
      have f16 := bo_f hw8 c10
      refine lv_ldc hx hb hown (hts (Cond.constant RX10 89 (-1000001)) (wm_t (wm_l (wm_i 0 rfl)))) dX10_quarrels_15 ?_
      have hP9 := hP
      have hD9 := hD
      exact W.iret (v := (-1000001)) hx hb hr (fun t ht hW => ⟨⟨(-1000001), (), rfl, (by unfold sp_quarrels; (repeat' split) <;> first | rfl | (exfalso; omega) | (subst_vars; rfl)), by rw [ht]; exact hP9, va_K.moved hW.alike hK, hD9⟩, hS.F ht⟩) hS.2.2 dX10_quarrels_17
end

section
theorem cdX8_isKnown : yX8_isKnown.cls ≠ "java/lang/invoke/MethodHandle" ∧ yX8_isKnown.cls ≠ "java/lang/invoke/VarHandle" ∧ (parseMethodDescriptor yX8_isKnown.desc).map (fun d => d.parameters.length) = some 3 := by decide +kernel
theorem cdX8_putInOrder : yX8_putInOrder.cls ≠ "java/lang/invoke/MethodHandle" ∧ yX8_putInOrder.cls ≠ "java/lang/invoke/VarHandle" ∧ (parseMethodDescriptor yX8_putInOrder.desc).map (fun d => d.parameters.length) = some 3 := by decide +kernel
theorem cdX8_putBehind : yX8_putBehind.cls ≠ "java/lang/invoke/MethodHandle" ∧ yX8_putBehind.cls ≠ "java/lang/invoke/VarHandle" ∧ (parseMethodDescriptor yX8_putBehind.desc).map (fun d => d.parameters.length) = some 3 := by decide +kernel
theorem cdX8_isAhead : yX8_isAhead.cls ≠ "java/lang/invoke/MethodHandle" ∧ yX8_isAhead.cls ≠ "java/lang/invoke/VarHandle" ∧ (parseMethodDescriptor yX8_isAhead.desc).map (fun d => d.parameters.length) = some 3 := by decide +kernel
theorem cdX8_paidTo : yX8_paidTo.cls ≠ "java/lang/invoke/MethodHandle" ∧ yX8_paidTo.cls ≠ "java/lang/invoke/VarHandle" ∧ (parseMethodDescriptor yX8_paidTo.desc).map (fun d => d.parameters.length) = some 2 := by decide +kernel
theorem Gd_X8_isKnown : gdA wsX8_isKnown := gd_cons (by decide +kernel) (gd_app (gd_all (ws := wsX8_isKnown_o1) (by decide +kernel)) Gd_X80)
theorem inX8_isKnown_X8 : ∀ w ∈ u_ws RX8 TX8 6, w ∈ wsX8_isKnown := fun _ h => (List.mem_cons_of_mem _ (List.mem_append_right _ h))
theorem inX8_sumsOn_X8 : ∀ w ∈ u_ws RX8 TX8 6, w ∈ wsX8_sumsOn := fun _ h => (List.mem_cons_of_mem _ (List.mem_append_right _ (List.mem_append_left _ h)))
theorem Gd_X8_isAhead : gdA wsX8_isAhead := gd_cons (by decide +kernel) (gd_app (gd_all (ws := wsX8_isAhead_o1) (by decide +kernel)) Gd_X80)
theorem inX8_isAhead_X8 : ∀ w ∈ u_ws RX8 TX8 6, w ∈ wsX8_isAhead := fun _ h => (List.mem_cons_of_mem _ (List.mem_append_right _ h))
theorem Gd_X8_putBehind : gdA wsX8_putBehind := gd_cons (by decide +kernel) (gd_app (gd_all (ws := wsX8_putBehind_o1) (by decide +kernel)) (gd_app Gd_X80 Gd_X8_isAhead))
theorem inX8_putBehind_X8 : ∀ w ∈ u_ws RX8 TX8 6, w ∈ wsX8_putBehind := fun _ h => (List.mem_cons_of_mem _ (List.mem_append_right _ (List.mem_append_left _ h)))
theorem Gd_X8_putInOrder : gdA wsX8_putInOrder := gd_cons (by decide +kernel) (gd_app (gd_all (ws := wsX8_putInOrder_o1) (by decide +kernel)) (gd_app (gd_app Gd_X80 Gd_X8_isKnown) Gd_X8_putBehind))
theorem inX8_putInOrder_X8 : ∀ w ∈ u_ws RX8 TX8 6, w ∈ wsX8_putInOrder := fun _ h => (List.mem_cons_of_mem _ (List.mem_append_right _ (List.mem_append_left _ (List.mem_append_left _ h))))
theorem Gd_X8_paidTo : gdA wsX8_paidTo := gd_cons (by decide +kernel) (gd_app (gd_all (ws := wsX8_paidTo_o1) (by decide +kernel)) Gd_X80)
theorem inX8_paidTo_X8 : ∀ w ∈ u_ws RX8 TX8 6, w ∈ wsX8_paidTo := fun _ h => (List.mem_cons_of_mem _ (List.mem_append_right _ h))
theorem inX10_rank_X8 : ∀ w ∈ u_ws RX8 TX8 6, w ∈ wsX10_rank := fun _ h => (List.mem_cons_of_mem _ (List.mem_append_right _ (List.mem_append_left _ (List.mem_append_left _ (List.mem_append_right _ h)))))
theorem inX10_rank_X1 : ∀ w ∈ u_ws RX1 TX1 6, w ∈ wsX10_rank := fun _ h => (List.mem_cons_of_mem _ (List.mem_append_right _ (List.mem_append_left _ (List.mem_append_right _ (List.mem_append_left _ h)))))
theorem inX10_rank_X10 : ∀ w ∈ u_ws RX10 TX10 14, w ∈ wsX10_rank := fun _ h => (List.mem_cons_of_mem _ (List.mem_append_right _ (List.mem_append_left _ (List.mem_append_left _ (List.mem_append_left _ h)))))
theorem dX8_isKnown_all0 : decode cX8_isKnown 0 = .ok (.aload_n 0, 1) ∧ decode cX8_isKnown 1 = .ok (.getfield 9, 3) ∧ decode cX8_isKnown 4 = .ok (.iload_n 1, 1) ∧ decode cX8_isKnown 5 = .ok (.iaload, 1) ∧ decode cX8_isKnown 6 = .ok (.iload_n 2, 1) ∧ decode cX8_isKnown 7 = .ok (.if_icmp .ne 17, 3) ∧ decode cX8_isKnown 10 = .ok (.aload_n 0, 1) ∧ decode cX8_isKnown 11 = .ok (.getfield 21, 3) ∧ decode cX8_isKnown 14 = .ok (.iload_n 1, 1) ∧ decode cX8_isKnown 15 = .ok (.iaload, 1) ∧ decode cX8_isKnown 16 = .ok (.iload_n 3, 1) ∧ decode cX8_isKnown 17 = .ok (.if_icmp .gt 7, 3) := by decide +kernel
theorem dX8_isKnown_0 : decode cX8_isKnown 0 = .ok (.aload_n 0, 1) := dX8_isKnown_all0.1
theorem dX8_isKnown_1 : decode cX8_isKnown 1 = .ok (.getfield 9, 3) := dX8_isKnown_all0.2.1
theorem dX8_isKnown_4 : decode cX8_isKnown 4 = .ok (.iload_n 1, 1) := dX8_isKnown_all0.2.2.1
theorem dX8_isKnown_5 : decode cX8_isKnown 5 = .ok (.iaload, 1) := dX8_isKnown_all0.2.2.2.1
theorem dX8_isKnown_6 : decode cX8_isKnown 6 = .ok (.iload_n 2, 1) := dX8_isKnown_all0.2.2.2.2.1
theorem dX8_isKnown_7 : decode cX8_isKnown 7 = .ok (.if_icmp .ne 17, 3) := dX8_isKnown_all0.2.2.2.2.2.1
theorem dX8_isKnown_10 : decode cX8_isKnown 10 = .ok (.aload_n 0, 1) := dX8_isKnown_all0.2.2.2.2.2.2.1
theorem dX8_isKnown_11 : decode cX8_isKnown 11 = .ok (.getfield 21, 3) := dX8_isKnown_all0.2.2.2.2.2.2.2.1
theorem dX8_isKnown_14 : decode cX8_isKnown 14 = .ok (.iload_n 1, 1) := dX8_isKnown_all0.2.2.2.2.2.2.2.2.1
theorem dX8_isKnown_15 : decode cX8_isKnown 15 = .ok (.iaload, 1) := dX8_isKnown_all0.2.2.2.2.2.2.2.2.2.1
theorem dX8_isKnown_16 : decode cX8_isKnown 16 = .ok (.iload_n 3, 1) := dX8_isKnown_all0.2.2.2.2.2.2.2.2.2.2.1
theorem dX8_isKnown_17 : decode cX8_isKnown 17 = .ok (.if_icmp .gt 7, 3) := dX8_isKnown_all0.2.2.2.2.2.2.2.2.2.2.2
theorem dX8_isKnown_all1 : decode cX8_isKnown 20 = .ok (.iconst 1, 1) ∧ decode cX8_isKnown 21 = .ok (.goto 4, 3) ∧ decode cX8_isKnown 24 = .ok (.iconst 0, 1) ∧ decode cX8_isKnown 25 = .ok (.ireturn, 1) := by decide +kernel
theorem dX8_isKnown_20 : decode cX8_isKnown 20 = .ok (.iconst 1, 1) := dX8_isKnown_all1.1
theorem dX8_isKnown_21 : decode cX8_isKnown 21 = .ok (.goto 4, 3) := dX8_isKnown_all1.2.1
theorem dX8_isKnown_24 : decode cX8_isKnown 24 = .ok (.iconst 0, 1) := dX8_isKnown_all1.2.2.1
theorem dX8_isKnown_25 : decode cX8_isKnown 25 = .ok (.ireturn, 1) := dX8_isKnown_all1.2.2.2
theorem ggX8_sumsOn_X8_isKnown : GoodIn wsX8_sumsOn wsX8_isKnown := goodIn_s (fun _ h => wm_t (wm_r (wm_r h))) Gd_X8_isKnown
theorem gX8_sumsOn_X8_isKnown : GoodIn wsX8_sumsOn (wsV RX8 31 RX8 yX8_isKnown wsX8_isKnown) := goodIn_V (own := RX8) (idx := 31) (C := RX8) (y := yX8_isKnown) (wm_t (wm_l (wm_i 2 rfl))) (wm_t (wm_l (wm_i 3 rfl))) (wm_t (wm_l (wm_i 4 rfl))) (wm_t (wm_l (wm_i 5 rfl))) ggX8_sumsOn_X8_isKnown
theorem dX8_sumsOn_all0 : decode cX8_sumsOn 0 = .ok (.iconst 0, 1) ∧ decode cX8_sumsOn 1 = .ok (.istore_n 3, 1) ∧ decode cX8_sumsOn 2 = .ok (.iconst 0, 1) ∧ decode cX8_sumsOn 3 = .ok (.istore 4, 2) ∧ decode cX8_sumsOn 5 = .ok (.iload 4, 2) ∧ decode cX8_sumsOn 7 = .ok (.aload_n 0, 1) ∧ decode cX8_sumsOn 8 = .ok (.getfield 27, 3) ∧ decode cX8_sumsOn 11 = .ok (.if_icmp .ge 30, 3) ∧ decode cX8_sumsOn 14 = .ok (.aload_n 0, 1) ∧ decode cX8_sumsOn 15 = .ok (.iload 4, 2) ∧ decode cX8_sumsOn 17 = .ok (.iload_n 1, 1) ∧ decode cX8_sumsOn 18 = .ok (.iload_n 2, 1) := by decide +kernel
theorem dX8_sumsOn_0 : decode cX8_sumsOn 0 = .ok (.iconst 0, 1) := dX8_sumsOn_all0.1
theorem dX8_sumsOn_1 : decode cX8_sumsOn 1 = .ok (.istore_n 3, 1) := dX8_sumsOn_all0.2.1
theorem dX8_sumsOn_2 : decode cX8_sumsOn 2 = .ok (.iconst 0, 1) := dX8_sumsOn_all0.2.2.1
theorem dX8_sumsOn_3 : decode cX8_sumsOn 3 = .ok (.istore 4, 2) := dX8_sumsOn_all0.2.2.2.1
theorem dX8_sumsOn_5 : decode cX8_sumsOn 5 = .ok (.iload 4, 2) := dX8_sumsOn_all0.2.2.2.2.1
theorem dX8_sumsOn_7 : decode cX8_sumsOn 7 = .ok (.aload_n 0, 1) := dX8_sumsOn_all0.2.2.2.2.2.1
theorem dX8_sumsOn_8 : decode cX8_sumsOn 8 = .ok (.getfield 27, 3) := dX8_sumsOn_all0.2.2.2.2.2.2.1
theorem dX8_sumsOn_11 : decode cX8_sumsOn 11 = .ok (.if_icmp .ge 30, 3) := dX8_sumsOn_all0.2.2.2.2.2.2.2.1
theorem dX8_sumsOn_14 : decode cX8_sumsOn 14 = .ok (.aload_n 0, 1) := dX8_sumsOn_all0.2.2.2.2.2.2.2.2.1
theorem dX8_sumsOn_15 : decode cX8_sumsOn 15 = .ok (.iload 4, 2) := dX8_sumsOn_all0.2.2.2.2.2.2.2.2.2.1
theorem dX8_sumsOn_17 : decode cX8_sumsOn 17 = .ok (.iload_n 1, 1) := dX8_sumsOn_all0.2.2.2.2.2.2.2.2.2.2.1
theorem dX8_sumsOn_18 : decode cX8_sumsOn 18 = .ok (.iload_n 2, 1) := dX8_sumsOn_all0.2.2.2.2.2.2.2.2.2.2.2
theorem dX8_sumsOn_all1 : decode cX8_sumsOn 19 = .ok (.invokevirtual 31, 3) ∧ decode cX8_sumsOn 22 = .ok (.ifCond .eq 13, 3) ∧ decode cX8_sumsOn 25 = .ok (.iload_n 3, 1) ∧ decode cX8_sumsOn 26 = .ok (.aload_n 0, 1) ∧ decode cX8_sumsOn 27 = .ok (.getfield 15, 3) ∧ decode cX8_sumsOn 30 = .ok (.iload 4, 2) ∧ decode cX8_sumsOn 32 = .ok (.iaload, 1) ∧ decode cX8_sumsOn 33 = .ok (.iadd, 1) ∧ decode cX8_sumsOn 34 = .ok (.istore_n 3, 1) ∧ decode cX8_sumsOn 35 = .ok (.iinc 4 1, 3) ∧ decode cX8_sumsOn 38 = .ok (.goto (-33), 3) ∧ decode cX8_sumsOn 41 = .ok (.iload_n 3, 1) := by decide +kernel
theorem dX8_sumsOn_19 : decode cX8_sumsOn 19 = .ok (.invokevirtual 31, 3) := dX8_sumsOn_all1.1
theorem dX8_sumsOn_22 : decode cX8_sumsOn 22 = .ok (.ifCond .eq 13, 3) := dX8_sumsOn_all1.2.1
theorem dX8_sumsOn_25 : decode cX8_sumsOn 25 = .ok (.iload_n 3, 1) := dX8_sumsOn_all1.2.2.1
theorem dX8_sumsOn_26 : decode cX8_sumsOn 26 = .ok (.aload_n 0, 1) := dX8_sumsOn_all1.2.2.2.1
theorem dX8_sumsOn_27 : decode cX8_sumsOn 27 = .ok (.getfield 15, 3) := dX8_sumsOn_all1.2.2.2.2.1
theorem dX8_sumsOn_30 : decode cX8_sumsOn 30 = .ok (.iload 4, 2) := dX8_sumsOn_all1.2.2.2.2.2.1
theorem dX8_sumsOn_32 : decode cX8_sumsOn 32 = .ok (.iaload, 1) := dX8_sumsOn_all1.2.2.2.2.2.2.1
theorem dX8_sumsOn_33 : decode cX8_sumsOn 33 = .ok (.iadd, 1) := dX8_sumsOn_all1.2.2.2.2.2.2.2.1
theorem dX8_sumsOn_34 : decode cX8_sumsOn 34 = .ok (.istore_n 3, 1) := dX8_sumsOn_all1.2.2.2.2.2.2.2.2.1
theorem dX8_sumsOn_35 : decode cX8_sumsOn 35 = .ok (.iinc 4 1, 3) := dX8_sumsOn_all1.2.2.2.2.2.2.2.2.2.1
theorem dX8_sumsOn_38 : decode cX8_sumsOn 38 = .ok (.goto (-33), 3) := dX8_sumsOn_all1.2.2.2.2.2.2.2.2.2.2.1
theorem dX8_sumsOn_41 : decode cX8_sumsOn 41 = .ok (.iload_n 3, 1) := dX8_sumsOn_all1.2.2.2.2.2.2.2.2.2.2.2
theorem dX8_sumsOn_42 : decode cX8_sumsOn 42 = .ok (.ireturn, 1) := by decide +kernel
theorem ggX8_putInOrder_X8_isKnown : GoodIn wsX8_putInOrder wsX8_isKnown := goodIn_s (fun _ h => wm_t (wm_r (wm_l (wm_r h)))) Gd_X8_isKnown
theorem gX8_putInOrder_X8_isKnown : GoodIn wsX8_putInOrder (wsV RX8 31 RX8 yX8_isKnown wsX8_isKnown) := goodIn_V (own := RX8) (idx := 31) (C := RX8) (y := yX8_isKnown) (wm_t (wm_l (wm_i 1 rfl))) (wm_t (wm_l (wm_i 2 rfl))) (wm_t (wm_l (wm_i 3 rfl))) (wm_t (wm_l (wm_i 4 rfl))) ggX8_putInOrder_X8_isKnown
theorem ggX8_putInOrder_X8_putBehind : GoodIn wsX8_putInOrder wsX8_putBehind := goodIn_s (fun _ h => wm_t (wm_r (wm_r h))) Gd_X8_putBehind
theorem gX8_putInOrder_X8_putBehind : GoodIn wsX8_putInOrder (wsV RX8 35 RX8 yX8_putBehind wsX8_putBehind) := goodIn_V (own := RX8) (idx := 35) (C := RX8) (y := yX8_putBehind) (wm_t (wm_l (wm_i 5 rfl))) (wm_t (wm_l (wm_i 6 rfl))) (wm_t (wm_l (wm_i 7 rfl))) (wm_t (wm_l (wm_i 4 rfl))) ggX8_putInOrder_X8_putBehind
theorem dX8_putInOrder_all0 : decode cX8_putInOrder 0 = .ok (.iconst 0, 1) ∧ decode cX8_putInOrder 1 = .ok (.istore 4, 2) ∧ decode cX8_putInOrder 3 = .ok (.iconst 0, 1) ∧ decode cX8_putInOrder 4 = .ok (.istore 5, 2) ∧ decode cX8_putInOrder 6 = .ok (.iload 5, 2) ∧ decode cX8_putInOrder 8 = .ok (.aload_n 0, 1) ∧ decode cX8_putInOrder 9 = .ok (.getfield 27, 3) ∧ decode cX8_putInOrder 12 = .ok (.if_icmp .ge 32, 3) ∧ decode cX8_putInOrder 15 = .ok (.aload_n 0, 1) ∧ decode cX8_putInOrder 16 = .ok (.iload 5, 2) ∧ decode cX8_putInOrder 18 = .ok (.iload_n 1, 1) ∧ decode cX8_putInOrder 19 = .ok (.iload_n 2, 1) := by decide +kernel
theorem dX8_putInOrder_0 : decode cX8_putInOrder 0 = .ok (.iconst 0, 1) := dX8_putInOrder_all0.1
theorem dX8_putInOrder_1 : decode cX8_putInOrder 1 = .ok (.istore 4, 2) := dX8_putInOrder_all0.2.1
theorem dX8_putInOrder_3 : decode cX8_putInOrder 3 = .ok (.iconst 0, 1) := dX8_putInOrder_all0.2.2.1
theorem dX8_putInOrder_4 : decode cX8_putInOrder 4 = .ok (.istore 5, 2) := dX8_putInOrder_all0.2.2.2.1
theorem dX8_putInOrder_6 : decode cX8_putInOrder 6 = .ok (.iload 5, 2) := dX8_putInOrder_all0.2.2.2.2.1
theorem dX8_putInOrder_8 : decode cX8_putInOrder 8 = .ok (.aload_n 0, 1) := dX8_putInOrder_all0.2.2.2.2.2.1
theorem dX8_putInOrder_9 : decode cX8_putInOrder 9 = .ok (.getfield 27, 3) := dX8_putInOrder_all0.2.2.2.2.2.2.1
theorem dX8_putInOrder_12 : decode cX8_putInOrder 12 = .ok (.if_icmp .ge 32, 3) := dX8_putInOrder_all0.2.2.2.2.2.2.2.1
theorem dX8_putInOrder_15 : decode cX8_putInOrder 15 = .ok (.aload_n 0, 1) := dX8_putInOrder_all0.2.2.2.2.2.2.2.2.1
theorem dX8_putInOrder_16 : decode cX8_putInOrder 16 = .ok (.iload 5, 2) := dX8_putInOrder_all0.2.2.2.2.2.2.2.2.2.1
theorem dX8_putInOrder_18 : decode cX8_putInOrder 18 = .ok (.iload_n 1, 1) := dX8_putInOrder_all0.2.2.2.2.2.2.2.2.2.2.1
theorem dX8_putInOrder_19 : decode cX8_putInOrder 19 = .ok (.iload_n 2, 1) := dX8_putInOrder_all0.2.2.2.2.2.2.2.2.2.2.2
theorem dX8_putInOrder_all1 : decode cX8_putInOrder 20 = .ok (.invokevirtual 31, 3) ∧ decode cX8_putInOrder 23 = .ok (.ifCond .eq 15, 3) ∧ decode cX8_putInOrder 26 = .ok (.aload_n 0, 1) ∧ decode cX8_putInOrder 27 = .ok (.iload 4, 2) ∧ decode cX8_putInOrder 29 = .ok (.iload 5, 2) ∧ decode cX8_putInOrder 31 = .ok (.iload_n 3, 1) ∧ decode cX8_putInOrder 32 = .ok (.invokevirtual 35, 3) ∧ decode cX8_putInOrder 35 = .ok (.iinc 4 1, 3) ∧ decode cX8_putInOrder 38 = .ok (.iinc 5 1, 3) ∧ decode cX8_putInOrder 41 = .ok (.goto (-35), 3) ∧ decode cX8_putInOrder 44 = .ok (.iload 4, 2) ∧ decode cX8_putInOrder 46 = .ok (.ireturn, 1) := by decide +kernel
theorem dX8_putInOrder_20 : decode cX8_putInOrder 20 = .ok (.invokevirtual 31, 3) := dX8_putInOrder_all1.1
theorem dX8_putInOrder_23 : decode cX8_putInOrder 23 = .ok (.ifCond .eq 15, 3) := dX8_putInOrder_all1.2.1
theorem dX8_putInOrder_26 : decode cX8_putInOrder 26 = .ok (.aload_n 0, 1) := dX8_putInOrder_all1.2.2.1
theorem dX8_putInOrder_27 : decode cX8_putInOrder 27 = .ok (.iload 4, 2) := dX8_putInOrder_all1.2.2.2.1
theorem dX8_putInOrder_29 : decode cX8_putInOrder 29 = .ok (.iload 5, 2) := dX8_putInOrder_all1.2.2.2.2.1
theorem dX8_putInOrder_31 : decode cX8_putInOrder 31 = .ok (.iload_n 3, 1) := dX8_putInOrder_all1.2.2.2.2.2.1
theorem dX8_putInOrder_32 : decode cX8_putInOrder 32 = .ok (.invokevirtual 35, 3) := dX8_putInOrder_all1.2.2.2.2.2.2.1
theorem dX8_putInOrder_35 : decode cX8_putInOrder 35 = .ok (.iinc 4 1, 3) := dX8_putInOrder_all1.2.2.2.2.2.2.2.1
theorem dX8_putInOrder_38 : decode cX8_putInOrder 38 = .ok (.iinc 5 1, 3) := dX8_putInOrder_all1.2.2.2.2.2.2.2.2.1
theorem dX8_putInOrder_41 : decode cX8_putInOrder 41 = .ok (.goto (-35), 3) := dX8_putInOrder_all1.2.2.2.2.2.2.2.2.2.1
theorem dX8_putInOrder_44 : decode cX8_putInOrder 44 = .ok (.iload 4, 2) := dX8_putInOrder_all1.2.2.2.2.2.2.2.2.2.2.1
theorem dX8_putInOrder_46 : decode cX8_putInOrder 46 = .ok (.ireturn, 1) := dX8_putInOrder_all1.2.2.2.2.2.2.2.2.2.2.2
theorem ggX8_putBehind_X8_isAhead : GoodIn wsX8_putBehind wsX8_isAhead := goodIn_s (fun _ h => wm_t (wm_r (wm_r h))) Gd_X8_isAhead
theorem gX8_putBehind_X8_isAhead : GoodIn wsX8_putBehind (wsV RX8 39 RX8 yX8_isAhead wsX8_isAhead) := goodIn_V (own := RX8) (idx := 39) (C := RX8) (y := yX8_isAhead) (wm_t (wm_l (wm_i 1 rfl))) (wm_t (wm_l (wm_i 2 rfl))) (wm_t (wm_l (wm_i 3 rfl))) (wm_t (wm_l (wm_i 4 rfl))) ggX8_putBehind_X8_isAhead
theorem dX8_putBehind_all0 : decode cX8_putBehind 0 = .ok (.iload_n 1, 1) ∧ decode cX8_putBehind 1 = .ok (.istore 4, 2) ∧ decode cX8_putBehind 3 = .ok (.iload 4, 2) ∧ decode cX8_putBehind 5 = .ok (.ifCond .le 43, 3) ∧ decode cX8_putBehind 8 = .ok (.aload_n 0, 1) ∧ decode cX8_putBehind 9 = .ok (.iload_n 2, 1) ∧ decode cX8_putBehind 10 = .ok (.aload_n 0, 1) ∧ decode cX8_putBehind 11 = .ok (.getfield 24, 3) ∧ decode cX8_putBehind 14 = .ok (.iload 4, 2) ∧ decode cX8_putBehind 16 = .ok (.iconst 1, 1) ∧ decode cX8_putBehind 17 = .ok (.isub, 1) ∧ decode cX8_putBehind 18 = .ok (.iaload, 1) := by decide +kernel
theorem dX8_putBehind_0 : decode cX8_putBehind 0 = .ok (.iload_n 1, 1) := dX8_putBehind_all0.1
theorem dX8_putBehind_1 : decode cX8_putBehind 1 = .ok (.istore 4, 2) := dX8_putBehind_all0.2.1
theorem dX8_putBehind_3 : decode cX8_putBehind 3 = .ok (.iload 4, 2) := dX8_putBehind_all0.2.2.1
theorem dX8_putBehind_5 : decode cX8_putBehind 5 = .ok (.ifCond .le 43, 3) := dX8_putBehind_all0.2.2.2.1
theorem dX8_putBehind_8 : decode cX8_putBehind 8 = .ok (.aload_n 0, 1) := dX8_putBehind_all0.2.2.2.2.1
theorem dX8_putBehind_9 : decode cX8_putBehind 9 = .ok (.iload_n 2, 1) := dX8_putBehind_all0.2.2.2.2.2.1
theorem dX8_putBehind_10 : decode cX8_putBehind 10 = .ok (.aload_n 0, 1) := dX8_putBehind_all0.2.2.2.2.2.2.1
theorem dX8_putBehind_11 : decode cX8_putBehind 11 = .ok (.getfield 24, 3) := dX8_putBehind_all0.2.2.2.2.2.2.2.1
theorem dX8_putBehind_14 : decode cX8_putBehind 14 = .ok (.iload 4, 2) := dX8_putBehind_all0.2.2.2.2.2.2.2.2.1
theorem dX8_putBehind_16 : decode cX8_putBehind 16 = .ok (.iconst 1, 1) := dX8_putBehind_all0.2.2.2.2.2.2.2.2.2.1
theorem dX8_putBehind_17 : decode cX8_putBehind 17 = .ok (.isub, 1) := dX8_putBehind_all0.2.2.2.2.2.2.2.2.2.2.1
theorem dX8_putBehind_18 : decode cX8_putBehind 18 = .ok (.iaload, 1) := dX8_putBehind_all0.2.2.2.2.2.2.2.2.2.2.2
theorem dX8_putBehind_all1 : decode cX8_putBehind 19 = .ok (.iload_n 3, 1) ∧ decode cX8_putBehind 20 = .ok (.invokevirtual 39, 3) ∧ decode cX8_putBehind 23 = .ok (.ifCond .eq 25, 3) ∧ decode cX8_putBehind 26 = .ok (.aload_n 0, 1) ∧ decode cX8_putBehind 27 = .ok (.getfield 24, 3) ∧ decode cX8_putBehind 30 = .ok (.iload 4, 2) ∧ decode cX8_putBehind 32 = .ok (.aload_n 0, 1) ∧ decode cX8_putBehind 33 = .ok (.getfield 24, 3) ∧ decode cX8_putBehind 36 = .ok (.iload 4, 2) ∧ decode cX8_putBehind 38 = .ok (.iconst 1, 1) ∧ decode cX8_putBehind 39 = .ok (.isub, 1) ∧ decode cX8_putBehind 40 = .ok (.iaload, 1) := by decide +kernel
theorem dX8_putBehind_19 : decode cX8_putBehind 19 = .ok (.iload_n 3, 1) := dX8_putBehind_all1.1
theorem dX8_putBehind_20 : decode cX8_putBehind 20 = .ok (.invokevirtual 39, 3) := dX8_putBehind_all1.2.1
theorem dX8_putBehind_23 : decode cX8_putBehind 23 = .ok (.ifCond .eq 25, 3) := dX8_putBehind_all1.2.2.1
theorem dX8_putBehind_26 : decode cX8_putBehind 26 = .ok (.aload_n 0, 1) := dX8_putBehind_all1.2.2.2.1
theorem dX8_putBehind_27 : decode cX8_putBehind 27 = .ok (.getfield 24, 3) := dX8_putBehind_all1.2.2.2.2.1
theorem dX8_putBehind_30 : decode cX8_putBehind 30 = .ok (.iload 4, 2) := dX8_putBehind_all1.2.2.2.2.2.1
theorem dX8_putBehind_32 : decode cX8_putBehind 32 = .ok (.aload_n 0, 1) := dX8_putBehind_all1.2.2.2.2.2.2.1
theorem dX8_putBehind_33 : decode cX8_putBehind 33 = .ok (.getfield 24, 3) := dX8_putBehind_all1.2.2.2.2.2.2.2.1
theorem dX8_putBehind_36 : decode cX8_putBehind 36 = .ok (.iload 4, 2) := dX8_putBehind_all1.2.2.2.2.2.2.2.2.1
theorem dX8_putBehind_38 : decode cX8_putBehind 38 = .ok (.iconst 1, 1) := dX8_putBehind_all1.2.2.2.2.2.2.2.2.2.1
theorem dX8_putBehind_39 : decode cX8_putBehind 39 = .ok (.isub, 1) := dX8_putBehind_all1.2.2.2.2.2.2.2.2.2.2.1
theorem dX8_putBehind_40 : decode cX8_putBehind 40 = .ok (.iaload, 1) := dX8_putBehind_all1.2.2.2.2.2.2.2.2.2.2.2
theorem dX8_putBehind_all2 : decode cX8_putBehind 41 = .ok (.iastore, 1) ∧ decode cX8_putBehind 42 = .ok (.iinc 4 (-1), 3) ∧ decode cX8_putBehind 45 = .ok (.goto (-42), 3) ∧ decode cX8_putBehind 48 = .ok (.aload_n 0, 1) ∧ decode cX8_putBehind 49 = .ok (.getfield 24, 3) ∧ decode cX8_putBehind 52 = .ok (.iload 4, 2) ∧ decode cX8_putBehind 54 = .ok (.iload_n 2, 1) ∧ decode cX8_putBehind 55 = .ok (.iastore, 1) ∧ decode cX8_putBehind 56 = .ok (.return_, 1) := by decide +kernel
theorem dX8_putBehind_41 : decode cX8_putBehind 41 = .ok (.iastore, 1) := dX8_putBehind_all2.1
theorem dX8_putBehind_42 : decode cX8_putBehind 42 = .ok (.iinc 4 (-1), 3) := dX8_putBehind_all2.2.1
theorem dX8_putBehind_45 : decode cX8_putBehind 45 = .ok (.goto (-42), 3) := dX8_putBehind_all2.2.2.1
theorem dX8_putBehind_48 : decode cX8_putBehind 48 = .ok (.aload_n 0, 1) := dX8_putBehind_all2.2.2.2.1
theorem dX8_putBehind_49 : decode cX8_putBehind 49 = .ok (.getfield 24, 3) := dX8_putBehind_all2.2.2.2.2.1
theorem dX8_putBehind_52 : decode cX8_putBehind 52 = .ok (.iload 4, 2) := dX8_putBehind_all2.2.2.2.2.2.1
theorem dX8_putBehind_54 : decode cX8_putBehind 54 = .ok (.iload_n 2, 1) := dX8_putBehind_all2.2.2.2.2.2.2.1
theorem dX8_putBehind_55 : decode cX8_putBehind 55 = .ok (.iastore, 1) := dX8_putBehind_all2.2.2.2.2.2.2.2.1
theorem dX8_putBehind_56 : decode cX8_putBehind 56 = .ok (.return_, 1) := dX8_putBehind_all2.2.2.2.2.2.2.2.2
theorem dX8_isAhead_all0 : decode cX8_isAhead 0 = .ok (.iload_n 3, 1) ∧ decode cX8_isAhead 1 = .ok (.tableswitch 90 0 2 #[27, 48, 69], 27) ∧ decode cX8_isAhead 28 = .ok (.aload_n 0, 1) ∧ decode cX8_isAhead 29 = .ok (.getfield 21, 3) ∧ decode cX8_isAhead 32 = .ok (.iload_n 1, 1) ∧ decode cX8_isAhead 33 = .ok (.iaload, 1) ∧ decode cX8_isAhead 34 = .ok (.aload_n 0, 1) ∧ decode cX8_isAhead 35 = .ok (.getfield 21, 3) ∧ decode cX8_isAhead 38 = .ok (.iload_n 2, 1) ∧ decode cX8_isAhead 39 = .ok (.iaload, 1) ∧ decode cX8_isAhead 40 = .ok (.if_icmp .ge 7, 3) ∧ decode cX8_isAhead 43 = .ok (.iconst 1, 1) := by decide +kernel
theorem dX8_isAhead_0 : decode cX8_isAhead 0 = .ok (.iload_n 3, 1) := dX8_isAhead_all0.1
theorem dX8_isAhead_1 : decode cX8_isAhead 1 = .ok (.tableswitch 90 0 2 #[27, 48, 69], 27) := dX8_isAhead_all0.2.1
theorem dX8_isAhead_28 : decode cX8_isAhead 28 = .ok (.aload_n 0, 1) := dX8_isAhead_all0.2.2.1
theorem dX8_isAhead_29 : decode cX8_isAhead 29 = .ok (.getfield 21, 3) := dX8_isAhead_all0.2.2.2.1
theorem dX8_isAhead_32 : decode cX8_isAhead 32 = .ok (.iload_n 1, 1) := dX8_isAhead_all0.2.2.2.2.1
theorem dX8_isAhead_33 : decode cX8_isAhead 33 = .ok (.iaload, 1) := dX8_isAhead_all0.2.2.2.2.2.1
theorem dX8_isAhead_34 : decode cX8_isAhead 34 = .ok (.aload_n 0, 1) := dX8_isAhead_all0.2.2.2.2.2.2.1
theorem dX8_isAhead_35 : decode cX8_isAhead 35 = .ok (.getfield 21, 3) := dX8_isAhead_all0.2.2.2.2.2.2.2.1
theorem dX8_isAhead_38 : decode cX8_isAhead 38 = .ok (.iload_n 2, 1) := dX8_isAhead_all0.2.2.2.2.2.2.2.2.1
theorem dX8_isAhead_39 : decode cX8_isAhead 39 = .ok (.iaload, 1) := dX8_isAhead_all0.2.2.2.2.2.2.2.2.2.1
theorem dX8_isAhead_40 : decode cX8_isAhead 40 = .ok (.if_icmp .ge 7, 3) := dX8_isAhead_all0.2.2.2.2.2.2.2.2.2.2.1
theorem dX8_isAhead_43 : decode cX8_isAhead 43 = .ok (.iconst 1, 1) := dX8_isAhead_all0.2.2.2.2.2.2.2.2.2.2.2
theorem dX8_isAhead_all1 : decode cX8_isAhead 44 = .ok (.goto 4, 3) ∧ decode cX8_isAhead 47 = .ok (.iconst 0, 1) ∧ decode cX8_isAhead 48 = .ok (.ireturn, 1) ∧ decode cX8_isAhead 49 = .ok (.aload_n 0, 1) ∧ decode cX8_isAhead 50 = .ok (.getfield 18, 3) ∧ decode cX8_isAhead 53 = .ok (.iload_n 1, 1) ∧ decode cX8_isAhead 54 = .ok (.iaload, 1) ∧ decode cX8_isAhead 55 = .ok (.aload_n 0, 1) ∧ decode cX8_isAhead 56 = .ok (.getfield 18, 3) ∧ decode cX8_isAhead 59 = .ok (.iload_n 2, 1) ∧ decode cX8_isAhead 60 = .ok (.iaload, 1) ∧ decode cX8_isAhead 61 = .ok (.if_icmp .ge 7, 3) := by decide +kernel
theorem dX8_isAhead_44 : decode cX8_isAhead 44 = .ok (.goto 4, 3) := dX8_isAhead_all1.1
theorem dX8_isAhead_47 : decode cX8_isAhead 47 = .ok (.iconst 0, 1) := dX8_isAhead_all1.2.1
theorem dX8_isAhead_48 : decode cX8_isAhead 48 = .ok (.ireturn, 1) := dX8_isAhead_all1.2.2.1
theorem dX8_isAhead_49 : decode cX8_isAhead 49 = .ok (.aload_n 0, 1) := dX8_isAhead_all1.2.2.2.1
theorem dX8_isAhead_50 : decode cX8_isAhead 50 = .ok (.getfield 18, 3) := dX8_isAhead_all1.2.2.2.2.1
theorem dX8_isAhead_53 : decode cX8_isAhead 53 = .ok (.iload_n 1, 1) := dX8_isAhead_all1.2.2.2.2.2.1
theorem dX8_isAhead_54 : decode cX8_isAhead 54 = .ok (.iaload, 1) := dX8_isAhead_all1.2.2.2.2.2.2.1
theorem dX8_isAhead_55 : decode cX8_isAhead 55 = .ok (.aload_n 0, 1) := dX8_isAhead_all1.2.2.2.2.2.2.2.1
theorem dX8_isAhead_56 : decode cX8_isAhead 56 = .ok (.getfield 18, 3) := dX8_isAhead_all1.2.2.2.2.2.2.2.2.1
theorem dX8_isAhead_59 : decode cX8_isAhead 59 = .ok (.iload_n 2, 1) := dX8_isAhead_all1.2.2.2.2.2.2.2.2.2.1
theorem dX8_isAhead_60 : decode cX8_isAhead 60 = .ok (.iaload, 1) := dX8_isAhead_all1.2.2.2.2.2.2.2.2.2.2.1
theorem dX8_isAhead_61 : decode cX8_isAhead 61 = .ok (.if_icmp .ge 7, 3) := dX8_isAhead_all1.2.2.2.2.2.2.2.2.2.2.2
theorem dX8_isAhead_all2 : decode cX8_isAhead 64 = .ok (.iconst 1, 1) ∧ decode cX8_isAhead 65 = .ok (.goto 4, 3) ∧ decode cX8_isAhead 68 = .ok (.iconst 0, 1) ∧ decode cX8_isAhead 69 = .ok (.ireturn, 1) ∧ decode cX8_isAhead 70 = .ok (.aload_n 0, 1) ∧ decode cX8_isAhead 71 = .ok (.getfield 15, 3) ∧ decode cX8_isAhead 74 = .ok (.iload_n 1, 1) ∧ decode cX8_isAhead 75 = .ok (.iaload, 1) ∧ decode cX8_isAhead 76 = .ok (.aload_n 0, 1) ∧ decode cX8_isAhead 77 = .ok (.getfield 15, 3) ∧ decode cX8_isAhead 80 = .ok (.iload_n 2, 1) ∧ decode cX8_isAhead 81 = .ok (.iaload, 1) := by decide +kernel
theorem dX8_isAhead_64 : decode cX8_isAhead 64 = .ok (.iconst 1, 1) := dX8_isAhead_all2.1
theorem dX8_isAhead_65 : decode cX8_isAhead 65 = .ok (.goto 4, 3) := dX8_isAhead_all2.2.1
theorem dX8_isAhead_68 : decode cX8_isAhead 68 = .ok (.iconst 0, 1) := dX8_isAhead_all2.2.2.1
theorem dX8_isAhead_69 : decode cX8_isAhead 69 = .ok (.ireturn, 1) := dX8_isAhead_all2.2.2.2.1
theorem dX8_isAhead_70 : decode cX8_isAhead 70 = .ok (.aload_n 0, 1) := dX8_isAhead_all2.2.2.2.2.1
theorem dX8_isAhead_71 : decode cX8_isAhead 71 = .ok (.getfield 15, 3) := dX8_isAhead_all2.2.2.2.2.2.1
theorem dX8_isAhead_74 : decode cX8_isAhead 74 = .ok (.iload_n 1, 1) := dX8_isAhead_all2.2.2.2.2.2.2.1
theorem dX8_isAhead_75 : decode cX8_isAhead 75 = .ok (.iaload, 1) := dX8_isAhead_all2.2.2.2.2.2.2.2.1
theorem dX8_isAhead_76 : decode cX8_isAhead 76 = .ok (.aload_n 0, 1) := dX8_isAhead_all2.2.2.2.2.2.2.2.2.1
theorem dX8_isAhead_77 : decode cX8_isAhead 77 = .ok (.getfield 15, 3) := dX8_isAhead_all2.2.2.2.2.2.2.2.2.2.1
theorem dX8_isAhead_80 : decode cX8_isAhead 80 = .ok (.iload_n 2, 1) := dX8_isAhead_all2.2.2.2.2.2.2.2.2.2.2.1
theorem dX8_isAhead_81 : decode cX8_isAhead 81 = .ok (.iaload, 1) := dX8_isAhead_all2.2.2.2.2.2.2.2.2.2.2.2
theorem dX8_isAhead_all3 : decode cX8_isAhead 82 = .ok (.if_icmp .le 7, 3) ∧ decode cX8_isAhead 85 = .ok (.iconst 1, 1) ∧ decode cX8_isAhead 86 = .ok (.goto 4, 3) ∧ decode cX8_isAhead 89 = .ok (.iconst 0, 1) ∧ decode cX8_isAhead 90 = .ok (.ireturn, 1) ∧ decode cX8_isAhead 91 = .ok (.aload_n 0, 1) ∧ decode cX8_isAhead 92 = .ok (.getfield 21, 3) ∧ decode cX8_isAhead 95 = .ok (.iload_n 1, 1) ∧ decode cX8_isAhead 96 = .ok (.iaload, 1) ∧ decode cX8_isAhead 97 = .ok (.aload_n 0, 1) ∧ decode cX8_isAhead 98 = .ok (.getfield 21, 3) ∧ decode cX8_isAhead 101 = .ok (.iload_n 2, 1) := by decide +kernel
theorem dX8_isAhead_82 : decode cX8_isAhead 82 = .ok (.if_icmp .le 7, 3) := dX8_isAhead_all3.1
theorem dX8_isAhead_85 : decode cX8_isAhead 85 = .ok (.iconst 1, 1) := dX8_isAhead_all3.2.1
theorem dX8_isAhead_86 : decode cX8_isAhead 86 = .ok (.goto 4, 3) := dX8_isAhead_all3.2.2.1
theorem dX8_isAhead_89 : decode cX8_isAhead 89 = .ok (.iconst 0, 1) := dX8_isAhead_all3.2.2.2.1
theorem dX8_isAhead_90 : decode cX8_isAhead 90 = .ok (.ireturn, 1) := dX8_isAhead_all3.2.2.2.2.1
theorem dX8_isAhead_91 : decode cX8_isAhead 91 = .ok (.aload_n 0, 1) := dX8_isAhead_all3.2.2.2.2.2.1
theorem dX8_isAhead_92 : decode cX8_isAhead 92 = .ok (.getfield 21, 3) := dX8_isAhead_all3.2.2.2.2.2.2.1
theorem dX8_isAhead_95 : decode cX8_isAhead 95 = .ok (.iload_n 1, 1) := dX8_isAhead_all3.2.2.2.2.2.2.2.1
theorem dX8_isAhead_96 : decode cX8_isAhead 96 = .ok (.iaload, 1) := dX8_isAhead_all3.2.2.2.2.2.2.2.2.1
theorem dX8_isAhead_97 : decode cX8_isAhead 97 = .ok (.aload_n 0, 1) := dX8_isAhead_all3.2.2.2.2.2.2.2.2.2.1
theorem dX8_isAhead_98 : decode cX8_isAhead 98 = .ok (.getfield 21, 3) := dX8_isAhead_all3.2.2.2.2.2.2.2.2.2.2.1
theorem dX8_isAhead_101 : decode cX8_isAhead 101 = .ok (.iload_n 2, 1) := dX8_isAhead_all3.2.2.2.2.2.2.2.2.2.2.2
theorem dX8_isAhead_all4 : decode cX8_isAhead 102 = .ok (.iaload, 1) ∧ decode cX8_isAhead 103 = .ok (.if_icmp .le 7, 3) ∧ decode cX8_isAhead 106 = .ok (.iconst 1, 1) ∧ decode cX8_isAhead 107 = .ok (.goto 4, 3) ∧ decode cX8_isAhead 110 = .ok (.iconst 0, 1) ∧ decode cX8_isAhead 111 = .ok (.ireturn, 1) := by decide +kernel
theorem dX8_isAhead_102 : decode cX8_isAhead 102 = .ok (.iaload, 1) := dX8_isAhead_all4.1
theorem dX8_isAhead_103 : decode cX8_isAhead 103 = .ok (.if_icmp .le 7, 3) := dX8_isAhead_all4.2.1
theorem dX8_isAhead_106 : decode cX8_isAhead 106 = .ok (.iconst 1, 1) := dX8_isAhead_all4.2.2.1
theorem dX8_isAhead_107 : decode cX8_isAhead 107 = .ok (.goto 4, 3) := dX8_isAhead_all4.2.2.2.1
theorem dX8_isAhead_110 : decode cX8_isAhead 110 = .ok (.iconst 0, 1) := dX8_isAhead_all4.2.2.2.2.1
theorem dX8_isAhead_111 : decode cX8_isAhead 111 = .ok (.ireturn, 1) := dX8_isAhead_all4.2.2.2.2.2
theorem dX8_paidTo_all0 : decode cX8_paidTo 0 = .ok (.iload_n 2, 1) ∧ decode cX8_paidTo 1 = .ok (.istore_n 3, 1) ∧ decode cX8_paidTo 2 = .ok (.iconst 0, 1) ∧ decode cX8_paidTo 3 = .ok (.istore 4, 2) ∧ decode cX8_paidTo 5 = .ok (.iload 4, 2) ∧ decode cX8_paidTo 7 = .ok (.iload_n 1, 1) ∧ decode cX8_paidTo 8 = .ok (.if_icmp .ge 28, 3) ∧ decode cX8_paidTo 11 = .ok (.iload_n 3, 1) ∧ decode cX8_paidTo 12 = .ok (.iload_n 3, 1) ∧ decode cX8_paidTo 13 = .ok (.aload_n 0, 1) ∧ decode cX8_paidTo 14 = .ok (.getfield 15, 3) ∧ decode cX8_paidTo 17 = .ok (.aload_n 0, 1) := by decide +kernel
theorem dX8_paidTo_0 : decode cX8_paidTo 0 = .ok (.iload_n 2, 1) := dX8_paidTo_all0.1
theorem dX8_paidTo_1 : decode cX8_paidTo 1 = .ok (.istore_n 3, 1) := dX8_paidTo_all0.2.1
theorem dX8_paidTo_2 : decode cX8_paidTo 2 = .ok (.iconst 0, 1) := dX8_paidTo_all0.2.2.1
theorem dX8_paidTo_3 : decode cX8_paidTo 3 = .ok (.istore 4, 2) := dX8_paidTo_all0.2.2.2.1
theorem dX8_paidTo_5 : decode cX8_paidTo 5 = .ok (.iload 4, 2) := dX8_paidTo_all0.2.2.2.2.1
theorem dX8_paidTo_7 : decode cX8_paidTo 7 = .ok (.iload_n 1, 1) := dX8_paidTo_all0.2.2.2.2.2.1
theorem dX8_paidTo_8 : decode cX8_paidTo 8 = .ok (.if_icmp .ge 28, 3) := dX8_paidTo_all0.2.2.2.2.2.2.1
theorem dX8_paidTo_11 : decode cX8_paidTo 11 = .ok (.iload_n 3, 1) := dX8_paidTo_all0.2.2.2.2.2.2.2.1
theorem dX8_paidTo_12 : decode cX8_paidTo 12 = .ok (.iload_n 3, 1) := dX8_paidTo_all0.2.2.2.2.2.2.2.2.1
theorem dX8_paidTo_13 : decode cX8_paidTo 13 = .ok (.aload_n 0, 1) := dX8_paidTo_all0.2.2.2.2.2.2.2.2.2.1
theorem dX8_paidTo_14 : decode cX8_paidTo 14 = .ok (.getfield 15, 3) := dX8_paidTo_all0.2.2.2.2.2.2.2.2.2.2.1
theorem dX8_paidTo_17 : decode cX8_paidTo 17 = .ok (.aload_n 0, 1) := dX8_paidTo_all0.2.2.2.2.2.2.2.2.2.2.2
theorem dX8_paidTo_all1 : decode cX8_paidTo 18 = .ok (.getfield 24, 3) ∧ decode cX8_paidTo 21 = .ok (.iload 4, 2) ∧ decode cX8_paidTo 23 = .ok (.iaload, 1) ∧ decode cX8_paidTo 24 = .ok (.iaload, 1) ∧ decode cX8_paidTo 25 = .ok (.invokestatic 42, 3) ∧ decode cX8_paidTo 28 = .ok (.isub, 1) ∧ decode cX8_paidTo 29 = .ok (.istore_n 3, 1) ∧ decode cX8_paidTo 30 = .ok (.iinc 4 1, 3) ∧ decode cX8_paidTo 33 = .ok (.goto (-28), 3) ∧ decode cX8_paidTo 36 = .ok (.iload_n 3, 1) ∧ decode cX8_paidTo 37 = .ok (.aload_n 0, 1) ∧ decode cX8_paidTo 38 = .ok (.getfield 15, 3) := by decide +kernel
theorem dX8_paidTo_18 : decode cX8_paidTo 18 = .ok (.getfield 24, 3) := dX8_paidTo_all1.1
theorem dX8_paidTo_21 : decode cX8_paidTo 21 = .ok (.iload 4, 2) := dX8_paidTo_all1.2.1
theorem dX8_paidTo_23 : decode cX8_paidTo 23 = .ok (.iaload, 1) := dX8_paidTo_all1.2.2.1
theorem dX8_paidTo_24 : decode cX8_paidTo 24 = .ok (.iaload, 1) := dX8_paidTo_all1.2.2.2.1
theorem dX8_paidTo_25 : decode cX8_paidTo 25 = .ok (.invokestatic 42, 3) := dX8_paidTo_all1.2.2.2.2.1
theorem dX8_paidTo_28 : decode cX8_paidTo 28 = .ok (.isub, 1) := dX8_paidTo_all1.2.2.2.2.2.1
theorem dX8_paidTo_29 : decode cX8_paidTo 29 = .ok (.istore_n 3, 1) := dX8_paidTo_all1.2.2.2.2.2.2.1
theorem dX8_paidTo_30 : decode cX8_paidTo 30 = .ok (.iinc 4 1, 3) := dX8_paidTo_all1.2.2.2.2.2.2.2.1
theorem dX8_paidTo_33 : decode cX8_paidTo 33 = .ok (.goto (-28), 3) := dX8_paidTo_all1.2.2.2.2.2.2.2.2.1
theorem dX8_paidTo_36 : decode cX8_paidTo 36 = .ok (.iload_n 3, 1) := dX8_paidTo_all1.2.2.2.2.2.2.2.2.2.1
theorem dX8_paidTo_37 : decode cX8_paidTo 37 = .ok (.aload_n 0, 1) := dX8_paidTo_all1.2.2.2.2.2.2.2.2.2.2.1
theorem dX8_paidTo_38 : decode cX8_paidTo 38 = .ok (.getfield 15, 3) := dX8_paidTo_all1.2.2.2.2.2.2.2.2.2.2.2
theorem dX8_paidTo_all2 : decode cX8_paidTo 41 = .ok (.aload_n 0, 1) ∧ decode cX8_paidTo 42 = .ok (.getfield 24, 3) ∧ decode cX8_paidTo 45 = .ok (.iload_n 1, 1) ∧ decode cX8_paidTo 46 = .ok (.iaload, 1) ∧ decode cX8_paidTo 47 = .ok (.iaload, 1) ∧ decode cX8_paidTo 48 = .ok (.invokestatic 42, 3) ∧ decode cX8_paidTo 51 = .ok (.ireturn, 1) := by decide +kernel
theorem dX8_paidTo_41 : decode cX8_paidTo 41 = .ok (.aload_n 0, 1) := dX8_paidTo_all2.1
theorem dX8_paidTo_42 : decode cX8_paidTo 42 = .ok (.getfield 24, 3) := dX8_paidTo_all2.2.1
theorem dX8_paidTo_45 : decode cX8_paidTo 45 = .ok (.iload_n 1, 1) := dX8_paidTo_all2.2.2.1
theorem dX8_paidTo_46 : decode cX8_paidTo 46 = .ok (.iaload, 1) := dX8_paidTo_all2.2.2.2.1
theorem dX8_paidTo_47 : decode cX8_paidTo 47 = .ok (.iaload, 1) := dX8_paidTo_all2.2.2.2.2.1
theorem dX8_paidTo_48 : decode cX8_paidTo 48 = .ok (.invokestatic 42, 3) := dX8_paidTo_all2.2.2.2.2.2.1
theorem dX8_paidTo_51 : decode cX8_paidTo 51 = .ok (.ireturn, 1) := dX8_paidTo_all2.2.2.2.2.2.2
theorem ggX10_rank_X10_isCrate : GoodIn wsX10_rank wsX10_isCrate := goodIn_s (fun _ h => wm_t (wm_r (wm_l (wm_r (wm_r h))))) Gd_X10_isCrate
theorem gX10_rank_X10_isCrate : GoodIn wsX10_rank (wsV RX10 180 RX10 yX10_isCrate wsX10_isCrate) := goodIn_V (own := RX10) (idx := 180) (C := RX10) (y := yX10_isCrate) (wm_t (wm_l (wm_i 6 rfl))) (wm_t (wm_l (wm_i 7 rfl))) (wm_t (wm_l (wm_i 8 rfl))) (wm_t (wm_l (wm_i 9 rfl))) ggX10_rank_X10_isCrate
theorem ggX10_rank_X10_isDay : GoodIn wsX10_rank wsX10_isDay := goodIn_s (fun _ h => wm_t (wm_r (wm_r (wm_l (wm_l h))))) Gd_X10_isDay
theorem gX10_rank_X10_isDay : GoodIn wsX10_rank (va_wsS RX10 138 yX10_isDay wsX10_isDay) := goodIn_S (own := RX10) (idx := 138) (y := yX10_isDay) (wm_t (wm_l (wm_i 12 rfl))) (wm_t (wm_l (wm_i 13 rfl))) (wm_t (wm_l (wm_i 9 rfl))) ggX10_rank_X10_isDay
theorem ggX10_rank_X10_isBelow : GoodIn wsX10_rank wsX10_isBelow := goodIn_s (fun _ h => wm_t (wm_r (wm_r (wm_l (wm_r h))))) Gd_X10_isBelow
theorem gX10_rank_X10_isBelow : GoodIn wsX10_rank (va_wsS RX10 85 yX10_isBelow wsX10_isBelow) := goodIn_S (own := RX10) (idx := 85) (y := yX10_isBelow) (wm_t (wm_l (wm_i 10 rfl))) (wm_t (wm_l (wm_i 11 rfl))) (wm_t (wm_l (wm_i 9 rfl))) ggX10_rank_X10_isBelow
theorem ggX10_rank_X8_putInOrder : GoodIn wsX10_rank wsX8_putInOrder := goodIn_s (fun _ h => wm_t (wm_r (wm_r (wm_r (wm_l h))))) Gd_X8_putInOrder
theorem gX10_rank_X8_putInOrder : GoodIn wsX10_rank (wsV RX10 201 RX8 yX8_putInOrder wsX8_putInOrder) := goodIn_V (own := RX10) (idx := 201) (C := RX8) (y := yX8_putInOrder) (wm_t (wm_l (wm_i 14 rfl))) (wm_t (wm_l (wm_i 15 rfl))) (wm_t (wm_l (wm_i 16 rfl))) (wm_t (wm_l (wm_i 17 rfl))) ggX10_rank_X8_putInOrder
theorem ggX10_rank_X8_paidTo : GoodIn wsX10_rank wsX8_paidTo := goodIn_s (fun _ h => wm_t (wm_r (wm_r (wm_r (wm_r h))))) Gd_X8_paidTo
theorem gX10_rank_X8_paidTo : GoodIn wsX10_rank (wsV RX10 210 RX8 yX8_paidTo wsX8_paidTo) := goodIn_V (own := RX10) (idx := 210) (C := RX8) (y := yX8_paidTo) (wm_t (wm_l (wm_i 18 rfl))) (wm_t (wm_l (wm_i 19 rfl))) (wm_t (wm_l (wm_i 20 rfl))) (wm_t (wm_l (wm_i 17 rfl))) ggX10_rank_X8_paidTo
theorem dX10_rank_all0 : decode cX10_rank 0 = .ok (.aload_n 0, 1) ∧ decode cX10_rank 1 = .ok (.iload_n 1, 1) ∧ decode cX10_rank 2 = .ok (.invokevirtual 180, 3) ∧ decode cX10_rank 5 = .ok (.ifCond .eq 32, 3) ∧ decode cX10_rank 8 = .ok (.iload_n 2, 1) ∧ decode cX10_rank 9 = .ok (.invokestatic 138, 3) ∧ decode cX10_rank 12 = .ok (.ifCond .eq 25, 3) ∧ decode cX10_rank 15 = .ok (.iload_n 3, 1) ∧ decode cX10_rank 16 = .ok (.iconst 4, 1) ∧ decode cX10_rank 17 = .ok (.invokestatic 85, 3) ∧ decode cX10_rank 20 = .ok (.ifCond .eq 17, 3) ∧ decode cX10_rank 23 = .ok (.iload 4, 2) := by decide +kernel
theorem dX10_rank_0 : decode cX10_rank 0 = .ok (.aload_n 0, 1) := dX10_rank_all0.1
theorem dX10_rank_1 : decode cX10_rank 1 = .ok (.iload_n 1, 1) := dX10_rank_all0.2.1
theorem dX10_rank_2 : decode cX10_rank 2 = .ok (.invokevirtual 180, 3) := dX10_rank_all0.2.2.1
theorem dX10_rank_5 : decode cX10_rank 5 = .ok (.ifCond .eq 32, 3) := dX10_rank_all0.2.2.2.1
theorem dX10_rank_8 : decode cX10_rank 8 = .ok (.iload_n 2, 1) := dX10_rank_all0.2.2.2.2.1
theorem dX10_rank_9 : decode cX10_rank 9 = .ok (.invokestatic 138, 3) := dX10_rank_all0.2.2.2.2.2.1
theorem dX10_rank_12 : decode cX10_rank 12 = .ok (.ifCond .eq 25, 3) := dX10_rank_all0.2.2.2.2.2.2.1
theorem dX10_rank_15 : decode cX10_rank 15 = .ok (.iload_n 3, 1) := dX10_rank_all0.2.2.2.2.2.2.2.1
theorem dX10_rank_16 : decode cX10_rank 16 = .ok (.iconst 4, 1) := dX10_rank_all0.2.2.2.2.2.2.2.2.1
theorem dX10_rank_17 : decode cX10_rank 17 = .ok (.invokestatic 85, 3) := dX10_rank_all0.2.2.2.2.2.2.2.2.2.1
theorem dX10_rank_20 : decode cX10_rank 20 = .ok (.ifCond .eq 17, 3) := dX10_rank_all0.2.2.2.2.2.2.2.2.2.2.1
theorem dX10_rank_23 : decode cX10_rank 23 = .ok (.iload 4, 2) := dX10_rank_all0.2.2.2.2.2.2.2.2.2.2.2
theorem dX10_rank_all1 : decode cX10_rank 25 = .ok (.ifCond .lt 12, 3) ∧ decode cX10_rank 28 = .ok (.iload 5, 2) ∧ decode cX10_rank 30 = .ok (.iconst 2, 1) ∧ decode cX10_rank 31 = .ok (.invokestatic 85, 3) ∧ decode cX10_rank 34 = .ok (.ifCond .ne 6, 3) ∧ decode cX10_rank 37 = .ok (.ldc 89, 2) ∧ decode cX10_rank 39 = .ok (.ireturn, 1) ∧ decode cX10_rank 40 = .ok (.aload_n 0, 1) ∧ decode cX10_rank 41 = .ok (.getfield 40, 3) ∧ decode cX10_rank 44 = .ok (.iload_n 1, 1) ∧ decode cX10_rank 45 = .ok (.iload_n 2, 1) ∧ decode cX10_rank 46 = .ok (.iload_n 3, 1) := by decide +kernel
theorem dX10_rank_25 : decode cX10_rank 25 = .ok (.ifCond .lt 12, 3) := dX10_rank_all1.1
theorem dX10_rank_28 : decode cX10_rank 28 = .ok (.iload 5, 2) := dX10_rank_all1.2.1
theorem dX10_rank_30 : decode cX10_rank 30 = .ok (.iconst 2, 1) := dX10_rank_all1.2.2.1
theorem dX10_rank_31 : decode cX10_rank 31 = .ok (.invokestatic 85, 3) := dX10_rank_all1.2.2.2.1
theorem dX10_rank_34 : decode cX10_rank 34 = .ok (.ifCond .ne 6, 3) := dX10_rank_all1.2.2.2.2.1
theorem dX10_rank_37 : decode cX10_rank 37 = .ok (.ldc 89, 2) := dX10_rank_all1.2.2.2.2.2.1
theorem dX10_rank_39 : decode cX10_rank 39 = .ok (.ireturn, 1) := dX10_rank_all1.2.2.2.2.2.2.1
theorem dX10_rank_40 : decode cX10_rank 40 = .ok (.aload_n 0, 1) := dX10_rank_all1.2.2.2.2.2.2.2.1
theorem dX10_rank_41 : decode cX10_rank 41 = .ok (.getfield 40, 3) := dX10_rank_all1.2.2.2.2.2.2.2.2.1
theorem dX10_rank_44 : decode cX10_rank 44 = .ok (.iload_n 1, 1) := dX10_rank_all1.2.2.2.2.2.2.2.2.2.1
theorem dX10_rank_45 : decode cX10_rank 45 = .ok (.iload_n 2, 1) := dX10_rank_all1.2.2.2.2.2.2.2.2.2.2.1
theorem dX10_rank_46 : decode cX10_rank 46 = .ok (.iload_n 3, 1) := dX10_rank_all1.2.2.2.2.2.2.2.2.2.2.2
theorem dX10_rank_all2 : decode cX10_rank 47 = .ok (.invokevirtual 201, 3) ∧ decode cX10_rank 50 = .ok (.istore 6, 2) ∧ decode cX10_rank 52 = .ok (.iload 4, 2) ∧ decode cX10_rank 54 = .ok (.iload 6, 2) ∧ decode cX10_rank 56 = .ok (.if_icmp .lt 6, 3) ∧ decode cX10_rank 59 = .ok (.ldc 169, 2) ∧ decode cX10_rank 61 = .ok (.ireturn, 1) ∧ decode cX10_rank 62 = .ok (.iload 5, 2) ∧ decode cX10_rank 64 = .ok (.ifCond .ne 16, 3) ∧ decode cX10_rank 67 = .ok (.aload_n 0, 1) ∧ decode cX10_rank 68 = .ok (.getfield 40, 3) ∧ decode cX10_rank 71 = .ok (.getfield 204, 3) := by decide +kernel
theorem dX10_rank_47 : decode cX10_rank 47 = .ok (.invokevirtual 201, 3) := dX10_rank_all2.1
theorem dX10_rank_50 : decode cX10_rank 50 = .ok (.istore 6, 2) := dX10_rank_all2.2.1
theorem dX10_rank_52 : decode cX10_rank 52 = .ok (.iload 4, 2) := dX10_rank_all2.2.2.1
theorem dX10_rank_54 : decode cX10_rank 54 = .ok (.iload 6, 2) := dX10_rank_all2.2.2.2.1
theorem dX10_rank_56 : decode cX10_rank 56 = .ok (.if_icmp .lt 6, 3) := dX10_rank_all2.2.2.2.2.1
theorem dX10_rank_59 : decode cX10_rank 59 = .ok (.ldc 169, 2) := dX10_rank_all2.2.2.2.2.2.1
theorem dX10_rank_61 : decode cX10_rank 61 = .ok (.ireturn, 1) := dX10_rank_all2.2.2.2.2.2.2.1
theorem dX10_rank_62 : decode cX10_rank 62 = .ok (.iload 5, 2) := dX10_rank_all2.2.2.2.2.2.2.2.1
theorem dX10_rank_64 : decode cX10_rank 64 = .ok (.ifCond .ne 16, 3) := dX10_rank_all2.2.2.2.2.2.2.2.2.1
theorem dX10_rank_67 : decode cX10_rank 67 = .ok (.aload_n 0, 1) := dX10_rank_all2.2.2.2.2.2.2.2.2.2.1
theorem dX10_rank_68 : decode cX10_rank 68 = .ok (.getfield 40, 3) := dX10_rank_all2.2.2.2.2.2.2.2.2.2.2.1
theorem dX10_rank_71 : decode cX10_rank 71 = .ok (.getfield 204, 3) := dX10_rank_all2.2.2.2.2.2.2.2.2.2.2.2
theorem dX10_rank_all3 : decode cX10_rank 74 = .ok (.iload 4, 2) ∧ decode cX10_rank 76 = .ok (.iaload, 1) ∧ decode cX10_rank 77 = .ok (.goto 21, 3) ∧ decode cX10_rank 80 = .ok (.aload_n 0, 1) ∧ decode cX10_rank 81 = .ok (.getfield 40, 3) ∧ decode cX10_rank 84 = .ok (.iload 4, 2) ∧ decode cX10_rank 86 = .ok (.aload_n 0, 1) ∧ decode cX10_rank 87 = .ok (.getfield 26, 3) ∧ decode cX10_rank 90 = .ok (.getfield 207, 3) ∧ decode cX10_rank 93 = .ok (.iload_n 1, 1) ∧ decode cX10_rank 94 = .ok (.iaload, 1) ∧ decode cX10_rank 95 = .ok (.invokevirtual 210, 3) := by decide +kernel
theorem dX10_rank_74 : decode cX10_rank 74 = .ok (.iload 4, 2) := dX10_rank_all3.1
theorem dX10_rank_76 : decode cX10_rank 76 = .ok (.iaload, 1) := dX10_rank_all3.2.1
theorem dX10_rank_77 : decode cX10_rank 77 = .ok (.goto 21, 3) := dX10_rank_all3.2.2.1
theorem dX10_rank_80 : decode cX10_rank 80 = .ok (.aload_n 0, 1) := dX10_rank_all3.2.2.2.1
theorem dX10_rank_81 : decode cX10_rank 81 = .ok (.getfield 40, 3) := dX10_rank_all3.2.2.2.2.1
theorem dX10_rank_84 : decode cX10_rank 84 = .ok (.iload 4, 2) := dX10_rank_all3.2.2.2.2.2.1
theorem dX10_rank_86 : decode cX10_rank 86 = .ok (.aload_n 0, 1) := dX10_rank_all3.2.2.2.2.2.2.1
theorem dX10_rank_87 : decode cX10_rank 87 = .ok (.getfield 26, 3) := dX10_rank_all3.2.2.2.2.2.2.2.1
theorem dX10_rank_90 : decode cX10_rank 90 = .ok (.getfield 207, 3) := dX10_rank_all3.2.2.2.2.2.2.2.2.1
theorem dX10_rank_93 : decode cX10_rank 93 = .ok (.iload_n 1, 1) := dX10_rank_all3.2.2.2.2.2.2.2.2.2.1
theorem dX10_rank_94 : decode cX10_rank 94 = .ok (.iaload, 1) := dX10_rank_all3.2.2.2.2.2.2.2.2.2.2.1
theorem dX10_rank_95 : decode cX10_rank 95 = .ok (.invokevirtual 210, 3) := dX10_rank_all3.2.2.2.2.2.2.2.2.2.2.2
theorem dX10_rank_98 : decode cX10_rank 98 = .ok (.ireturn, 1) := by decide +kernel

/-- the first n places of the pledges' order name pledges -/
def okR (n m : Int32) (gr : Nat → Int32) : Prop := ∀ j : Nat, (j : Int) < n.toInt → 0 ≤ (gr j).toInt ∧ (gr j).toInt < m.toInt
def okQ (n a m : Int32) (gr : Nat → Int32) : Prop := ∀ j : Nat, (j : Int) ≤ n.toInt → ¬ (j : Int) = a.toInt → 0 ≤ (gr j).toInt ∧ (gr j).toInt < m.toInt
theorem okR_at {n m : Int32} {pr : Nat → Int32} (h : okR n m pr) {v i : Int32} (e : v = pr i.toNatClampNeg) (h0 : 0 ≤ i.toInt) (h1 : i.toInt < n.toInt) : 0 ≤ v.toInt ∧ v.toInt < m.toInt := by
  have := i_cl h0
  rw [e]
  exact h _ (by omega)
theorem okQ_at {n a m : Int32} {pr : Nat → Int32} (h : okQ n a m pr) {v i : Int32} (e : v = pr i.toNatClampNeg) (h0 : 0 ≤ i.toInt) (h1 : i.toInt ≤ n.toInt) (h2 : ¬ i.toInt = a.toInt) : 0 ≤ v.toInt ∧ v.toInt < m.toInt := by
  have := i_cl h0
  rw [e]
  exact h _ (by omega) (by omega)
theorem okQ_0 {n m : Int32} {pr : Nat → Int32} (h : okR n m pr) : okQ n n m pr := fun j h1 h2 => h j (by omega)
theorem okQ_step {n m a b v w : Int32} {f : Nat → Int32} (h : okQ n a m f) (hv : v = f w.toNatClampNeg) (hw : w.toInt = a.toInt - 1) (hb : b.toInt = a.toInt - 1) (h0 : 0 < a.toInt) (h1 : a.toInt ≤ n.toInt) : okQ n b m (upd f a.toNatClampNeg v) := by
  have ca := i_cl (x := a) (by omega)
  have hv' := okQ_at h hv (by omega) (by omega) (by omega)
  intro j h2 h3
  by_cases hj : j = a.toNatClampNeg
  · subst hj; rw [upd_s]; exact hv'
  · rw [upd_n _ _ hj]; exact h j h2 (by omega)
theorem okQ_end {n m a b x : Int32} {f : Nat → Int32} (h : okQ n a m f) (hb : b.toInt = n.toInt + 1) (h0 : 0 ≤ a.toInt) (hx : 0 ≤ x.toInt) (hx2 : x.toInt < m.toInt) : okR b m (upd f a.toNatClampNeg x) := by
  have ca := i_cl h0
  intro j h2
  by_cases hj : j = a.toNatClampNeg
  · subst hj; rw [upd_s]; omega
  · rw [upd_n _ _ hj]; exact h j (by omega) (by omega)


/-- what is owed on a crate, as known on a day -/
def suV (gk gs ge : Nat → Int32) (k d : Int32) : Nat → Int32
  | 0 => 0
  | n + 1 => if (gk n).toInt = k.toInt ∧ (ge n).toInt ≤ d.toInt then suV gk gs ge k d n + gs n else suV gk gs ge k d n
theorem suV_s (gk gs ge : Nat → Int32) (k d : Int32) (n : Nat) : suV gk gs ge k d (n + 1) = if (gk n).toInt = k.toInt ∧ (ge n).toInt ≤ d.toInt then suV gk gs ge k d n + gs n else suV gk gs ge k d n := rfl

set_option maxHeartbeats 4000000 in
set_option maxRecDepth 100000 in
theorem ct_X8_isKnown (l : Launch) (D : va_G) (cI cY cJ cQ : ClassId) (sz : Nat) (ad : Nat → Nat) (gn : Int32) (gk ge : Nat → Int32) (x : Int32) (k : Int32) (d : Int32)  (h1 : 0 ≤ x.toInt) (h2 : x.toInt < 40)  : Met l yX8_isKnown wsX8_isKnown ({ frames := 0, cells := 0, slots := 0, locals := 0 }) (cPre D (ty4 cI cY cJ cQ) [(oC8 ad gn), (aI cI (ad 42) 40 gk), (aI cI (ad 45) 40 ge)] sz [.ref (ad 5), .int x, .int k, .int d]) (va_Qi (fun (r : Int32) (u : Unit) => r = if (gk x.toNatClampNeg).toInt = k.toInt ∧ (ge x.toNatClampNeg).toInt ≤ d.toInt then 1 else 0) (cB D (ty4 cI cY cJ cQ) (fun (u : Unit) => [(oC8 ad gn), (aI cI (ad 42) 40 gk), (aI cI (ad 45) 40 ge)]) (va_A [(oC8 ad gn), (aI cI (ad 42) 40 gk), (aI cI (ad 45) 40 ge)] sz)) (va_A [(oC8 ad gn), (aI cI (ad 42) 40 gk), (aI cI (ad 45) 40 ge)] sz)) 0 0 (va_A [(oC8 ad gn), (aI cI (ad 42) 40 gk), (aI cI (ad 45) 40 ge)] sz) := by
  refine Met.ofW (cc := cX8_isKnown) (maxL := 4) (ret := (some .boolean)) (by decide) rfl ?_
  intro p e s m args below meth c s₁ B hml hv
  obtain ⟨rfl, hsz, hP, hK, hD0, hN⟩ := hv
  have hx := B.exec
  have hb := B.bytes
  have hr := B.returns
  have hts := atoms_spec (ws := wsX8_isKnown) B.pre
  have hown : s.vm.findClass RX8 = some m.cls := findClass_of_methodNamed B.named
  have hlocks := B.notSynchronized
  subst hsz
  have hD := hD0.self (sz := s.heap.size)
  generalize hAe : va_A [(oC8 ad gn), (aI cI (ad 42) 40 gk), (aI cI (ad 45) 40 ge)] s.heap.size = A at hD ⊢
  have hA : ∀ q : Nat, s.heap.size ≤ q → A q := fun q h => by rw [← hAe]; exact Or.inr h
  have hS : va_S A s.heap s.heap [] := va_S.rf
  have hP : va_P D vwCl [(oC8 ad gn), (aI cI (ad 42) 40 gk), (aI cI (ad 45) 40 ge)] s.heap := hP
  have hl := lv_entry ([.ref (ad 5), .int x, .int k, .int d]) (n := 4) (Nat.le_of_ble_eq_true rfl)
  rw [lg_entry_eq]
  generalize (lg_sl ([.ref (ad 5), .int x, .int k, .int d]) ++ List.replicate (4 - (lg_sl ([.ref (ad 5), .int x, .int k, .int d])).length) Slot.unset).toArray = ls at hl ⊢
  have hl : lv_has ls 4 [(0, .ref (ad 5)), (1, .int x), (2, .int k), (3, .int d)] := hl
  refine lv_aload_n hx hb dX8_isKnown_0 rfl (lv_at hl 0 rfl) ?_
  refine va_get (D := D) (ci := 8) (v := .ref (ad 42)) (C := RX8) (T := TX8) (N := 6) hx hb hts inX8_isKnown_X8 hown hK hP 0 rfl rfl 0 (by decide) (hts (Cond.fieldLink RX8 9 "PortRooms$Pledges" "crate" "[I") (wm_t (wm_l (wm_i 0 rfl)))) (fun _ h9 => h9) rfl dX8_isKnown_1 ?_
  refine lv_iload_n hx hb dX8_isKnown_4 rfl (lv_at hl 1 rfl) ?_
  refine va_iald hx hb hK hP 1 0 rfl rfl (i_in (by omega) (by omega)) dX8_isKnown_5 ?_
  refine lv_topi (fun v1 ev1 => ?_)
  have tlv1 : v1.toInt = (gk x.toNatClampNeg).toInt := by rw [ev1]
  refine lv_iload_n hx hb dX8_isKnown_6 rfl (lv_at hl 2 rfl) ?_
  refine lv_icmp_ne (tgt := 24) hx hb dX8_isKnown_7 (by decide) (fun c2 => ?_) (fun c2 => ?_)
  · skip
    have f3 := i_ne c2
    refine lv_iconst (v := 0) hx hb dX8_isKnown_24 (by decide) ?_
    have hP9 := hP
    have hD9 := hD
    exact W.zret (v := 0) hx hb hr rfl (fun t ht hW => ⟨⟨0, (), rfl, bo_no (by omega), by rw [ht]; exact hP9, va_K.moved hW.alike hK, hD9⟩, hS.F ht⟩) hS.2.2 dX8_isKnown_25
  · skip
    have f4 := i_eq c2
    refine lv_aload_n hx hb dX8_isKnown_10 rfl (lv_at hl 0 rfl) ?_
    refine va_get (D := D) (ci := 8) (v := .ref (ad 45)) (C := RX8) (T := TX8) (N := 6) hx hb hts inX8_isKnown_X8 hown hK hP 0 rfl rfl 3 (by decide) (hts (Cond.fieldLink RX8 21 "PortRooms$Pledges" "filed" "[I") (wm_t (wm_l (wm_i 1 rfl)))) (fun _ h9 => h9) rfl dX8_isKnown_11 ?_
    refine lv_iload_n hx hb dX8_isKnown_14 rfl (lv_at hl 1 rfl) ?_
    refine va_iald hx hb hK hP 2 0 rfl rfl (i_in (by omega) (by omega)) dX8_isKnown_15 ?_
    refine lv_topi (fun v5 ev5 => ?_)
    have tlv5 : v5.toInt = (ge x.toNatClampNeg).toInt := by rw [ev5]
    refine lv_iload_n hx hb dX8_isKnown_16 rfl (lv_at hl 3 rfl) ?_
    refine lv_icmp_gt (tgt := 24) hx hb dX8_isKnown_17 (by decide) (fun c6 => ?_) (fun c6 => ?_)
    · skip
      have f7 := i_lt c6
      refine lv_iconst (v := 0) hx hb dX8_isKnown_24 (by decide) ?_
      have hP9 := hP
      have hD9 := hD
      exact W.zret (v := 0) hx hb hr rfl (fun t ht hW => ⟨⟨0, (), rfl, bo_no (by omega), by rw [ht]; exact hP9, va_K.moved hW.alike hK, hD9⟩, hS.F ht⟩) hS.2.2 dX8_isKnown_25
    · skip
      have f8 := i_nlt c6
      refine lv_iconst (v := 1) hx hb dX8_isKnown_20 (by decide) ?_
      refine lv_goto (tgt := 25) hx hb dX8_isKnown_21 (by decide) ?_
      have hP9 := hP
      have hD9 := hD
      exact W.zret (v := 1) hx hb hr rfl (fun t ht hW => ⟨⟨1, (), rfl, bo_yes (by omega), by rw [ht]; exact hP9, va_K.moved hW.alike hK, hD9⟩, hS.F ht⟩) hS.2.2 dX8_isKnown_25

set_option maxHeartbeats 4000000 in
set_option maxRecDepth 100000 in
theorem ct_X8_sumsOn (l : Launch) (D : va_G) (cI cY cJ cQ : ClassId) (sz : Nat) (ad : Nat → Nat) (gn : Int32) (gk gs gd ge : Nat → Int32) (k : Int32) (d : Int32)  (h1 : 0 ≤ gn.toInt) (h2 : gn.toInt ≤ 40)  : Met l yX8_sumsOn wsX8_sumsOn ({ frames := 1, cells := 0, slots := 0, locals := 23 }) (cPre D (ty4 cI cY cJ cQ) [(oC8 ad gn), (aI cI (ad 42) 40 gk), (aI cI (ad 43) 40 gs), (aI cI (ad 44) 40 gd), (aI cI (ad 45) 40 ge)] sz [.ref (ad 5), .int k, .int d]) (va_Qi (fun (r : Int32) (u : Unit) => r = suV gk gs ge k d gn.toNatClampNeg) (cB D (ty4 cI cY cJ cQ) (fun (u : Unit) => [(oC8 ad gn), (aI cI (ad 42) 40 gk), (aI cI (ad 43) 40 gs), (aI cI (ad 44) 40 gd), (aI cI (ad 45) 40 ge)]) (va_A [(oC8 ad gn), (aI cI (ad 42) 40 gk), (aI cI (ad 43) 40 gs), (aI cI (ad 44) 40 gd), (aI cI (ad 45) 40 ge)] sz)) (va_A [(oC8 ad gn), (aI cI (ad 42) 40 gk), (aI cI (ad 43) 40 gs), (aI cI (ad 44) 40 gd), (aI cI (ad 45) 40 ge)] sz)) 0 0 (va_A [(oC8 ad gn), (aI cI (ad 42) 40 gk), (aI cI (ad 43) 40 gs), (aI cI (ad 44) 40 gd), (aI cI (ad 45) 40 ge)] sz) := by
  refine Met.ofW (cc := cX8_sumsOn) (maxL := 5) (ret := (some .int)) (by decide) rfl ?_
  intro p e s m args below meth c s₁ B hml hv
  obtain ⟨rfl, hsz, hP, hK, hD0, hN⟩ := hv
  have hx := B.exec
  have hb := B.bytes
  have hr := B.returns
  have hts := atoms_spec (ws := wsX8_sumsOn) B.pre
  have hown : s.vm.findClass RX8 = some m.cls := findClass_of_methodNamed B.named
  have hlocks := B.notSynchronized
  subst hsz
  have hD := hD0.self (sz := s.heap.size)
  generalize hAe : va_A [(oC8 ad gn), (aI cI (ad 42) 40 gk), (aI cI (ad 43) 40 gs), (aI cI (ad 44) 40 gd), (aI cI (ad 45) 40 ge)] s.heap.size = A at hD ⊢
  have hA : ∀ q : Nat, s.heap.size ≤ q → A q := fun q h => by rw [← hAe]; exact Or.inr h
  have hS : va_S A s.heap s.heap [] := va_S.rf
  have hP : va_P D vwCl [(oC8 ad gn), (aI cI (ad 42) 40 gk), (aI cI (ad 43) 40 gs), (aI cI (ad 44) 40 gd), (aI cI (ad 45) 40 ge)] s.heap := hP
  have hl := lv_entry ([.ref (ad 5), .int k, .int d]) (n := 5) (Nat.le_of_ble_eq_true rfl)
  rw [lg_entry_eq]
  generalize (lg_sl ([.ref (ad 5), .int k, .int d]) ++ List.replicate (5 - (lg_sl ([.ref (ad 5), .int k, .int d])).length) Slot.unset).toArray = ls at hl ⊢
  have hl : lv_has ls 5 [(0, .ref (ad 5)), (1, .int k), (2, .int d)] := hl
  have k0 : (0 : Int32).toInt = 0 := by decide
  have k1 : (1 : Int32).toInt = 1 := by decide
  refine lv_iconst (v := 0) hx hb dX8_sumsOn_0 (by decide) ?_
  refine lv_istore_n (lv' := [(3, .int 0), (0, .ref (ad 5)), (1, .int k), (2, .int d)]) hx hb dX8_sumsOn_1 rfl hl (by decide) rfl (fun ls hl => ?_)
  refine lv_iconst (v := 0) hx hb dX8_sumsOn_2 (by decide) ?_
  refine lv_istore (lv' := [(4, .int 0), (3, .int 0), (0, .ref (ad 5)), (1, .int k), (2, .int d)]) hx hb dX8_sumsOn_3 hl (by decide) rfl (fun ls hl => ?_)
  refine st_loop 5 (fun _ => []) (fun (z : Int32 × Int32) (ls : Array Slot) (H : Heap) (locs : List Loc) => match z with | (q5_3, q5_4) => (0 ≤ q5_4.toInt) ∧ (q5_4.toInt ≤ gn.toInt) ∧ (q5_3 = suV gk gs ge k d q5_4.toNatClampNeg) ∧ lv_has ls 5 [(0, .ref (ad 5)), (1, .int k), (2, .int d), (3, .int q5_3), (4, .int q5_4)] ∧ va_P D vwCl [(oC8 ad gn), (aI cI (ad 42) 40 gk), (aI cI (ad 43) 40 gs), (aI cI (ad 44) 40 gd), (aI cI (ad 45) 40 ge)] H ∧ va_D A [(oC8 ad gn), (aI cI (ad 42) 40 gk), (aI cI (ad 43) 40 gs), (aI cI (ad 44) 40 gd), (aI cI (ad 45) 40 ge)] ∧ va_S A s.heap H locs) (fun (z : Int32 × Int32) => match z with | (q5_3, q5_4) => gn.toInt - q5_4.toInt) ?_ ?_ ((0 : Int32), (0 : Int32)) ⟨(by omega), (by omega), (by rfl), lv_sub hl [2, 3, 4, 1, 0] rfl, hP, hD, hS⟩
  · rintro ⟨q5_3, q5_4⟩ ls H locs ⟨g1, g2, g3, hl, hP, hD, hS⟩
    show (0 : Int) ≤ gn.toInt - q5_4.toInt
    omega
  · rintro n6 ih4 ⟨q5_3, q5_4⟩ ls H locs ⟨g1, g2, g3, hl, hP, hD, hS⟩ hm5
    have hm5 : gn.toInt - q5_4.toInt < (n6 : Int) + 1 := hm5
    replace hl : lv_has ls 5 [(0, .ref (ad 5)), (1, .int k), (2, .int d), (3, .int q5_3), (4, .int q5_4)] := hl
    replace hP : va_P D vwCl [(oC8 ad gn), (aI cI (ad 42) 40 gk), (aI cI (ad 43) 40 gs), (aI cI (ad 44) 40 gd), (aI cI (ad 45) 40 ge)] H := hP
    replace hD : va_D A [(oC8 ad gn), (aI cI (ad 42) 40 gk), (aI cI (ad 43) 40 gs), (aI cI (ad 44) 40 gd), (aI cI (ad 45) 40 ge)] := hD
    show W _ _ _ _ _ _ _ _ _ _ _ _ _ _ _ (F0 m 5 ls [])
    refine lv_iload hx hb dX8_sumsOn_5 (lv_at hl 4 rfl) ?_
    refine lv_aload_n hx hb dX8_sumsOn_7 rfl (lv_at hl 0 rfl) ?_
    refine va_get (D := D) (ci := 8) (v := .int gn) (C := RX8) (T := TX8) (N := 6) hx hb hts inX8_sumsOn_X8 hown hK hP 0 rfl rfl 4 (by decide) (hts (Cond.fieldLink RX8 27 "PortRooms$Pledges" "count" "I") (wm_t (wm_l (wm_i 0 rfl)))) (fun _ h9 => h9) rfl dX8_sumsOn_8 ?_
    refine lv_icmp_ge (tgt := 41) hx hb dX8_sumsOn_11 (by decide) (fun c7 => ?_) (fun c7 => ?_)
    · skip
      have f8 := i_le c7
      refine lv_iload_n hx hb dX8_sumsOn_41 rfl (lv_at hl 3 rfl) ?_
      have ce8 := i_cl (x := q5_4) (by omega)
      have ce9 := i_cl (x := gn) (by omega)
      have ee9 : q5_4.toNatClampNeg = gn.toNatClampNeg := by omega
      have hz9 := g3
      rw [ee9] at hz9
      have hP9 := hP
      have hD9 := hD
      exact W.iret (v := q5_3) hx hb hr (fun t ht hW => ⟨⟨q5_3, (), rfl, hz9, by rw [ht]; exact hP9, va_K.moved hW.alike hK, hD9⟩, hS.F ht⟩) hS.2.2 dX8_sumsOn_42
    · skip
      have f9 := i_nle c7
      refine lv_aload_n hx hb dX8_sumsOn_14 rfl (lv_at hl 0 rfl) ?_
      refine lv_iload hx hb dX8_sumsOn_15 (lv_at hl 4 rfl) ?_
      refine lv_iload_n hx hb dX8_sumsOn_17 rfl (lv_at hl 1 rfl) ?_
      refine lv_iload_n hx hb dX8_sumsOn_18 rfl (lv_at hl 2 rfl) ?_
      refine st_i1 (va_runV (C := RX8) (As := [.int q5_4, .int k, .int d]) (rest := []) ⟨hx, hb, hml, hown, hts⟩ (ct_X8_isKnown l D cI cY cJ cQ _ ad gn gk ge q5_4 k d (by omega) (by omega)) (cwV 3 hts gX8_sumsOn_X8_isKnown rfl rfl rfl ⟨rfl, cdX8_isKnown⟩ ⟨Nat.le_of_ble_eq_true rfl, Nat.le_of_ble_eq_true rfl⟩) (cPreV (hP.sub [0, 1, 4] rfl) hK (hD.sub [0, 1, 4] (by decide +kernel) rfl) hN (ci := 8) (q0 := 0) rfl rfl) rfl rfl hl.1 rfl (lv_room (Nat.le_of_ble_eq_true rfl)) dX8_sumsOn_19 ⟨Nat.le_of_ble_eq_true rfl, Nat.le_of_ble_eq_true rfl⟩) hP hD hS hA [0, 1, 4] rfl (fun _ => rfl) (fun r12 u10 H locs hw11 => ?_)
      clear hP hS
      intro hP hS
      replace hw11 : r12 = if (gk q5_4.toNatClampNeg).toInt = k.toInt ∧ (ge q5_4.toNatClampNeg).toInt ≤ d.toInt then 1 else 0 := hw11
      refine lv_if_eq (tgt := 35) hx hb dX8_sumsOn_22 (by decide) (fun c13 => ?_) (fun c13 => ?_)
      · skip
        have f14 := bo_f hw11 c13
        obtain ⟨v15, ev15⟩ : ∃ y : Int32, y = q5_4 + 1 := ⟨_, rfl⟩
        try have tv15 : v15.toInt = q5_4.toInt + 1 := by rw [ev15]; exact (i_add (x := q5_4) (y := (1 : Int32)) (by rw [k1]; omega) (by rw [k1]; omega)).trans (by rw [k1])
        refine lv_iinc (v := v15) (lv' := [(4, .int v15), (0, .ref (ad 5)), (1, .int k), (2, .int d), (3, .int q5_3)]) hx hb dX8_sumsOn_35 hl (k := 4) rfl (by rw [ev15]; rfl) (by decide) rfl (fun ls hl => ?_)
        refine lv_goto (tgt := 5) hx hb dX8_sumsOn_38 (by decide) ?_
        have clk8 := i_cl (x := q5_4) (by omega)
        have clk9 := i_cl (x := v15) (by omega)
        have ek9 : v15.toNatClampNeg = q5_4.toNatClampNeg + 1 := by omega
        exact ih4 (q5_3, v15) ls H locs ⟨(by omega), (by omega), (by rw [ek9, suV_s, ← g3, if_neg (by omega)]), lv_sub hl [1, 2, 3, 4, 0] rfl, hP.sub [0, 1, 2, 3, 4] rfl, hD.sub [0, 1, 2, 3, 4] (by decide +kernel) rfl, hS⟩ (by show gn.toInt - v15.toInt < _; omega)
      · skip
        have f16 := bo_t hw11 c13
        refine lv_iload_n hx hb dX8_sumsOn_25 rfl (lv_at hl 3 rfl) ?_
        refine lv_aload_n hx hb dX8_sumsOn_26 rfl (lv_at hl 0 rfl) ?_
        refine va_get (D := D) (ci := 8) (v := .ref (ad 43)) (C := RX8) (T := TX8) (N := 6) hx hb hts inX8_sumsOn_X8 hown hK hP 0 rfl rfl 1 (by decide) (hts (Cond.fieldLink RX8 15 "PortRooms$Pledges" "sum" "[I") (wm_t (wm_l (wm_i 1 rfl)))) (fun _ h9 => h9) rfl dX8_sumsOn_27 ?_
        refine lv_iload hx hb dX8_sumsOn_30 (lv_at hl 4 rfl) ?_
        refine va_iald hx hb hK hP 2 0 rfl rfl (i_in (by omega) (by omega)) dX8_sumsOn_32 ?_
        refine lv_topi (fun v17 ev17 => ?_)
        refine lv_iadd hx hb dX8_sumsOn_33 ?_
        refine lv_topi (fun v18 ev18 => ?_)
        refine lv_istore_n (lv' := [(3, .int v18), (0, .ref (ad 5)), (1, .int k), (2, .int d), (4, .int q5_4)]) hx hb dX8_sumsOn_34 rfl hl (by decide) rfl (fun ls hl => ?_)
        obtain ⟨v19, ev19⟩ : ∃ y : Int32, y = q5_4 + 1 := ⟨_, rfl⟩
        try have tv19 : v19.toInt = q5_4.toInt + 1 := by rw [ev19]; exact (i_add (x := q5_4) (y := (1 : Int32)) (by rw [k1]; omega) (by rw [k1]; omega)).trans (by rw [k1])
        refine lv_iinc (v := v19) (lv' := [(4, .int v19), (3, .int v18), (0, .ref (ad 5)), (1, .int k), (2, .int d)]) hx hb dX8_sumsOn_35 hl (k := 4) rfl (by rw [ev19]; rfl) (by decide) rfl (fun ls hl => ?_)
        refine lv_goto (tgt := 5) hx hb dX8_sumsOn_38 (by decide) ?_
        have clk8 := i_cl (x := q5_4) (by omega)
        have clk9 := i_cl (x := v19) (by omega)
        have ek9 : v19.toNatClampNeg = q5_4.toNatClampNeg + 1 := by omega
        exact ih4 (v18, v19) ls H locs ⟨(by omega), (by omega), (by rw [ek9, suV_s, ← g3, if_pos (by omega), ev18, ev17]), lv_sub hl [2, 3, 4, 1, 0] rfl, hP.sub [0, 1, 2, 3, 4] rfl, hD.sub [0, 1, 2, 3, 4] (by decide +kernel) rfl, hS⟩ (by show gn.toInt - v19.toInt < _; omega)

set_option maxHeartbeats 4000000 in
set_option maxRecDepth 100000 in
theorem ct_X8_isAhead (l : Launch) (D : va_G) (cI cY cJ cQ : ClassId) (sz : Nat) (ad : Nat → Nat) (gn : Int32) (gk gs gd ge : Nat → Int32) (x : Int32) (y : Int32) (z : Int32)  (h1 : 0 ≤ x.toInt) (h2 : x.toInt < 40) (h3 : 0 ≤ y.toInt) (h4 : y.toInt < 40)  : Met l yX8_isAhead wsX8_isAhead ({ frames := 0, cells := 0, slots := 0, locals := 0 }) (cPre D (ty4 cI cY cJ cQ) [(oC8 ad gn), (aI cI (ad 42) 40 gk), (aI cI (ad 43) 40 gs), (aI cI (ad 44) 40 gd), (aI cI (ad 45) 40 ge)] sz [.ref (ad 5), .int x, .int y, .int z]) (va_Qi (fun (r : Int32) (u : Unit) => r = 0 ∨ r = 1) (cB D (ty4 cI cY cJ cQ) (fun (u : Unit) => [(oC8 ad gn), (aI cI (ad 42) 40 gk), (aI cI (ad 43) 40 gs), (aI cI (ad 44) 40 gd), (aI cI (ad 45) 40 ge)]) (va_A [(oC8 ad gn), (aI cI (ad 42) 40 gk), (aI cI (ad 43) 40 gs), (aI cI (ad 44) 40 gd), (aI cI (ad 45) 40 ge)] sz)) (va_A [(oC8 ad gn), (aI cI (ad 42) 40 gk), (aI cI (ad 43) 40 gs), (aI cI (ad 44) 40 gd), (aI cI (ad 45) 40 ge)] sz)) 0 0 (va_A [(oC8 ad gn), (aI cI (ad 42) 40 gk), (aI cI (ad 43) 40 gs), (aI cI (ad 44) 40 gd), (aI cI (ad 45) 40 ge)] sz) := by
  refine Met.ofW (cc := cX8_isAhead) (maxL := 4) (ret := (some .boolean)) (by decide) rfl ?_
  intro p e s m args below meth c s₁ B hml hv
  obtain ⟨rfl, hsz, hP, hK, hD0, hN⟩ := hv
  have hx := B.exec
  have hb := B.bytes
  have hr := B.returns
  have hts := atoms_spec (ws := wsX8_isAhead) B.pre
  have hown : s.vm.findClass RX8 = some m.cls := findClass_of_methodNamed B.named
  have hlocks := B.notSynchronized
  subst hsz
  have hD := hD0.self (sz := s.heap.size)
  generalize hAe : va_A [(oC8 ad gn), (aI cI (ad 42) 40 gk), (aI cI (ad 43) 40 gs), (aI cI (ad 44) 40 gd), (aI cI (ad 45) 40 ge)] s.heap.size = A at hD ⊢
  have hA : ∀ q : Nat, s.heap.size ≤ q → A q := fun q h => by rw [← hAe]; exact Or.inr h
  have hS : va_S A s.heap s.heap [] := va_S.rf
  have hP : va_P D vwCl [(oC8 ad gn), (aI cI (ad 42) 40 gk), (aI cI (ad 43) 40 gs), (aI cI (ad 44) 40 gd), (aI cI (ad 45) 40 ge)] s.heap := hP
  have hl := lv_entry ([.ref (ad 5), .int x, .int y, .int z]) (n := 4) (Nat.le_of_ble_eq_true rfl)
  rw [lg_entry_eq]
  generalize (lg_sl ([.ref (ad 5), .int x, .int y, .int z]) ++ List.replicate (4 - (lg_sl ([.ref (ad 5), .int x, .int y, .int z])).length) Slot.unset).toArray = ls at hl ⊢
  have hl : lv_has ls 4 [(0, .ref (ad 5)), (1, .int x), (2, .int y), (3, .int z)] := hl
  refine lv_iload_n hx hb dX8_isAhead_0 rfl (lv_at hl 3 rfl) ?_
  rcases (show (z.toInt < 0 ∨ 2 < z.toInt) ∨ z.toInt = 0 ∨ z.toInt = 1 ∨ z.toInt = 2 by omega) with hsw1 | hsw1 | hsw1 | hsw1
  · skip
    refine lv_tableOut (tgt := 91) hx hb dX8_isAhead_1 hsw1 (by decide) ?_
    refine lv_aload_n hx hb dX8_isAhead_91 rfl (lv_at hl 0 rfl) ?_
    refine va_get (D := D) (ci := 8) (v := .ref (ad 45)) (C := RX8) (T := TX8) (N := 6) hx hb hts inX8_isAhead_X8 hown hK hP 0 rfl rfl 3 (by decide) (hts (Cond.fieldLink RX8 21 "PortRooms$Pledges" "filed" "[I") (wm_t (wm_l (wm_i 0 rfl)))) (fun _ h9 => h9) rfl dX8_isAhead_92 ?_
    refine lv_iload_n hx hb dX8_isAhead_95 rfl (lv_at hl 1 rfl) ?_
    refine va_iald hx hb hK hP 4 0 rfl rfl (i_in (by omega) (by omega)) dX8_isAhead_96 ?_
    refine lv_topi (fun v2 ev2 => ?_)
    refine lv_aload_n hx hb dX8_isAhead_97 rfl (lv_at hl 0 rfl) ?_
    refine va_get (D := D) (ci := 8) (v := .ref (ad 45)) (C := RX8) (T := TX8) (N := 6) hx hb hts inX8_isAhead_X8 hown hK hP 0 rfl rfl 3 (by decide) (hts (Cond.fieldLink RX8 21 "PortRooms$Pledges" "filed" "[I") (wm_t (wm_l (wm_i 0 rfl)))) (fun _ h9 => h9) rfl dX8_isAhead_98 ?_
    refine lv_iload_n hx hb dX8_isAhead_101 rfl (lv_at hl 2 rfl) ?_
    refine va_iald hx hb hK hP 4 0 rfl rfl (i_in (by omega) (by omega)) dX8_isAhead_102 ?_
    refine lv_topi (fun v3 ev3 => ?_)
    refine lv_icmp_le (tgt := 110) hx hb dX8_isAhead_103 (by decide) (fun c4 => ?_) (fun c4 => ?_)
    · skip
      have f5 := i_le c4
      refine lv_iconst (v := 0) hx hb dX8_isAhead_110 (by decide) ?_
      have hP9 := hP
      have hD9 := hD
      exact W.zret (v := 0) hx hb hr rfl (fun t ht hW => ⟨⟨0, (), rfl, (by first | exact Or.inl rfl | exact Or.inr rfl), by rw [ht]; exact hP9, va_K.moved hW.alike hK, hD9⟩, hS.F ht⟩) hS.2.2 dX8_isAhead_111
    · skip
      have f6 := i_nle c4
      refine lv_iconst (v := 1) hx hb dX8_isAhead_106 (by decide) ?_
      refine lv_goto (tgt := 111) hx hb dX8_isAhead_107 (by decide) ?_
      have hP9 := hP
      have hD9 := hD
      exact W.zret (v := 1) hx hb hr rfl (fun t ht hW => ⟨⟨1, (), rfl, (by first | exact Or.inl rfl | exact Or.inr rfl), by rw [ht]; exact hP9, va_K.moved hW.alike hK, hD9⟩, hS.F ht⟩) hS.2.2 dX8_isAhead_111
  · skip
    refine lv_tableIn (tgt := 28) (off := 27) hx hb dX8_isAhead_1 (by omega) (by omega) (by rw [hsw1]; rfl) (by decide) ?_
    refine lv_aload_n hx hb dX8_isAhead_28 rfl (lv_at hl 0 rfl) ?_
    refine va_get (D := D) (ci := 8) (v := .ref (ad 45)) (C := RX8) (T := TX8) (N := 6) hx hb hts inX8_isAhead_X8 hown hK hP 0 rfl rfl 3 (by decide) (hts (Cond.fieldLink RX8 21 "PortRooms$Pledges" "filed" "[I") (wm_t (wm_l (wm_i 0 rfl)))) (fun _ h9 => h9) rfl dX8_isAhead_29 ?_
    refine lv_iload_n hx hb dX8_isAhead_32 rfl (lv_at hl 1 rfl) ?_
    refine va_iald hx hb hK hP 4 0 rfl rfl (i_in (by omega) (by omega)) dX8_isAhead_33 ?_
    refine lv_topi (fun v7 ev7 => ?_)
    refine lv_aload_n hx hb dX8_isAhead_34 rfl (lv_at hl 0 rfl) ?_
    refine va_get (D := D) (ci := 8) (v := .ref (ad 45)) (C := RX8) (T := TX8) (N := 6) hx hb hts inX8_isAhead_X8 hown hK hP 0 rfl rfl 3 (by decide) (hts (Cond.fieldLink RX8 21 "PortRooms$Pledges" "filed" "[I") (wm_t (wm_l (wm_i 0 rfl)))) (fun _ h9 => h9) rfl dX8_isAhead_35 ?_
    refine lv_iload_n hx hb dX8_isAhead_38 rfl (lv_at hl 2 rfl) ?_
    refine va_iald hx hb hK hP 4 0 rfl rfl (i_in (by omega) (by omega)) dX8_isAhead_39 ?_
    refine lv_topi (fun v8 ev8 => ?_)
    refine lv_icmp_ge (tgt := 47) hx hb dX8_isAhead_40 (by decide) (fun c9 => ?_) (fun c9 => ?_)
    · skip
      have f10 := i_le c9
      refine lv_iconst (v := 0) hx hb dX8_isAhead_47 (by decide) ?_
      have hP9 := hP
      have hD9 := hD
      exact W.zret (v := 0) hx hb hr rfl (fun t ht hW => ⟨⟨0, (), rfl, (by first | exact Or.inl rfl | exact Or.inr rfl), by rw [ht]; exact hP9, va_K.moved hW.alike hK, hD9⟩, hS.F ht⟩) hS.2.2 dX8_isAhead_48
    · skip
      have f11 := i_nle c9
      refine lv_iconst (v := 1) hx hb dX8_isAhead_43 (by decide) ?_
      refine lv_goto (tgt := 48) hx hb dX8_isAhead_44 (by decide) ?_
      have hP9 := hP
      have hD9 := hD
      exact W.zret (v := 1) hx hb hr rfl (fun t ht hW => ⟨⟨1, (), rfl, (by first | exact Or.inl rfl | exact Or.inr rfl), by rw [ht]; exact hP9, va_K.moved hW.alike hK, hD9⟩, hS.F ht⟩) hS.2.2 dX8_isAhead_48
  · skip
    refine lv_tableIn (tgt := 49) (off := 48) hx hb dX8_isAhead_1 (by omega) (by omega) (by rw [hsw1]; rfl) (by decide) ?_
    refine lv_aload_n hx hb dX8_isAhead_49 rfl (lv_at hl 0 rfl) ?_
    refine va_get (D := D) (ci := 8) (v := .ref (ad 44)) (C := RX8) (T := TX8) (N := 6) hx hb hts inX8_isAhead_X8 hown hK hP 0 rfl rfl 2 (by decide) (hts (Cond.fieldLink RX8 18 "PortRooms$Pledges" "said" "[I") (wm_t (wm_l (wm_i 1 rfl)))) (fun _ h9 => h9) rfl dX8_isAhead_50 ?_
    refine lv_iload_n hx hb dX8_isAhead_53 rfl (lv_at hl 1 rfl) ?_
    refine va_iald hx hb hK hP 3 0 rfl rfl (i_in (by omega) (by omega)) dX8_isAhead_54 ?_
    refine lv_topi (fun v12 ev12 => ?_)
    refine lv_aload_n hx hb dX8_isAhead_55 rfl (lv_at hl 0 rfl) ?_
    refine va_get (D := D) (ci := 8) (v := .ref (ad 44)) (C := RX8) (T := TX8) (N := 6) hx hb hts inX8_isAhead_X8 hown hK hP 0 rfl rfl 2 (by decide) (hts (Cond.fieldLink RX8 18 "PortRooms$Pledges" "said" "[I") (wm_t (wm_l (wm_i 1 rfl)))) (fun _ h9 => h9) rfl dX8_isAhead_56 ?_
    refine lv_iload_n hx hb dX8_isAhead_59 rfl (lv_at hl 2 rfl) ?_
    refine va_iald hx hb hK hP 3 0 rfl rfl (i_in (by omega) (by omega)) dX8_isAhead_60 ?_
    refine lv_topi (fun v13 ev13 => ?_)
    refine lv_icmp_ge (tgt := 68) hx hb dX8_isAhead_61 (by decide) (fun c14 => ?_) (fun c14 => ?_)
    · skip
      have f15 := i_le c14
      refine lv_iconst (v := 0) hx hb dX8_isAhead_68 (by decide) ?_
      have hP9 := hP
      have hD9 := hD
      exact W.zret (v := 0) hx hb hr rfl (fun t ht hW => ⟨⟨0, (), rfl, (by first | exact Or.inl rfl | exact Or.inr rfl), by rw [ht]; exact hP9, va_K.moved hW.alike hK, hD9⟩, hS.F ht⟩) hS.2.2 dX8_isAhead_69
    · skip
      have f16 := i_nle c14
      refine lv_iconst (v := 1) hx hb dX8_isAhead_64 (by decide) ?_
      refine lv_goto (tgt := 69) hx hb dX8_isAhead_65 (by decide) ?_
      have hP9 := hP
      have hD9 := hD
      exact W.zret (v := 1) hx hb hr rfl (fun t ht hW => ⟨⟨1, (), rfl, (by first | exact Or.inl rfl | exact Or.inr rfl), by rw [ht]; exact hP9, va_K.moved hW.alike hK, hD9⟩, hS.F ht⟩) hS.2.2 dX8_isAhead_69
  · skip
    refine lv_tableIn (tgt := 70) (off := 69) hx hb dX8_isAhead_1 (by omega) (by omega) (by rw [hsw1]; rfl) (by decide) ?_
    refine lv_aload_n hx hb dX8_isAhead_70 rfl (lv_at hl 0 rfl) ?_
    refine va_get (D := D) (ci := 8) (v := .ref (ad 43)) (C := RX8) (T := TX8) (N := 6) hx hb hts inX8_isAhead_X8 hown hK hP 0 rfl rfl 1 (by decide) (hts (Cond.fieldLink RX8 15 "PortRooms$Pledges" "sum" "[I") (wm_t (wm_l (wm_i 2 rfl)))) (fun _ h9 => h9) rfl dX8_isAhead_71 ?_
    refine lv_iload_n hx hb dX8_isAhead_74 rfl (lv_at hl 1 rfl) ?_
    refine va_iald hx hb hK hP 2 0 rfl rfl (i_in (by omega) (by omega)) dX8_isAhead_75 ?_
    refine lv_topi (fun v17 ev17 => ?_)
    refine lv_aload_n hx hb dX8_isAhead_76 rfl (lv_at hl 0 rfl) ?_
    refine va_get (D := D) (ci := 8) (v := .ref (ad 43)) (C := RX8) (T := TX8) (N := 6) hx hb hts inX8_isAhead_X8 hown hK hP 0 rfl rfl 1 (by decide) (hts (Cond.fieldLink RX8 15 "PortRooms$Pledges" "sum" "[I") (wm_t (wm_l (wm_i 2 rfl)))) (fun _ h9 => h9) rfl dX8_isAhead_77 ?_
    refine lv_iload_n hx hb dX8_isAhead_80 rfl (lv_at hl 2 rfl) ?_
    refine va_iald hx hb hK hP 2 0 rfl rfl (i_in (by omega) (by omega)) dX8_isAhead_81 ?_
    refine lv_topi (fun v18 ev18 => ?_)
    refine lv_icmp_le (tgt := 89) hx hb dX8_isAhead_82 (by decide) (fun c19 => ?_) (fun c19 => ?_)
    · skip
      have f20 := i_le c19
      refine lv_iconst (v := 0) hx hb dX8_isAhead_89 (by decide) ?_
      have hP9 := hP
      have hD9 := hD
      exact W.zret (v := 0) hx hb hr rfl (fun t ht hW => ⟨⟨0, (), rfl, (by first | exact Or.inl rfl | exact Or.inr rfl), by rw [ht]; exact hP9, va_K.moved hW.alike hK, hD9⟩, hS.F ht⟩) hS.2.2 dX8_isAhead_90
    · skip
      have f21 := i_nle c19
      refine lv_iconst (v := 1) hx hb dX8_isAhead_85 (by decide) ?_
      refine lv_goto (tgt := 90) hx hb dX8_isAhead_86 (by decide) ?_
      have hP9 := hP
      have hD9 := hD
      exact W.zret (v := 1) hx hb hr rfl (fun t ht hW => ⟨⟨1, (), rfl, (by first | exact Or.inl rfl | exact Or.inr rfl), by rw [ht]; exact hP9, va_K.moved hW.alike hK, hD9⟩, hS.F ht⟩) hS.2.2 dX8_isAhead_90

set_option maxHeartbeats 4000000 in
set_option maxRecDepth 100000 in
theorem ct_X8_putBehind (l : Launch) (D : va_G) (cI cY cJ cQ : ClassId) (sz : Nat) (ad : Nat → Nat) (gn : Int32) (gk gs gd ge gr : Nat → Int32) (n : Int32) (x : Int32) (zl : Int32)  (h1 : gn.toInt ≤ 40) (h2 : 0 ≤ n.toInt) (h3 : n.toInt < 40) (h4 : 0 ≤ x.toInt) (h5 : x.toInt < gn.toInt) (h6 : n.toInt ≤ x.toInt) (h7 : okR n gn gr)  : Met l yX8_putBehind wsX8_putBehind ({ frames := 1, cells := 0, slots := 0, locals := 23 }) (cPre D (ty4 cI cY cJ cQ) [(oC8 ad gn), (aI cI (ad 42) 40 gk), (aI cI (ad 43) 40 gs), (aI cI (ad 44) 40 gd), (aI cI (ad 45) 40 ge), (aI cI (ad 46) 40 gr)] sz [.ref (ad 5), .int n, .int x, .int zl]) (va_Qv (fun (u : (Nat → Int32)) => ∀ b : Int32, b.toInt = n.toInt + 1 → okR b gn u) (cB D (ty4 cI cY cJ cQ) (fun (u : (Nat → Int32)) => [(oC8 ad gn), (aI cI (ad 42) 40 gk), (aI cI (ad 43) 40 gs), (aI cI (ad 44) 40 gd), (aI cI (ad 45) 40 ge), (aI cI (ad 46) 40 u)]) (va_A [(oC8 ad gn), (aI cI (ad 42) 40 gk), (aI cI (ad 43) 40 gs), (aI cI (ad 44) 40 gd), (aI cI (ad 45) 40 ge), (aI cI (ad 46) 40 gr)] sz)) (va_A [(oC8 ad gn), (aI cI (ad 42) 40 gk), (aI cI (ad 43) 40 gs), (aI cI (ad 44) 40 gd), (aI cI (ad 45) 40 ge), (aI cI (ad 46) 40 gr)] sz)) 0 0 (va_A [(oC8 ad gn), (aI cI (ad 42) 40 gk), (aI cI (ad 43) 40 gs), (aI cI (ad 44) 40 gd), (aI cI (ad 45) 40 ge), (aI cI (ad 46) 40 gr)] sz) := by
  refine Met.ofW (cc := cX8_putBehind) (maxL := 5) (ret := none) (by decide) rfl ?_
  intro p e s m args below meth c s₁ B hml hv
  obtain ⟨rfl, hsz, hP, hK, hD0, hN⟩ := hv
  have hx := B.exec
  have hb := B.bytes
  have hr := B.returns
  have hts := atoms_spec (ws := wsX8_putBehind) B.pre
  have hown : s.vm.findClass RX8 = some m.cls := findClass_of_methodNamed B.named
  have hlocks := B.notSynchronized
  subst hsz
  have hD := hD0.self (sz := s.heap.size)
  generalize hAe : va_A [(oC8 ad gn), (aI cI (ad 42) 40 gk), (aI cI (ad 43) 40 gs), (aI cI (ad 44) 40 gd), (aI cI (ad 45) 40 ge), (aI cI (ad 46) 40 gr)] s.heap.size = A at hD ⊢
  have hA : ∀ q : Nat, s.heap.size ≤ q → A q := fun q h => by rw [← hAe]; exact Or.inr h
  have hS : va_S A s.heap s.heap [] := va_S.rf
  have hP : va_P D vwCl [(oC8 ad gn), (aI cI (ad 42) 40 gk), (aI cI (ad 43) 40 gs), (aI cI (ad 44) 40 gd), (aI cI (ad 45) 40 ge), (aI cI (ad 46) 40 gr)] s.heap := hP
  have hl := lv_entry ([.ref (ad 5), .int n, .int x, .int zl]) (n := 5) (Nat.le_of_ble_eq_true rfl)
  rw [lg_entry_eq]
  generalize (lg_sl ([.ref (ad 5), .int n, .int x, .int zl]) ++ List.replicate (5 - (lg_sl ([.ref (ad 5), .int n, .int x, .int zl])).length) Slot.unset).toArray = ls at hl ⊢
  have hl : lv_has ls 5 [(0, .ref (ad 5)), (1, .int n), (2, .int x), (3, .int zl)] := hl
  have km1 : (-1 : Int32).toInt = -1 := by decide
  have k0 : (0 : Int32).toInt = 0 := by decide
  have k1 : (1 : Int32).toInt = 1 := by decide
  refine lv_iload_n hx hb dX8_putBehind_0 rfl (lv_at hl 1 rfl) ?_
  refine lv_istore (lv' := [(4, .int n), (0, .ref (ad 5)), (1, .int n), (2, .int x), (3, .int zl)]) hx hb dX8_putBehind_1 hl (by decide) rfl (fun ls hl => ?_)
  refine st_loop 3 (fun _ => []) (fun (z : Int32 × (Nat → Int32)) (ls : Array Slot) (H : Heap) (locs : List Loc) => match z with | (q3_4, oq) => (0 ≤ q3_4.toInt) ∧ (q3_4.toInt ≤ n.toInt) ∧ (okQ n q3_4 gn oq) ∧ lv_has ls 5 [(0, .ref (ad 5)), (1, .int n), (2, .int x), (3, .int zl), (4, .int q3_4)] ∧ va_P D vwCl [(oC8 ad gn), (aI cI (ad 42) 40 gk), (aI cI (ad 43) 40 gs), (aI cI (ad 44) 40 gd), (aI cI (ad 45) 40 ge), (aI cI (ad 46) 40 oq)] H ∧ va_D A [(oC8 ad gn), (aI cI (ad 42) 40 gk), (aI cI (ad 43) 40 gs), (aI cI (ad 44) 40 gd), (aI cI (ad 45) 40 ge), (aI cI (ad 46) 40 oq)] ∧ va_S A s.heap H locs) (fun (z : Int32 × (Nat → Int32)) => match z with | (q3_4, oq) => q3_4.toInt) ?_ ?_ (n, gr) ⟨(by omega), (by omega), (by exact okQ_0 h7), lv_sub hl [1, 2, 3, 4, 0] rfl, hP, hD, hS⟩
  · rintro ⟨q3_4, oq⟩ ls H locs ⟨g1, g2, g3, hl, hP, hD, hS⟩
    show (0 : Int) ≤ q3_4.toInt
    omega
  · rintro n6 ih4 ⟨q3_4, oq⟩ ls H locs ⟨g1, g2, g3, hl, hP, hD, hS⟩ hm5
    have hm5 : q3_4.toInt < (n6 : Int) + 1 := hm5
    replace hl : lv_has ls 5 [(0, .ref (ad 5)), (1, .int n), (2, .int x), (3, .int zl), (4, .int q3_4)] := hl
    replace hP : va_P D vwCl [(oC8 ad gn), (aI cI (ad 42) 40 gk), (aI cI (ad 43) 40 gs), (aI cI (ad 44) 40 gd), (aI cI (ad 45) 40 ge), (aI cI (ad 46) 40 oq)] H := hP
    replace hD : va_D A [(oC8 ad gn), (aI cI (ad 42) 40 gk), (aI cI (ad 43) 40 gs), (aI cI (ad 44) 40 gd), (aI cI (ad 45) 40 ge), (aI cI (ad 46) 40 oq)] := hD
    show W _ _ _ _ _ _ _ _ _ _ _ _ _ _ _ (F0 m 3 ls [])
    refine lv_iload hx hb dX8_putBehind_3 (lv_at hl 4 rfl) ?_
    refine lv_if_le (tgt := 48) hx hb dX8_putBehind_5 (by decide) (fun c7 => ?_) (fun c7 => ?_)
    · skip
      have f8 := i_le c7
      refine lv_aload_n hx hb dX8_putBehind_48 rfl (lv_at hl 0 rfl) ?_
      refine va_get (D := D) (ci := 8) (v := .ref (ad 46)) (C := RX8) (T := TX8) (N := 6) hx hb hts inX8_putBehind_X8 hown hK hP 0 rfl rfl 5 (by decide) (hts (Cond.fieldLink RX8 24 "PortRooms$Pledges" "order" "[I") (wm_t (wm_l (wm_i 0 rfl)))) (fun _ h9 => h9) rfl dX8_putBehind_49 ?_
      refine lv_iload hx hb dX8_putBehind_52 (lv_at hl 4 rfl) ?_
      refine lv_iload_n hx hb dX8_putBehind_54 rfl (lv_at hl 2 rfl) ?_
      refine va_iast hx hb hK hP hD hS 5 0 rfl rfl (i_in (by omega) (by omega)) dX8_putBehind_55 (fun H locs => ?_)
      clear hP hD hS
      intro hP hD hS
      replace hP : va_P D vwCl [(oC8 ad gn), (aI cI (ad 42) 40 gk), (aI cI (ad 43) 40 gs), (aI cI (ad 44) 40 gd), (aI cI (ad 45) 40 ge), (aI cI (ad 46) 40 (upd oq q3_4.toNatClampNeg x))] H := hP
      replace hD : va_D A [(oC8 ad gn), (aI cI (ad 42) 40 gk), (aI cI (ad 43) 40 gs), (aI cI (ad 44) 40 gd), (aI cI (ad 45) 40 ge), (aI cI (ad 46) 40 (upd oq q3_4.toNatClampNeg x))] := hD
      have hP9 := hP
      have hD9 := hD
      exact W.vret hx hb hr (fun t ht hW => ⟨⟨upd oq q3_4.toNatClampNeg x, rfl, fun b hb9 => okQ_end g3 hb9 (by omega) (by omega) (by omega), by rw [ht]; exact hP9, va_K.moved hW.alike hK, hD9⟩, hS.F ht⟩) hS.2.2 dX8_putBehind_56
    · skip
      have f9 := i_nle c7
      refine lv_aload_n hx hb dX8_putBehind_8 rfl (lv_at hl 0 rfl) ?_
      refine lv_iload_n hx hb dX8_putBehind_9 rfl (lv_at hl 2 rfl) ?_
      refine lv_aload_n hx hb dX8_putBehind_10 rfl (lv_at hl 0 rfl) ?_
      refine va_get (D := D) (ci := 8) (v := .ref (ad 46)) (C := RX8) (T := TX8) (N := 6) hx hb hts inX8_putBehind_X8 hown hK hP 0 rfl rfl 5 (by decide) (hts (Cond.fieldLink RX8 24 "PortRooms$Pledges" "order" "[I") (wm_t (wm_l (wm_i 0 rfl)))) (fun _ h9 => h9) rfl dX8_putBehind_11 ?_
      refine lv_iload hx hb dX8_putBehind_14 (lv_at hl 4 rfl) ?_
      refine lv_iconst (v := 1) hx hb dX8_putBehind_16 (by decide) ?_
      refine lv_isub hx hb dX8_putBehind_17 ?_
      refine lv_topi (fun v10 ev10 => ?_)
      try have tv10 : v10.toInt = q3_4.toInt - 1 := by rw [ev10]; exact (i_sub (x := q3_4) (y := (1 : Int32)) (by rw [k1]; omega) (by rw [k1]; omega)).trans (by rw [k1])
      refine va_iald hx hb hK hP 5 0 rfl rfl (i_in (by omega) (by omega)) dX8_putBehind_18 ?_
      refine lv_topi (fun v11 ev11 => ?_)
      have qv11 := okQ_at g3 ev11 (by omega) (by omega) (by omega)
      refine lv_iload_n hx hb dX8_putBehind_19 rfl (lv_at hl 3 rfl) ?_
      refine st_i1 (va_runV (C := RX8) (As := [.int x, .int v11, .int zl]) (rest := []) ⟨hx, hb, hml, hown, hts⟩ (ct_X8_isAhead l D cI cY cJ cQ _ ad gn gk gs gd ge x v11 zl h4 (by omega) (by omega) (by omega)) (cwV 3 hts gX8_putBehind_X8_isAhead rfl rfl rfl ⟨rfl, cdX8_isAhead⟩ ⟨Nat.le_of_ble_eq_true rfl, Nat.le_of_ble_eq_true rfl⟩) (cPreV (hP.sub [0, 1, 2, 3, 4] rfl) hK (hD.sub [0, 1, 2, 3, 4] (by decide +kernel) rfl) hN (ci := 8) (q0 := 0) rfl rfl) rfl rfl hl.1 rfl (lv_room (Nat.le_of_ble_eq_true rfl)) dX8_putBehind_20 ⟨Nat.le_of_ble_eq_true rfl, Nat.le_of_ble_eq_true rfl⟩) hP hD hS hA [0, 1, 2, 3, 4] rfl (fun _ => rfl) (fun r14 u12 H locs hw13 => ?_)
      clear hP hS
      intro hP hS
      replace hw13 : r14 = 0 ∨ r14 = 1 := hw13
      refine lv_if_eq (tgt := 48) hx hb dX8_putBehind_23 (by decide) (fun c15 => ?_) (fun c15 => ?_)
      · skip
        have f16 := i_eq c15
        refine lv_aload_n hx hb dX8_putBehind_48 rfl (lv_at hl 0 rfl) ?_
        refine va_get (D := D) (ci := 8) (v := .ref (ad 46)) (C := RX8) (T := TX8) (N := 6) hx hb hts inX8_putBehind_X8 hown hK hP 0 rfl rfl 5 (by decide) (hts (Cond.fieldLink RX8 24 "PortRooms$Pledges" "order" "[I") (wm_t (wm_l (wm_i 0 rfl)))) (fun _ h9 => h9) rfl dX8_putBehind_49 ?_
        refine lv_iload hx hb dX8_putBehind_52 (lv_at hl 4 rfl) ?_
        refine lv_iload_n hx hb dX8_putBehind_54 rfl (lv_at hl 2 rfl) ?_
        refine va_iast hx hb hK hP hD hS 5 0 rfl rfl (i_in (by omega) (by omega)) dX8_putBehind_55 (fun H locs => ?_)
        clear hP hD hS
        intro hP hD hS
        replace hP : va_P D vwCl [(oC8 ad gn), (aI cI (ad 42) 40 gk), (aI cI (ad 43) 40 gs), (aI cI (ad 44) 40 gd), (aI cI (ad 45) 40 ge), (aI cI (ad 46) 40 (upd oq q3_4.toNatClampNeg x))] H := hP
        replace hD : va_D A [(oC8 ad gn), (aI cI (ad 42) 40 gk), (aI cI (ad 43) 40 gs), (aI cI (ad 44) 40 gd), (aI cI (ad 45) 40 ge), (aI cI (ad 46) 40 (upd oq q3_4.toNatClampNeg x))] := hD
        have hP9 := hP
        have hD9 := hD
        exact W.vret hx hb hr (fun t ht hW => ⟨⟨upd oq q3_4.toNatClampNeg x, rfl, fun b hb9 => okQ_end g3 hb9 (by omega) (by omega) (by omega), by rw [ht]; exact hP9, va_K.moved hW.alike hK, hD9⟩, hS.F ht⟩) hS.2.2 dX8_putBehind_56
      · skip
        have f17 := i_ne c15
        refine lv_aload_n hx hb dX8_putBehind_26 rfl (lv_at hl 0 rfl) ?_
        refine va_get (D := D) (ci := 8) (v := .ref (ad 46)) (C := RX8) (T := TX8) (N := 6) hx hb hts inX8_putBehind_X8 hown hK hP 0 rfl rfl 5 (by decide) (hts (Cond.fieldLink RX8 24 "PortRooms$Pledges" "order" "[I") (wm_t (wm_l (wm_i 0 rfl)))) (fun _ h9 => h9) rfl dX8_putBehind_27 ?_
        refine lv_iload hx hb dX8_putBehind_30 (lv_at hl 4 rfl) ?_
        refine lv_aload_n hx hb dX8_putBehind_32 rfl (lv_at hl 0 rfl) ?_
        refine va_get (D := D) (ci := 8) (v := .ref (ad 46)) (C := RX8) (T := TX8) (N := 6) hx hb hts inX8_putBehind_X8 hown hK hP 0 rfl rfl 5 (by decide) (hts (Cond.fieldLink RX8 24 "PortRooms$Pledges" "order" "[I") (wm_t (wm_l (wm_i 0 rfl)))) (fun _ h9 => h9) rfl dX8_putBehind_33 ?_
        refine lv_iload hx hb dX8_putBehind_36 (lv_at hl 4 rfl) ?_
        refine lv_iconst (v := 1) hx hb dX8_putBehind_38 (by decide) ?_
        refine lv_isub hx hb dX8_putBehind_39 ?_
        refine lv_topi (fun v18 ev18 => ?_)
        try have tv18 : v18.toInt = q3_4.toInt - 1 := by rw [ev18]; exact (i_sub (x := q3_4) (y := (1 : Int32)) (by rw [k1]; omega) (by rw [k1]; omega)).trans (by rw [k1])
        refine va_iald hx hb hK hP 5 0 rfl rfl (i_in (by omega) (by omega)) dX8_putBehind_40 ?_
        refine lv_topi (fun v19 ev19 => ?_)
        have qv19 := okQ_at g3 ev19 (by omega) (by omega) (by omega)
        refine va_iast hx hb hK hP hD hS 5 0 rfl rfl (i_in (by omega) (by omega)) dX8_putBehind_41 (fun H locs => ?_)
        clear hP hD hS
        intro hP hD hS
        replace hP : va_P D vwCl [(oC8 ad gn), (aI cI (ad 42) 40 gk), (aI cI (ad 43) 40 gs), (aI cI (ad 44) 40 gd), (aI cI (ad 45) 40 ge), (aI cI (ad 46) 40 (upd oq q3_4.toNatClampNeg v19))] H := hP
        replace hD : va_D A [(oC8 ad gn), (aI cI (ad 42) 40 gk), (aI cI (ad 43) 40 gs), (aI cI (ad 44) 40 gd), (aI cI (ad 45) 40 ge), (aI cI (ad 46) 40 (upd oq q3_4.toNatClampNeg v19))] := hD
        obtain ⟨v20, ev20⟩ : ∃ y : Int32, y = q3_4 + (-1) := ⟨_, rfl⟩
        try have tv20 : v20.toInt = q3_4.toInt + (-1) := by rw [ev20]; exact (i_add (x := q3_4) (y := ((-1) : Int32)) (by rw [km1]; omega) (by rw [km1]; omega)).trans (by rw [km1])
        refine lv_iinc (v := v20) (lv' := [(4, .int v20), (0, .ref (ad 5)), (1, .int n), (2, .int x), (3, .int zl)]) hx hb dX8_putBehind_42 hl (k := 4) rfl (by rw [ev20]; rfl) (by decide) rfl (fun ls hl => ?_)
        refine lv_goto (tgt := 3) hx hb dX8_putBehind_45 (by decide) ?_
        exact ih4 (v20, upd oq q3_4.toNatClampNeg v19) ls H locs ⟨(by omega), (by omega), (by exact okQ_step g3 (by assumption) (by omega) (by omega) (by omega) (by omega)), lv_sub hl [1, 2, 3, 4, 0] rfl, hP.sub [0, 1, 2, 3, 4, 5] rfl, hD.sub [0, 1, 2, 3, 4, 5] (by decide +kernel) rfl, hS⟩ (by show v20.toInt < _; omega)

theorem pbx {n gn b : Int32} {f : Nat → Int32} (h : ∀ b : Int32, b.toInt = n.toInt + 1 → okR b gn f) (hb : b.toInt = n.toInt + 1) : okR b gn f := h b hb

set_option maxHeartbeats 4000000 in
set_option maxRecDepth 100000 in
theorem ct_X8_putInOrder (l : Launch) (D : va_G) (cI cY cJ cQ : ClassId) (sz : Nat) (ad : Nat → Nat) (gn : Int32) (gk gs gd ge gr : Nat → Int32) (k : Int32) (d : Int32) (zl : Int32)  (h1 : 0 ≤ gn.toInt) (h2 : gn.toInt ≤ 40)  : Met l yX8_putInOrder wsX8_putInOrder ({ frames := 2, cells := 0, slots := 0, locals := 47 }) (cPre D (ty4 cI cY cJ cQ) [(oC8 ad gn), (aI cI (ad 42) 40 gk), (aI cI (ad 43) 40 gs), (aI cI (ad 44) 40 gd), (aI cI (ad 45) 40 ge), (aI cI (ad 46) 40 gr)] sz [.ref (ad 5), .int k, .int d, .int zl]) (va_Qi (fun (r : Int32) (u : (Nat → Int32)) => 0 ≤ r.toInt ∧ r.toInt ≤ gn.toInt ∧ okR r gn u) (cB D (ty4 cI cY cJ cQ) (fun (u : (Nat → Int32)) => [(oC8 ad gn), (aI cI (ad 42) 40 gk), (aI cI (ad 43) 40 gs), (aI cI (ad 44) 40 gd), (aI cI (ad 45) 40 ge), (aI cI (ad 46) 40 u)]) (va_A [(oC8 ad gn), (aI cI (ad 42) 40 gk), (aI cI (ad 43) 40 gs), (aI cI (ad 44) 40 gd), (aI cI (ad 45) 40 ge), (aI cI (ad 46) 40 gr)] sz)) (va_A [(oC8 ad gn), (aI cI (ad 42) 40 gk), (aI cI (ad 43) 40 gs), (aI cI (ad 44) 40 gd), (aI cI (ad 45) 40 ge), (aI cI (ad 46) 40 gr)] sz)) 0 0 (va_A [(oC8 ad gn), (aI cI (ad 42) 40 gk), (aI cI (ad 43) 40 gs), (aI cI (ad 44) 40 gd), (aI cI (ad 45) 40 ge), (aI cI (ad 46) 40 gr)] sz) := by
  refine Met.ofW (cc := cX8_putInOrder) (maxL := 6) (ret := (some .int)) (by decide) rfl ?_
  intro p e s m args below meth c s₁ B hml hv
  obtain ⟨rfl, hsz, hP, hK, hD0, hN⟩ := hv
  have hx := B.exec
  have hb := B.bytes
  have hr := B.returns
  have hts := atoms_spec (ws := wsX8_putInOrder) B.pre
  have hown : s.vm.findClass RX8 = some m.cls := findClass_of_methodNamed B.named
  have hlocks := B.notSynchronized
  subst hsz
  have hD := hD0.self (sz := s.heap.size)
  generalize hAe : va_A [(oC8 ad gn), (aI cI (ad 42) 40 gk), (aI cI (ad 43) 40 gs), (aI cI (ad 44) 40 gd), (aI cI (ad 45) 40 ge), (aI cI (ad 46) 40 gr)] s.heap.size = A at hD ⊢
  have hA : ∀ q : Nat, s.heap.size ≤ q → A q := fun q h => by rw [← hAe]; exact Or.inr h
  have hS : va_S A s.heap s.heap [] := va_S.rf
  have hP : va_P D vwCl [(oC8 ad gn), (aI cI (ad 42) 40 gk), (aI cI (ad 43) 40 gs), (aI cI (ad 44) 40 gd), (aI cI (ad 45) 40 ge), (aI cI (ad 46) 40 gr)] s.heap := hP
  have hl := lv_entry ([.ref (ad 5), .int k, .int d, .int zl]) (n := 6) (Nat.le_of_ble_eq_true rfl)
  rw [lg_entry_eq]
  generalize (lg_sl ([.ref (ad 5), .int k, .int d, .int zl]) ++ List.replicate (6 - (lg_sl ([.ref (ad 5), .int k, .int d, .int zl])).length) Slot.unset).toArray = ls at hl ⊢
  have hl : lv_has ls 6 [(0, .ref (ad 5)), (1, .int k), (2, .int d), (3, .int zl)] := hl
  have k0 : (0 : Int32).toInt = 0 := by decide
  have k1 : (1 : Int32).toInt = 1 := by decide
  refine lv_iconst (v := 0) hx hb dX8_putInOrder_0 (by decide) ?_
  refine lv_istore (lv' := [(4, .int 0), (0, .ref (ad 5)), (1, .int k), (2, .int d), (3, .int zl)]) hx hb dX8_putInOrder_1 hl (by decide) rfl (fun ls hl => ?_)
  refine lv_iconst (v := 0) hx hb dX8_putInOrder_3 (by decide) ?_
  refine lv_istore (lv' := [(5, .int 0), (4, .int 0), (0, .ref (ad 5)), (1, .int k), (2, .int d), (3, .int zl)]) hx hb dX8_putInOrder_4 hl (by decide) rfl (fun ls hl => ?_)
  refine st_loop 6 (fun _ => []) (fun (z : Int32 × Int32 × (Nat → Int32)) (ls : Array Slot) (H : Heap) (locs : List Loc) => match z with | (q6_4, q6_5, oq) => (0 ≤ q6_5.toInt) ∧ (q6_5.toInt ≤ gn.toInt) ∧ (0 ≤ q6_4.toInt) ∧ (q6_4.toInt ≤ q6_5.toInt) ∧ (okR q6_4 gn oq) ∧ lv_has ls 6 [(0, .ref (ad 5)), (1, .int k), (2, .int d), (3, .int zl), (4, .int q6_4), (5, .int q6_5)] ∧ va_P D vwCl [(oC8 ad gn), (aI cI (ad 42) 40 gk), (aI cI (ad 43) 40 gs), (aI cI (ad 44) 40 gd), (aI cI (ad 45) 40 ge), (aI cI (ad 46) 40 oq)] H ∧ va_D A [(oC8 ad gn), (aI cI (ad 42) 40 gk), (aI cI (ad 43) 40 gs), (aI cI (ad 44) 40 gd), (aI cI (ad 45) 40 ge), (aI cI (ad 46) 40 oq)] ∧ va_S A s.heap H locs) (fun (z : Int32 × Int32 × (Nat → Int32)) => match z with | (q6_4, q6_5, oq) => gn.toInt - q6_5.toInt) ?_ ?_ ((0 : Int32), (0 : Int32), gr) ⟨(by omega), (by omega), (by omega), (by omega), (by intro j hj; exfalso; omega), lv_sub hl [2, 3, 4, 5, 1, 0] rfl, hP, hD, hS⟩
  · rintro ⟨q6_4, q6_5, oq⟩ ls H locs ⟨g1, g2, g3, g4, g5, hl, hP, hD, hS⟩
    show (0 : Int) ≤ gn.toInt - q6_5.toInt
    omega
  · rintro n8 ih6 ⟨q6_4, q6_5, oq⟩ ls H locs ⟨g1, g2, g3, g4, g5, hl, hP, hD, hS⟩ hm7
    have hm7 : gn.toInt - q6_5.toInt < (n8 : Int) + 1 := hm7
    replace hl : lv_has ls 6 [(0, .ref (ad 5)), (1, .int k), (2, .int d), (3, .int zl), (4, .int q6_4), (5, .int q6_5)] := hl
    replace hP : va_P D vwCl [(oC8 ad gn), (aI cI (ad 42) 40 gk), (aI cI (ad 43) 40 gs), (aI cI (ad 44) 40 gd), (aI cI (ad 45) 40 ge), (aI cI (ad 46) 40 oq)] H := hP
    replace hD : va_D A [(oC8 ad gn), (aI cI (ad 42) 40 gk), (aI cI (ad 43) 40 gs), (aI cI (ad 44) 40 gd), (aI cI (ad 45) 40 ge), (aI cI (ad 46) 40 oq)] := hD
    show W _ _ _ _ _ _ _ _ _ _ _ _ _ _ _ (F0 m 6 ls [])
    refine lv_iload hx hb dX8_putInOrder_6 (lv_at hl 5 rfl) ?_
    refine lv_aload_n hx hb dX8_putInOrder_8 rfl (lv_at hl 0 rfl) ?_
    refine va_get (D := D) (ci := 8) (v := .int gn) (C := RX8) (T := TX8) (N := 6) hx hb hts inX8_putInOrder_X8 hown hK hP 0 rfl rfl 4 (by decide) (hts (Cond.fieldLink RX8 27 "PortRooms$Pledges" "count" "I") (wm_t (wm_l (wm_i 0 rfl)))) (fun _ h9 => h9) rfl dX8_putInOrder_9 ?_
    refine lv_icmp_ge (tgt := 44) hx hb dX8_putInOrder_12 (by decide) (fun c9 => ?_) (fun c9 => ?_)
    · skip
      have f10 := i_le c9
      refine lv_iload hx hb dX8_putInOrder_44 (lv_at hl 4 rfl) ?_
      have hP9 := hP
      have hD9 := hD
      exact W.iret (v := q6_4) hx hb hr (fun t ht hW => ⟨⟨q6_4, oq, rfl, ⟨by omega, by omega, g5⟩, by rw [ht]; exact hP9, va_K.moved hW.alike hK, hD9⟩, hS.F ht⟩) hS.2.2 dX8_putInOrder_46
    · skip
      have f11 := i_nle c9
      refine lv_aload_n hx hb dX8_putInOrder_15 rfl (lv_at hl 0 rfl) ?_
      refine lv_iload hx hb dX8_putInOrder_16 (lv_at hl 5 rfl) ?_
      refine lv_iload_n hx hb dX8_putInOrder_18 rfl (lv_at hl 1 rfl) ?_
      refine lv_iload_n hx hb dX8_putInOrder_19 rfl (lv_at hl 2 rfl) ?_
      refine st_i1 (va_runV (C := RX8) (As := [.int q6_5, .int k, .int d]) (rest := []) ⟨hx, hb, hml, hown, hts⟩ (ct_X8_isKnown l D cI cY cJ cQ _ ad gn gk ge q6_5 k d (by omega) (by omega)) (cwV 3 hts gX8_putInOrder_X8_isKnown rfl rfl rfl ⟨rfl, cdX8_isKnown⟩ ⟨Nat.le_of_ble_eq_true rfl, Nat.le_of_ble_eq_true rfl⟩) (cPreV (hP.sub [0, 1, 4] rfl) hK (hD.sub [0, 1, 4] (by decide +kernel) rfl) hN (ci := 8) (q0 := 0) rfl rfl) rfl rfl hl.1 rfl (lv_room (Nat.le_of_ble_eq_true rfl)) dX8_putInOrder_20 ⟨Nat.le_of_ble_eq_true rfl, Nat.le_of_ble_eq_true rfl⟩) hP hD hS hA [0, 1, 4] rfl (fun _ => rfl) (fun r14 u12 H locs hw13 => ?_)
      clear hP hS
      intro hP hS
      replace hw13 : r14 = if (gk q6_5.toNatClampNeg).toInt = k.toInt ∧ (ge q6_5.toNatClampNeg).toInt ≤ d.toInt then 1 else 0 := hw13
      refine lv_if_eq (tgt := 38) hx hb dX8_putInOrder_23 (by decide) (fun c15 => ?_) (fun c15 => ?_)
      · skip
        have f16 := bo_f hw13 c15
        obtain ⟨v17, ev17⟩ : ∃ y : Int32, y = q6_5 + 1 := ⟨_, rfl⟩
        try have tv17 : v17.toInt = q6_5.toInt + 1 := by rw [ev17]; exact (i_add (x := q6_5) (y := (1 : Int32)) (by rw [k1]; omega) (by rw [k1]; omega)).trans (by rw [k1])
        refine lv_iinc (v := v17) (lv' := [(5, .int v17), (0, .ref (ad 5)), (1, .int k), (2, .int d), (3, .int zl), (4, .int q6_4)]) hx hb dX8_putInOrder_38 hl (k := 5) rfl (by rw [ev17]; rfl) (by decide) rfl (fun ls hl => ?_)
        refine lv_goto (tgt := 6) hx hb dX8_putInOrder_41 (by decide) ?_
        exact ih6 (q6_4, v17, oq) ls H locs ⟨(by omega), (by omega), (by omega), (by omega), (by first | exact g5 | (apply pbx; assumption; omega)), lv_sub hl [1, 2, 3, 4, 5, 0] rfl, hP.sub [0, 1, 2, 3, 4, 5] rfl, hD.sub [0, 1, 2, 3, 4, 5] (by decide +kernel) rfl, hS⟩ (by show gn.toInt - v17.toInt < _; omega)
      · skip
        have f18 := bo_t hw13 c15
        refine lv_aload_n hx hb dX8_putInOrder_26 rfl (lv_at hl 0 rfl) ?_
        refine lv_iload hx hb dX8_putInOrder_27 (lv_at hl 4 rfl) ?_
        refine lv_iload hx hb dX8_putInOrder_29 (lv_at hl 5 rfl) ?_
        refine lv_iload_n hx hb dX8_putInOrder_31 rfl (lv_at hl 3 rfl) ?_
        refine st_v (wr := []) (va_runV (C := RX8) (As := [.int q6_4, .int q6_5, .int zl]) (rest := []) ⟨hx, hb, hml, hown, hts⟩ (ct_X8_putBehind l D cI cY cJ cQ _ ad gn gk gs gd ge oq q6_4 q6_5 zl h2 (by omega) (by omega) (by omega) (by omega) (by omega) (by assumption)) (cwV 3 hts gX8_putInOrder_X8_putBehind rfl rfl rfl ⟨rfl, cdX8_putBehind⟩ ⟨Nat.le_of_ble_eq_true rfl, Nat.le_of_ble_eq_true rfl⟩) (cPreV (hP.sub [0, 1, 2, 3, 4, 5] rfl) hK (hD.sub [0, 1, 2, 3, 4, 5] (by decide +kernel) rfl) hN (ci := 8) (q0 := 0) rfl rfl) rfl rfl hl.1 rfl (lv_room (Nat.le_of_ble_eq_true rfl)) dX8_putInOrder_32 ⟨Nat.le_of_ble_eq_true rfl, Nat.le_of_ble_eq_true rfl⟩) hP hD hS hA [0, 1, 2, 3, 4, 5] [] rfl rfl (by decide +kernel) (by decide +kernel) (fun u19 H locs hw20 => ?_)
        clear hP hD hS
        intro hP hD hS
        replace hw20 : ∀ b : Int32, b.toInt = q6_4.toInt + 1 → okR b gn u19 := hw20
        replace hP : va_P D vwCl [(oC8 ad gn), (aI cI (ad 42) 40 gk), (aI cI (ad 43) 40 gs), (aI cI (ad 44) 40 gd), (aI cI (ad 45) 40 ge), (aI cI (ad 46) 40 u19)] H := hP
        replace hD : va_D A [(oC8 ad gn), (aI cI (ad 42) 40 gk), (aI cI (ad 43) 40 gs), (aI cI (ad 44) 40 gd), (aI cI (ad 45) 40 ge), (aI cI (ad 46) 40 u19)] := hD
        obtain ⟨v22, ev22⟩ : ∃ y : Int32, y = q6_4 + 1 := ⟨_, rfl⟩
        try have tv22 : v22.toInt = q6_4.toInt + 1 := by rw [ev22]; exact (i_add (x := q6_4) (y := (1 : Int32)) (by rw [k1]; omega) (by rw [k1]; omega)).trans (by rw [k1])
        refine lv_iinc (v := v22) (lv' := [(4, .int v22), (0, .ref (ad 5)), (1, .int k), (2, .int d), (3, .int zl), (5, .int q6_5)]) hx hb dX8_putInOrder_35 hl (k := 4) rfl (by rw [ev22]; rfl) (by decide) rfl (fun ls hl => ?_)
        obtain ⟨v23, ev23⟩ : ∃ y : Int32, y = q6_5 + 1 := ⟨_, rfl⟩
        try have tv23 : v23.toInt = q6_5.toInt + 1 := by rw [ev23]; exact (i_add (x := q6_5) (y := (1 : Int32)) (by rw [k1]; omega) (by rw [k1]; omega)).trans (by rw [k1])
        refine lv_iinc (v := v23) (lv' := [(5, .int v23), (4, .int v22), (0, .ref (ad 5)), (1, .int k), (2, .int d), (3, .int zl)]) hx hb dX8_putInOrder_38 hl (k := 5) rfl (by rw [ev23]; rfl) (by decide) rfl (fun ls hl => ?_)
        refine lv_goto (tgt := 6) hx hb dX8_putInOrder_41 (by decide) ?_
        exact ih6 (v22, v23, u19) ls H locs ⟨(by omega), (by omega), (by omega), (by omega), (by first | exact g5 | (apply pbx; assumption; omega)), lv_sub hl [2, 3, 4, 5, 1, 0] rfl, hP.sub [0, 1, 2, 3, 4, 5] rfl, hD.sub [0, 1, 2, 3, 4, 5] (by decide +kernel) rfl, hS⟩ (by show gn.toInt - v23.toInt < _; omega)


theorem i_nn {x : Int32} (h : 0 ≤ x.toInt) : ¬ x < 0 := fun h1 => by have := i_lt h1; have h0 : (0 : Int32).toInt = 0 := rfl; omega

set_option maxHeartbeats 4000000 in
set_option maxRecDepth 100000 in
theorem ct_X8_paidTo (l : Launch) (D : va_G) (cI cY cJ cQ : ClassId) (sz : Nat) (ad : Nat → Nat) (gn : Int32) (gk gs gd ge gr : Nat → Int32) (i : Int32) (w : Int32) (nk : Int32)  (h1 : 0 ≤ i.toInt) (h2 : i.toInt < nk.toInt) (h3 : gn.toInt ≤ 40) (h4 : nk.toInt ≤ 40) (h5 : okR nk gn gr)  : Met l yX8_paidTo wsX8_paidTo ({ frames := 1, cells := 0, slots := 0, locals := 23 }) (cPre D (ty4 cI cY cJ cQ) [(oC8 ad gn), (aI cI (ad 42) 40 gk), (aI cI (ad 43) 40 gs), (aI cI (ad 44) 40 gd), (aI cI (ad 45) 40 ge), (aI cI (ad 46) 40 gr)] sz [.ref (ad 5), .int i, .int w]) (va_Qi (fun (r : Int32) (u : Unit) => True) (cB D (ty4 cI cY cJ cQ) (fun (u : Unit) => [(oC8 ad gn), (aI cI (ad 42) 40 gk), (aI cI (ad 43) 40 gs), (aI cI (ad 44) 40 gd), (aI cI (ad 45) 40 ge), (aI cI (ad 46) 40 gr)]) (va_A [(oC8 ad gn), (aI cI (ad 42) 40 gk), (aI cI (ad 43) 40 gs), (aI cI (ad 44) 40 gd), (aI cI (ad 45) 40 ge), (aI cI (ad 46) 40 gr)] sz)) (va_A [(oC8 ad gn), (aI cI (ad 42) 40 gk), (aI cI (ad 43) 40 gs), (aI cI (ad 44) 40 gd), (aI cI (ad 45) 40 ge), (aI cI (ad 46) 40 gr)] sz)) 0 0 (va_A [(oC8 ad gn), (aI cI (ad 42) 40 gk), (aI cI (ad 43) 40 gs), (aI cI (ad 44) 40 gd), (aI cI (ad 45) 40 ge), (aI cI (ad 46) 40 gr)] sz) := by
  refine Met.ofW (cc := cX8_paidTo) (maxL := 5) (ret := (some .int)) (by decide) rfl ?_
  intro p e s m args below meth c s₁ B hml hv
  obtain ⟨rfl, hsz, hP, hK, hD0, hN⟩ := hv
  have hx := B.exec
  have hb := B.bytes
  have hr := B.returns
  have hts := atoms_spec (ws := wsX8_paidTo) B.pre
  have hown : s.vm.findClass RX8 = some m.cls := findClass_of_methodNamed B.named
  have hlocks := B.notSynchronized
  subst hsz
  have hD := hD0.self (sz := s.heap.size)
  generalize hAe : va_A [(oC8 ad gn), (aI cI (ad 42) 40 gk), (aI cI (ad 43) 40 gs), (aI cI (ad 44) 40 gd), (aI cI (ad 45) 40 ge), (aI cI (ad 46) 40 gr)] s.heap.size = A at hD ⊢
  have hA : ∀ q : Nat, s.heap.size ≤ q → A q := fun q h => by rw [← hAe]; exact Or.inr h
  have hS : va_S A s.heap s.heap [] := va_S.rf
  have hP : va_P D vwCl [(oC8 ad gn), (aI cI (ad 42) 40 gk), (aI cI (ad 43) 40 gs), (aI cI (ad 44) 40 gd), (aI cI (ad 45) 40 ge), (aI cI (ad 46) 40 gr)] s.heap := hP
  have hl := lv_entry ([.ref (ad 5), .int i, .int w]) (n := 5) (Nat.le_of_ble_eq_true rfl)
  rw [lg_entry_eq]
  generalize (lg_sl ([.ref (ad 5), .int i, .int w]) ++ List.replicate (5 - (lg_sl ([.ref (ad 5), .int i, .int w])).length) Slot.unset).toArray = ls at hl ⊢
  have hl : lv_has ls 5 [(0, .ref (ad 5)), (1, .int i), (2, .int w)] := hl
  have k0 : (0 : Int32).toInt = 0 := by decide
  have k1 : (1 : Int32).toInt = 1 := by decide
  refine lv_iload_n hx hb dX8_paidTo_0 rfl (lv_at hl 2 rfl) ?_
  refine lv_istore_n (lv' := [(3, .int w), (0, .ref (ad 5)), (1, .int i), (2, .int w)]) hx hb dX8_paidTo_1 rfl hl (by decide) rfl (fun ls hl => ?_)
  refine lv_iconst (v := 0) hx hb dX8_paidTo_2 (by decide) ?_
  refine lv_istore (lv' := [(4, .int 0), (3, .int w), (0, .ref (ad 5)), (1, .int i), (2, .int w)]) hx hb dX8_paidTo_3 hl (by decide) rfl (fun ls hl => ?_)
  refine st_loop 5 (fun _ => []) (fun (z : Int32 × Int32) (ls : Array Slot) (H : Heap) (locs : List Loc) => match z with | (q5_3, q5_4) => (0 ≤ q5_4.toInt) ∧ (q5_4.toInt ≤ i.toInt) ∧ lv_has ls 5 [(0, .ref (ad 5)), (1, .int i), (2, .int w), (3, .int q5_3), (4, .int q5_4)] ∧ va_P D vwCl [(oC8 ad gn), (aI cI (ad 42) 40 gk), (aI cI (ad 43) 40 gs), (aI cI (ad 44) 40 gd), (aI cI (ad 45) 40 ge), (aI cI (ad 46) 40 gr)] H ∧ va_D A [(oC8 ad gn), (aI cI (ad 42) 40 gk), (aI cI (ad 43) 40 gs), (aI cI (ad 44) 40 gd), (aI cI (ad 45) 40 ge), (aI cI (ad 46) 40 gr)] ∧ va_S A s.heap H locs) (fun (z : Int32 × Int32) => match z with | (q5_3, q5_4) => i.toInt - q5_4.toInt) ?_ ?_ (w, (0 : Int32)) ⟨(by omega), (by omega), lv_sub hl [2, 3, 4, 1, 0] rfl, hP, hD, hS⟩
  · rintro ⟨q5_3, q5_4⟩ ls H locs ⟨g1, g2, hl, hP, hD, hS⟩
    show (0 : Int) ≤ i.toInt - q5_4.toInt
    omega
  · rintro n5 ih3 ⟨q5_3, q5_4⟩ ls H locs ⟨g1, g2, hl, hP, hD, hS⟩ hm4
    have hm4 : i.toInt - q5_4.toInt < (n5 : Int) + 1 := hm4
    replace hl : lv_has ls 5 [(0, .ref (ad 5)), (1, .int i), (2, .int w), (3, .int q5_3), (4, .int q5_4)] := hl
    replace hP : va_P D vwCl [(oC8 ad gn), (aI cI (ad 42) 40 gk), (aI cI (ad 43) 40 gs), (aI cI (ad 44) 40 gd), (aI cI (ad 45) 40 ge), (aI cI (ad 46) 40 gr)] H := hP
    replace hD : va_D A [(oC8 ad gn), (aI cI (ad 42) 40 gk), (aI cI (ad 43) 40 gs), (aI cI (ad 44) 40 gd), (aI cI (ad 45) 40 ge), (aI cI (ad 46) 40 gr)] := hD
    show W _ _ _ _ _ _ _ _ _ _ _ _ _ _ _ (F0 m 5 ls [])
    refine lv_iload hx hb dX8_paidTo_5 (lv_at hl 4 rfl) ?_
    refine lv_iload_n hx hb dX8_paidTo_7 rfl (lv_at hl 1 rfl) ?_
    refine lv_icmp_ge (tgt := 36) hx hb dX8_paidTo_8 (by decide) (fun c6 => ?_) (fun c6 => ?_)
    · skip
      have f7 := i_le c6
      refine lv_iload_n hx hb dX8_paidTo_36 rfl (lv_at hl 3 rfl) ?_
      refine lv_aload_n hx hb dX8_paidTo_37 rfl (lv_at hl 0 rfl) ?_
      refine va_get (D := D) (ci := 8) (v := .ref (ad 43)) (C := RX8) (T := TX8) (N := 6) hx hb hts inX8_paidTo_X8 hown hK hP 0 rfl rfl 1 (by decide) (hts (Cond.fieldLink RX8 15 "PortRooms$Pledges" "sum" "[I") (wm_t (wm_l (wm_i 0 rfl)))) (fun _ h9 => h9) rfl dX8_paidTo_38 ?_
      refine lv_aload_n hx hb dX8_paidTo_41 rfl (lv_at hl 0 rfl) ?_
      refine va_get (D := D) (ci := 8) (v := .ref (ad 46)) (C := RX8) (T := TX8) (N := 6) hx hb hts inX8_paidTo_X8 hown hK hP 0 rfl rfl 5 (by decide) (hts (Cond.fieldLink RX8 24 "PortRooms$Pledges" "order" "[I") (wm_t (wm_l (wm_i 1 rfl)))) (fun _ h9 => h9) rfl dX8_paidTo_42 ?_
      refine lv_iload_n hx hb dX8_paidTo_45 rfl (lv_at hl 1 rfl) ?_
      refine va_iald hx hb hK hP 5 0 rfl rfl (i_in (by omega) (by omega)) dX8_paidTo_46 ?_
      refine lv_topi (fun v8 ev8 => ?_)
      have qv8 := okR_at h5 ev8 (by omega) (by omega)
      refine va_iald hx hb hK hP 2 0 rfl rfl (i_in (by omega) (by omega)) dX8_paidTo_47 ?_
      refine lv_topi (fun v9 ev9 => ?_)
      refine va_mmin hx hb (hml.trans hl.1.symm) hown (hts (Cond.methodLink RX8 42 Lib.Math.min.name) (wm_t (wm_l (wm_i 2 rfl)))) (hts (Cond.static Lib.Math.min.name) (wm_t (wm_l (wm_i 3 rfl)))) (hts (Cond.initialized "java/lang/Math") (wm_t (wm_l (wm_i 4 rfl)))) (hts (Cond.code Lib.Math.min.name Lib.Math.min.code 2 (some .int)) (wm_t (wm_l (wm_i 5 rfl)))) (Nat.le_of_ble_eq_true rfl) (Nat.le_of_ble_eq_true rfl) (Nat.le_of_ble_eq_true rfl) (Nat.le_of_ble_eq_true rfl) dX8_paidTo_48 ?_
      refine lv_topi (fun v10 ev10 => ?_)
      have hP9 := hP
      have hD9 := hD
      exact W.iret (v := v10) hx hb hr (fun t ht hW => ⟨⟨v10, (), rfl, trivial, by rw [ht]; exact hP9, va_K.moved hW.alike hK, hD9⟩, hS.F ht⟩) hS.2.2 dX8_paidTo_51
    · skip
      have f11 := i_nle c6
      refine lv_iload_n hx hb dX8_paidTo_11 rfl (lv_at hl 3 rfl) ?_
      refine lv_iload_n hx hb dX8_paidTo_12 rfl (lv_at hl 3 rfl) ?_
      refine lv_aload_n hx hb dX8_paidTo_13 rfl (lv_at hl 0 rfl) ?_
      refine va_get (D := D) (ci := 8) (v := .ref (ad 43)) (C := RX8) (T := TX8) (N := 6) hx hb hts inX8_paidTo_X8 hown hK hP 0 rfl rfl 1 (by decide) (hts (Cond.fieldLink RX8 15 "PortRooms$Pledges" "sum" "[I") (wm_t (wm_l (wm_i 0 rfl)))) (fun _ h9 => h9) rfl dX8_paidTo_14 ?_
      refine lv_aload_n hx hb dX8_paidTo_17 rfl (lv_at hl 0 rfl) ?_
      refine va_get (D := D) (ci := 8) (v := .ref (ad 46)) (C := RX8) (T := TX8) (N := 6) hx hb hts inX8_paidTo_X8 hown hK hP 0 rfl rfl 5 (by decide) (hts (Cond.fieldLink RX8 24 "PortRooms$Pledges" "order" "[I") (wm_t (wm_l (wm_i 1 rfl)))) (fun _ h9 => h9) rfl dX8_paidTo_18 ?_
      refine lv_iload hx hb dX8_paidTo_21 (lv_at hl 4 rfl) ?_
      refine va_iald hx hb hK hP 5 0 rfl rfl (i_in (by omega) (by omega)) dX8_paidTo_23 ?_
      refine lv_topi (fun v12 ev12 => ?_)
      have qv12 := okR_at h5 ev12 (by omega) (by omega)
      refine va_iald hx hb hK hP 2 0 rfl rfl (i_in (by omega) (by omega)) dX8_paidTo_24 ?_
      refine lv_topi (fun v13 ev13 => ?_)
      refine va_mmin hx hb (hml.trans hl.1.symm) hown (hts (Cond.methodLink RX8 42 Lib.Math.min.name) (wm_t (wm_l (wm_i 2 rfl)))) (hts (Cond.static Lib.Math.min.name) (wm_t (wm_l (wm_i 3 rfl)))) (hts (Cond.initialized "java/lang/Math") (wm_t (wm_l (wm_i 4 rfl)))) (hts (Cond.code Lib.Math.min.name Lib.Math.min.code 2 (some .int)) (wm_t (wm_l (wm_i 5 rfl)))) (Nat.le_of_ble_eq_true rfl) (Nat.le_of_ble_eq_true rfl) (Nat.le_of_ble_eq_true rfl) (Nat.le_of_ble_eq_true rfl) dX8_paidTo_25 ?_
      refine lv_topi (fun v14 ev14 => ?_)
      refine lv_isub hx hb dX8_paidTo_28 ?_
      refine lv_topi (fun v15 ev15 => ?_)
      refine lv_istore_n (lv' := [(3, .int v15), (0, .ref (ad 5)), (1, .int i), (2, .int w), (4, .int q5_4)]) hx hb dX8_paidTo_29 rfl hl (by decide) rfl (fun ls hl => ?_)
      obtain ⟨v16, ev16⟩ : ∃ y : Int32, y = q5_4 + 1 := ⟨_, rfl⟩
      try have tv16 : v16.toInt = q5_4.toInt + 1 := by rw [ev16]; exact (i_add (x := q5_4) (y := (1 : Int32)) (by rw [k1]; omega) (by rw [k1]; omega)).trans (by rw [k1])
      refine lv_iinc (v := v16) (lv' := [(4, .int v16), (3, .int v15), (0, .ref (ad 5)), (1, .int i), (2, .int w)]) hx hb dX8_paidTo_30 hl (k := 4) rfl (by rw [ev16]; rfl) (by decide) rfl (fun ls hl => ?_)
      refine lv_goto (tgt := 5) hx hb dX8_paidTo_33 (by decide) ?_
      exact ih3 (v15, v16) ls H locs ⟨(by omega), (by omega), lv_sub hl [2, 3, 4, 1, 0] rfl, hP.sub [0, 1, 2, 3, 4, 5] rfl, hD.sub [0, 1, 2, 3, 4, 5] (by decide +kernel) rfl, hS⟩ (by show i.toInt - v16.toInt < _; omega)

set_option maxHeartbeats 4000000 in
set_option maxRecDepth 100000 in
theorem ct_X10_rank (l : Launch) (D : va_G) (cI cY cJ cQ : ClassId) (sz : Nat) (ad : Nat → Nat) (tn td lf cn gn : Int32) (wo gk gs gd ge gr : Nat → Int32) (k : Int32) (d : Int32) (zl : Int32) (i : Int32) (w : Int32)  (h1 : 0 ≤ cn.toInt) (h2 : cn.toInt ≤ 12) (h3 : 0 ≤ gn.toInt) (h4 : gn.toInt ≤ 40)  : Met l yX10_rank wsX10_rank ({ frames := 3, cells := 0, slots := 0, locals := 72 }) (cPre D (ty4 cI cY cJ cQ) [(oC10 ad tn td lf), (oC1 ad cn), (aI cI (ad 32) 12 wo), (oC8 ad gn), (aI cI (ad 42) 40 gk), (aI cI (ad 43) 40 gs), (aI cI (ad 44) 40 gd), (aI cI (ad 45) 40 ge), (aI cI (ad 46) 40 gr)] sz [.ref (ad 0), .int k, .int d, .int zl, .int i, .int w]) (va_Qi (fun (r : Int32) (u : (Nat → Int32)) => True) (cB D (ty4 cI cY cJ cQ) (fun (u : (Nat → Int32)) => [(oC10 ad tn td lf), (oC1 ad cn), (aI cI (ad 32) 12 wo), (oC8 ad gn), (aI cI (ad 42) 40 gk), (aI cI (ad 43) 40 gs), (aI cI (ad 44) 40 gd), (aI cI (ad 45) 40 ge), (aI cI (ad 46) 40 u)]) (va_A [(oC10 ad tn td lf), (oC1 ad cn), (aI cI (ad 32) 12 wo), (oC8 ad gn), (aI cI (ad 42) 40 gk), (aI cI (ad 43) 40 gs), (aI cI (ad 44) 40 gd), (aI cI (ad 45) 40 ge), (aI cI (ad 46) 40 gr)] sz)) (va_A [(oC10 ad tn td lf), (oC1 ad cn), (aI cI (ad 32) 12 wo), (oC8 ad gn), (aI cI (ad 42) 40 gk), (aI cI (ad 43) 40 gs), (aI cI (ad 44) 40 gd), (aI cI (ad 45) 40 ge), (aI cI (ad 46) 40 gr)] sz)) 0 0 (va_A [(oC10 ad tn td lf), (oC1 ad cn), (aI cI (ad 32) 12 wo), (oC8 ad gn), (aI cI (ad 42) 40 gk), (aI cI (ad 43) 40 gs), (aI cI (ad 44) 40 gd), (aI cI (ad 45) 40 ge), (aI cI (ad 46) 40 gr)] sz) := by
  refine Met.ofW (cc := cX10_rank) (maxL := 7) (ret := (some .int)) (by decide) rfl ?_
  intro p e s m args below meth c s₁ B hml hv
  obtain ⟨rfl, hsz, hP, hK, hD0, hN⟩ := hv
  have hx := B.exec
  have hb := B.bytes
  have hr := B.returns
  have hts := atoms_spec (ws := wsX10_rank) B.pre
  have hown : s.vm.findClass RX10 = some m.cls := findClass_of_methodNamed B.named
  have hlocks := B.notSynchronized
  subst hsz
  have hD := hD0.self (sz := s.heap.size)
  generalize hAe : va_A [(oC10 ad tn td lf), (oC1 ad cn), (aI cI (ad 32) 12 wo), (oC8 ad gn), (aI cI (ad 42) 40 gk), (aI cI (ad 43) 40 gs), (aI cI (ad 44) 40 gd), (aI cI (ad 45) 40 ge), (aI cI (ad 46) 40 gr)] s.heap.size = A at hD ⊢
  have hA : ∀ q : Nat, s.heap.size ≤ q → A q := fun q h => by rw [← hAe]; exact Or.inr h
  have hS : va_S A s.heap s.heap [] := va_S.rf
  have hP : va_P D vwCl [(oC10 ad tn td lf), (oC1 ad cn), (aI cI (ad 32) 12 wo), (oC8 ad gn), (aI cI (ad 42) 40 gk), (aI cI (ad 43) 40 gs), (aI cI (ad 44) 40 gd), (aI cI (ad 45) 40 ge), (aI cI (ad 46) 40 gr)] s.heap := hP
  have hl := lv_entry ([.ref (ad 0), .int k, .int d, .int zl, .int i, .int w]) (n := 7) (Nat.le_of_ble_eq_true rfl)
  rw [lg_entry_eq]
  generalize (lg_sl ([.ref (ad 0), .int k, .int d, .int zl, .int i, .int w]) ++ List.replicate (7 - (lg_sl ([.ref (ad 0), .int k, .int d, .int zl, .int i, .int w])).length) Slot.unset).toArray = ls at hl ⊢
  have hl : lv_has ls 7 [(0, .ref (ad 0)), (1, .int k), (2, .int d), (3, .int zl), (4, .int i), (5, .int w)] := hl
  have k0 : (0 : Int32).toInt = 0 := by decide
  have k2 : (2 : Int32).toInt = 2 := by decide
  have k4 : (4 : Int32).toInt = 4 := by decide
  refine lv_aload_n hx hb dX10_rank_0 rfl (lv_at hl 0 rfl) ?_
  refine lv_iload_n hx hb dX10_rank_1 rfl (lv_at hl 1 rfl) ?_
  refine st_i1 (va_runV (C := RX10) (As := [.int k]) (rest := []) ⟨hx, hb, hml, hown, hts⟩ (ct_X10_isCrate l D cI cY cJ cQ _ ad tn td lf cn k) (cwV 1 hts gX10_rank_X10_isCrate rfl rfl rfl ⟨rfl, cdX10_isCrate⟩ ⟨Nat.le_of_ble_eq_true rfl, Nat.le_of_ble_eq_true rfl⟩) (cPreV (hP.sub [0, 1] rfl) hK (hD.sub [0, 1] (by decide +kernel) rfl) hN (ci := 10) (q0 := 0) rfl rfl) rfl rfl hl.1 rfl (lv_room (Nat.le_of_ble_eq_true rfl)) dX10_rank_2 ⟨Nat.le_of_ble_eq_true rfl, Nat.le_of_ble_eq_true rfl⟩) hP hD hS hA [0, 1] rfl (fun _ => rfl) (fun r3 u1 H locs hw2 => ?_)
  clear hP hS
  intro hP hS
  replace hw2 : r3 = if 0 ≤ k.toInt ∧ k.toInt < cn.toInt then 1 else 0 := hw2
  refine lv_if_eq (tgt := 37) hx hb dX10_rank_5 (by decide) (fun c4 => ?_) (fun c4 => ?_)
  · skip
    have f5 := bo_f hw2 c4
    refine lv_ldc hx hb hown (hts (Cond.constant RX10 89 (-1000001)) (wm_t (wm_l (wm_i 0 rfl)))) dX10_rank_37 ?_
    have hP9 := hP
    have hD9 := hD
    exact W.iret (v := (-1000001)) hx hb hr (fun t ht hW => ⟨⟨(-1000001), gr, rfl, trivial, by rw [ht]; exact hP9, va_K.moved hW.alike hK, hD9⟩, hS.F ht⟩) hS.2.2 dX10_rank_39
  · skip
    have f6 := bo_t hw2 c4
    refine lv_iload_n hx hb dX10_rank_8 rfl (lv_at hl 2 rfl) ?_
    refine st_i1 (va_runS (As := [.int d]) (rest := []) ⟨hx, hb, hml, hown, hts⟩ (ct_X10_isDay l D cI cY cJ cQ _ d) (va_cwS 1 hts gX10_rank_X10_isDay rfl rfl rfl cdX10_isDay ⟨Nat.le_of_ble_eq_true rfl, Nat.le_of_ble_eq_true rfl⟩) (cPreS (hP.sub [] rfl) hK (hD.sub [] (by decide +kernel) rfl) hN) rfl rfl hl.1 rfl (lv_room (Nat.le_of_ble_eq_true rfl)) dX10_rank_9 ⟨Nat.le_of_ble_eq_true rfl, Nat.le_of_ble_eq_true rfl⟩) hP hD hS hA [] rfl (fun _ => rfl) (fun r9 u7 H locs hw8 => ?_)
    clear hP hS
    intro hP hS
    replace hw8 : r9 = if 0 ≤ d.toInt ∧ d.toInt < 10000 then 1 else 0 := hw8
    refine lv_if_eq (tgt := 37) hx hb dX10_rank_12 (by decide) (fun c10 => ?_) (fun c10 => ?_)
    · skip
      have f11 := bo_f hw8 c10
      refine lv_ldc hx hb hown (hts (Cond.constant RX10 89 (-1000001)) (wm_t (wm_l (wm_i 0 rfl)))) dX10_rank_37 ?_
      have hP9 := hP
      have hD9 := hD
      exact W.iret (v := (-1000001)) hx hb hr (fun t ht hW => ⟨⟨(-1000001), gr, rfl, trivial, by rw [ht]; exact hP9, va_K.moved hW.alike hK, hD9⟩, hS.F ht⟩) hS.2.2 dX10_rank_39
    · skip
      have f12 := bo_t hw8 c10
      refine lv_iload_n hx hb dX10_rank_15 rfl (lv_at hl 3 rfl) ?_
      refine lv_iconst (v := 4) hx hb dX10_rank_16 (by decide) ?_
      refine st_i1 (va_runS (As := [.int zl, .int 4]) (rest := []) ⟨hx, hb, hml, hown, hts⟩ (ct_X10_isBelow l D cI cY cJ cQ _ zl (4 : Int32)) (va_cwS 2 hts gX10_rank_X10_isBelow rfl rfl rfl cdX10_isBelow ⟨Nat.le_of_ble_eq_true rfl, Nat.le_of_ble_eq_true rfl⟩) (cPreS (hP.sub [] rfl) hK (hD.sub [] (by decide +kernel) rfl) hN) rfl rfl hl.1 rfl (lv_room (Nat.le_of_ble_eq_true rfl)) dX10_rank_17 ⟨Nat.le_of_ble_eq_true rfl, Nat.le_of_ble_eq_true rfl⟩) hP hD hS hA [] rfl (fun _ => rfl) (fun r15 u13 H locs hw14 => ?_)
      clear hP hS
      intro hP hS
      replace hw14 : r15 = if 0 ≤ zl.toInt ∧ zl.toInt < (4 : Int32).toInt then 1 else 0 := hw14
      refine lv_if_eq (tgt := 37) hx hb dX10_rank_20 (by decide) (fun c16 => ?_) (fun c16 => ?_)
      · skip
        have f17 := bo_f hw14 c16
        refine lv_ldc hx hb hown (hts (Cond.constant RX10 89 (-1000001)) (wm_t (wm_l (wm_i 0 rfl)))) dX10_rank_37 ?_
        have hP9 := hP
        have hD9 := hD
        exact W.iret (v := (-1000001)) hx hb hr (fun t ht hW => ⟨⟨(-1000001), gr, rfl, trivial, by rw [ht]; exact hP9, va_K.moved hW.alike hK, hD9⟩, hS.F ht⟩) hS.2.2 dX10_rank_39
      · skip
        have f18 := bo_t hw14 c16
        refine lv_iload hx hb dX10_rank_23 (lv_at hl 4 rfl) ?_
        refine lv_if_lt (tgt := 37) hx hb dX10_rank_25 (by decide) (fun c19 => ?_) (fun c19 => ?_)
        · skip
          have f20 := i_lt c19
          refine lv_ldc hx hb hown (hts (Cond.constant RX10 89 (-1000001)) (wm_t (wm_l (wm_i 0 rfl)))) dX10_rank_37 ?_
          have hP9 := hP
          have hD9 := hD
          exact W.iret (v := (-1000001)) hx hb hr (fun t ht hW => ⟨⟨(-1000001), gr, rfl, trivial, by rw [ht]; exact hP9, va_K.moved hW.alike hK, hD9⟩, hS.F ht⟩) hS.2.2 dX10_rank_39
        · skip
          have f21 := i_nlt c19
          refine lv_iload hx hb dX10_rank_28 (lv_at hl 5 rfl) ?_
          refine lv_iconst (v := 2) hx hb dX10_rank_30 (by decide) ?_
          refine st_i1 (va_runS (As := [.int w, .int 2]) (rest := []) ⟨hx, hb, hml, hown, hts⟩ (ct_X10_isBelow l D cI cY cJ cQ _ w (2 : Int32)) (va_cwS 2 hts gX10_rank_X10_isBelow rfl rfl rfl cdX10_isBelow ⟨Nat.le_of_ble_eq_true rfl, Nat.le_of_ble_eq_true rfl⟩) (cPreS (hP.sub [] rfl) hK (hD.sub [] (by decide +kernel) rfl) hN) rfl rfl hl.1 rfl (lv_room (Nat.le_of_ble_eq_true rfl)) dX10_rank_31 ⟨Nat.le_of_ble_eq_true rfl, Nat.le_of_ble_eq_true rfl⟩) hP hD hS hA [] rfl (fun _ => rfl) (fun r24 u22 H locs hw23 => ?_)
          clear hP hS
          intro hP hS
          replace hw23 : r24 = if 0 ≤ w.toInt ∧ w.toInt < (2 : Int32).toInt then 1 else 0 := hw23
          refine lv_if_ne (tgt := 40) hx hb dX10_rank_34 (by decide) (fun c25 => ?_) (fun c25 => ?_)
          · skip
            have f26 := bo_t hw23 c25
            refine lv_aload_n hx hb dX10_rank_40 rfl (lv_at hl 0 rfl) ?_
            refine va_get (D := D) (ci := 10) (v := .ref (ad 5)) (C := RX10) (T := TX10) (N := 14) hx hb hts inX10_rank_X10 hown hK hP 0 rfl rfl 4 (by decide) (hts (Cond.fieldLink RX10 40 "PortRooms" "pledges" "LPortRooms$Pledges;") (wm_t (wm_l (wm_i 1 rfl)))) (fun _ h9 => h9) rfl dX10_rank_41 ?_
            refine lv_iload_n hx hb dX10_rank_44 rfl (lv_at hl 1 rfl) ?_
            refine lv_iload_n hx hb dX10_rank_45 rfl (lv_at hl 2 rfl) ?_
            refine lv_iload_n hx hb dX10_rank_46 rfl (lv_at hl 3 rfl) ?_
            refine st_i (wr := [(oC10 ad tn td lf), (oC1 ad cn), (aI cI (ad 32) 12 wo)]) (va_runV (C := RX8) (As := [.int k, .int d, .int zl]) (rest := []) ⟨hx, hb, hml, hown, hts⟩ (ct_X8_putInOrder l D cI cY cJ cQ _ ad gn gk gs gd ge gr k d zl (by omega) (by omega)) (cwV 3 hts gX10_rank_X8_putInOrder rfl rfl rfl ⟨rfl, cdX8_putInOrder⟩ ⟨Nat.le_of_ble_eq_true rfl, Nat.le_of_ble_eq_true rfl⟩) (cPreV (hP.sub [3, 4, 5, 6, 7, 8] rfl) hK (hD.sub [3, 4, 5, 6, 7, 8] (by decide +kernel) rfl) hN (ci := 8) (q0 := 0) rfl rfl) rfl rfl hl.1 rfl (lv_room (Nat.le_of_ble_eq_true rfl)) dX10_rank_47 ⟨Nat.le_of_ble_eq_true rfl, Nat.le_of_ble_eq_true rfl⟩) hP hD hS hA [3, 4, 5, 6, 7, 8] [0, 1, 2] rfl rfl (by decide +kernel) (by decide +kernel) (fun r29 u27 H locs hw28 => ?_)
            clear hP hD hS
            intro hP hD hS
            replace hw28 : 0 ≤ r29.toInt ∧ r29.toInt ≤ gn.toInt ∧ okR r29 gn u27 := hw28
            replace hP : va_P D vwCl [(oC10 ad tn td lf), (oC1 ad cn), (aI cI (ad 32) 12 wo), (oC8 ad gn), (aI cI (ad 42) 40 gk), (aI cI (ad 43) 40 gs), (aI cI (ad 44) 40 gd), (aI cI (ad 45) 40 ge), (aI cI (ad 46) 40 u27)] H := hP
            replace hD : va_D A [(oC10 ad tn td lf), (oC1 ad cn), (aI cI (ad 32) 12 wo), (oC8 ad gn), (aI cI (ad 42) 40 gk), (aI cI (ad 43) 40 gs), (aI cI (ad 44) 40 gd), (aI cI (ad 45) 40 ge), (aI cI (ad 46) 40 u27)] := hD
            obtain ⟨hw28a, hw28b, hw28c⟩ := hw28
            refine lv_istore (lv' := [(6, .int r29), (0, .ref (ad 0)), (1, .int k), (2, .int d), (3, .int zl), (4, .int i), (5, .int w)]) hx hb dX10_rank_50 hl (by decide) rfl (fun ls hl => ?_)
            refine lv_iload hx hb dX10_rank_52 (lv_at hl 5 rfl) ?_
            refine lv_iload hx hb dX10_rank_54 (lv_at hl 0 rfl) ?_
            refine lv_icmp_lt (tgt := 62) hx hb dX10_rank_56 (by decide) (fun c30 => ?_) (fun c30 => ?_)
            · skip
              have f31 := i_lt c30
              refine lv_iload hx hb dX10_rank_62 (lv_at hl 6 rfl) ?_
              refine lv_if_ne (tgt := 80) hx hb dX10_rank_64 (by decide) (fun c32 => ?_) (fun c32 => ?_)
              · skip
                have f33 := i_ne c32
                refine lv_aload_n hx hb dX10_rank_80 rfl (lv_at hl 1 rfl) ?_
                refine va_get (D := D) (ci := 10) (v := .ref (ad 5)) (C := RX10) (T := TX10) (N := 14) hx hb hts inX10_rank_X10 hown hK hP 0 rfl rfl 4 (by decide) (hts (Cond.fieldLink RX10 40 "PortRooms" "pledges" "LPortRooms$Pledges;") (wm_t (wm_l (wm_i 1 rfl)))) (fun _ h9 => h9) rfl dX10_rank_81 ?_
                refine lv_iload hx hb dX10_rank_84 (lv_at hl 5 rfl) ?_
                refine lv_aload_n hx hb dX10_rank_86 rfl (lv_at hl 1 rfl) ?_
                refine va_get (D := D) (ci := 10) (v := .ref (ad 3)) (C := RX10) (T := TX10) (N := 14) hx hb hts inX10_rank_X10 hown hK hP 0 rfl rfl 2 (by decide) (hts (Cond.fieldLink RX10 26 "PortRooms" "crates" "LPortRooms$Crates;") (wm_t (wm_l (wm_i 4 rfl)))) (fun _ h9 => h9) rfl dX10_rank_87 ?_
                refine va_get (D := D) (ci := 1) (v := .ref (ad 32)) (C := RX1) (T := TX1) (N := 6) hx hb hts inX10_rank_X1 hown hK hP 1 rfl rfl 1 (by decide) (hts (Cond.fieldLink RX10 207 "PortRooms$Crates" "worth" "[I") (wm_t (wm_l (wm_i 5 rfl)))) (fun _ h9 => h9) rfl dX10_rank_90 ?_
                refine lv_iload_n hx hb dX10_rank_93 rfl (lv_at hl 2 rfl) ?_
                refine va_iald hx hb hK hP 2 0 rfl rfl (i_in (by omega) (by omega)) dX10_rank_94 ?_
                refine lv_topi (fun v34 ev34 => ?_)
                refine st_i1 (va_runV (C := RX8) (As := [.int i, .int v34]) (rest := []) ⟨hx, hb, hml, hown, hts⟩ (ct_X8_paidTo l D cI cY cJ cQ _ ad gn gk gs gd ge u27 i v34 r29 (by omega) (by omega) (by omega) (by omega) (by assumption)) (cwV 2 hts gX10_rank_X8_paidTo rfl rfl rfl ⟨rfl, cdX8_paidTo⟩ ⟨Nat.le_of_ble_eq_true rfl, Nat.le_of_ble_eq_true rfl⟩) (cPreV (hP.sub [3, 4, 5, 6, 7, 8] rfl) hK (hD.sub [3, 4, 5, 6, 7, 8] (by decide +kernel) rfl) hN (ci := 8) (q0 := 0) rfl rfl) rfl rfl hl.1 rfl (lv_room (Nat.le_of_ble_eq_true rfl)) dX10_rank_95 ⟨Nat.le_of_ble_eq_true rfl, Nat.le_of_ble_eq_true rfl⟩) hP hD hS hA [3, 4, 5, 6, 7, 8] rfl (fun _ => rfl) (fun r37 u35 H locs hw36 => ?_)
                clear hP hS
                intro hP hS
                replace hw36 : True := hw36
                have hP9 := hP
                have hD9 := hD
                exact W.iret (v := r37) hx hb hr (fun t ht hW => ⟨⟨r37, u27, rfl, trivial, by rw [ht]; exact hP9, va_K.moved hW.alike hK, hD9⟩, hS.F ht⟩) hS.2.2 dX10_rank_98
              · skip
                have f38 := i_eq c32
                refine lv_aload_n hx hb dX10_rank_67 rfl (lv_at hl 1 rfl) ?_
                refine va_get (D := D) (ci := 10) (v := .ref (ad 5)) (C := RX10) (T := TX10) (N := 14) hx hb hts inX10_rank_X10 hown hK hP 0 rfl rfl 4 (by decide) (hts (Cond.fieldLink RX10 40 "PortRooms" "pledges" "LPortRooms$Pledges;") (wm_t (wm_l (wm_i 1 rfl)))) (fun _ h9 => h9) rfl dX10_rank_68 ?_
                refine va_get (D := D) (ci := 8) (v := .ref (ad 46)) (C := RX8) (T := TX8) (N := 6) hx hb hts inX10_rank_X8 hown hK hP 3 rfl rfl 5 (by decide) (hts (Cond.fieldLink RX10 204 "PortRooms$Pledges" "order" "[I") (wm_t (wm_l (wm_i 3 rfl)))) (fun _ h9 => h9) rfl dX10_rank_71 ?_
                refine lv_iload hx hb dX10_rank_74 (lv_at hl 5 rfl) ?_
                refine va_iald hx hb hK hP 8 0 rfl rfl (i_in (by omega) (by omega)) dX10_rank_76 ?_
                refine lv_topi (fun v39 ev39 => ?_)
                refine lv_goto (tgt := 98) hx hb dX10_rank_77 (by decide) ?_
                have hP9 := hP
                have hD9 := hD
                exact W.iret (v := v39) hx hb hr (fun t ht hW => ⟨⟨v39, u27, rfl, trivial, by rw [ht]; exact hP9, va_K.moved hW.alike hK, hD9⟩, hS.F ht⟩) hS.2.2 dX10_rank_98
            · skip
              have f40 := i_nlt c30
              refine lv_ldc hx hb hown (hts (Cond.constant RX10 169 (-1000000)) (wm_t (wm_l (wm_i 2 rfl)))) dX10_rank_59 ?_
              have hP9 := hP
              have hD9 := hD
              exact W.iret (v := (-1000000)) hx hb hr (fun t ht hW => ⟨⟨(-1000000), u27, rfl, trivial, by rw [ht]; exact hP9, va_K.moved hW.alike hK, hD9⟩, hS.F ht⟩) hS.2.2 dX10_rank_61
          · skip
            have f41 := bo_f hw23 c25
            refine lv_ldc hx hb hown (hts (Cond.constant RX10 89 (-1000001)) (wm_t (wm_l (wm_i 0 rfl)))) dX10_rank_37 ?_
            have hP9 := hP
            have hD9 := hD
            exact W.iret (v := (-1000001)) hx hb hr (fun t ht hW => ⟨⟨(-1000001), gr, rfl, trivial, by rw [ht]; exact hP9, va_K.moved hW.alike hK, hD9⟩, hS.F ht⟩) hS.2.2 dX10_rank_39
end
