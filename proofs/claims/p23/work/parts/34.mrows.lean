theorem cdX11_findHas : yX11_findHas.cls ≠ "java/lang/invoke/MethodHandle" ∧ yX11_findHas.cls ≠ "java/lang/invoke/VarHandle" ∧ (parseMethodDescriptor yX11_findHas.desc).map (fun d => d.parameters.length) = some 1 := by decide +kernel
theorem cdX11_rowsTo : yX11_rowsTo.cls ≠ "java/lang/invoke/MethodHandle" ∧ yX11_rowsTo.cls ≠ "java/lang/invoke/VarHandle" ∧ (parseMethodDescriptor yX11_rowsTo.desc).map (fun d => d.parameters.length) = some 2 := by decide +kernel
theorem cdX11_shareOf : yX11_shareOf.cls ≠ "java/lang/invoke/MethodHandle" ∧ yX11_shareOf.cls ≠ "java/lang/invoke/VarHandle" ∧ (parseMethodDescriptor yX11_shareOf.desc).map (fun d => d.parameters.length) = some 3 := by decide +kernel
theorem inX11_rowsTo_X11 : ∀ w ∈ u_ws RX11 TX11 64, w ∈ wsX11_rowsTo := fun _ h => (List.mem_cons_of_mem _ (List.mem_append_right _ h))
theorem inX11_share_X11 : ∀ w ∈ u_ws RX11 TX11 64, w ∈ wsX11_share := fun _ h => (List.mem_cons_of_mem _ (List.mem_append_right _ h))
theorem inX11_truly_X11 : ∀ w ∈ u_ws RX11 TX11 64, w ∈ wsX11_truly := fun _ h => (List.mem_cons_of_mem _ (List.mem_append_right _ h))
theorem inX11_rings_X11 : ∀ w ∈ u_ws RX11 TX11 64, w ∈ wsX11_rings := fun _ h => (List.mem_cons_of_mem _ (List.mem_append_right _ h))
theorem dX11_rowsTo_all0 : decode cX11_rowsTo 0 = .ok (.lconst 0, 1) ∧ decode cX11_rowsTo 1 = .ok (.lstore_n 3, 1) ∧ decode cX11_rowsTo 2 = .ok (.iconst 0, 1) ∧ decode cX11_rowsTo 3 = .ok (.istore 5, 2) ∧ decode cX11_rowsTo 5 = .ok (.iconst 0, 1) ∧ decode cX11_rowsTo 6 = .ok (.istore 6, 2) ∧ decode cX11_rowsTo 8 = .ok (.aload_n 0, 1) ∧ decode cX11_rowsTo 9 = .ok (.getfield 38, 3) ∧ decode cX11_rowsTo 12 = .ok (.iconst 0, 1) ∧ decode cX11_rowsTo 13 = .ok (.iload_n 1, 1) ∧ decode cX11_rowsTo 14 = .ok (.iastore, 1) ∧ decode cX11_rowsTo 15 = .ok (.aload_n 0, 1) := by decide +kernel
theorem dX11_rowsTo_0 : decode cX11_rowsTo 0 = .ok (.lconst 0, 1) := dX11_rowsTo_all0.1
theorem dX11_rowsTo_1 : decode cX11_rowsTo 1 = .ok (.lstore_n 3, 1) := dX11_rowsTo_all0.2.1
theorem dX11_rowsTo_2 : decode cX11_rowsTo 2 = .ok (.iconst 0, 1) := dX11_rowsTo_all0.2.2.1
theorem dX11_rowsTo_3 : decode cX11_rowsTo 3 = .ok (.istore 5, 2) := dX11_rowsTo_all0.2.2.2.1
theorem dX11_rowsTo_5 : decode cX11_rowsTo 5 = .ok (.iconst 0, 1) := dX11_rowsTo_all0.2.2.2.2.1
theorem dX11_rowsTo_6 : decode cX11_rowsTo 6 = .ok (.istore 6, 2) := dX11_rowsTo_all0.2.2.2.2.2.1
theorem dX11_rowsTo_8 : decode cX11_rowsTo 8 = .ok (.aload_n 0, 1) := dX11_rowsTo_all0.2.2.2.2.2.2.1
theorem dX11_rowsTo_9 : decode cX11_rowsTo 9 = .ok (.getfield 38, 3) := dX11_rowsTo_all0.2.2.2.2.2.2.2.1
theorem dX11_rowsTo_12 : decode cX11_rowsTo 12 = .ok (.iconst 0, 1) := dX11_rowsTo_all0.2.2.2.2.2.2.2.2.1
theorem dX11_rowsTo_13 : decode cX11_rowsTo 13 = .ok (.iload_n 1, 1) := dX11_rowsTo_all0.2.2.2.2.2.2.2.2.2.1
theorem dX11_rowsTo_14 : decode cX11_rowsTo 14 = .ok (.iastore, 1) := dX11_rowsTo_all0.2.2.2.2.2.2.2.2.2.2.1
theorem dX11_rowsTo_15 : decode cX11_rowsTo 15 = .ok (.aload_n 0, 1) := dX11_rowsTo_all0.2.2.2.2.2.2.2.2.2.2.2
theorem dX11_rowsTo_all1 : decode cX11_rowsTo 16 = .ok (.getfield 44, 3) ∧ decode cX11_rowsTo 19 = .ok (.iconst 0, 1) ∧ decode cX11_rowsTo 20 = .ok (.ldc2_w 195, 3) ∧ decode cX11_rowsTo 23 = .ok (.lastore, 1) ∧ decode cX11_rowsTo 24 = .ok (.aload_n 0, 1) ∧ decode cX11_rowsTo 25 = .ok (.getfield 41, 3) ∧ decode cX11_rowsTo 28 = .ok (.iconst 0, 1) ∧ decode cX11_rowsTo 29 = .ok (.iconst (-1), 1) ∧ decode cX11_rowsTo 30 = .ok (.iastore, 1) ∧ decode cX11_rowsTo 31 = .ok (.iload 5, 2) ∧ decode cX11_rowsTo 33 = .ok (.ifCond .lt 180, 3) ∧ decode cX11_rowsTo 36 = .ok (.aload_n 0, 1) := by decide +kernel
theorem dX11_rowsTo_16 : decode cX11_rowsTo 16 = .ok (.getfield 44, 3) := dX11_rowsTo_all1.1
theorem dX11_rowsTo_19 : decode cX11_rowsTo 19 = .ok (.iconst 0, 1) := dX11_rowsTo_all1.2.1
theorem dX11_rowsTo_20 : decode cX11_rowsTo 20 = .ok (.ldc2_w 195, 3) := dX11_rowsTo_all1.2.2.1
theorem dX11_rowsTo_23 : decode cX11_rowsTo 23 = .ok (.lastore, 1) := dX11_rowsTo_all1.2.2.2.1
theorem dX11_rowsTo_24 : decode cX11_rowsTo 24 = .ok (.aload_n 0, 1) := dX11_rowsTo_all1.2.2.2.2.1
theorem dX11_rowsTo_25 : decode cX11_rowsTo 25 = .ok (.getfield 41, 3) := dX11_rowsTo_all1.2.2.2.2.2.1
theorem dX11_rowsTo_28 : decode cX11_rowsTo 28 = .ok (.iconst 0, 1) := dX11_rowsTo_all1.2.2.2.2.2.2.1
theorem dX11_rowsTo_29 : decode cX11_rowsTo 29 = .ok (.iconst (-1), 1) := dX11_rowsTo_all1.2.2.2.2.2.2.2.1
theorem dX11_rowsTo_30 : decode cX11_rowsTo 30 = .ok (.iastore, 1) := dX11_rowsTo_all1.2.2.2.2.2.2.2.2.1
theorem dX11_rowsTo_31 : decode cX11_rowsTo 31 = .ok (.iload 5, 2) := dX11_rowsTo_all1.2.2.2.2.2.2.2.2.2.1
theorem dX11_rowsTo_33 : decode cX11_rowsTo 33 = .ok (.ifCond .lt 180, 3) := dX11_rowsTo_all1.2.2.2.2.2.2.2.2.2.2.1
theorem dX11_rowsTo_36 : decode cX11_rowsTo 36 = .ok (.aload_n 0, 1) := dX11_rowsTo_all1.2.2.2.2.2.2.2.2.2.2.2
theorem dX11_rowsTo_all2 : decode cX11_rowsTo 37 = .ok (.getfield 41, 3) ∧ decode cX11_rowsTo 40 = .ok (.iload 5, 2) ∧ decode cX11_rowsTo 42 = .ok (.dup2, 1) ∧ decode cX11_rowsTo 43 = .ok (.iaload, 1) ∧ decode cX11_rowsTo 44 = .ok (.iconst 1, 1) ∧ decode cX11_rowsTo 45 = .ok (.iadd, 1) ∧ decode cX11_rowsTo 46 = .ok (.iastore, 1) ∧ decode cX11_rowsTo 47 = .ok (.aload_n 0, 1) ∧ decode cX11_rowsTo 48 = .ok (.getfield 41, 3) ∧ decode cX11_rowsTo 51 = .ok (.iload 5, 2) ∧ decode cX11_rowsTo 53 = .ok (.iaload, 1) ∧ decode cX11_rowsTo 54 = .ok (.istore 7, 2) := by decide +kernel
theorem dX11_rowsTo_37 : decode cX11_rowsTo 37 = .ok (.getfield 41, 3) := dX11_rowsTo_all2.1
theorem dX11_rowsTo_40 : decode cX11_rowsTo 40 = .ok (.iload 5, 2) := dX11_rowsTo_all2.2.1
theorem dX11_rowsTo_42 : decode cX11_rowsTo 42 = .ok (.dup2, 1) := dX11_rowsTo_all2.2.2.1
theorem dX11_rowsTo_43 : decode cX11_rowsTo 43 = .ok (.iaload, 1) := dX11_rowsTo_all2.2.2.2.1
theorem dX11_rowsTo_44 : decode cX11_rowsTo 44 = .ok (.iconst 1, 1) := dX11_rowsTo_all2.2.2.2.2.1
theorem dX11_rowsTo_45 : decode cX11_rowsTo 45 = .ok (.iadd, 1) := dX11_rowsTo_all2.2.2.2.2.2.1
theorem dX11_rowsTo_46 : decode cX11_rowsTo 46 = .ok (.iastore, 1) := dX11_rowsTo_all2.2.2.2.2.2.2.1
theorem dX11_rowsTo_47 : decode cX11_rowsTo 47 = .ok (.aload_n 0, 1) := dX11_rowsTo_all2.2.2.2.2.2.2.2.1
theorem dX11_rowsTo_48 : decode cX11_rowsTo 48 = .ok (.getfield 41, 3) := dX11_rowsTo_all2.2.2.2.2.2.2.2.2.1
theorem dX11_rowsTo_51 : decode cX11_rowsTo 51 = .ok (.iload 5, 2) := dX11_rowsTo_all2.2.2.2.2.2.2.2.2.2.1
theorem dX11_rowsTo_53 : decode cX11_rowsTo 53 = .ok (.iaload, 1) := dX11_rowsTo_all2.2.2.2.2.2.2.2.2.2.2.1
theorem dX11_rowsTo_54 : decode cX11_rowsTo 54 = .ok (.istore 7, 2) := dX11_rowsTo_all2.2.2.2.2.2.2.2.2.2.2.2
theorem dX11_rowsTo_all3 : decode cX11_rowsTo 56 = .ok (.iload 7, 2) ∧ decode cX11_rowsTo 58 = .ok (.bipush 10, 2) ∧ decode cX11_rowsTo 60 = .ok (.if_icmp .ne 33, 3) ∧ decode cX11_rowsTo 63 = .ok (.iload 5, 2) ∧ decode cX11_rowsTo 65 = .ok (.ifCond .le 22, 3) ∧ decode cX11_rowsTo 68 = .ok (.iload 6, 2) ∧ decode cX11_rowsTo 70 = .ok (.iconst 1, 1) ∧ decode cX11_rowsTo 71 = .ok (.aload_n 0, 1) ∧ decode cX11_rowsTo 72 = .ok (.getfield 38, 3) ∧ decode cX11_rowsTo 75 = .ok (.iload 5, 2) ∧ decode cX11_rowsTo 77 = .ok (.iaload, 1) ∧ decode cX11_rowsTo 78 = .ok (.bipush 10, 2) := by decide +kernel
theorem dX11_rowsTo_56 : decode cX11_rowsTo 56 = .ok (.iload 7, 2) := dX11_rowsTo_all3.1
theorem dX11_rowsTo_58 : decode cX11_rowsTo 58 = .ok (.bipush 10, 2) := dX11_rowsTo_all3.2.1
theorem dX11_rowsTo_60 : decode cX11_rowsTo 60 = .ok (.if_icmp .ne 33, 3) := dX11_rowsTo_all3.2.2.1
theorem dX11_rowsTo_63 : decode cX11_rowsTo 63 = .ok (.iload 5, 2) := dX11_rowsTo_all3.2.2.2.1
theorem dX11_rowsTo_65 : decode cX11_rowsTo 65 = .ok (.ifCond .le 22, 3) := dX11_rowsTo_all3.2.2.2.2.1
theorem dX11_rowsTo_68 : decode cX11_rowsTo 68 = .ok (.iload 6, 2) := dX11_rowsTo_all3.2.2.2.2.2.1
theorem dX11_rowsTo_70 : decode cX11_rowsTo 70 = .ok (.iconst 1, 1) := dX11_rowsTo_all3.2.2.2.2.2.2.1
theorem dX11_rowsTo_71 : decode cX11_rowsTo 71 = .ok (.aload_n 0, 1) := dX11_rowsTo_all3.2.2.2.2.2.2.2.1
theorem dX11_rowsTo_72 : decode cX11_rowsTo 72 = .ok (.getfield 38, 3) := dX11_rowsTo_all3.2.2.2.2.2.2.2.2.1
theorem dX11_rowsTo_75 : decode cX11_rowsTo 75 = .ok (.iload 5, 2) := dX11_rowsTo_all3.2.2.2.2.2.2.2.2.2.1
theorem dX11_rowsTo_77 : decode cX11_rowsTo 77 = .ok (.iaload, 1) := dX11_rowsTo_all3.2.2.2.2.2.2.2.2.2.2.1
theorem dX11_rowsTo_78 : decode cX11_rowsTo 78 = .ok (.bipush 10, 2) := dX11_rowsTo_all3.2.2.2.2.2.2.2.2.2.2.2
theorem dX11_rowsTo_all4 : decode cX11_rowsTo 80 = .ok (.isub, 1) ∧ decode cX11_rowsTo 81 = .ok (.ishl, 1) ∧ decode cX11_rowsTo 82 = .ok (.iconst (-1), 1) ∧ decode cX11_rowsTo 83 = .ok (.ixor, 1) ∧ decode cX11_rowsTo 84 = .ok (.iand, 1) ∧ decode cX11_rowsTo 85 = .ok (.istore 6, 2) ∧ decode cX11_rowsTo 87 = .ok (.iinc 5 (-1), 3) ∧ decode cX11_rowsTo 90 = .ok (.goto 120, 3) ∧ decode cX11_rowsTo 93 = .ok (.aload_n 0, 1) ∧ decode cX11_rowsTo 94 = .ok (.getfield 35, 3) ∧ decode cX11_rowsTo 97 = .ok (.bipush 10, 2) ∧ decode cX11_rowsTo 99 = .ok (.aload_n 0, 1) := by decide +kernel
theorem dX11_rowsTo_80 : decode cX11_rowsTo 80 = .ok (.isub, 1) := dX11_rowsTo_all4.1
theorem dX11_rowsTo_81 : decode cX11_rowsTo 81 = .ok (.ishl, 1) := dX11_rowsTo_all4.2.1
theorem dX11_rowsTo_82 : decode cX11_rowsTo 82 = .ok (.iconst (-1), 1) := dX11_rowsTo_all4.2.2.1
theorem dX11_rowsTo_83 : decode cX11_rowsTo 83 = .ok (.ixor, 1) := dX11_rowsTo_all4.2.2.2.1
theorem dX11_rowsTo_84 : decode cX11_rowsTo 84 = .ok (.iand, 1) := dX11_rowsTo_all4.2.2.2.2.1
theorem dX11_rowsTo_85 : decode cX11_rowsTo 85 = .ok (.istore 6, 2) := dX11_rowsTo_all4.2.2.2.2.2.1
theorem dX11_rowsTo_87 : decode cX11_rowsTo 87 = .ok (.iinc 5 (-1), 3) := dX11_rowsTo_all4.2.2.2.2.2.2.1
theorem dX11_rowsTo_90 : decode cX11_rowsTo 90 = .ok (.goto 120, 3) := dX11_rowsTo_all4.2.2.2.2.2.2.2.1
theorem dX11_rowsTo_93 : decode cX11_rowsTo 93 = .ok (.aload_n 0, 1) := dX11_rowsTo_all4.2.2.2.2.2.2.2.2.1
theorem dX11_rowsTo_94 : decode cX11_rowsTo 94 = .ok (.getfield 35, 3) := dX11_rowsTo_all4.2.2.2.2.2.2.2.2.2.1
theorem dX11_rowsTo_97 : decode cX11_rowsTo 97 = .ok (.bipush 10, 2) := dX11_rowsTo_all4.2.2.2.2.2.2.2.2.2.2.1
theorem dX11_rowsTo_99 : decode cX11_rowsTo 99 = .ok (.aload_n 0, 1) := dX11_rowsTo_all4.2.2.2.2.2.2.2.2.2.2.2
theorem dX11_rowsTo_all5 : decode cX11_rowsTo 100 = .ok (.getfield 38, 3) ∧ decode cX11_rowsTo 103 = .ok (.iload 5, 2) ∧ decode cX11_rowsTo 105 = .ok (.iaload, 1) ∧ decode cX11_rowsTo 106 = .ok (.imul, 1) ∧ decode cX11_rowsTo 107 = .ok (.iload 7, 2) ∧ decode cX11_rowsTo 109 = .ok (.iadd, 1) ∧ decode cX11_rowsTo 110 = .ok (.iaload, 1) ∧ decode cX11_rowsTo 111 = .ok (.istore 8, 2) ∧ decode cX11_rowsTo 113 = .ok (.iload 8, 2) ∧ decode cX11_rowsTo 115 = .ok (.ifCond .le 95, 3) ∧ decode cX11_rowsTo 118 = .ok (.iload 6, 2) ∧ decode cX11_rowsTo 120 = .ok (.iload 7, 2) := by decide +kernel
theorem dX11_rowsTo_100 : decode cX11_rowsTo 100 = .ok (.getfield 38, 3) := dX11_rowsTo_all5.1
theorem dX11_rowsTo_103 : decode cX11_rowsTo 103 = .ok (.iload 5, 2) := dX11_rowsTo_all5.2.1
theorem dX11_rowsTo_105 : decode cX11_rowsTo 105 = .ok (.iaload, 1) := dX11_rowsTo_all5.2.2.1
theorem dX11_rowsTo_106 : decode cX11_rowsTo 106 = .ok (.imul, 1) := dX11_rowsTo_all5.2.2.2.1
theorem dX11_rowsTo_107 : decode cX11_rowsTo 107 = .ok (.iload 7, 2) := dX11_rowsTo_all5.2.2.2.2.1
theorem dX11_rowsTo_109 : decode cX11_rowsTo 109 = .ok (.iadd, 1) := dX11_rowsTo_all5.2.2.2.2.2.1
theorem dX11_rowsTo_110 : decode cX11_rowsTo 110 = .ok (.iaload, 1) := dX11_rowsTo_all5.2.2.2.2.2.2.1
theorem dX11_rowsTo_111 : decode cX11_rowsTo 111 = .ok (.istore 8, 2) := dX11_rowsTo_all5.2.2.2.2.2.2.2.1
theorem dX11_rowsTo_113 : decode cX11_rowsTo 113 = .ok (.iload 8, 2) := dX11_rowsTo_all5.2.2.2.2.2.2.2.2.1
theorem dX11_rowsTo_115 : decode cX11_rowsTo 115 = .ok (.ifCond .le 95, 3) := dX11_rowsTo_all5.2.2.2.2.2.2.2.2.2.1
theorem dX11_rowsTo_118 : decode cX11_rowsTo 118 = .ok (.iload 6, 2) := dX11_rowsTo_all5.2.2.2.2.2.2.2.2.2.2.1
theorem dX11_rowsTo_120 : decode cX11_rowsTo 120 = .ok (.iload 7, 2) := dX11_rowsTo_all5.2.2.2.2.2.2.2.2.2.2.2
theorem dX11_rowsTo_all6 : decode cX11_rowsTo 122 = .ok (.ishr, 1) ∧ decode cX11_rowsTo 123 = .ok (.iconst 1, 1) ∧ decode cX11_rowsTo 124 = .ok (.iand, 1) ∧ decode cX11_rowsTo 125 = .ok (.ifCond .ne 85, 3) ∧ decode cX11_rowsTo 128 = .ok (.aload_n 0, 1) ∧ decode cX11_rowsTo 129 = .ok (.getfield 44, 3) ∧ decode cX11_rowsTo 132 = .ok (.iload 5, 2) ∧ decode cX11_rowsTo 134 = .ok (.laload, 1) ∧ decode cX11_rowsTo 135 = .ok (.iload 8, 2) ∧ decode cX11_rowsTo 137 = .ok (.i2l, 1) ∧ decode cX11_rowsTo 138 = .ok (.lmul, 1) ∧ decode cX11_rowsTo 139 = .ok (.ldc2_w 176, 3) := by decide +kernel
theorem dX11_rowsTo_122 : decode cX11_rowsTo 122 = .ok (.ishr, 1) := dX11_rowsTo_all6.1
theorem dX11_rowsTo_123 : decode cX11_rowsTo 123 = .ok (.iconst 1, 1) := dX11_rowsTo_all6.2.1
theorem dX11_rowsTo_124 : decode cX11_rowsTo 124 = .ok (.iand, 1) := dX11_rowsTo_all6.2.2.1
theorem dX11_rowsTo_125 : decode cX11_rowsTo 125 = .ok (.ifCond .ne 85, 3) := dX11_rowsTo_all6.2.2.2.1
theorem dX11_rowsTo_128 : decode cX11_rowsTo 128 = .ok (.aload_n 0, 1) := dX11_rowsTo_all6.2.2.2.2.1
theorem dX11_rowsTo_129 : decode cX11_rowsTo 129 = .ok (.getfield 44, 3) := dX11_rowsTo_all6.2.2.2.2.2.1
theorem dX11_rowsTo_132 : decode cX11_rowsTo 132 = .ok (.iload 5, 2) := dX11_rowsTo_all6.2.2.2.2.2.2.1
theorem dX11_rowsTo_134 : decode cX11_rowsTo 134 = .ok (.laload, 1) := dX11_rowsTo_all6.2.2.2.2.2.2.2.1
theorem dX11_rowsTo_135 : decode cX11_rowsTo 135 = .ok (.iload 8, 2) := dX11_rowsTo_all6.2.2.2.2.2.2.2.2.1
theorem dX11_rowsTo_137 : decode cX11_rowsTo 137 = .ok (.i2l, 1) := dX11_rowsTo_all6.2.2.2.2.2.2.2.2.2.1
theorem dX11_rowsTo_138 : decode cX11_rowsTo 138 = .ok (.lmul, 1) := dX11_rowsTo_all6.2.2.2.2.2.2.2.2.2.2.1
theorem dX11_rowsTo_139 : decode cX11_rowsTo 139 = .ok (.ldc2_w 176, 3) := dX11_rowsTo_all6.2.2.2.2.2.2.2.2.2.2.2
theorem dX11_rowsTo_all7 : decode cX11_rowsTo 142 = .ok (.ldiv, 1) ∧ decode cX11_rowsTo 143 = .ok (.lstore 9, 2) ∧ decode cX11_rowsTo 145 = .ok (.iload 7, 2) ∧ decode cX11_rowsTo 147 = .ok (.bipush 10, 2) ∧ decode cX11_rowsTo 149 = .ok (.iadd, 1) ∧ decode cX11_rowsTo 150 = .ok (.iload_n 2, 1) ∧ decode cX11_rowsTo 151 = .ok (.if_icmp .ne 11, 3) ∧ decode cX11_rowsTo 154 = .ok (.lload_n 3, 1) ∧ decode cX11_rowsTo 155 = .ok (.lload 9, 2) ∧ decode cX11_rowsTo 157 = .ok (.ladd, 1) ∧ decode cX11_rowsTo 158 = .ok (.lstore_n 3, 1) ∧ decode cX11_rowsTo 159 = .ok (.goto 51, 3) := by decide +kernel
theorem dX11_rowsTo_142 : decode cX11_rowsTo 142 = .ok (.ldiv, 1) := dX11_rowsTo_all7.1
theorem dX11_rowsTo_143 : decode cX11_rowsTo 143 = .ok (.lstore 9, 2) := dX11_rowsTo_all7.2.1
theorem dX11_rowsTo_145 : decode cX11_rowsTo 145 = .ok (.iload 7, 2) := dX11_rowsTo_all7.2.2.1
theorem dX11_rowsTo_147 : decode cX11_rowsTo 147 = .ok (.bipush 10, 2) := dX11_rowsTo_all7.2.2.2.1
theorem dX11_rowsTo_149 : decode cX11_rowsTo 149 = .ok (.iadd, 1) := dX11_rowsTo_all7.2.2.2.2.1
theorem dX11_rowsTo_150 : decode cX11_rowsTo 150 = .ok (.iload_n 2, 1) := dX11_rowsTo_all7.2.2.2.2.2.1
theorem dX11_rowsTo_151 : decode cX11_rowsTo 151 = .ok (.if_icmp .ne 11, 3) := dX11_rowsTo_all7.2.2.2.2.2.2.1
theorem dX11_rowsTo_154 : decode cX11_rowsTo 154 = .ok (.lload_n 3, 1) := dX11_rowsTo_all7.2.2.2.2.2.2.2.1
theorem dX11_rowsTo_155 : decode cX11_rowsTo 155 = .ok (.lload 9, 2) := dX11_rowsTo_all7.2.2.2.2.2.2.2.2.1
theorem dX11_rowsTo_157 : decode cX11_rowsTo 157 = .ok (.ladd, 1) := dX11_rowsTo_all7.2.2.2.2.2.2.2.2.2.1
theorem dX11_rowsTo_158 : decode cX11_rowsTo 158 = .ok (.lstore_n 3, 1) := dX11_rowsTo_all7.2.2.2.2.2.2.2.2.2.2.1
theorem dX11_rowsTo_159 : decode cX11_rowsTo 159 = .ok (.goto 51, 3) := dX11_rowsTo_all7.2.2.2.2.2.2.2.2.2.2.2
theorem dX11_rowsTo_all8 : decode cX11_rowsTo 162 = .ok (.lload 9, 2) ∧ decode cX11_rowsTo 164 = .ok (.lconst 0, 1) ∧ decode cX11_rowsTo 165 = .ok (.lcmp, 1) ∧ decode cX11_rowsTo 166 = .ok (.ifCond .le 44, 3) ∧ decode cX11_rowsTo 169 = .ok (.iload 6, 2) ∧ decode cX11_rowsTo 171 = .ok (.iconst 1, 1) ∧ decode cX11_rowsTo 172 = .ok (.iload 7, 2) ∧ decode cX11_rowsTo 174 = .ok (.ishl, 1) ∧ decode cX11_rowsTo 175 = .ok (.ior, 1) ∧ decode cX11_rowsTo 176 = .ok (.istore 6, 2) ∧ decode cX11_rowsTo 178 = .ok (.iinc 5 1, 3) ∧ decode cX11_rowsTo 181 = .ok (.aload_n 0, 1) := by decide +kernel
theorem dX11_rowsTo_162 : decode cX11_rowsTo 162 = .ok (.lload 9, 2) := dX11_rowsTo_all8.1
theorem dX11_rowsTo_164 : decode cX11_rowsTo 164 = .ok (.lconst 0, 1) := dX11_rowsTo_all8.2.1
theorem dX11_rowsTo_165 : decode cX11_rowsTo 165 = .ok (.lcmp, 1) := dX11_rowsTo_all8.2.2.1
theorem dX11_rowsTo_166 : decode cX11_rowsTo 166 = .ok (.ifCond .le 44, 3) := dX11_rowsTo_all8.2.2.2.1
theorem dX11_rowsTo_169 : decode cX11_rowsTo 169 = .ok (.iload 6, 2) := dX11_rowsTo_all8.2.2.2.2.1
theorem dX11_rowsTo_171 : decode cX11_rowsTo 171 = .ok (.iconst 1, 1) := dX11_rowsTo_all8.2.2.2.2.2.1
theorem dX11_rowsTo_172 : decode cX11_rowsTo 172 = .ok (.iload 7, 2) := dX11_rowsTo_all8.2.2.2.2.2.2.1
theorem dX11_rowsTo_174 : decode cX11_rowsTo 174 = .ok (.ishl, 1) := dX11_rowsTo_all8.2.2.2.2.2.2.2.1
theorem dX11_rowsTo_175 : decode cX11_rowsTo 175 = .ok (.ior, 1) := dX11_rowsTo_all8.2.2.2.2.2.2.2.2.1
theorem dX11_rowsTo_176 : decode cX11_rowsTo 176 = .ok (.istore 6, 2) := dX11_rowsTo_all8.2.2.2.2.2.2.2.2.2.1
theorem dX11_rowsTo_178 : decode cX11_rowsTo 178 = .ok (.iinc 5 1, 3) := dX11_rowsTo_all8.2.2.2.2.2.2.2.2.2.2.1
theorem dX11_rowsTo_181 : decode cX11_rowsTo 181 = .ok (.aload_n 0, 1) := dX11_rowsTo_all8.2.2.2.2.2.2.2.2.2.2.2
theorem dX11_rowsTo_all9 : decode cX11_rowsTo 182 = .ok (.getfield 38, 3) ∧ decode cX11_rowsTo 185 = .ok (.iload 5, 2) ∧ decode cX11_rowsTo 187 = .ok (.iload 7, 2) ∧ decode cX11_rowsTo 189 = .ok (.bipush 10, 2) ∧ decode cX11_rowsTo 191 = .ok (.iadd, 1) ∧ decode cX11_rowsTo 192 = .ok (.iastore, 1) ∧ decode cX11_rowsTo 193 = .ok (.aload_n 0, 1) ∧ decode cX11_rowsTo 194 = .ok (.getfield 44, 3) ∧ decode cX11_rowsTo 197 = .ok (.iload 5, 2) ∧ decode cX11_rowsTo 199 = .ok (.lload 9, 2) ∧ decode cX11_rowsTo 201 = .ok (.lastore, 1) ∧ decode cX11_rowsTo 202 = .ok (.aload_n 0, 1) := by decide +kernel
theorem dX11_rowsTo_182 : decode cX11_rowsTo 182 = .ok (.getfield 38, 3) := dX11_rowsTo_all9.1
theorem dX11_rowsTo_185 : decode cX11_rowsTo 185 = .ok (.iload 5, 2) := dX11_rowsTo_all9.2.1
theorem dX11_rowsTo_187 : decode cX11_rowsTo 187 = .ok (.iload 7, 2) := dX11_rowsTo_all9.2.2.1
theorem dX11_rowsTo_189 : decode cX11_rowsTo 189 = .ok (.bipush 10, 2) := dX11_rowsTo_all9.2.2.2.1
theorem dX11_rowsTo_191 : decode cX11_rowsTo 191 = .ok (.iadd, 1) := dX11_rowsTo_all9.2.2.2.2.1
theorem dX11_rowsTo_192 : decode cX11_rowsTo 192 = .ok (.iastore, 1) := dX11_rowsTo_all9.2.2.2.2.2.1
theorem dX11_rowsTo_193 : decode cX11_rowsTo 193 = .ok (.aload_n 0, 1) := dX11_rowsTo_all9.2.2.2.2.2.2.1
theorem dX11_rowsTo_194 : decode cX11_rowsTo 194 = .ok (.getfield 44, 3) := dX11_rowsTo_all9.2.2.2.2.2.2.2.1
theorem dX11_rowsTo_197 : decode cX11_rowsTo 197 = .ok (.iload 5, 2) := dX11_rowsTo_all9.2.2.2.2.2.2.2.2.1
theorem dX11_rowsTo_199 : decode cX11_rowsTo 199 = .ok (.lload 9, 2) := dX11_rowsTo_all9.2.2.2.2.2.2.2.2.2.1
theorem dX11_rowsTo_201 : decode cX11_rowsTo 201 = .ok (.lastore, 1) := dX11_rowsTo_all9.2.2.2.2.2.2.2.2.2.2.1
theorem dX11_rowsTo_202 : decode cX11_rowsTo 202 = .ok (.aload_n 0, 1) := dX11_rowsTo_all9.2.2.2.2.2.2.2.2.2.2.2
theorem dX11_rowsTo_all10 : decode cX11_rowsTo 203 = .ok (.getfield 41, 3) ∧ decode cX11_rowsTo 206 = .ok (.iload 5, 2) ∧ decode cX11_rowsTo 208 = .ok (.iconst (-1), 1) ∧ decode cX11_rowsTo 209 = .ok (.iastore, 1) ∧ decode cX11_rowsTo 210 = .ok (.goto (-179), 3) ∧ decode cX11_rowsTo 213 = .ok (.lload_n 3, 1) ∧ decode cX11_rowsTo 214 = .ok (.ldc2_w 197, 3) ∧ decode cX11_rowsTo 217 = .ok (.lcmp, 1) ∧ decode cX11_rowsTo 218 = .ok (.ifCond .le 9, 3) ∧ decode cX11_rowsTo 221 = .ok (.ldc2_w 197, 3) ∧ decode cX11_rowsTo 224 = .ok (.goto 4, 3) ∧ decode cX11_rowsTo 227 = .ok (.lload_n 3, 1) := by decide +kernel
theorem dX11_rowsTo_203 : decode cX11_rowsTo 203 = .ok (.getfield 41, 3) := dX11_rowsTo_all10.1
theorem dX11_rowsTo_206 : decode cX11_rowsTo 206 = .ok (.iload 5, 2) := dX11_rowsTo_all10.2.1
theorem dX11_rowsTo_208 : decode cX11_rowsTo 208 = .ok (.iconst (-1), 1) := dX11_rowsTo_all10.2.2.1
theorem dX11_rowsTo_209 : decode cX11_rowsTo 209 = .ok (.iastore, 1) := dX11_rowsTo_all10.2.2.2.1
theorem dX11_rowsTo_210 : decode cX11_rowsTo 210 = .ok (.goto (-179), 3) := dX11_rowsTo_all10.2.2.2.2.1
theorem dX11_rowsTo_213 : decode cX11_rowsTo 213 = .ok (.lload_n 3, 1) := dX11_rowsTo_all10.2.2.2.2.2.1
theorem dX11_rowsTo_214 : decode cX11_rowsTo 214 = .ok (.ldc2_w 197, 3) := dX11_rowsTo_all10.2.2.2.2.2.2.1
theorem dX11_rowsTo_217 : decode cX11_rowsTo 217 = .ok (.lcmp, 1) := dX11_rowsTo_all10.2.2.2.2.2.2.2.1
theorem dX11_rowsTo_218 : decode cX11_rowsTo 218 = .ok (.ifCond .le 9, 3) := dX11_rowsTo_all10.2.2.2.2.2.2.2.2.1
theorem dX11_rowsTo_221 : decode cX11_rowsTo 221 = .ok (.ldc2_w 197, 3) := dX11_rowsTo_all10.2.2.2.2.2.2.2.2.2.1
theorem dX11_rowsTo_224 : decode cX11_rowsTo 224 = .ok (.goto 4, 3) := dX11_rowsTo_all10.2.2.2.2.2.2.2.2.2.2.1
theorem dX11_rowsTo_227 : decode cX11_rowsTo 227 = .ok (.lload_n 3, 1) := dX11_rowsTo_all10.2.2.2.2.2.2.2.2.2.2.2
theorem dX11_rowsTo_228 : decode cX11_rowsTo 228 = .ok (.lreturn, 1) := by decide +kernel
set_option maxRecDepth 20000 in
theorem ggX11_shareOf_X11_findHas : GoodIn wsX11_shareOf wsX11_findHas := goodIn_n _ [(6, 5), (5, 1), (11, 7), (28, 64)] rfl (by decide +kernel)
set_option maxRecDepth 20000 in
theorem gX11_shareOf_X11_findHas : GoodIn wsX11_shareOf (wsV RX11 200 RX11 yX11_findHas wsX11_findHas) := goodIn_app (goodIn_n _ [(2, 4)] rfl (by decide +kernel)) ggX11_shareOf_X11_findHas
set_option maxRecDepth 20000 in
theorem ggX11_shareOf_X11_rowsTo : GoodIn wsX11_shareOf wsX11_rowsTo := goodIn_n _ [(21, 5), (7, 1), (26, 66)] rfl (by decide +kernel)
set_option maxRecDepth 20000 in
theorem gX11_shareOf_X11_rowsTo : GoodIn wsX11_shareOf (wsV RX11 204 RX11 yX11_rowsTo wsX11_rowsTo) := goodIn_app (goodIn_n _ [(18, 3), (5, 1)] rfl (by decide +kernel)) ggX11_shareOf_X11_rowsTo
theorem dX11_shareOf_all0 : decode cX11_shareOf 0 = .ok (.iload_n 2, 1) ∧ decode cX11_shareOf 1 = .ok (.bipush 10, 2) ∧ decode cX11_shareOf 3 = .ok (.if_icmp .ge 15, 3) ∧ decode cX11_shareOf 6 = .ok (.iload_n 2, 1) ∧ decode cX11_shareOf 7 = .ok (.iload_n 1, 1) ∧ decode cX11_shareOf 8 = .ok (.if_icmp .ne 8, 3) ∧ decode cX11_shareOf 11 = .ok (.ldc 199, 2) ∧ decode cX11_shareOf 13 = .ok (.goto 4, 3) ∧ decode cX11_shareOf 16 = .ok (.iconst 0, 1) ∧ decode cX11_shareOf 17 = .ok (.ireturn, 1) ∧ decode cX11_shareOf 18 = .ok (.aload_n 0, 1) ∧ decode cX11_shareOf 19 = .ok (.iload_n 3, 1) := by decide +kernel
theorem dX11_shareOf_0 : decode cX11_shareOf 0 = .ok (.iload_n 2, 1) := dX11_shareOf_all0.1
theorem dX11_shareOf_1 : decode cX11_shareOf 1 = .ok (.bipush 10, 2) := dX11_shareOf_all0.2.1
theorem dX11_shareOf_3 : decode cX11_shareOf 3 = .ok (.if_icmp .ge 15, 3) := dX11_shareOf_all0.2.2.1
theorem dX11_shareOf_6 : decode cX11_shareOf 6 = .ok (.iload_n 2, 1) := dX11_shareOf_all0.2.2.2.1
theorem dX11_shareOf_7 : decode cX11_shareOf 7 = .ok (.iload_n 1, 1) := dX11_shareOf_all0.2.2.2.2.1
theorem dX11_shareOf_8 : decode cX11_shareOf 8 = .ok (.if_icmp .ne 8, 3) := dX11_shareOf_all0.2.2.2.2.2.1
theorem dX11_shareOf_11 : decode cX11_shareOf 11 = .ok (.ldc 199, 2) := dX11_shareOf_all0.2.2.2.2.2.2.1
theorem dX11_shareOf_13 : decode cX11_shareOf 13 = .ok (.goto 4, 3) := dX11_shareOf_all0.2.2.2.2.2.2.2.1
theorem dX11_shareOf_16 : decode cX11_shareOf 16 = .ok (.iconst 0, 1) := dX11_shareOf_all0.2.2.2.2.2.2.2.2.1
theorem dX11_shareOf_17 : decode cX11_shareOf 17 = .ok (.ireturn, 1) := dX11_shareOf_all0.2.2.2.2.2.2.2.2.2.1
theorem dX11_shareOf_18 : decode cX11_shareOf 18 = .ok (.aload_n 0, 1) := dX11_shareOf_all0.2.2.2.2.2.2.2.2.2.2.1
theorem dX11_shareOf_19 : decode cX11_shareOf 19 = .ok (.iload_n 3, 1) := dX11_shareOf_all0.2.2.2.2.2.2.2.2.2.2.2
theorem dX11_shareOf_all1 : decode cX11_shareOf 20 = .ok (.invokevirtual 200, 3) ∧ decode cX11_shareOf 23 = .ok (.aload_n 0, 1) ∧ decode cX11_shareOf 24 = .ok (.iload_n 1, 1) ∧ decode cX11_shareOf 25 = .ok (.iload_n 2, 1) ∧ decode cX11_shareOf 26 = .ok (.invokevirtual 204, 3) ∧ decode cX11_shareOf 29 = .ok (.l2i, 1) ∧ decode cX11_shareOf 30 = .ok (.ireturn, 1) := by decide +kernel
theorem dX11_shareOf_20 : decode cX11_shareOf 20 = .ok (.invokevirtual 200, 3) := dX11_shareOf_all1.1
theorem dX11_shareOf_23 : decode cX11_shareOf 23 = .ok (.aload_n 0, 1) := dX11_shareOf_all1.2.1
theorem dX11_shareOf_24 : decode cX11_shareOf 24 = .ok (.iload_n 1, 1) := dX11_shareOf_all1.2.2.1
theorem dX11_shareOf_25 : decode cX11_shareOf 25 = .ok (.iload_n 2, 1) := dX11_shareOf_all1.2.2.2.1
theorem dX11_shareOf_26 : decode cX11_shareOf 26 = .ok (.invokevirtual 204, 3) := dX11_shareOf_all1.2.2.2.2.1
theorem dX11_shareOf_29 : decode cX11_shareOf 29 = .ok (.l2i, 1) := dX11_shareOf_all1.2.2.2.2.2.1
theorem dX11_shareOf_30 : decode cX11_shareOf 30 = .ok (.ireturn, 1) := dX11_shareOf_all1.2.2.2.2.2.2
set_option maxRecDepth 20000 in
theorem ggX11_share_X11_isPerson : GoodIn wsX11_share wsX11_isPerson := goodIn_n _ [(6, 4), (5, 1), (10, 1)] rfl (by decide +kernel)
set_option maxRecDepth 20000 in
theorem gX11_share_X11_isPerson : GoodIn wsX11_share (va_wsS RX11 208 yX11_isPerson wsX11_isPerson) := goodIn_app (goodIn_n _ [(3, 3)] rfl (by decide +kernel)) ggX11_share_X11_isPerson
set_option maxRecDepth 20000 in
theorem ggX11_share_X11_isOwner : GoodIn wsX11_share wsX11_isOwner := goodIn_n _ [(13, 2), (8, 2), (5, 1), (10, 1)] rfl (by decide +kernel)
set_option maxRecDepth 20000 in
theorem gX11_share_X11_isOwner : GoodIn wsX11_share (va_wsS RX11 170 yX11_isOwner wsX11_isOwner) := goodIn_app (goodIn_n _ [(11, 2), (5, 1)] rfl (by decide +kernel)) ggX11_share_X11_isOwner
set_option maxRecDepth 20000 in
theorem ggX11_share_X11_isDay : GoodIn wsX11_share wsX11_isDay := goodIn_n _ [(17, 2), (8, 2), (5, 1), (10, 1)] rfl (by decide +kernel)
set_option maxRecDepth 20000 in
theorem gX11_share_X11_isDay : GoodIn wsX11_share (va_wsS RX11 178 yX11_isDay wsX11_isDay) := goodIn_app (goodIn_n _ [(15, 2), (5, 1)] rfl (by decide +kernel)) ggX11_share_X11_isDay
set_option maxRecDepth 20000 in
theorem ggX11_share_X11_shareOf : GoodIn wsX11_share wsX11_shareOf := goodIn_n _ [(22, 5), (5, 1), (27, 86)] rfl (by decide +kernel)
set_option maxRecDepth 20000 in
theorem gX11_share_X11_shareOf : GoodIn wsX11_share (wsV RX11 211 RX11 yX11_shareOf wsX11_shareOf) := goodIn_app (goodIn_n _ [(19, 3), (5, 1)] rfl (by decide +kernel)) ggX11_share_X11_shareOf
theorem dX11_share_all0 : decode cX11_share 0 = .ok (.aload_n 0, 1) ∧ decode cX11_share 1 = .ok (.iconst 0, 1) ∧ decode cX11_share 2 = .ok (.putfield 1, 3) ∧ decode cX11_share 5 = .ok (.iload_n 1, 1) ∧ decode cX11_share 6 = .ok (.invokestatic 208, 3) ∧ decode cX11_share 9 = .ok (.ifCond .eq 17, 3) ∧ decode cX11_share 12 = .ok (.iload_n 2, 1) ∧ decode cX11_share 13 = .ok (.invokestatic 170, 3) ∧ decode cX11_share 16 = .ok (.ifCond .eq 10, 3) ∧ decode cX11_share 19 = .ok (.iload_n 3, 1) ∧ decode cX11_share 20 = .ok (.invokestatic 178, 3) ∧ decode cX11_share 23 = .ok (.ifCond .ne 8, 3) := by decide +kernel
theorem dX11_share_0 : decode cX11_share 0 = .ok (.aload_n 0, 1) := dX11_share_all0.1
theorem dX11_share_1 : decode cX11_share 1 = .ok (.iconst 0, 1) := dX11_share_all0.2.1
theorem dX11_share_2 : decode cX11_share 2 = .ok (.putfield 1, 3) := dX11_share_all0.2.2.1
theorem dX11_share_5 : decode cX11_share 5 = .ok (.iload_n 1, 1) := dX11_share_all0.2.2.2.1
theorem dX11_share_6 : decode cX11_share 6 = .ok (.invokestatic 208, 3) := dX11_share_all0.2.2.2.2.1
theorem dX11_share_9 : decode cX11_share 9 = .ok (.ifCond .eq 17, 3) := dX11_share_all0.2.2.2.2.2.1
theorem dX11_share_12 : decode cX11_share 12 = .ok (.iload_n 2, 1) := dX11_share_all0.2.2.2.2.2.2.1
theorem dX11_share_13 : decode cX11_share 13 = .ok (.invokestatic 170, 3) := dX11_share_all0.2.2.2.2.2.2.2.1
theorem dX11_share_16 : decode cX11_share 16 = .ok (.ifCond .eq 10, 3) := dX11_share_all0.2.2.2.2.2.2.2.2.1
theorem dX11_share_19 : decode cX11_share 19 = .ok (.iload_n 3, 1) := dX11_share_all0.2.2.2.2.2.2.2.2.2.1
theorem dX11_share_20 : decode cX11_share 20 = .ok (.invokestatic 178, 3) := dX11_share_all0.2.2.2.2.2.2.2.2.2.2.1
theorem dX11_share_23 : decode cX11_share 23 = .ok (.ifCond .ne 8, 3) := dX11_share_all0.2.2.2.2.2.2.2.2.2.2.2
theorem dX11_share_all1 : decode cX11_share 26 = .ok (.ldc 157, 2) ∧ decode cX11_share 28 = .ok (.goto 10, 3) ∧ decode cX11_share 31 = .ok (.aload_n 0, 1) ∧ decode cX11_share 32 = .ok (.iload_n 1, 1) ∧ decode cX11_share 33 = .ok (.iload_n 2, 1) ∧ decode cX11_share 34 = .ok (.iload_n 3, 1) ∧ decode cX11_share 35 = .ok (.invokevirtual 211, 3) ∧ decode cX11_share 38 = .ok (.ireturn, 1) := by decide +kernel
theorem dX11_share_26 : decode cX11_share 26 = .ok (.ldc 157, 2) := dX11_share_all1.1
theorem dX11_share_28 : decode cX11_share 28 = .ok (.goto 10, 3) := dX11_share_all1.2.1
theorem dX11_share_31 : decode cX11_share 31 = .ok (.aload_n 0, 1) := dX11_share_all1.2.2.1
theorem dX11_share_32 : decode cX11_share 32 = .ok (.iload_n 1, 1) := dX11_share_all1.2.2.2.1
theorem dX11_share_33 : decode cX11_share 33 = .ok (.iload_n 2, 1) := dX11_share_all1.2.2.2.2.1
theorem dX11_share_34 : decode cX11_share 34 = .ok (.iload_n 3, 1) := dX11_share_all1.2.2.2.2.2.1
theorem dX11_share_35 : decode cX11_share 35 = .ok (.invokevirtual 211, 3) := dX11_share_all1.2.2.2.2.2.2.1
theorem dX11_share_38 : decode cX11_share 38 = .ok (.ireturn, 1) := dX11_share_all1.2.2.2.2.2.2.2
set_option maxRecDepth 20000 in
theorem ggX11_truly_X11_isOwner : GoodIn wsX11_truly wsX11_isOwner := goodIn_n _ [(7, 4), (6, 1), (11, 1)] rfl (by decide +kernel)
set_option maxRecDepth 20000 in
theorem gX11_truly_X11_isOwner : GoodIn wsX11_truly (va_wsS RX11 170 yX11_isOwner wsX11_isOwner) := goodIn_app (goodIn_n _ [(4, 3)] rfl (by decide +kernel)) ggX11_truly_X11_isOwner
set_option maxRecDepth 20000 in
theorem ggX11_truly_X11_isDay : GoodIn wsX11_truly wsX11_isDay := goodIn_n _ [(14, 2), (9, 2), (6, 1), (11, 1)] rfl (by decide +kernel)
set_option maxRecDepth 20000 in
theorem gX11_truly_X11_isDay : GoodIn wsX11_truly (va_wsS RX11 178 yX11_isDay wsX11_isDay) := goodIn_app (goodIn_n _ [(12, 2), (6, 1)] rfl (by decide +kernel)) ggX11_truly_X11_isDay
set_option maxRecDepth 20000 in
theorem ggX11_truly_X11_shareOf : GoodIn wsX11_truly wsX11_shareOf := goodIn_n _ [(19, 5), (6, 1), (24, 6), (3, 1), (30, 79)] rfl (by decide +kernel)
set_option maxRecDepth 20000 in
theorem gX11_truly_X11_shareOf : GoodIn wsX11_truly (wsV RX11 211 RX11 yX11_shareOf wsX11_shareOf) := goodIn_app (goodIn_n _ [(16, 3), (6, 1)] rfl (by decide +kernel)) ggX11_truly_X11_shareOf
theorem dX11_truly_all0 : decode cX11_truly 0 = .ok (.aload_n 0, 1) ∧ decode cX11_truly 1 = .ok (.iconst 0, 1) ∧ decode cX11_truly 2 = .ok (.putfield 1, 3) ∧ decode cX11_truly 5 = .ok (.iload_n 1, 1) ∧ decode cX11_truly 6 = .ok (.invokestatic 170, 3) ∧ decode cX11_truly 9 = .ok (.ifCond .eq 10, 3) ∧ decode cX11_truly 12 = .ok (.iload_n 2, 1) ∧ decode cX11_truly 13 = .ok (.invokestatic 178, 3) ∧ decode cX11_truly 16 = .ok (.ifCond .ne 6, 3) ∧ decode cX11_truly 19 = .ok (.ldc 157, 2) ∧ decode cX11_truly 21 = .ok (.ireturn, 1) ∧ decode cX11_truly 22 = .ok (.ldc 139, 2) := by decide +kernel
theorem dX11_truly_0 : decode cX11_truly 0 = .ok (.aload_n 0, 1) := dX11_truly_all0.1
theorem dX11_truly_1 : decode cX11_truly 1 = .ok (.iconst 0, 1) := dX11_truly_all0.2.1
theorem dX11_truly_2 : decode cX11_truly 2 = .ok (.putfield 1, 3) := dX11_truly_all0.2.2.1
theorem dX11_truly_5 : decode cX11_truly 5 = .ok (.iload_n 1, 1) := dX11_truly_all0.2.2.2.1
theorem dX11_truly_6 : decode cX11_truly 6 = .ok (.invokestatic 170, 3) := dX11_truly_all0.2.2.2.2.1
theorem dX11_truly_9 : decode cX11_truly 9 = .ok (.ifCond .eq 10, 3) := dX11_truly_all0.2.2.2.2.2.1
theorem dX11_truly_12 : decode cX11_truly 12 = .ok (.iload_n 2, 1) := dX11_truly_all0.2.2.2.2.2.2.1
theorem dX11_truly_13 : decode cX11_truly 13 = .ok (.invokestatic 178, 3) := dX11_truly_all0.2.2.2.2.2.2.2.1
theorem dX11_truly_16 : decode cX11_truly 16 = .ok (.ifCond .ne 6, 3) := dX11_truly_all0.2.2.2.2.2.2.2.2.1
theorem dX11_truly_19 : decode cX11_truly 19 = .ok (.ldc 157, 2) := dX11_truly_all0.2.2.2.2.2.2.2.2.2.1
theorem dX11_truly_21 : decode cX11_truly 21 = .ok (.ireturn, 1) := dX11_truly_all0.2.2.2.2.2.2.2.2.2.2.1
theorem dX11_truly_22 : decode cX11_truly 22 = .ok (.ldc 139, 2) := dX11_truly_all0.2.2.2.2.2.2.2.2.2.2.2
theorem dX11_truly_all1 : decode cX11_truly 24 = .ok (.istore_n 3, 1) ∧ decode cX11_truly 25 = .ok (.iconst 0, 1) ∧ decode cX11_truly 26 = .ok (.istore 4, 2) ∧ decode cX11_truly 28 = .ok (.iconst 0, 1) ∧ decode cX11_truly 29 = .ok (.istore 5, 2) ∧ decode cX11_truly 31 = .ok (.iload 5, 2) ∧ decode cX11_truly 33 = .ok (.bipush 10, 2) ∧ decode cX11_truly 35 = .ok (.if_icmp .ge 33, 3) ∧ decode cX11_truly 38 = .ok (.aload_n 0, 1) ∧ decode cX11_truly 39 = .ok (.iload 5, 2) ∧ decode cX11_truly 41 = .ok (.iload_n 1, 1) ∧ decode cX11_truly 42 = .ok (.iload_n 2, 1) := by decide +kernel
theorem dX11_truly_24 : decode cX11_truly 24 = .ok (.istore_n 3, 1) := dX11_truly_all1.1
theorem dX11_truly_25 : decode cX11_truly 25 = .ok (.iconst 0, 1) := dX11_truly_all1.2.1
theorem dX11_truly_26 : decode cX11_truly 26 = .ok (.istore 4, 2) := dX11_truly_all1.2.2.1
theorem dX11_truly_28 : decode cX11_truly 28 = .ok (.iconst 0, 1) := dX11_truly_all1.2.2.2.1
theorem dX11_truly_29 : decode cX11_truly 29 = .ok (.istore 5, 2) := dX11_truly_all1.2.2.2.2.1
theorem dX11_truly_31 : decode cX11_truly 31 = .ok (.iload 5, 2) := dX11_truly_all1.2.2.2.2.2.1
theorem dX11_truly_33 : decode cX11_truly 33 = .ok (.bipush 10, 2) := dX11_truly_all1.2.2.2.2.2.2.1
theorem dX11_truly_35 : decode cX11_truly 35 = .ok (.if_icmp .ge 33, 3) := dX11_truly_all1.2.2.2.2.2.2.2.1
theorem dX11_truly_38 : decode cX11_truly 38 = .ok (.aload_n 0, 1) := dX11_truly_all1.2.2.2.2.2.2.2.2.1
theorem dX11_truly_39 : decode cX11_truly 39 = .ok (.iload 5, 2) := dX11_truly_all1.2.2.2.2.2.2.2.2.2.1
theorem dX11_truly_41 : decode cX11_truly 41 = .ok (.iload_n 1, 1) := dX11_truly_all1.2.2.2.2.2.2.2.2.2.2.1
theorem dX11_truly_42 : decode cX11_truly 42 = .ok (.iload_n 2, 1) := dX11_truly_all1.2.2.2.2.2.2.2.2.2.2.2
theorem dX11_truly_all2 : decode cX11_truly 43 = .ok (.invokevirtual 211, 3) ∧ decode cX11_truly 46 = .ok (.istore 6, 2) ∧ decode cX11_truly 48 = .ok (.iload 6, 2) ∧ decode cX11_truly 50 = .ok (.iload 4, 2) ∧ decode cX11_truly 52 = .ok (.if_icmp .le 10, 3) ∧ decode cX11_truly 55 = .ok (.iload 6, 2) ∧ decode cX11_truly 57 = .ok (.istore 4, 2) ∧ decode cX11_truly 59 = .ok (.iload 5, 2) ∧ decode cX11_truly 61 = .ok (.istore_n 3, 1) ∧ decode cX11_truly 62 = .ok (.iinc 5 1, 3) ∧ decode cX11_truly 65 = .ok (.goto (-34), 3) ∧ decode cX11_truly 68 = .ok (.iload_n 3, 1) := by decide +kernel
theorem dX11_truly_43 : decode cX11_truly 43 = .ok (.invokevirtual 211, 3) := dX11_truly_all2.1
theorem dX11_truly_46 : decode cX11_truly 46 = .ok (.istore 6, 2) := dX11_truly_all2.2.1
theorem dX11_truly_48 : decode cX11_truly 48 = .ok (.iload 6, 2) := dX11_truly_all2.2.2.1
theorem dX11_truly_50 : decode cX11_truly 50 = .ok (.iload 4, 2) := dX11_truly_all2.2.2.2.1
theorem dX11_truly_52 : decode cX11_truly 52 = .ok (.if_icmp .le 10, 3) := dX11_truly_all2.2.2.2.2.1
theorem dX11_truly_55 : decode cX11_truly 55 = .ok (.iload 6, 2) := dX11_truly_all2.2.2.2.2.2.1
theorem dX11_truly_57 : decode cX11_truly 57 = .ok (.istore 4, 2) := dX11_truly_all2.2.2.2.2.2.2.1
theorem dX11_truly_59 : decode cX11_truly 59 = .ok (.iload 5, 2) := dX11_truly_all2.2.2.2.2.2.2.2.1
theorem dX11_truly_61 : decode cX11_truly 61 = .ok (.istore_n 3, 1) := dX11_truly_all2.2.2.2.2.2.2.2.2.1
theorem dX11_truly_62 : decode cX11_truly 62 = .ok (.iinc 5 1, 3) := dX11_truly_all2.2.2.2.2.2.2.2.2.2.1
theorem dX11_truly_65 : decode cX11_truly 65 = .ok (.goto (-34), 3) := dX11_truly_all2.2.2.2.2.2.2.2.2.2.2.1
theorem dX11_truly_68 : decode cX11_truly 68 = .ok (.iload_n 3, 1) := dX11_truly_all2.2.2.2.2.2.2.2.2.2.2.2
theorem dX11_truly_69 : decode cX11_truly 69 = .ok (.ireturn, 1) := by decide +kernel
set_option maxRecDepth 20000 in
theorem ggX11_rings_X11_isDay : GoodIn wsX11_rings wsX11_isDay := goodIn_n _ [(7, 4), (6, 1), (11, 1)] rfl (by decide +kernel)
set_option maxRecDepth 20000 in
theorem gX11_rings_X11_isDay : GoodIn wsX11_rings (va_wsS RX11 178 yX11_isDay wsX11_isDay) := goodIn_app (goodIn_n _ [(4, 3)] rfl (by decide +kernel)) ggX11_rings_X11_isDay
set_option maxRecDepth 20000 in
theorem ggX11_rings_X11_findHas : GoodIn wsX11_rings wsX11_findHas := goodIn_n _ [(15, 1), (3, 1), (16, 3), (6, 1), (19, 71)] rfl (by decide +kernel)
set_option maxRecDepth 20000 in
theorem gX11_rings_X11_findHas : GoodIn wsX11_rings (wsV RX11 200 RX11 yX11_findHas wsX11_findHas) := goodIn_app (goodIn_n _ [(12, 3), (6, 1)] rfl (by decide +kernel)) ggX11_rings_X11_findHas
theorem dX11_rings_all0 : decode cX11_rings 0 = .ok (.aload_n 0, 1) ∧ decode cX11_rings 1 = .ok (.iconst 0, 1) ∧ decode cX11_rings 2 = .ok (.putfield 1, 3) ∧ decode cX11_rings 5 = .ok (.iload_n 1, 1) ∧ decode cX11_rings 6 = .ok (.invokestatic 178, 3) ∧ decode cX11_rings 9 = .ok (.ifCond .ne 6, 3) ∧ decode cX11_rings 12 = .ok (.ldc 157, 2) ∧ decode cX11_rings 14 = .ok (.ireturn, 1) ∧ decode cX11_rings 15 = .ok (.aload_n 0, 1) ∧ decode cX11_rings 16 = .ok (.iload_n 1, 1) ∧ decode cX11_rings 17 = .ok (.invokevirtual 200, 3) ∧ decode cX11_rings 20 = .ok (.iconst 0, 1) := by decide +kernel
theorem dX11_rings_0 : decode cX11_rings 0 = .ok (.aload_n 0, 1) := dX11_rings_all0.1
theorem dX11_rings_1 : decode cX11_rings 1 = .ok (.iconst 0, 1) := dX11_rings_all0.2.1
theorem dX11_rings_2 : decode cX11_rings 2 = .ok (.putfield 1, 3) := dX11_rings_all0.2.2.1
theorem dX11_rings_5 : decode cX11_rings 5 = .ok (.iload_n 1, 1) := dX11_rings_all0.2.2.2.1
theorem dX11_rings_6 : decode cX11_rings 6 = .ok (.invokestatic 178, 3) := dX11_rings_all0.2.2.2.2.1
theorem dX11_rings_9 : decode cX11_rings 9 = .ok (.ifCond .ne 6, 3) := dX11_rings_all0.2.2.2.2.2.1
theorem dX11_rings_12 : decode cX11_rings 12 = .ok (.ldc 157, 2) := dX11_rings_all0.2.2.2.2.2.2.1
theorem dX11_rings_14 : decode cX11_rings 14 = .ok (.ireturn, 1) := dX11_rings_all0.2.2.2.2.2.2.2.1
theorem dX11_rings_15 : decode cX11_rings 15 = .ok (.aload_n 0, 1) := dX11_rings_all0.2.2.2.2.2.2.2.2.1
theorem dX11_rings_16 : decode cX11_rings 16 = .ok (.iload_n 1, 1) := dX11_rings_all0.2.2.2.2.2.2.2.2.2.1
theorem dX11_rings_17 : decode cX11_rings 17 = .ok (.invokevirtual 200, 3) := dX11_rings_all0.2.2.2.2.2.2.2.2.2.2.1
theorem dX11_rings_20 : decode cX11_rings 20 = .ok (.iconst 0, 1) := dX11_rings_all0.2.2.2.2.2.2.2.2.2.2.2
theorem dX11_rings_all1 : decode cX11_rings 21 = .ok (.istore_n 2, 1) ∧ decode cX11_rings 22 = .ok (.iconst 0, 1) ∧ decode cX11_rings 23 = .ok (.istore_n 3, 1) ∧ decode cX11_rings 24 = .ok (.iload_n 3, 1) ∧ decode cX11_rings 25 = .ok (.bipush 10, 2) ∧ decode cX11_rings 27 = .ok (.if_icmp .ge 139, 3) ∧ decode cX11_rings 30 = .ok (.iconst 0, 1) ∧ decode cX11_rings 31 = .ok (.istore 4, 2) ∧ decode cX11_rings 33 = .ok (.iconst 1, 1) ∧ decode cX11_rings 34 = .ok (.iload_n 3, 1) ∧ decode cX11_rings 35 = .ok (.ishl, 1) ∧ decode cX11_rings 36 = .ok (.istore 5, 2) := by decide +kernel
theorem dX11_rings_21 : decode cX11_rings 21 = .ok (.istore_n 2, 1) := dX11_rings_all1.1
theorem dX11_rings_22 : decode cX11_rings 22 = .ok (.iconst 0, 1) := dX11_rings_all1.2.1
theorem dX11_rings_23 : decode cX11_rings 23 = .ok (.istore_n 3, 1) := dX11_rings_all1.2.2.1
theorem dX11_rings_24 : decode cX11_rings 24 = .ok (.iload_n 3, 1) := dX11_rings_all1.2.2.2.1
theorem dX11_rings_25 : decode cX11_rings 25 = .ok (.bipush 10, 2) := dX11_rings_all1.2.2.2.2.1
theorem dX11_rings_27 : decode cX11_rings 27 = .ok (.if_icmp .ge 139, 3) := dX11_rings_all1.2.2.2.2.2.1
theorem dX11_rings_30 : decode cX11_rings 30 = .ok (.iconst 0, 1) := dX11_rings_all1.2.2.2.2.2.2.1
theorem dX11_rings_31 : decode cX11_rings 31 = .ok (.istore 4, 2) := dX11_rings_all1.2.2.2.2.2.2.2.1
theorem dX11_rings_33 : decode cX11_rings 33 = .ok (.iconst 1, 1) := dX11_rings_all1.2.2.2.2.2.2.2.2.1
theorem dX11_rings_34 : decode cX11_rings 34 = .ok (.iload_n 3, 1) := dX11_rings_all1.2.2.2.2.2.2.2.2.2.1
theorem dX11_rings_35 : decode cX11_rings 35 = .ok (.ishl, 1) := dX11_rings_all1.2.2.2.2.2.2.2.2.2.2.1
theorem dX11_rings_36 : decode cX11_rings 36 = .ok (.istore 5, 2) := dX11_rings_all1.2.2.2.2.2.2.2.2.2.2.2
theorem dX11_rings_all2 : decode cX11_rings 38 = .ok (.iconst 0, 1) ∧ decode cX11_rings 39 = .ok (.istore 6, 2) ∧ decode cX11_rings 41 = .ok (.iload 6, 2) ∧ decode cX11_rings 43 = .ok (.bipush 11, 2) ∧ decode cX11_rings 45 = .ok (.if_icmp .ge 95, 3) ∧ decode cX11_rings 48 = .ok (.iload 4, 2) ∧ decode cX11_rings 50 = .ok (.istore 7, 2) ∧ decode cX11_rings 52 = .ok (.iconst 0, 1) ∧ decode cX11_rings 53 = .ok (.istore 8, 2) ∧ decode cX11_rings 55 = .ok (.iload 8, 2) ∧ decode cX11_rings 57 = .ok (.bipush 10, 2) ∧ decode cX11_rings 59 = .ok (.if_icmp .ge 71, 3) := by decide +kernel
theorem dX11_rings_38 : decode cX11_rings 38 = .ok (.iconst 0, 1) := dX11_rings_all2.1
theorem dX11_rings_39 : decode cX11_rings 39 = .ok (.istore 6, 2) := dX11_rings_all2.2.1
theorem dX11_rings_41 : decode cX11_rings 41 = .ok (.iload 6, 2) := dX11_rings_all2.2.2.1
theorem dX11_rings_43 : decode cX11_rings 43 = .ok (.bipush 11, 2) := dX11_rings_all2.2.2.2.1
theorem dX11_rings_45 : decode cX11_rings 45 = .ok (.if_icmp .ge 95, 3) := dX11_rings_all2.2.2.2.2.1
theorem dX11_rings_48 : decode cX11_rings 48 = .ok (.iload 4, 2) := dX11_rings_all2.2.2.2.2.2.1
theorem dX11_rings_50 : decode cX11_rings 50 = .ok (.istore 7, 2) := dX11_rings_all2.2.2.2.2.2.2.1
theorem dX11_rings_52 : decode cX11_rings 52 = .ok (.iconst 0, 1) := dX11_rings_all2.2.2.2.2.2.2.2.1
theorem dX11_rings_53 : decode cX11_rings 53 = .ok (.istore 8, 2) := dX11_rings_all2.2.2.2.2.2.2.2.2.1
theorem dX11_rings_55 : decode cX11_rings 55 = .ok (.iload 8, 2) := dX11_rings_all2.2.2.2.2.2.2.2.2.2.1
theorem dX11_rings_57 : decode cX11_rings 57 = .ok (.bipush 10, 2) := dX11_rings_all2.2.2.2.2.2.2.2.2.2.2.1
theorem dX11_rings_59 : decode cX11_rings 59 = .ok (.if_icmp .ge 71, 3) := dX11_rings_all2.2.2.2.2.2.2.2.2.2.2.2
theorem dX11_rings_all3 : decode cX11_rings 62 = .ok (.iconst 0, 1) ∧ decode cX11_rings 63 = .ok (.istore 9, 2) ∧ decode cX11_rings 65 = .ok (.iload 9, 2) ∧ decode cX11_rings 67 = .ok (.bipush 10, 2) ∧ decode cX11_rings 69 = .ok (.if_icmp .ge 55, 3) ∧ decode cX11_rings 72 = .ok (.iload 4, 2) ∧ decode cX11_rings 74 = .ok (.iload 5, 2) ∧ decode cX11_rings 76 = .ok (.ior, 1) ∧ decode cX11_rings 77 = .ok (.iload 8, 2) ∧ decode cX11_rings 79 = .ok (.ishr, 1) ∧ decode cX11_rings 80 = .ok (.iconst 1, 1) ∧ decode cX11_rings 81 = .ok (.iand, 1) := by decide +kernel
theorem dX11_rings_62 : decode cX11_rings 62 = .ok (.iconst 0, 1) := dX11_rings_all3.1
theorem dX11_rings_63 : decode cX11_rings 63 = .ok (.istore 9, 2) := dX11_rings_all3.2.1
theorem dX11_rings_65 : decode cX11_rings 65 = .ok (.iload 9, 2) := dX11_rings_all3.2.2.1
theorem dX11_rings_67 : decode cX11_rings 67 = .ok (.bipush 10, 2) := dX11_rings_all3.2.2.2.1
theorem dX11_rings_69 : decode cX11_rings 69 = .ok (.if_icmp .ge 55, 3) := dX11_rings_all3.2.2.2.2.1
theorem dX11_rings_72 : decode cX11_rings 72 = .ok (.iload 4, 2) := dX11_rings_all3.2.2.2.2.2.1
theorem dX11_rings_74 : decode cX11_rings 74 = .ok (.iload 5, 2) := dX11_rings_all3.2.2.2.2.2.2.1
theorem dX11_rings_76 : decode cX11_rings 76 = .ok (.ior, 1) := dX11_rings_all3.2.2.2.2.2.2.2.1
theorem dX11_rings_77 : decode cX11_rings 77 = .ok (.iload 8, 2) := dX11_rings_all3.2.2.2.2.2.2.2.2.1
theorem dX11_rings_79 : decode cX11_rings 79 = .ok (.ishr, 1) := dX11_rings_all3.2.2.2.2.2.2.2.2.2.1
theorem dX11_rings_80 : decode cX11_rings 80 = .ok (.iconst 1, 1) := dX11_rings_all3.2.2.2.2.2.2.2.2.2.2.1
theorem dX11_rings_81 : decode cX11_rings 81 = .ok (.iand, 1) := dX11_rings_all3.2.2.2.2.2.2.2.2.2.2.2
theorem dX11_rings_all4 : decode cX11_rings 82 = .ok (.iconst 1, 1) ∧ decode cX11_rings 83 = .ok (.if_icmp .ne 41, 3) ∧ decode cX11_rings 86 = .ok (.iload 7, 2) ∧ decode cX11_rings 88 = .ok (.aload_n 0, 1) ∧ decode cX11_rings 89 = .ok (.getfield 35, 3) ∧ decode cX11_rings 92 = .ok (.bipush 10, 2) ∧ decode cX11_rings 94 = .ok (.iload 8, 2) ∧ decode cX11_rings 96 = .ok (.bipush 10, 2) ∧ decode cX11_rings 98 = .ok (.iadd, 1) ∧ decode cX11_rings 99 = .ok (.imul, 1) ∧ decode cX11_rings 100 = .ok (.iload 9, 2) ∧ decode cX11_rings 102 = .ok (.iadd, 1) := by decide +kernel
theorem dX11_rings_82 : decode cX11_rings 82 = .ok (.iconst 1, 1) := dX11_rings_all4.1
theorem dX11_rings_83 : decode cX11_rings 83 = .ok (.if_icmp .ne 41, 3) := dX11_rings_all4.2.1
theorem dX11_rings_86 : decode cX11_rings 86 = .ok (.iload 7, 2) := dX11_rings_all4.2.2.1
theorem dX11_rings_88 : decode cX11_rings 88 = .ok (.aload_n 0, 1) := dX11_rings_all4.2.2.2.1
theorem dX11_rings_89 : decode cX11_rings 89 = .ok (.getfield 35, 3) := dX11_rings_all4.2.2.2.2.1
theorem dX11_rings_92 : decode cX11_rings 92 = .ok (.bipush 10, 2) := dX11_rings_all4.2.2.2.2.2.1
theorem dX11_rings_94 : decode cX11_rings 94 = .ok (.iload 8, 2) := dX11_rings_all4.2.2.2.2.2.2.1
theorem dX11_rings_96 : decode cX11_rings 96 = .ok (.bipush 10, 2) := dX11_rings_all4.2.2.2.2.2.2.2.1
theorem dX11_rings_98 : decode cX11_rings 98 = .ok (.iadd, 1) := dX11_rings_all4.2.2.2.2.2.2.2.2.1
theorem dX11_rings_99 : decode cX11_rings 99 = .ok (.imul, 1) := dX11_rings_all4.2.2.2.2.2.2.2.2.2.1
theorem dX11_rings_100 : decode cX11_rings 100 = .ok (.iload 9, 2) := dX11_rings_all4.2.2.2.2.2.2.2.2.2.2.1
theorem dX11_rings_102 : decode cX11_rings 102 = .ok (.iadd, 1) := dX11_rings_all4.2.2.2.2.2.2.2.2.2.2.2
theorem dX11_rings_all5 : decode cX11_rings 103 = .ok (.iaload, 1) ∧ decode cX11_rings 104 = .ok (.ifCond .le 10, 3) ∧ decode cX11_rings 107 = .ok (.iconst 1, 1) ∧ decode cX11_rings 108 = .ok (.iload 9, 2) ∧ decode cX11_rings 110 = .ok (.ishl, 1) ∧ decode cX11_rings 111 = .ok (.goto 4, 3) ∧ decode cX11_rings 114 = .ok (.iconst 0, 1) ∧ decode cX11_rings 115 = .ok (.ior, 1) ∧ decode cX11_rings 116 = .ok (.istore 7, 2) ∧ decode cX11_rings 118 = .ok (.iinc 9 1, 3) ∧ decode cX11_rings 121 = .ok (.goto (-56), 3) ∧ decode cX11_rings 124 = .ok (.iinc 8 1, 3) := by decide +kernel
theorem dX11_rings_103 : decode cX11_rings 103 = .ok (.iaload, 1) := dX11_rings_all5.1
theorem dX11_rings_104 : decode cX11_rings 104 = .ok (.ifCond .le 10, 3) := dX11_rings_all5.2.1
theorem dX11_rings_107 : decode cX11_rings 107 = .ok (.iconst 1, 1) := dX11_rings_all5.2.2.1
theorem dX11_rings_108 : decode cX11_rings 108 = .ok (.iload 9, 2) := dX11_rings_all5.2.2.2.1
theorem dX11_rings_110 : decode cX11_rings 110 = .ok (.ishl, 1) := dX11_rings_all5.2.2.2.2.1
theorem dX11_rings_111 : decode cX11_rings 111 = .ok (.goto 4, 3) := dX11_rings_all5.2.2.2.2.2.1
theorem dX11_rings_114 : decode cX11_rings 114 = .ok (.iconst 0, 1) := dX11_rings_all5.2.2.2.2.2.2.1
theorem dX11_rings_115 : decode cX11_rings 115 = .ok (.ior, 1) := dX11_rings_all5.2.2.2.2.2.2.2.1
theorem dX11_rings_116 : decode cX11_rings 116 = .ok (.istore 7, 2) := dX11_rings_all5.2.2.2.2.2.2.2.2.1
theorem dX11_rings_118 : decode cX11_rings 118 = .ok (.iinc 9 1, 3) := dX11_rings_all5.2.2.2.2.2.2.2.2.2.1
theorem dX11_rings_121 : decode cX11_rings 121 = .ok (.goto (-56), 3) := dX11_rings_all5.2.2.2.2.2.2.2.2.2.2.1
theorem dX11_rings_124 : decode cX11_rings 124 = .ok (.iinc 8 1, 3) := dX11_rings_all5.2.2.2.2.2.2.2.2.2.2.2
theorem dX11_rings_all6 : decode cX11_rings 127 = .ok (.goto (-72), 3) ∧ decode cX11_rings 130 = .ok (.iload 7, 2) ∧ decode cX11_rings 132 = .ok (.istore 4, 2) ∧ decode cX11_rings 134 = .ok (.iinc 6 1, 3) ∧ decode cX11_rings 137 = .ok (.goto (-96), 3) ∧ decode cX11_rings 140 = .ok (.iload 4, 2) ∧ decode cX11_rings 142 = .ok (.iload_n 3, 1) ∧ decode cX11_rings 143 = .ok (.ishr, 1) ∧ decode cX11_rings 144 = .ok (.iconst 1, 1) ∧ decode cX11_rings 145 = .ok (.iand, 1) ∧ decode cX11_rings 146 = .ok (.iconst 1, 1) ∧ decode cX11_rings 147 = .ok (.if_icmp .ne 11, 3) := by decide +kernel
theorem dX11_rings_127 : decode cX11_rings 127 = .ok (.goto (-72), 3) := dX11_rings_all6.1
theorem dX11_rings_130 : decode cX11_rings 130 = .ok (.iload 7, 2) := dX11_rings_all6.2.1
theorem dX11_rings_132 : decode cX11_rings 132 = .ok (.istore 4, 2) := dX11_rings_all6.2.2.1
theorem dX11_rings_134 : decode cX11_rings 134 = .ok (.iinc 6 1, 3) := dX11_rings_all6.2.2.2.1
theorem dX11_rings_137 : decode cX11_rings 137 = .ok (.goto (-96), 3) := dX11_rings_all6.2.2.2.2.1
theorem dX11_rings_140 : decode cX11_rings 140 = .ok (.iload 4, 2) := dX11_rings_all6.2.2.2.2.2.1
theorem dX11_rings_142 : decode cX11_rings 142 = .ok (.iload_n 3, 1) := dX11_rings_all6.2.2.2.2.2.2.1
theorem dX11_rings_143 : decode cX11_rings 143 = .ok (.ishr, 1) := dX11_rings_all6.2.2.2.2.2.2.2.1
theorem dX11_rings_144 : decode cX11_rings 144 = .ok (.iconst 1, 1) := dX11_rings_all6.2.2.2.2.2.2.2.2.1
theorem dX11_rings_145 : decode cX11_rings 145 = .ok (.iand, 1) := dX11_rings_all6.2.2.2.2.2.2.2.2.2.1
theorem dX11_rings_146 : decode cX11_rings 146 = .ok (.iconst 1, 1) := dX11_rings_all6.2.2.2.2.2.2.2.2.2.2.1
theorem dX11_rings_147 : decode cX11_rings 147 = .ok (.if_icmp .ne 11, 3) := dX11_rings_all6.2.2.2.2.2.2.2.2.2.2.2
theorem dX11_rings_all7 : decode cX11_rings 150 = .ok (.iload_n 2, 1) ∧ decode cX11_rings 151 = .ok (.iconst 1, 1) ∧ decode cX11_rings 152 = .ok (.iload_n 3, 1) ∧ decode cX11_rings 153 = .ok (.ishl, 1) ∧ decode cX11_rings 154 = .ok (.ior, 1) ∧ decode cX11_rings 155 = .ok (.goto 4, 3) ∧ decode cX11_rings 158 = .ok (.iload_n 2, 1) ∧ decode cX11_rings 159 = .ok (.istore_n 2, 1) ∧ decode cX11_rings 160 = .ok (.iinc 3 1, 3) ∧ decode cX11_rings 163 = .ok (.goto (-139), 3) ∧ decode cX11_rings 166 = .ok (.iload_n 2, 1) ∧ decode cX11_rings 167 = .ok (.ireturn, 1) := by decide +kernel
theorem dX11_rings_150 : decode cX11_rings 150 = .ok (.iload_n 2, 1) := dX11_rings_all7.1
theorem dX11_rings_151 : decode cX11_rings 151 = .ok (.iconst 1, 1) := dX11_rings_all7.2.1
theorem dX11_rings_152 : decode cX11_rings 152 = .ok (.iload_n 3, 1) := dX11_rings_all7.2.2.1
theorem dX11_rings_153 : decode cX11_rings 153 = .ok (.ishl, 1) := dX11_rings_all7.2.2.2.1
theorem dX11_rings_154 : decode cX11_rings 154 = .ok (.ior, 1) := dX11_rings_all7.2.2.2.2.1
theorem dX11_rings_155 : decode cX11_rings 155 = .ok (.goto 4, 3) := dX11_rings_all7.2.2.2.2.2.1
theorem dX11_rings_158 : decode cX11_rings 158 = .ok (.iload_n 2, 1) := dX11_rings_all7.2.2.2.2.2.2.1
theorem dX11_rings_159 : decode cX11_rings 159 = .ok (.istore_n 2, 1) := dX11_rings_all7.2.2.2.2.2.2.2.1
theorem dX11_rings_160 : decode cX11_rings 160 = .ok (.iinc 3 1, 3) := dX11_rings_all7.2.2.2.2.2.2.2.2.1
theorem dX11_rings_163 : decode cX11_rings 163 = .ok (.goto (-139), 3) := dX11_rings_all7.2.2.2.2.2.2.2.2.2.1
theorem dX11_rings_166 : decode cX11_rings 166 = .ok (.iload_n 2, 1) := dX11_rings_all7.2.2.2.2.2.2.2.2.2.2.1
theorem dX11_rings_167 : decode cX11_rings 167 = .ok (.ireturn, 1) := dX11_rings_all7.2.2.2.2.2.2.2.2.2.2.2
set_option maxHeartbeats 4000000 in
set_option maxRecDepth 100000 in
theorem ct_X11_rowsTo (l : Launch) (D : va_G) (cI cY cJ cQ : ClassId) (sz : Nat) (md : Nat → Nat) (sd : Int32) (mth mst hn cn pn mq gn mln mnn ln mlt msz mcu mtk mfr mti mfa mfb an un lc td mtn : Int32) (mh mp mt : Nat → Int32) (mf : Nat → Int64) (q : Int32) (o : Int32)  (h1 : 0 ≤ q.toInt) (h2 : q.toInt < 20)  : Met l yX11_rowsTo wsX11_rowsTo ({ frames := 0, cells := 0, slots := 0, locals := 0 }) (cPre D (ty4 cI cY cJ cQ) [(moC md sd mth mst hn cn pn mq gn mln mnn ln mlt msz mcu mtk mfr mti mfa mfb an un lc td mtn), ((md 11), .inl (cI, 200, .inl mh)), ((md 12), .inl (cI, 12, .inl mp)), ((md 13), .inl (cI, 12, .inl mt)), ((md 14), .inl (cJ, 12, .inr (.inl mf)))] sz [.ref (md 64), .int q, .int o]) (va_Ql (fun (r : Int64) (u : (Nat → Int32) × (Nat → Int32) × (Nat → Int64)) => True) (cB D (ty4 cI cY cJ cQ) (fun (u : (Nat → Int32) × (Nat → Int32) × (Nat → Int64)) => [(moC md sd mth mst hn cn pn mq gn mln mnn ln mlt msz mcu mtk mfr mti mfa mfb an un lc td mtn), ((md 11), .inl (cI, 200, .inl mh)), ((md 12), .inl (cI, 12, .inl u.1)), ((md 13), .inl (cI, 12, .inl u.2.1)), ((md 14), .inl (cJ, 12, .inr (.inl u.2.2)))]) (va_A [(moC md sd mth mst hn cn pn mq gn mln mnn ln mlt msz mcu mtk mfr mti mfa mfb an un lc td mtn), ((md 11), .inl (cI, 200, .inl mh)), ((md 12), .inl (cI, 12, .inl mp)), ((md 13), .inl (cI, 12, .inl mt)), ((md 14), .inl (cJ, 12, .inr (.inl mf)))] sz)) (va_A [(moC md sd mth mst hn cn pn mq gn mln mnn ln mlt msz mcu mtk mfr mti mfa mfb an un lc td mtn), ((md 11), .inl (cI, 200, .inl mh)), ((md 12), .inl (cI, 12, .inl mp)), ((md 13), .inl (cI, 12, .inl mt)), ((md 14), .inl (cJ, 12, .inr (.inl mf)))] sz)) 0 0 (va_A [(moC md sd mth mst hn cn pn mq gn mln mnn ln mlt msz mcu mtk mfr mti mfa mfb an un lc td mtn), ((md 11), .inl (cI, 200, .inl mh)), ((md 12), .inl (cI, 12, .inl mp)), ((md 13), .inl (cI, 12, .inl mt)), ((md 14), .inl (cJ, 12, .inr (.inl mf)))] sz) := by
  refine Met.ofW (cc := cX11_rowsTo) (maxL := 11) (ret := (some .long)) (by decide) rfl ?_
  intro p e s m args below meth c s₁ B hml hv
  obtain ⟨rfl, hsz, hP, hK, hD0, hN⟩ := hv
  have hx := B.exec
  have hb := B.bytes
  have hr := B.returns
  have hts := atoms_spec (ws := wsX11_rowsTo) B.pre
  have hown : s.vm.findClass RX11 = some m.cls := findClass_of_methodNamed B.named
  have hlocks := B.notSynchronized
  subst hsz
  have hD := hD0.self (sz := s.heap.size)
  generalize hAe : va_A [(moC md sd mth mst hn cn pn mq gn mln mnn ln mlt msz mcu mtk mfr mti mfa mfb an un lc td mtn), ((md 11), .inl (cI, 200, .inl mh)), ((md 12), .inl (cI, 12, .inl mp)), ((md 13), .inl (cI, 12, .inl mt)), ((md 14), .inl (cJ, 12, .inr (.inl mf)))] s.heap.size = A at hD ⊢
  have hA : ∀ q : Nat, s.heap.size ≤ q → A q := fun q h => by rw [← hAe]; exact Or.inr h
  have hS : va_S A s.heap s.heap [] := va_S.rf
  have hP : va_P D vwCl [(moC md sd mth mst hn cn pn mq gn mln mnn ln mlt msz mcu mtk mfr mti mfa mfb an un lc td mtn), ((md 11), .inl (cI, 200, .inl mh)), ((md 12), .inl (cI, 12, .inl mp)), ((md 13), .inl (cI, 12, .inl mt)), ((md 14), .inl (cJ, 12, .inr (.inl mf)))] s.heap := hP
  have hl := lv_entry ([.ref (md 64), .int q, .int o]) (n := 11) (Nat.le_of_ble_eq_true rfl)
  rw [lg_entry_eq]
  generalize (lg_sl ([.ref (md 64), .int q, .int o]) ++ List.replicate (11 - (lg_sl ([.ref (md 64), .int q, .int o])).length) Slot.unset).toArray = ls at hl ⊢
  have hl : lv_has ls 11 [(0, .ref (md 64)), (1, .int q), (2, .int o)] := hl
  have km1 : (-1 : Int32).toInt = -1 := by decide
  have k0 : (0 : Int32).toInt = 0 := by decide
  have k1 : (1 : Int32).toInt = 1 := by decide
  have k10 : (10 : Int32).toInt = 10 := by decide
  have kl0 : (0 : Int64).toInt = 0 := by decide
  have kl2000000000 : (2000000000 : Int64).toInt = 2000000000 := by decide
  refine lv_lconst (v := 0) hx hb dX11_rowsTo_0 (by decide) ?_
  refine lv_lstore_n (lv' := [(3, .long 0), (0, .ref (md 64)), (1, .int q), (2, .int o)]) hx hb dX11_rowsTo_1 rfl hl (by decide) rfl (fun ls hl => ?_)
  refine lv_iconst (v := 0) hx hb dX11_rowsTo_2 (by decide) ?_
  refine lv_istore (lv' := [(5, .int 0), (3, .long 0), (0, .ref (md 64)), (1, .int q), (2, .int o)]) hx hb dX11_rowsTo_3 hl (by decide) rfl (fun ls hl => ?_)
  refine lv_iconst (v := 0) hx hb dX11_rowsTo_5 (by decide) ?_
  refine lv_istore (lv' := [(6, .int 0), (5, .int 0), (3, .long 0), (0, .ref (md 64)), (1, .int q), (2, .int o)]) hx hb dX11_rowsTo_6 hl (by decide) rfl (fun ls hl => ?_)
  refine lv_aload_n hx hb dX11_rowsTo_8 rfl (lv_at hl 3 rfl) ?_
  refine va_get (D := D) (ci := 11) (v := .ref (md 12)) (C := RX11) (T := TX11) (N := 64) hx hb hts inX11_rowsTo_X11 hown hK hP 0 rfl rfl 12 (by decide) (hts (Cond.fieldLink RX11 38 "PortRoomsModel" "path" "[I") (List.mem_cons_of_mem _ (List.mem_append_left _ (List.mem_of_getElem? (i := 0) rfl)))) (fun _ h9 => h9) rfl dX11_rowsTo_9 ?_
  refine lv_iconst (v := 0) hx hb dX11_rowsTo_12 (by decide) ?_
  refine lv_iload_n hx hb dX11_rowsTo_13 rfl (lv_at hl 4 rfl) ?_
  refine va_iast hx hb hK hP hD hS 2 0 rfl rfl (i_in (by decide) (by decide)) dX11_rowsTo_14 (fun H locs => ?_)
  clear hP hD hS
  intro hP hD hS
  replace hP : va_P D vwCl [(moC md sd mth mst hn cn pn mq gn mln mnn ln mlt msz mcu mtk mfr mti mfa mfb an un lc td mtn), ((md 11), .inl (cI, 200, .inl mh)), ((md 12), .inl (cI, 12, .inl (upd mp ((0 : Int32).toNatClampNeg) q))), ((md 13), .inl (cI, 12, .inl mt)), ((md 14), .inl (cJ, 12, .inr (.inl mf)))] H := hP
  replace hD : va_D A [(moC md sd mth mst hn cn pn mq gn mln mnn ln mlt msz mcu mtk mfr mti mfa mfb an un lc td mtn), ((md 11), .inl (cI, 200, .inl mh)), ((md 12), .inl (cI, 12, .inl (upd mp ((0 : Int32).toNatClampNeg) q))), ((md 13), .inl (cI, 12, .inl mt)), ((md 14), .inl (cJ, 12, .inr (.inl mf)))] := hD
  refine lv_aload_n hx hb dX11_rowsTo_15 rfl (lv_at hl 3 rfl) ?_
  refine va_get (D := D) (ci := 11) (v := .ref (md 14)) (C := RX11) (T := TX11) (N := 64) hx hb hts inX11_rowsTo_X11 hown hK hP 0 rfl rfl 14 (by decide) (hts (Cond.fieldLink RX11 44 "PortRoomsModel" "flow" "[J") (List.mem_cons_of_mem _ (List.mem_append_left _ (List.mem_of_getElem? (i := 1) rfl)))) (fun _ h9 => h9) rfl dX11_rowsTo_16 ?_
  refine lv_iconst (v := 0) hx hb dX11_rowsTo_19 (by decide) ?_
  refine lv_ldc2 hx hb hown (hts (Cond.constantLong RX11 195 (1000000)) (List.mem_cons_of_mem _ (List.mem_append_left _ (List.mem_of_getElem? (i := 2) rfl)))) dX11_rowsTo_20 ?_
  refine va_last hx hb hK hP hD hS 4 2 rfl rfl (i_in (by decide) (by decide)) dX11_rowsTo_23 (fun H locs => ?_)
  clear hP hD hS
  intro hP hD hS
  replace hP : va_P D vwCl [(moC md sd mth mst hn cn pn mq gn mln mnn ln mlt msz mcu mtk mfr mti mfa mfb an un lc td mtn), ((md 11), .inl (cI, 200, .inl mh)), ((md 12), .inl (cI, 12, .inl (upd mp ((0 : Int32).toNatClampNeg) q))), ((md 13), .inl (cI, 12, .inl mt)), ((md 14), .inl (cJ, 12, .inr (.inl (vp_updL mf ((0 : Int32).toNatClampNeg) 1000000))))] H := hP
  replace hD : va_D A [(moC md sd mth mst hn cn pn mq gn mln mnn ln mlt msz mcu mtk mfr mti mfa mfb an un lc td mtn), ((md 11), .inl (cI, 200, .inl mh)), ((md 12), .inl (cI, 12, .inl (upd mp ((0 : Int32).toNatClampNeg) q))), ((md 13), .inl (cI, 12, .inl mt)), ((md 14), .inl (cJ, 12, .inr (.inl (vp_updL mf ((0 : Int32).toNatClampNeg) 1000000))))] := hD
  refine lv_aload_n hx hb dX11_rowsTo_24 rfl (lv_at hl 3 rfl) ?_
  refine va_get (D := D) (ci := 11) (v := .ref (md 13)) (C := RX11) (T := TX11) (N := 64) hx hb hts inX11_rowsTo_X11 hown hK hP 0 rfl rfl 13 (by decide) (hts (Cond.fieldLink RX11 41 "PortRoomsModel" "tried" "[I") (List.mem_cons_of_mem _ (List.mem_append_left _ (List.mem_of_getElem? (i := 3) rfl)))) (fun _ h9 => h9) rfl dX11_rowsTo_25 ?_
  refine lv_iconst (v := 0) hx hb dX11_rowsTo_28 (by decide) ?_
  refine lv_iconst (v := (-1)) hx hb dX11_rowsTo_29 (by decide) ?_
  refine va_iast hx hb hK hP hD hS 3 0 rfl rfl (i_in (by decide) (by decide)) dX11_rowsTo_30 (fun H locs => ?_)
  clear hP hD hS
  intro hP hD hS
  replace hP : va_P D vwCl [(moC md sd mth mst hn cn pn mq gn mln mnn ln mlt msz mcu mtk mfr mti mfa mfb an un lc td mtn), ((md 11), .inl (cI, 200, .inl mh)), ((md 12), .inl (cI, 12, .inl (upd mp ((0 : Int32).toNatClampNeg) q))), ((md 13), .inl (cI, 12, .inl (upd mt ((0 : Int32).toNatClampNeg) (-1)))), ((md 14), .inl (cJ, 12, .inr (.inl (vp_updL mf ((0 : Int32).toNatClampNeg) 1000000))))] H := hP
  replace hD : va_D A [(moC md sd mth mst hn cn pn mq gn mln mnn ln mlt msz mcu mtk mfr mti mfa mfb an un lc td mtn), ((md 11), .inl (cI, 200, .inl mh)), ((md 12), .inl (cI, 12, .inl (upd mp ((0 : Int32).toNatClampNeg) q))), ((md 13), .inl (cI, 12, .inl (upd mt ((0 : Int32).toNatClampNeg) (-1)))), ((md 14), .inl (cJ, 12, .inr (.inl (vp_updL mf ((0 : Int32).toNatClampNeg) 1000000))))] := hD
  refine st_loop 31 (fun _ => []) (fun (z : Int64 × Int32 × Int32 × (Nat → Int32) × (Nat → Int32) × (Nat → Int64)) (ls : Array Slot) (H : Heap) (locs : List Loc) => match z with | (q31_3, q31_5, q31_6, mpq, mtq, mfq) => (okT q31_5 q31_6 mpq mtq) ∧ (-1 ≤ q31_5.toInt) ∧ (q31_5.toInt ≤ 10) ∧ lv_has ls 11 [(0, .ref (md 64)), (1, .int q), (2, .int o), (3, .long q31_3), (5, .int q31_5), (6, .int q31_6)] ∧ va_P D vwCl [(moC md sd mth mst hn cn pn mq gn mln mnn ln mlt msz mcu mtk mfr mti mfa mfb an un lc td mtn), ((md 11), .inl (cI, 200, .inl mh)), ((md 12), .inl (cI, 12, .inl mpq)), ((md 13), .inl (cI, 12, .inl mtq)), ((md 14), .inl (cJ, 12, .inr (.inl mfq)))] H ∧ va_D A [(moC md sd mth mst hn cn pn mq gn mln mnn ln mlt msz mcu mtk mfr mti mfa mfb an un lc td mtn), ((md 11), .inl (cI, 200, .inl mh)), ((md 12), .inl (cI, 12, .inl mpq)), ((md 13), .inl (cI, 12, .inl mtq)), ((md 14), .inl (cJ, 12, .inr (.inl mfq)))] ∧ va_S A s.heap H locs) (fun (z : Int64 × Int32 × Int32 × (Nat → Int32) × (Nat → Int32) × (Nat → Int64)) => match z with | (q31_3, q31_5, q31_6, mpq, mtq, mfq) => muT mtq (q31_5.toInt + 1).toNat) ?_ ?_ ((0 : Int64), (0 : Int32), (0 : Int32), upd mp ((0 : Int32).toNatClampNeg) q, upd mt ((0 : Int32).toNatClampNeg) (-1), vp_updL mf ((0 : Int32).toNatClampNeg) 1000000) ⟨(by exact okT_0 (by omega) (by omega)), (by omega), (by omega), lv_sub hl [3, 4, 5, 2, 1, 0] rfl, hP, hD, hS⟩
  · rintro ⟨q31_3, q31_5, q31_6, mpq, mtq, mfq⟩ ls H locs ⟨g1, g2, g3, hl, hP, hD, hS⟩
    show (0 : Int) ≤ muT mtq (q31_5.toInt + 1).toNat
    exact okT_pos g1
  · rintro n6 ih4 ⟨q31_3, q31_5, q31_6, mpq, mtq, mfq⟩ ls H locs ⟨g1, g2, g3, hl, hP, hD, hS⟩ hm5
    have hm5 : muT mtq (q31_5.toInt + 1).toNat < (n6 : Int) + 1 := hm5
    replace hl : lv_has ls 11 [(0, .ref (md 64)), (1, .int q), (2, .int o), (3, .long q31_3), (5, .int q31_5), (6, .int q31_6)] := hl
    replace hP : va_P D vwCl [(moC md sd mth mst hn cn pn mq gn mln mnn ln mlt msz mcu mtk mfr mti mfa mfb an un lc td mtn), ((md 11), .inl (cI, 200, .inl mh)), ((md 12), .inl (cI, 12, .inl mpq)), ((md 13), .inl (cI, 12, .inl mtq)), ((md 14), .inl (cJ, 12, .inr (.inl mfq)))] H := hP
    replace hD : va_D A [(moC md sd mth mst hn cn pn mq gn mln mnn ln mlt msz mcu mtk mfr mti mfa mfb an un lc td mtn), ((md 11), .inl (cI, 200, .inl mh)), ((md 12), .inl (cI, 12, .inl mpq)), ((md 13), .inl (cI, 12, .inl mtq)), ((md 14), .inl (cJ, 12, .inr (.inl mfq)))] := hD
    show W _ _ _ _ _ _ _ _ _ _ _ _ _ _ _ (F0 m 31 ls [])
    refine lv_iload hx hb dX11_rowsTo_31 (lv_at hl 4 rfl) ?_
    refine lv_if_lt (tgt := 213) hx hb dX11_rowsTo_33 (by decide) (fun c7 => ?_) (fun c7 => ?_)
    · skip
      have f8 := i_lt c7
      refine lv_lload_n hx hb dX11_rowsTo_213 rfl (lv_at hl 3 rfl) ?_
      refine lv_ldc2 hx hb hown (hts (Cond.constantLong RX11 197 (2000000000)) (List.mem_cons_of_mem _ (List.mem_append_left _ (List.mem_of_getElem? (i := 6) rfl)))) dX11_rowsTo_214 ?_
      refine W.lcmp hx hb dX11_rowsTo_217 ?_
      refine lv_topi (fun v9 ev9 => ?_)
      refine lv_if_le (tgt := 227) hx hb dX11_rowsTo_218 (by decide) (fun c10 => ?_) (fun c10 => ?_)
      · skip
        have f11 := lc_le ev9 c10
        refine lv_lload_n hx hb dX11_rowsTo_227 rfl (lv_at hl 3 rfl) ?_
        have hP9 := hP.sub (ws' := [(moC md sd mth mst hn cn pn mq gn mln mnn ln mlt msz mcu mtk mfr mti mfa mfb an un lc td mtn), ((md 11), .inl (cI, 200, .inl mh)), ((md 12), .inl (cI, 12, .inl mpq)), ((md 13), .inl (cI, 12, .inl mtq)), ((md 14), .inl (cJ, 12, .inr (.inl mfq)))]) [0, 1, 2, 3, 4] rfl
        have hD9 := hD.sub (ws' := [(moC md sd mth mst hn cn pn mq gn mln mnn ln mlt msz mcu mtk mfr mti mfa mfb an un lc td mtn), ((md 11), .inl (cI, 200, .inl mh)), ((md 12), .inl (cI, 12, .inl mpq)), ((md 13), .inl (cI, 12, .inl mtq)), ((md 14), .inl (cJ, 12, .inr (.inl mfq)))]) [0, 1, 2, 3, 4] (by decide +kernel) rfl
        exact W.lret (v := q31_3) hx hb hr (fun t ht hW => ⟨⟨q31_3, (mpq, mtq, mfq), rfl, trivial, by rw [ht]; exact hP9, va_K.moved hW.alike hK, hD9⟩, hS.F ht⟩) hS.2.2 dX11_rowsTo_228
      · skip
        have f12 := lc_leN ev9 c10
        refine lv_ldc2 hx hb hown (hts (Cond.constantLong RX11 197 (2000000000)) (List.mem_cons_of_mem _ (List.mem_append_left _ (List.mem_of_getElem? (i := 6) rfl)))) dX11_rowsTo_221 ?_
        refine lv_goto (tgt := 228) hx hb dX11_rowsTo_224 (by decide) ?_
        have hP9 := hP.sub (ws' := [(moC md sd mth mst hn cn pn mq gn mln mnn ln mlt msz mcu mtk mfr mti mfa mfb an un lc td mtn), ((md 11), .inl (cI, 200, .inl mh)), ((md 12), .inl (cI, 12, .inl mpq)), ((md 13), .inl (cI, 12, .inl mtq)), ((md 14), .inl (cJ, 12, .inr (.inl mfq)))]) [0, 1, 2, 3, 4] rfl
        have hD9 := hD.sub (ws' := [(moC md sd mth mst hn cn pn mq gn mln mnn ln mlt msz mcu mtk mfr mti mfa mfb an un lc td mtn), ((md 11), .inl (cI, 200, .inl mh)), ((md 12), .inl (cI, 12, .inl mpq)), ((md 13), .inl (cI, 12, .inl mtq)), ((md 14), .inl (cJ, 12, .inr (.inl mfq)))]) [0, 1, 2, 3, 4] (by decide +kernel) rfl
        exact W.lret (v := 2000000000) hx hb hr (fun t ht hW => ⟨⟨2000000000, (mpq, mtq, mfq), rfl, trivial, by rw [ht]; exact hP9, va_K.moved hW.alike hK, hD9⟩, hS.F ht⟩) hS.2.2 dX11_rowsTo_228
    · skip
      have f13 := i_nlt c7
      refine lv_aload_n hx hb dX11_rowsTo_36 rfl (lv_at hl 0 rfl) ?_
      refine va_get (D := D) (ci := 11) (v := .ref (md 13)) (C := RX11) (T := TX11) (N := 64) hx hb hts inX11_rowsTo_X11 hown hK hP 0 rfl rfl 13 (by decide) (hts (Cond.fieldLink RX11 41 "PortRoomsModel" "tried" "[I") (List.mem_cons_of_mem _ (List.mem_append_left _ (List.mem_of_getElem? (i := 3) rfl)))) (fun _ h9 => h9) rfl dX11_rowsTo_37 ?_
      refine lv_iload hx hb dX11_rowsTo_40 (lv_at hl 4 rfl) ?_
      refine lv_dup2_11 hx hb dX11_rowsTo_42 rfl rfl ?_
      refine va_iald hx hb hK hP 3 0 rfl rfl (i_in (by omega) (by omega)) dX11_rowsTo_43 ?_
      refine lv_topi (fun v14 ev14 => ?_)
      have qv14 := okT_tried g1 ev14 (by omega) (by omega)
      refine lv_iconst (v := 1) hx hb dX11_rowsTo_44 (by decide) ?_
      refine lv_iadd hx hb dX11_rowsTo_45 ?_
      refine lv_topi (fun v15 ev15 => ?_)
      try have tv15 : v15.toInt = v14.toInt + 1 := by rw [ev15]; exact (i_add (x := v14) (y := (1 : Int32)) (by rw [k1]; omega) (by rw [k1]; omega)).trans (by rw [k1])
      refine va_iast hx hb hK hP hD hS 3 0 rfl rfl (i_in (by omega) (by omega)) dX11_rowsTo_46 (fun H locs => ?_)
      clear hP hD hS
      intro hP hD hS
      replace hP : va_P D vwCl [(moC md sd mth mst hn cn pn mq gn mln mnn ln mlt msz mcu mtk mfr mti mfa mfb an un lc td mtn), ((md 11), .inl (cI, 200, .inl mh)), ((md 12), .inl (cI, 12, .inl mpq)), ((md 13), .inl (cI, 12, .inl (upd mtq q31_5.toNatClampNeg v15))), ((md 14), .inl (cJ, 12, .inr (.inl mfq)))] H := hP
      replace hD : va_D A [(moC md sd mth mst hn cn pn mq gn mln mnn ln mlt msz mcu mtk mfr mti mfa mfb an un lc td mtn), ((md 11), .inl (cI, 200, .inl mh)), ((md 12), .inl (cI, 12, .inl mpq)), ((md 13), .inl (cI, 12, .inl (upd mtq q31_5.toNatClampNeg v15))), ((md 14), .inl (cJ, 12, .inr (.inl mfq)))] := hD
      refine lv_aload_n hx hb dX11_rowsTo_47 rfl (lv_at hl 0 rfl) ?_
      refine va_get (D := D) (ci := 11) (v := .ref (md 13)) (C := RX11) (T := TX11) (N := 64) hx hb hts inX11_rowsTo_X11 hown hK hP 0 rfl rfl 13 (by decide) (hts (Cond.fieldLink RX11 41 "PortRoomsModel" "tried" "[I") (List.mem_cons_of_mem _ (List.mem_append_left _ (List.mem_of_getElem? (i := 3) rfl)))) (fun _ h9 => h9) rfl dX11_rowsTo_48 ?_
      refine lv_iload hx hb dX11_rowsTo_51 (lv_at hl 4 rfl) ?_
      refine va_iald hx hb hK hP 3 0 rfl rfl (i_in (by omega) (by omega)) dX11_rowsTo_53 ?_
      refine lv_topi (fun v16 ev16 => ?_)
      replace ev16 : v15 = v16 := (ev16.trans (upd_s _ _ _)).symm
      subst ev16
      refine lv_istore (lv' := [(7, .int v15), (0, .ref (md 64)), (1, .int q), (2, .int o), (3, .long q31_3), (5, .int q31_5), (6, .int q31_6)]) hx hb dX11_rowsTo_54 hl (by decide) rfl (fun ls hl => ?_)
      refine lv_iload hx hb dX11_rowsTo_56 (lv_at hl 0 rfl) ?_
      refine lv_bipush (v := 10) hx hb dX11_rowsTo_58 (by decide) ?_
      refine lv_icmp_ne (tgt := 93) hx hb dX11_rowsTo_60 (by decide) (fun c17 => ?_) (fun c17 => ?_)
      · skip
        have f18 := i_ne c17
        refine lv_aload_n hx hb dX11_rowsTo_93 rfl (lv_at hl 1 rfl) ?_
        refine va_get (D := D) (ci := 11) (v := .ref (md 11)) (C := RX11) (T := TX11) (N := 64) hx hb hts inX11_rowsTo_X11 hown hK hP 0 rfl rfl 11 (by decide) (hts (Cond.fieldLink RX11 35 "PortRoomsModel" "has" "[I") (List.mem_cons_of_mem _ (List.mem_append_left _ (List.mem_of_getElem? (i := 4) rfl)))) (fun _ h9 => h9) rfl dX11_rowsTo_94 ?_
        refine lv_bipush (v := 10) hx hb dX11_rowsTo_97 (by decide) ?_
        refine lv_aload_n hx hb dX11_rowsTo_99 rfl (lv_at hl 1 rfl) ?_
        refine va_get (D := D) (ci := 11) (v := .ref (md 12)) (C := RX11) (T := TX11) (N := 64) hx hb hts inX11_rowsTo_X11 hown hK hP 0 rfl rfl 12 (by decide) (hts (Cond.fieldLink RX11 38 "PortRoomsModel" "path" "[I") (List.mem_cons_of_mem _ (List.mem_append_left _ (List.mem_of_getElem? (i := 0) rfl)))) (fun _ h9 => h9) rfl dX11_rowsTo_100 ?_
        refine lv_iload hx hb dX11_rowsTo_103 (lv_at hl 5 rfl) ?_
        refine va_iald hx hb hK hP 2 0 rfl rfl (i_in (by omega) (by omega)) dX11_rowsTo_105 ?_
        refine lv_topi (fun v19 ev19 => ?_)
        have qv19 := okT_path g1 ev19 (by omega) (by omega)
        refine lv_imul hx hb dX11_rowsTo_106 ?_
        refine lv_topi (fun v20 ev20 => ?_)
        try have tv20 : v20.toInt = 10 * v19.toInt := by rw [ev20]; exact (i_mul (x := (10 : Int32)) (y := v19) (by rw [k10]; omega) (by rw [k10]; omega)).trans (by rw [k10])
        refine lv_iload hx hb dX11_rowsTo_107 (lv_at hl 0 rfl) ?_
        refine lv_iadd hx hb dX11_rowsTo_109 ?_
        refine lv_topi (fun v21 ev21 => ?_)
        try have tv21 : v21.toInt = v20.toInt + v15.toInt := by rw [ev21]; exact (i_add (x := v20) (y := v15) (by omega) (by omega))
        refine va_iald hx hb hK hP 1 0 rfl rfl (i_in (by omega) (by omega)) dX11_rowsTo_110 ?_
        refine lv_topi (fun v22 ev22 => ?_)
        refine lv_istore (lv' := [(8, .int v22), (7, .int v15), (0, .ref (md 64)), (1, .int q), (2, .int o), (3, .long q31_3), (5, .int q31_5), (6, .int q31_6)]) hx hb dX11_rowsTo_111 hl (by decide) rfl (fun ls hl => ?_)
        refine lv_iload hx hb dX11_rowsTo_113 (lv_at hl 0 rfl) ?_
        refine lv_if_le (tgt := 210) hx hb dX11_rowsTo_115 (by decide) (fun c23 => ?_) (fun c23 => ?_)
        · skip
          have f24 := i_le c23
          refine lv_goto (tgt := 31) hx hb dX11_rowsTo_210 (by decide) ?_
          have hk25 := okT_stay g1 (by omega) (by assumption) tv15 (by omega)
          exact ih4 (q31_3, q31_5, q31_6, mpq, upd mtq q31_5.toNatClampNeg v15, mfq) ls H locs ⟨(by exact hk25.1), (by exact hk25.1.1), (by exact hk25.1.2.1), lv_sub hl [2, 3, 4, 5, 6, 7] rfl, hP.sub [0, 1, 2, 3, 4] rfl, hD.sub [0, 1, 2, 3, 4] (by decide +kernel) rfl, hS⟩ (by show muT (upd mtq q31_5.toNatClampNeg v15) (q31_5.toInt + 1).toNat < _; have := hk25.2; omega)
        · skip
          have f26 := i_nle c23
          refine lv_iload hx hb dX11_rowsTo_118 (lv_at hl 7 rfl) ?_
          refine lv_iload hx hb dX11_rowsTo_120 (lv_at hl 1 rfl) ?_
          refine lv_ishr hx hb dX11_rowsTo_122 ?_
          refine lv_topi (fun v27 ev27 => ?_)
          refine lv_iconst (v := 1) hx hb dX11_rowsTo_123 (by decide) ?_
          refine lv_iand hx hb dX11_rowsTo_124 ?_
          refine lv_topi (fun v28 ev28 => ?_)
          refine lv_if_ne (tgt := 210) hx hb dX11_rowsTo_125 (by decide) (fun c29 => ?_) (fun c29 => ?_)
          · skip
            have f30 := i_ne c29
            refine lv_goto (tgt := 31) hx hb dX11_rowsTo_210 (by decide) ?_
            have hk31 := okT_stay g1 (by omega) (by assumption) tv15 (by omega)
            exact ih4 (q31_3, q31_5, q31_6, mpq, upd mtq q31_5.toNatClampNeg v15, mfq) ls H locs ⟨(by exact hk31.1), (by exact hk31.1.1), (by exact hk31.1.2.1), lv_sub hl [2, 3, 4, 5, 6, 7] rfl, hP.sub [0, 1, 2, 3, 4] rfl, hD.sub [0, 1, 2, 3, 4] (by decide +kernel) rfl, hS⟩ (by show muT (upd mtq q31_5.toNatClampNeg v15) (q31_5.toInt + 1).toNat < _; have := hk31.2; omega)
          · skip
            have f32 := i_eq c29
            refine lv_aload_n hx hb dX11_rowsTo_128 rfl (lv_at hl 2 rfl) ?_
            refine va_get (D := D) (ci := 11) (v := .ref (md 14)) (C := RX11) (T := TX11) (N := 64) hx hb hts inX11_rowsTo_X11 hown hK hP 0 rfl rfl 14 (by decide) (hts (Cond.fieldLink RX11 44 "PortRoomsModel" "flow" "[J") (List.mem_cons_of_mem _ (List.mem_append_left _ (List.mem_of_getElem? (i := 1) rfl)))) (fun _ h9 => h9) rfl dX11_rowsTo_129 ?_
            refine lv_iload hx hb dX11_rowsTo_132 (lv_at hl 6 rfl) ?_
            refine va_lald hx hb hK hP 4 2 rfl rfl (i_in (by omega) (by omega)) dX11_rowsTo_134 ?_
            refine lv_topl (fun z33 ez33 => ?_)
            refine lv_iload hx hb dX11_rowsTo_135 (lv_at hl 0 rfl) ?_
            refine lv_i2l hx hb dX11_rowsTo_137 rfl ?_
            have w34 := i_w v22
            have w35 := i_rng v22
            refine lv_lmul hx hb dX11_rowsTo_138 ?_
            refine lv_topl (fun z36 ez36 => ?_)
            refine lv_ldc2 hx hb hown (hts (Cond.constantLong RX11 176 (100)) (List.mem_cons_of_mem _ (List.mem_append_left _ (List.mem_of_getElem? (i := 5) rfl)))) dX11_rowsTo_139 ?_
            refine lv_ldiv hx hb dX11_rowsTo_142 (by decide) ?_
            refine lv_topl (fun z37 ez37 => ?_)
            refine lv_lstore (lv' := [(9, .long z37), (8, .int v22), (7, .int v15), (0, .ref (md 64)), (1, .int q), (2, .int o), (3, .long q31_3), (5, .int q31_5), (6, .int q31_6)]) hx hb dX11_rowsTo_143 hl (by decide) rfl (fun ls hl => ?_)
            refine lv_iload hx hb dX11_rowsTo_145 (lv_at hl 2 rfl) ?_
            refine lv_bipush (v := 10) hx hb dX11_rowsTo_147 (by decide) ?_
            refine lv_iadd hx hb dX11_rowsTo_149 ?_
            refine lv_topi (fun v38 ev38 => ?_)
            try have tv38 : v38.toInt = v15.toInt + 10 := by rw [ev38]; exact (i_add (x := v15) (y := (10 : Int32)) (by rw [k10]; omega) (by rw [k10]; omega)).trans (by rw [k10])
            refine lv_iload_n hx hb dX11_rowsTo_150 rfl (lv_at hl 5 rfl) ?_
            refine lv_icmp_ne (tgt := 162) hx hb dX11_rowsTo_151 (by decide) (fun c39 => ?_) (fun c39 => ?_)
            · skip
              have f40 := i_ne c39
              refine lv_lload hx hb dX11_rowsTo_162 (lv_at hl 0 rfl) ?_
              refine lv_lconst (v := 0) hx hb dX11_rowsTo_164 (by decide) ?_
              refine W.lcmp hx hb dX11_rowsTo_165 ?_
              refine lv_topi (fun v41 ev41 => ?_)
              refine lv_if_le (tgt := 210) hx hb dX11_rowsTo_166 (by decide) (fun c42 => ?_) (fun c42 => ?_)
              · skip
                have f43 := lc_le ev41 c42
                refine lv_goto (tgt := 31) hx hb dX11_rowsTo_210 (by decide) ?_
                have hk44 := okT_stay g1 (by omega) (by assumption) tv15 (by omega)
                exact ih4 (q31_3, q31_5, q31_6, mpq, upd mtq q31_5.toNatClampNeg v15, mfq) ls H locs ⟨(by exact hk44.1), (by exact hk44.1.1), (by exact hk44.1.2.1), lv_sub hl [3, 4, 5, 6, 7, 8] rfl, hP.sub [0, 1, 2, 3, 4] rfl, hD.sub [0, 1, 2, 3, 4] (by decide +kernel) rfl, hS⟩ (by show muT (upd mtq q31_5.toNatClampNeg v15) (q31_5.toInt + 1).toNat < _; have := hk44.2; omega)
              · skip
                have f45 := lc_leN ev41 c42
                refine lv_iload hx hb dX11_rowsTo_169 (lv_at hl 8 rfl) ?_
                refine lv_iconst (v := 1) hx hb dX11_rowsTo_171 (by decide) ?_
                refine lv_iload hx hb dX11_rowsTo_172 (lv_at hl 2 rfl) ?_
                refine lv_ishl hx hb dX11_rowsTo_174 ?_
                refine lv_topi (fun v46 ev46 => ?_)
                refine lv_ior hx hb dX11_rowsTo_175 ?_
                refine lv_topi (fun v47 ev47 => ?_)
                refine lv_istore (lv' := [(6, .int v47), (9, .long z37), (8, .int v22), (7, .int v15), (0, .ref (md 64)), (1, .int q), (2, .int o), (3, .long q31_3), (5, .int q31_5)]) hx hb dX11_rowsTo_176 hl (by decide) rfl (fun ls hl => ?_)
                obtain ⟨v48, ev48⟩ : ∃ y : Int32, y = q31_5 + 1 := ⟨_, rfl⟩
                try have tv48 : v48.toInt = q31_5.toInt + 1 := by rw [ev48]; exact (i_add (x := q31_5) (y := (1 : Int32)) (by rw [k1]; omega) (by rw [k1]; omega)).trans (by rw [k1])
                refine lv_iinc (v := v48) (lv' := [(5, .int v48), (6, .int v47), (9, .long z37), (8, .int v22), (7, .int v15), (0, .ref (md 64)), (1, .int q), (2, .int o), (3, .long q31_3)]) hx hb dX11_rowsTo_178 hl (k := 8) rfl (by rw [ev48]; rfl) (by decide) rfl (fun ls hl => ?_)
                refine lv_aload_n hx hb dX11_rowsTo_181 rfl (lv_at hl 5 rfl) ?_
                refine va_get (D := D) (ci := 11) (v := .ref (md 12)) (C := RX11) (T := TX11) (N := 64) hx hb hts inX11_rowsTo_X11 hown hK hP 0 rfl rfl 12 (by decide) (hts (Cond.fieldLink RX11 38 "PortRoomsModel" "path" "[I") (List.mem_cons_of_mem _ (List.mem_append_left _ (List.mem_of_getElem? (i := 0) rfl)))) (fun _ h9 => h9) rfl dX11_rowsTo_182 ?_
                refine lv_iload hx hb dX11_rowsTo_185 (lv_at hl 0 rfl) ?_
                refine lv_iload hx hb dX11_rowsTo_187 (lv_at hl 4 rfl) ?_
                refine lv_bipush (v := 10) hx hb dX11_rowsTo_189 (by decide) ?_
                refine lv_iadd hx hb dX11_rowsTo_191 ?_
                refine lv_topi (fun v49 ev49 => ?_)
                try have tv49 : v49.toInt = v15.toInt + 10 := by rw [ev49]; exact (i_add (x := v15) (y := (10 : Int32)) (by rw [k10]; omega) (by rw [k10]; omega)).trans (by rw [k10])
                refine va_iast hx hb hK hP hD hS 2 0 rfl rfl (i_in (by omega) (by omega)) dX11_rowsTo_192 (fun H locs => ?_)
                clear hP hD hS
                intro hP hD hS
                replace hP : va_P D vwCl [(moC md sd mth mst hn cn pn mq gn mln mnn ln mlt msz mcu mtk mfr mti mfa mfb an un lc td mtn), ((md 11), .inl (cI, 200, .inl mh)), ((md 12), .inl (cI, 12, .inl (upd mpq v48.toNatClampNeg v49))), ((md 13), .inl (cI, 12, .inl (upd mtq q31_5.toNatClampNeg v15))), ((md 14), .inl (cJ, 12, .inr (.inl mfq)))] H := hP
                replace hD : va_D A [(moC md sd mth mst hn cn pn mq gn mln mnn ln mlt msz mcu mtk mfr mti mfa mfb an un lc td mtn), ((md 11), .inl (cI, 200, .inl mh)), ((md 12), .inl (cI, 12, .inl (upd mpq v48.toNatClampNeg v49))), ((md 13), .inl (cI, 12, .inl (upd mtq q31_5.toNatClampNeg v15))), ((md 14), .inl (cJ, 12, .inr (.inl mfq)))] := hD
                refine lv_aload_n hx hb dX11_rowsTo_193 rfl (lv_at hl 5 rfl) ?_
                refine va_get (D := D) (ci := 11) (v := .ref (md 14)) (C := RX11) (T := TX11) (N := 64) hx hb hts inX11_rowsTo_X11 hown hK hP 0 rfl rfl 14 (by decide) (hts (Cond.fieldLink RX11 44 "PortRoomsModel" "flow" "[J") (List.mem_cons_of_mem _ (List.mem_append_left _ (List.mem_of_getElem? (i := 1) rfl)))) (fun _ h9 => h9) rfl dX11_rowsTo_194 ?_
                refine lv_iload hx hb dX11_rowsTo_197 (lv_at hl 0 rfl) ?_
                refine lv_lload hx hb dX11_rowsTo_199 (lv_at hl 2 rfl) ?_
                refine va_last hx hb hK hP hD hS 4 2 rfl rfl (i_in (by omega) (by omega)) dX11_rowsTo_201 (fun H locs => ?_)
                clear hP hD hS
                intro hP hD hS
                replace hP : va_P D vwCl [(moC md sd mth mst hn cn pn mq gn mln mnn ln mlt msz mcu mtk mfr mti mfa mfb an un lc td mtn), ((md 11), .inl (cI, 200, .inl mh)), ((md 12), .inl (cI, 12, .inl (upd mpq v48.toNatClampNeg v49))), ((md 13), .inl (cI, 12, .inl (upd mtq q31_5.toNatClampNeg v15))), ((md 14), .inl (cJ, 12, .inr (.inl (vp_updL mfq v48.toNatClampNeg z37))))] H := hP
                replace hD : va_D A [(moC md sd mth mst hn cn pn mq gn mln mnn ln mlt msz mcu mtk mfr mti mfa mfb an un lc td mtn), ((md 11), .inl (cI, 200, .inl mh)), ((md 12), .inl (cI, 12, .inl (upd mpq v48.toNatClampNeg v49))), ((md 13), .inl (cI, 12, .inl (upd mtq q31_5.toNatClampNeg v15))), ((md 14), .inl (cJ, 12, .inr (.inl (vp_updL mfq v48.toNatClampNeg z37))))] := hD
                refine lv_aload_n hx hb dX11_rowsTo_202 rfl (lv_at hl 5 rfl) ?_
                refine va_get (D := D) (ci := 11) (v := .ref (md 13)) (C := RX11) (T := TX11) (N := 64) hx hb hts inX11_rowsTo_X11 hown hK hP 0 rfl rfl 13 (by decide) (hts (Cond.fieldLink RX11 41 "PortRoomsModel" "tried" "[I") (List.mem_cons_of_mem _ (List.mem_append_left _ (List.mem_of_getElem? (i := 3) rfl)))) (fun _ h9 => h9) rfl dX11_rowsTo_203 ?_
                refine lv_iload hx hb dX11_rowsTo_206 (lv_at hl 0 rfl) ?_
                refine lv_iconst (v := (-1)) hx hb dX11_rowsTo_208 (by decide) ?_
                refine va_iast hx hb hK hP hD hS 3 0 rfl rfl (i_in (by omega) (by omega)) dX11_rowsTo_209 (fun H locs => ?_)
                clear hP hD hS
                intro hP hD hS
                replace hP : va_P D vwCl [(moC md sd mth mst hn cn pn mq gn mln mnn ln mlt msz mcu mtk mfr mti mfa mfb an un lc td mtn), ((md 11), .inl (cI, 200, .inl mh)), ((md 12), .inl (cI, 12, .inl (upd mpq v48.toNatClampNeg v49))), ((md 13), .inl (cI, 12, .inl (upd (upd mtq q31_5.toNatClampNeg v15) v48.toNatClampNeg (-1)))), ((md 14), .inl (cJ, 12, .inr (.inl (vp_updL mfq v48.toNatClampNeg z37))))] H := hP
                replace hD : va_D A [(moC md sd mth mst hn cn pn mq gn mln mnn ln mlt msz mcu mtk mfr mti mfa mfb an un lc td mtn), ((md 11), .inl (cI, 200, .inl mh)), ((md 12), .inl (cI, 12, .inl (upd mpq v48.toNatClampNeg v49))), ((md 13), .inl (cI, 12, .inl (upd (upd mtq q31_5.toNatClampNeg v15) v48.toNatClampNeg (-1)))), ((md 14), .inl (cJ, 12, .inr (.inl (vp_updL mfq v48.toNatClampNeg z37))))] := hD
                refine lv_goto (tgt := 31) hx hb dX11_rowsTo_210 (by decide) ?_
                have hz9 : v28 = 0 := i_of (by assumption)
                have hf9 := (bt_bit (x := q31_6) (c := v15) (by omega) (by omega)).mp (by rw [← ev27, ← ev28]; exact hz9)
                have hm9 : ∀ i, i < 10 → bt v47 i = (bt q31_6 i || decide (i = v15.toNatClampNeg)) := fun i hi => by rw [ev47, ev46]; exact bt_set (by omega) (by omega) (by omega)
                have hk50 := okT_push g1 (by omega) (by assumption) tv15 (by omega) (show v48.toInt = q31_5.toInt + 1 by omega) hf9 hm9 (show v49.toInt = v15.toInt + 10 by omega)
                exact ih4 (q31_3, v48, v47, upd mpq v48.toNatClampNeg v49, upd (upd mtq q31_5.toNatClampNeg v15) v48.toNatClampNeg (-1), vp_updL mfq v48.toNatClampNeg z37) ls H locs ⟨(by exact hk50.1), (by exact hk50.1.1), (by exact hk50.1.2.1), lv_sub hl [5, 6, 7, 8, 0, 1] rfl, hP.sub [0, 1, 2, 3, 4] rfl, hD.sub [0, 1, 2, 3, 4] (by decide +kernel) rfl, hS⟩ (by show muT (upd (upd mtq q31_5.toNatClampNeg v15) v48.toNatClampNeg (-1)) (v48.toInt + 1).toNat < _; have := hk50.2; omega)
            · skip
              have f51 := i_eq c39
              refine lv_lload_n hx hb dX11_rowsTo_154 rfl (lv_at hl 6 rfl) ?_
              refine lv_lload hx hb dX11_rowsTo_155 (lv_at hl 0 rfl) ?_
              refine lv_ladd hx hb dX11_rowsTo_157 ?_
              refine lv_topl (fun z52 ez52 => ?_)
              try have tz52 : z52.toInt = q31_3.toInt + z37.toInt := by rw [ez52]; exact l_add (by omega) (by omega)
              refine lv_lstore_n (lv' := [(3, .long z52), (9, .long z37), (8, .int v22), (7, .int v15), (0, .ref (md 64)), (1, .int q), (2, .int o), (5, .int q31_5), (6, .int q31_6)]) hx hb dX11_rowsTo_158 rfl hl (by decide) rfl (fun ls hl => ?_)
              refine lv_goto (tgt := 210) hx hb dX11_rowsTo_159 (by decide) ?_
              refine lv_goto (tgt := 31) hx hb dX11_rowsTo_210 (by decide) ?_
              have hk53 := okT_stay g1 (by omega) (by assumption) tv15 (by omega)
              exact ih4 (z52, q31_5, q31_6, mpq, upd mtq q31_5.toNatClampNeg v15, mfq) ls H locs ⟨(by exact hk53.1), (by exact hk53.1.1), (by exact hk53.1.2.1), lv_sub hl [4, 5, 6, 0, 7, 8] rfl, hP.sub [0, 1, 2, 3, 4] rfl, hD.sub [0, 1, 2, 3, 4] (by decide +kernel) rfl, hS⟩ (by show muT (upd mtq q31_5.toNatClampNeg v15) (q31_5.toInt + 1).toNat < _; have := hk53.2; omega)
      · skip
        have f54 := i_eq c17
        refine lv_iload hx hb dX11_rowsTo_63 (lv_at hl 5 rfl) ?_
        refine lv_if_le (tgt := 87) hx hb dX11_rowsTo_65 (by decide) (fun c55 => ?_) (fun c55 => ?_)
        · skip
          have f56 := i_le c55
          obtain ⟨v57, ev57⟩ : ∃ y : Int32, y = q31_5 + (-1) := ⟨_, rfl⟩
          try have tv57 : v57.toInt = q31_5.toInt + (-1) := by rw [ev57]; exact (i_add (x := q31_5) (y := ((-1) : Int32)) (by rw [km1]; omega) (by rw [km1]; omega)).trans (by rw [km1])
          refine lv_iinc (v := v57) (lv' := [(5, .int v57), (7, .int v15), (0, .ref (md 64)), (1, .int q), (2, .int o), (3, .long q31_3), (6, .int q31_6)]) hx hb dX11_rowsTo_87 hl (k := 5) rfl (by rw [ev57]; rfl) (by decide) rfl (fun ls hl => ?_)
          refine lv_goto (tgt := 210) hx hb dX11_rowsTo_90 (by decide) ?_
          refine lv_goto (tgt := 31) hx hb dX11_rowsTo_210 (by decide) ?_
          have hk58 := okT_pop (met' := q31_6) (c := v15) g1 (by omega) (show v57.toInt = q31_5.toInt - 1 by omega) (fun h9 => by exfalso; omega)
          exact ih4 (q31_3, v57, q31_6, mpq, upd mtq q31_5.toNatClampNeg v15, mfq) ls H locs ⟨(by exact hk58.1), (by exact hk58.1.1), (by exact hk58.1.2.1), lv_sub hl [2, 3, 4, 5, 0, 6] rfl, hP.sub [0, 1, 2, 3, 4] rfl, hD.sub [0, 1, 2, 3, 4] (by decide +kernel) rfl, hS⟩ (by show muT (upd mtq q31_5.toNatClampNeg v15) (v57.toInt + 1).toNat < _; have := hk58.2; omega)
        · skip
          have f59 := i_nle c55
          refine lv_iload hx hb dX11_rowsTo_68 (lv_at hl 6 rfl) ?_
          refine lv_iconst (v := 1) hx hb dX11_rowsTo_70 (by decide) ?_
          refine lv_aload_n hx hb dX11_rowsTo_71 rfl (lv_at hl 1 rfl) ?_
          refine va_get (D := D) (ci := 11) (v := .ref (md 12)) (C := RX11) (T := TX11) (N := 64) hx hb hts inX11_rowsTo_X11 hown hK hP 0 rfl rfl 12 (by decide) (hts (Cond.fieldLink RX11 38 "PortRoomsModel" "path" "[I") (List.mem_cons_of_mem _ (List.mem_append_left _ (List.mem_of_getElem? (i := 0) rfl)))) (fun _ h9 => h9) rfl dX11_rowsTo_72 ?_
          refine lv_iload hx hb dX11_rowsTo_75 (lv_at hl 5 rfl) ?_
          refine va_iald hx hb hK hP 2 0 rfl rfl (i_in (by omega) (by omega)) dX11_rowsTo_77 ?_
          refine lv_topi (fun v60 ev60 => ?_)
          have qv60 := okT_path g1 ev60 (by omega) (by omega)
          refine lv_bipush (v := 10) hx hb dX11_rowsTo_78 (by decide) ?_
          refine lv_isub hx hb dX11_rowsTo_80 ?_
          refine lv_topi (fun v61 ev61 => ?_)
          try have tv61 : v61.toInt = v60.toInt - 10 := by rw [ev61]; exact (i_sub (x := v60) (y := (10 : Int32)) (by rw [k10]; omega) (by rw [k10]; omega)).trans (by rw [k10])
          refine lv_ishl hx hb dX11_rowsTo_81 ?_
          refine lv_topi (fun v62 ev62 => ?_)
          refine lv_iconst (v := (-1)) hx hb dX11_rowsTo_82 (by decide) ?_
          refine lv_ixor hx hb dX11_rowsTo_83 ?_
          refine lv_topi (fun v63 ev63 => ?_)
          refine lv_iand hx hb dX11_rowsTo_84 ?_
          refine lv_topi (fun v64 ev64 => ?_)
          refine lv_istore (lv' := [(6, .int v64), (7, .int v15), (0, .ref (md 64)), (1, .int q), (2, .int o), (3, .long q31_3), (5, .int q31_5)]) hx hb dX11_rowsTo_85 hl (by decide) rfl (fun ls hl => ?_)
          obtain ⟨v65, ev65⟩ : ∃ y : Int32, y = q31_5 + (-1) := ⟨_, rfl⟩
          try have tv65 : v65.toInt = q31_5.toInt + (-1) := by rw [ev65]; exact (i_add (x := q31_5) (y := ((-1) : Int32)) (by rw [km1]; omega) (by rw [km1]; omega)).trans (by rw [km1])
          refine lv_iinc (v := v65) (lv' := [(5, .int v65), (6, .int v64), (7, .int v15), (0, .ref (md 64)), (1, .int q), (2, .int o), (3, .long q31_3)]) hx hb dX11_rowsTo_87 hl (k := 6) rfl (by rw [ev65]; rfl) (by decide) rfl (fun ls hl => ?_)
          refine lv_goto (tgt := 210) hx hb dX11_rowsTo_90 (by decide) ?_
          refine lv_goto (tgt := 31) hx hb dX11_rowsTo_210 (by decide) ?_
          have hm9 : ∀ i, i < 10 → bt v64 i = (bt q31_6 i && !decide (i = ((mpq q31_5.toNatClampNeg).toInt - 10).toNat)) := by
            intro i hi
            have h8 : v61.toNatClampNeg = ((mpq q31_5.toNatClampNeg).toInt - 10).toNat := by rw [← ev60]; have := i_cl (x := v61) (by omega); omega
            rw [ev64, ev63, ev62, bt_clr (by omega) (by omega) (by omega), h8]
          have hk66 := okT_pop (met' := v64) (c := v15) g1 (by omega) (show v65.toInt = q31_5.toInt - 1 by omega) (fun _ => hm9)
          exact ih4 (q31_3, v65, v64, mpq, upd mtq q31_5.toNatClampNeg v15, mfq) ls H locs ⟨(by exact hk66.1), (by exact hk66.1.1), (by exact hk66.1.2.1), lv_sub hl [3, 4, 5, 6, 0, 1] rfl, hP.sub [0, 1, 2, 3, 4] rfl, hD.sub [0, 1, 2, 3, 4] (by decide +kernel) rfl, hS⟩ (by show muT (upd mtq q31_5.toNatClampNeg v15) (v65.toInt + 1).toNat < _; have := hk66.2; omega)

set_option maxHeartbeats 4000000 in
set_option maxRecDepth 100000 in
theorem ct_X11_shareOf (l : Launch) (D : va_G) (cI cY cJ cQ : ClassId) (sz : Nat) (md : Nat → Nat) (sd : Int32) (mth mst hn cn pn mq gn mln mnn ln mlt msz mcu mtk mfr mti mfa mfb an un lc td mtn : Int32) (ho hc hp hs mh mp mt : Nat → Int32) (mf : Nat → Int64) (q : Int32) (o : Int32) (d : Int32)  (h1 : 0 ≤ hn.toInt) (h2 : hn.toInt ≤ 40) (h3 : 0 ≤ q.toInt) (h4 : q.toInt < 10)  : Met l yX11_shareOf wsX11_shareOf ({ frames := 2, cells := 0, slots := 0, locals := 48 }) (cPre D (ty4 cI cY cJ cQ) [(moC md sd mth mst hn cn pn mq gn mln mnn ln mlt msz mcu mtk mfr mti mfa mfb an un lc td mtn), ((md 7), .inl (cI, 40, .inl ho)), ((md 8), .inl (cI, 40, .inl hc)), ((md 9), .inl (cI, 40, .inl hp)), ((md 10), .inl (cI, 40, .inl hs)), ((md 11), .inl (cI, 200, .inl mh)), ((md 12), .inl (cI, 12, .inl mp)), ((md 13), .inl (cI, 12, .inl mt)), ((md 14), .inl (cJ, 12, .inr (.inl mf)))] sz [.ref (md 64), .int q, .int o, .int d]) (va_Qi (fun (r : Int32) (u : (Nat → Int32) × (Nat → Int32) × (Nat → Int32) × (Nat → Int64)) => True) (cB D (ty4 cI cY cJ cQ) (fun (u : (Nat → Int32) × (Nat → Int32) × (Nat → Int32) × (Nat → Int64)) => [(moC md sd mth mst hn cn pn mq gn mln mnn ln mlt msz mcu mtk mfr mti mfa mfb an un lc td mtn), ((md 7), .inl (cI, 40, .inl ho)), ((md 8), .inl (cI, 40, .inl hc)), ((md 9), .inl (cI, 40, .inl hp)), ((md 10), .inl (cI, 40, .inl hs)), ((md 11), .inl (cI, 200, .inl u.1)), ((md 12), .inl (cI, 12, .inl u.2.1)), ((md 13), .inl (cI, 12, .inl u.2.2.1)), ((md 14), .inl (cJ, 12, .inr (.inl u.2.2.2)))]) (va_A [(moC md sd mth mst hn cn pn mq gn mln mnn ln mlt msz mcu mtk mfr mti mfa mfb an un lc td mtn), ((md 7), .inl (cI, 40, .inl ho)), ((md 8), .inl (cI, 40, .inl hc)), ((md 9), .inl (cI, 40, .inl hp)), ((md 10), .inl (cI, 40, .inl hs)), ((md 11), .inl (cI, 200, .inl mh)), ((md 12), .inl (cI, 12, .inl mp)), ((md 13), .inl (cI, 12, .inl mt)), ((md 14), .inl (cJ, 12, .inr (.inl mf)))] sz)) (va_A [(moC md sd mth mst hn cn pn mq gn mln mnn ln mlt msz mcu mtk mfr mti mfa mfb an un lc td mtn), ((md 7), .inl (cI, 40, .inl ho)), ((md 8), .inl (cI, 40, .inl hc)), ((md 9), .inl (cI, 40, .inl hp)), ((md 10), .inl (cI, 40, .inl hs)), ((md 11), .inl (cI, 200, .inl mh)), ((md 12), .inl (cI, 12, .inl mp)), ((md 13), .inl (cI, 12, .inl mt)), ((md 14), .inl (cJ, 12, .inr (.inl mf)))] sz)) 0 0 (va_A [(moC md sd mth mst hn cn pn mq gn mln mnn ln mlt msz mcu mtk mfr mti mfa mfb an un lc td mtn), ((md 7), .inl (cI, 40, .inl ho)), ((md 8), .inl (cI, 40, .inl hc)), ((md 9), .inl (cI, 40, .inl hp)), ((md 10), .inl (cI, 40, .inl hs)), ((md 11), .inl (cI, 200, .inl mh)), ((md 12), .inl (cI, 12, .inl mp)), ((md 13), .inl (cI, 12, .inl mt)), ((md 14), .inl (cJ, 12, .inr (.inl mf)))] sz) := by
  refine Met.ofW (cc := cX11_shareOf) (maxL := 4) (ret := (some .int)) (by decide) rfl ?_
  intro p e s m args below meth c s₁ B hml hv
  obtain ⟨rfl, hsz, hP, hK, hD0, hN⟩ := hv
  have hx := B.exec
  have hb := B.bytes
  have hr := B.returns
  have hts := atoms_spec (ws := wsX11_shareOf) B.pre
  have hown : s.vm.findClass RX11 = some m.cls := findClass_of_methodNamed B.named
  have hlocks := B.notSynchronized
  subst hsz
  have hD := hD0.self (sz := s.heap.size)
  generalize hAe : va_A [(moC md sd mth mst hn cn pn mq gn mln mnn ln mlt msz mcu mtk mfr mti mfa mfb an un lc td mtn), ((md 7), .inl (cI, 40, .inl ho)), ((md 8), .inl (cI, 40, .inl hc)), ((md 9), .inl (cI, 40, .inl hp)), ((md 10), .inl (cI, 40, .inl hs)), ((md 11), .inl (cI, 200, .inl mh)), ((md 12), .inl (cI, 12, .inl mp)), ((md 13), .inl (cI, 12, .inl mt)), ((md 14), .inl (cJ, 12, .inr (.inl mf)))] s.heap.size = A at hD ⊢
  have hA : ∀ q : Nat, s.heap.size ≤ q → A q := fun q h => by rw [← hAe]; exact Or.inr h
  have hS : va_S A s.heap s.heap [] := va_S.rf
  have hP : va_P D vwCl [(moC md sd mth mst hn cn pn mq gn mln mnn ln mlt msz mcu mtk mfr mti mfa mfb an un lc td mtn), ((md 7), .inl (cI, 40, .inl ho)), ((md 8), .inl (cI, 40, .inl hc)), ((md 9), .inl (cI, 40, .inl hp)), ((md 10), .inl (cI, 40, .inl hs)), ((md 11), .inl (cI, 200, .inl mh)), ((md 12), .inl (cI, 12, .inl mp)), ((md 13), .inl (cI, 12, .inl mt)), ((md 14), .inl (cJ, 12, .inr (.inl mf)))] s.heap := hP
  have hl := lv_entry ([.ref (md 64), .int q, .int o, .int d]) (n := 4) (Nat.le_of_ble_eq_true rfl)
  rw [lg_entry_eq]
  generalize (lg_sl ([.ref (md 64), .int q, .int o, .int d]) ++ List.replicate (4 - (lg_sl ([.ref (md 64), .int q, .int o, .int d])).length) Slot.unset).toArray = ls at hl ⊢
  have hl : lv_has ls 4 [(0, .ref (md 64)), (1, .int q), (2, .int o), (3, .int d)] := hl
  have k10 : (10 : Int32).toInt = 10 := by decide
  refine lv_iload_n hx hb dX11_shareOf_0 rfl (lv_at hl 2 rfl) ?_
  refine lv_bipush (v := 10) hx hb dX11_shareOf_1 (by decide) ?_
  refine lv_icmp_ge (tgt := 18) hx hb dX11_shareOf_3 (by decide) (fun c1 => ?_) (fun c1 => ?_)
  · skip
    have f2 := i_le c1
    refine lv_aload_n hx hb dX11_shareOf_18 rfl (lv_at hl 0 rfl) ?_
    refine lv_iload_n hx hb dX11_shareOf_19 rfl (lv_at hl 3 rfl) ?_
    refine st_v (wr := [((md 12), .inl (cI, 12, .inl mp)), ((md 13), .inl (cI, 12, .inl mt)), ((md 14), .inl (cJ, 12, .inr (.inl mf)))]) (va_runV (C := RX11) (As := [.int d]) (rest := []) ⟨hx, hb, hml, hown, hts⟩ (ct_X11_findHas l D cI cY cJ cQ _ md sd mth mst hn cn pn mq gn mln mnn ln mlt msz mcu mtk mfr mti mfa mfb an un lc td mtn ho hc hp hs mh d (by omega) (by omega)) (cwV 1 hts gX11_shareOf_X11_findHas rfl rfl rfl ⟨rfl, cdX11_findHas⟩ ⟨Nat.le_of_ble_eq_true rfl, Nat.le_of_ble_eq_true rfl⟩) (cPreV (hP.sub [0, 1, 2, 3, 4, 5] rfl) hK (hD.sub [0, 1, 2, 3, 4, 5] (by decide +kernel) rfl) hN (ci := 11) (q0 := 0) rfl rfl) rfl rfl hl.1 rfl (lv_room (Nat.le_of_ble_eq_true rfl)) dX11_shareOf_20 ⟨Nat.le_of_ble_eq_true rfl, Nat.le_of_ble_eq_true rfl⟩) hP hD hS hA [0, 1, 2, 3, 4, 5] [6, 7, 8] rfl rfl (by decide +kernel) (by decide +kernel) (fun u3 H locs hw4 => ?_)
    clear hP hD hS
    intro hP hD hS
    replace hw4 : True := hw4
    replace hP : va_P D vwCl [((md 12), .inl (cI, 12, .inl mp)), ((md 13), .inl (cI, 12, .inl mt)), ((md 14), .inl (cJ, 12, .inr (.inl mf))), (moC md sd mth mst hn cn pn mq gn mln mnn ln mlt msz mcu mtk mfr mti mfa mfb an un lc td mtn), ((md 7), .inl (cI, 40, .inl ho)), ((md 8), .inl (cI, 40, .inl hc)), ((md 9), .inl (cI, 40, .inl hp)), ((md 10), .inl (cI, 40, .inl hs)), ((md 11), .inl (cI, 200, .inl u3))] H := hP
    replace hD : va_D A [((md 12), .inl (cI, 12, .inl mp)), ((md 13), .inl (cI, 12, .inl mt)), ((md 14), .inl (cJ, 12, .inr (.inl mf))), (moC md sd mth mst hn cn pn mq gn mln mnn ln mlt msz mcu mtk mfr mti mfa mfb an un lc td mtn), ((md 7), .inl (cI, 40, .inl ho)), ((md 8), .inl (cI, 40, .inl hc)), ((md 9), .inl (cI, 40, .inl hp)), ((md 10), .inl (cI, 40, .inl hs)), ((md 11), .inl (cI, 200, .inl u3))] := hD
    refine lv_aload_n hx hb dX11_shareOf_23 rfl (lv_at hl 0 rfl) ?_
    refine lv_iload_n hx hb dX11_shareOf_24 rfl (lv_at hl 1 rfl) ?_
    refine lv_iload_n hx hb dX11_shareOf_25 rfl (lv_at hl 2 rfl) ?_
    refine st_l (wr := [((md 7), .inl (cI, 40, .inl ho)), ((md 8), .inl (cI, 40, .inl hc)), ((md 9), .inl (cI, 40, .inl hp)), ((md 10), .inl (cI, 40, .inl hs))]) (va_runV (C := RX11) (As := [.int q, .int o]) (rest := []) ⟨hx, hb, hml, hown, hts⟩ (ct_X11_rowsTo l D cI cY cJ cQ _ md sd mth mst hn cn pn mq gn mln mnn ln mlt msz mcu mtk mfr mti mfa mfb an un lc td mtn u3 mp mt mf q o (by omega) (by omega)) (cwV 2 hts gX11_shareOf_X11_rowsTo rfl rfl rfl ⟨rfl, cdX11_rowsTo⟩ ⟨Nat.le_of_ble_eq_true rfl, Nat.le_of_ble_eq_true rfl⟩) (cPreV (hP.sub [3, 8, 0, 1, 2] rfl) hK (hD.sub [3, 8, 0, 1, 2] (by decide +kernel) rfl) hN (ci := 11) (q0 := 0) rfl rfl) rfl rfl hl.1 rfl (lv_room (Nat.le_of_ble_eq_true rfl)) dX11_shareOf_26 ⟨Nat.le_of_ble_eq_true rfl, Nat.le_of_ble_eq_true rfl⟩) hP hD hS hA [3, 8, 0, 1, 2] [4, 5, 6, 7] rfl rfl (by decide +kernel) (by decide +kernel) (fun r8 u6 H locs hw7 => ?_)
    clear hP hD hS
    intro hP hD hS
    obtain ⟨mp_9, mt_10, mf_11⟩ := u6
    replace hw7 : True := hw7
    replace hP : va_P D vwCl [((md 7), .inl (cI, 40, .inl ho)), ((md 8), .inl (cI, 40, .inl hc)), ((md 9), .inl (cI, 40, .inl hp)), ((md 10), .inl (cI, 40, .inl hs)), (moC md sd mth mst hn cn pn mq gn mln mnn ln mlt msz mcu mtk mfr mti mfa mfb an un lc td mtn), ((md 11), .inl (cI, 200, .inl u3)), ((md 12), .inl (cI, 12, .inl mp_9)), ((md 13), .inl (cI, 12, .inl mt_10)), ((md 14), .inl (cJ, 12, .inr (.inl mf_11)))] H := hP
    replace hD : va_D A [((md 7), .inl (cI, 40, .inl ho)), ((md 8), .inl (cI, 40, .inl hc)), ((md 9), .inl (cI, 40, .inl hp)), ((md 10), .inl (cI, 40, .inl hs)), (moC md sd mth mst hn cn pn mq gn mln mnn ln mlt msz mcu mtk mfr mti mfa mfb an un lc td mtn), ((md 11), .inl (cI, 200, .inl u3)), ((md 12), .inl (cI, 12, .inl mp_9)), ((md 13), .inl (cI, 12, .inl mt_10)), ((md 14), .inl (cJ, 12, .inr (.inl mf_11)))] := hD
    refine lv_l2i hx hb dX11_shareOf_29 rfl ?_
    refine lv_topi (fun v12 ev12 => ?_)
    have hP9 := hP.sub (ws' := [(moC md sd mth mst hn cn pn mq gn mln mnn ln mlt msz mcu mtk mfr mti mfa mfb an un lc td mtn), ((md 7), .inl (cI, 40, .inl ho)), ((md 8), .inl (cI, 40, .inl hc)), ((md 9), .inl (cI, 40, .inl hp)), ((md 10), .inl (cI, 40, .inl hs)), ((md 11), .inl (cI, 200, .inl u3)), ((md 12), .inl (cI, 12, .inl mp_9)), ((md 13), .inl (cI, 12, .inl mt_10)), ((md 14), .inl (cJ, 12, .inr (.inl mf_11)))]) [4, 0, 1, 2, 3, 5, 6, 7, 8] rfl
    have hD9 := hD.sub (ws' := [(moC md sd mth mst hn cn pn mq gn mln mnn ln mlt msz mcu mtk mfr mti mfa mfb an un lc td mtn), ((md 7), .inl (cI, 40, .inl ho)), ((md 8), .inl (cI, 40, .inl hc)), ((md 9), .inl (cI, 40, .inl hp)), ((md 10), .inl (cI, 40, .inl hs)), ((md 11), .inl (cI, 200, .inl u3)), ((md 12), .inl (cI, 12, .inl mp_9)), ((md 13), .inl (cI, 12, .inl mt_10)), ((md 14), .inl (cJ, 12, .inr (.inl mf_11)))]) [4, 0, 1, 2, 3, 5, 6, 7, 8] (by decide +kernel) rfl
    exact W.iret (v := v12) hx hb hr (fun t ht hW => ⟨⟨v12, (u3, mp_9, mt_10, mf_11), rfl, trivial, by rw [ht]; exact hP9, va_K.moved hW.alike hK, hD9⟩, hS.F ht⟩) hS.2.2 dX11_shareOf_30
  · skip
    have f13 := i_nle c1
    refine lv_iload_n hx hb dX11_shareOf_6 rfl (lv_at hl 2 rfl) ?_
    refine lv_iload_n hx hb dX11_shareOf_7 rfl (lv_at hl 1 rfl) ?_
    refine lv_icmp_ne (tgt := 16) hx hb dX11_shareOf_8 (by decide) (fun c14 => ?_) (fun c14 => ?_)
    · skip
      have f15 := i_ne c14
      refine lv_iconst (v := 0) hx hb dX11_shareOf_16 (by decide) ?_
      have hP9 := hP.sub (ws' := [(moC md sd mth mst hn cn pn mq gn mln mnn ln mlt msz mcu mtk mfr mti mfa mfb an un lc td mtn), ((md 7), .inl (cI, 40, .inl ho)), ((md 8), .inl (cI, 40, .inl hc)), ((md 9), .inl (cI, 40, .inl hp)), ((md 10), .inl (cI, 40, .inl hs)), ((md 11), .inl (cI, 200, .inl mh)), ((md 12), .inl (cI, 12, .inl mp)), ((md 13), .inl (cI, 12, .inl mt)), ((md 14), .inl (cJ, 12, .inr (.inl mf)))]) [0, 1, 2, 3, 4, 5, 6, 7, 8] rfl
      have hD9 := hD.sub (ws' := [(moC md sd mth mst hn cn pn mq gn mln mnn ln mlt msz mcu mtk mfr mti mfa mfb an un lc td mtn), ((md 7), .inl (cI, 40, .inl ho)), ((md 8), .inl (cI, 40, .inl hc)), ((md 9), .inl (cI, 40, .inl hp)), ((md 10), .inl (cI, 40, .inl hs)), ((md 11), .inl (cI, 200, .inl mh)), ((md 12), .inl (cI, 12, .inl mp)), ((md 13), .inl (cI, 12, .inl mt)), ((md 14), .inl (cJ, 12, .inr (.inl mf)))]) [0, 1, 2, 3, 4, 5, 6, 7, 8] (by decide +kernel) rfl
      exact W.iret (v := 0) hx hb hr (fun t ht hW => ⟨⟨0, (mh, mp, mt, mf), rfl, trivial, by rw [ht]; exact hP9, va_K.moved hW.alike hK, hD9⟩, hS.F ht⟩) hS.2.2 dX11_shareOf_17
    · skip
      have f16 := i_eq c14
      refine lv_ldc hx hb hown (hts (Cond.constant RX11 199 (1000000)) (List.mem_cons_of_mem _ (List.mem_append_left _ (List.mem_append_left _ (List.mem_of_getElem? (i := 0) rfl))))) dX11_shareOf_11 ?_
      refine lv_goto (tgt := 17) hx hb dX11_shareOf_13 (by decide) ?_
      have hP9 := hP.sub (ws' := [(moC md sd mth mst hn cn pn mq gn mln mnn ln mlt msz mcu mtk mfr mti mfa mfb an un lc td mtn), ((md 7), .inl (cI, 40, .inl ho)), ((md 8), .inl (cI, 40, .inl hc)), ((md 9), .inl (cI, 40, .inl hp)), ((md 10), .inl (cI, 40, .inl hs)), ((md 11), .inl (cI, 200, .inl mh)), ((md 12), .inl (cI, 12, .inl mp)), ((md 13), .inl (cI, 12, .inl mt)), ((md 14), .inl (cJ, 12, .inr (.inl mf)))]) [0, 1, 2, 3, 4, 5, 6, 7, 8] rfl
      have hD9 := hD.sub (ws' := [(moC md sd mth mst hn cn pn mq gn mln mnn ln mlt msz mcu mtk mfr mti mfa mfb an un lc td mtn), ((md 7), .inl (cI, 40, .inl ho)), ((md 8), .inl (cI, 40, .inl hc)), ((md 9), .inl (cI, 40, .inl hp)), ((md 10), .inl (cI, 40, .inl hs)), ((md 11), .inl (cI, 200, .inl mh)), ((md 12), .inl (cI, 12, .inl mp)), ((md 13), .inl (cI, 12, .inl mt)), ((md 14), .inl (cJ, 12, .inr (.inl mf)))]) [0, 1, 2, 3, 4, 5, 6, 7, 8] (by decide +kernel) rfl
      exact W.iret (v := 1000000) hx hb hr (fun t ht hW => ⟨⟨1000000, (mh, mp, mt, mf), rfl, trivial, by rw [ht]; exact hP9, va_K.moved hW.alike hK, hD9⟩, hS.F ht⟩) hS.2.2 dX11_shareOf_17

set_option maxHeartbeats 4000000 in
set_option maxRecDepth 100000 in
theorem ct_X11_share (l : Launch) (D : va_G) (cI cY cJ cQ : ClassId) (sz : Nat) (md : Nat → Nat) (sd : Int32) (mth mst hn cn pn mq gn mln mnn ln mlt msz mcu mtk mfr mti mfa mfb an un lc td mtn : Int32) (ho hc hp hs mh mp mt : Nat → Int32) (mf : Nat → Int64) (q : Int32) (o : Int32) (d : Int32)  (h1 : 0 ≤ hn.toInt) (h2 : hn.toInt ≤ 40)  : Met l yX11_share wsX11_share ({ frames := 3, cells := 0, slots := 0, locals := 71 }) (cPre D (ty4 cI cY cJ cQ) [(moC md sd mth mst hn cn pn mq gn mln mnn ln mlt msz mcu mtk mfr mti mfa mfb an un lc td mtn), ((md 7), .inl (cI, 40, .inl ho)), ((md 8), .inl (cI, 40, .inl hc)), ((md 9), .inl (cI, 40, .inl hp)), ((md 10), .inl (cI, 40, .inl hs)), ((md 11), .inl (cI, 200, .inl mh)), ((md 12), .inl (cI, 12, .inl mp)), ((md 13), .inl (cI, 12, .inl mt)), ((md 14), .inl (cJ, 12, .inr (.inl mf)))] sz [.ref (md 64), .int q, .int o, .int d]) (va_Qi (fun (r : Int32) (u : (Nat → Int32) × (Nat → Int32) × (Nat → Int32) × (Nat → Int64)) => True) (cB D (ty4 cI cY cJ cQ) (fun (u : (Nat → Int32) × (Nat → Int32) × (Nat → Int32) × (Nat → Int64)) => [(moC md sd 0 mst hn cn pn mq gn mln mnn ln mlt msz mcu mtk mfr mti mfa mfb an un lc td mtn), ((md 7), .inl (cI, 40, .inl ho)), ((md 8), .inl (cI, 40, .inl hc)), ((md 9), .inl (cI, 40, .inl hp)), ((md 10), .inl (cI, 40, .inl hs)), ((md 11), .inl (cI, 200, .inl u.1)), ((md 12), .inl (cI, 12, .inl u.2.1)), ((md 13), .inl (cI, 12, .inl u.2.2.1)), ((md 14), .inl (cJ, 12, .inr (.inl u.2.2.2)))]) (va_A [(moC md sd mth mst hn cn pn mq gn mln mnn ln mlt msz mcu mtk mfr mti mfa mfb an un lc td mtn), ((md 7), .inl (cI, 40, .inl ho)), ((md 8), .inl (cI, 40, .inl hc)), ((md 9), .inl (cI, 40, .inl hp)), ((md 10), .inl (cI, 40, .inl hs)), ((md 11), .inl (cI, 200, .inl mh)), ((md 12), .inl (cI, 12, .inl mp)), ((md 13), .inl (cI, 12, .inl mt)), ((md 14), .inl (cJ, 12, .inr (.inl mf)))] sz)) (va_A [(moC md sd mth mst hn cn pn mq gn mln mnn ln mlt msz mcu mtk mfr mti mfa mfb an un lc td mtn), ((md 7), .inl (cI, 40, .inl ho)), ((md 8), .inl (cI, 40, .inl hc)), ((md 9), .inl (cI, 40, .inl hp)), ((md 10), .inl (cI, 40, .inl hs)), ((md 11), .inl (cI, 200, .inl mh)), ((md 12), .inl (cI, 12, .inl mp)), ((md 13), .inl (cI, 12, .inl mt)), ((md 14), .inl (cJ, 12, .inr (.inl mf)))] sz)) 0 0 (va_A [(moC md sd mth mst hn cn pn mq gn mln mnn ln mlt msz mcu mtk mfr mti mfa mfb an un lc td mtn), ((md 7), .inl (cI, 40, .inl ho)), ((md 8), .inl (cI, 40, .inl hc)), ((md 9), .inl (cI, 40, .inl hp)), ((md 10), .inl (cI, 40, .inl hs)), ((md 11), .inl (cI, 200, .inl mh)), ((md 12), .inl (cI, 12, .inl mp)), ((md 13), .inl (cI, 12, .inl mt)), ((md 14), .inl (cJ, 12, .inr (.inl mf)))] sz) := by
  refine Met.ofW (cc := cX11_share) (maxL := 4) (ret := (some .int)) (by decide) rfl ?_
  intro p e s m args below meth c s₁ B hml hv
  obtain ⟨rfl, hsz, hP, hK, hD0, hN⟩ := hv
  have hx := B.exec
  have hb := B.bytes
  have hr := B.returns
  have hts := atoms_spec (ws := wsX11_share) B.pre
  have hown : s.vm.findClass RX11 = some m.cls := findClass_of_methodNamed B.named
  have hlocks := B.notSynchronized
  subst hsz
  have hD := hD0.self (sz := s.heap.size)
  generalize hAe : va_A [(moC md sd mth mst hn cn pn mq gn mln mnn ln mlt msz mcu mtk mfr mti mfa mfb an un lc td mtn), ((md 7), .inl (cI, 40, .inl ho)), ((md 8), .inl (cI, 40, .inl hc)), ((md 9), .inl (cI, 40, .inl hp)), ((md 10), .inl (cI, 40, .inl hs)), ((md 11), .inl (cI, 200, .inl mh)), ((md 12), .inl (cI, 12, .inl mp)), ((md 13), .inl (cI, 12, .inl mt)), ((md 14), .inl (cJ, 12, .inr (.inl mf)))] s.heap.size = A at hD ⊢
  have hA : ∀ q : Nat, s.heap.size ≤ q → A q := fun q h => by rw [← hAe]; exact Or.inr h
  have hS : va_S A s.heap s.heap [] := va_S.rf
  have hP : va_P D vwCl [(moC md sd mth mst hn cn pn mq gn mln mnn ln mlt msz mcu mtk mfr mti mfa mfb an un lc td mtn), ((md 7), .inl (cI, 40, .inl ho)), ((md 8), .inl (cI, 40, .inl hc)), ((md 9), .inl (cI, 40, .inl hp)), ((md 10), .inl (cI, 40, .inl hs)), ((md 11), .inl (cI, 200, .inl mh)), ((md 12), .inl (cI, 12, .inl mp)), ((md 13), .inl (cI, 12, .inl mt)), ((md 14), .inl (cJ, 12, .inr (.inl mf)))] s.heap := hP
  have hl := lv_entry ([.ref (md 64), .int q, .int o, .int d]) (n := 4) (Nat.le_of_ble_eq_true rfl)
  rw [lg_entry_eq]
  generalize (lg_sl ([.ref (md 64), .int q, .int o, .int d]) ++ List.replicate (4 - (lg_sl ([.ref (md 64), .int q, .int o, .int d])).length) Slot.unset).toArray = ls at hl ⊢
  have hl : lv_has ls 4 [(0, .ref (md 64)), (1, .int q), (2, .int o), (3, .int d)] := hl
  have k0 : (0 : Int32).toInt = 0 := by decide
  refine lv_aload_n hx hb dX11_share_0 rfl (lv_at hl 0 rfl) ?_
  refine lv_iconst (v := 0) hx hb dX11_share_1 (by decide) ?_
  refine va_put (D := D) (ci := 11) (v := .int 0) (ty := .int) (C := RX11) (T := TX11) (N := 64) hx hb hts inX11_share_X11 tyX11 tyX11_ok nmX11 hown hK hP hD hS 0 rfl rfl 0 (by decide) (hts (Cond.fieldLink RX11 1 "PortRoomsModel" "thrown" "I") (List.mem_cons_of_mem _ (List.mem_append_left _ (List.mem_append_left _ (List.mem_of_getElem? (i := 0) rfl))))) (fun _ h9 => h9) rfl (tyX11_ok 0 (by decide)) rfl rfl (Nat.le_of_ble_eq_true rfl) dX11_share_2 (fun H locs => ?_)
  clear hP hD hS
  intro hP hD hS
  replace hP : va_P D vwCl [(moC md sd (0) mst hn cn pn mq gn mln mnn ln mlt msz mcu mtk mfr mti mfa mfb an un lc td mtn), ((md 7), .inl (cI, 40, .inl ho)), ((md 8), .inl (cI, 40, .inl hc)), ((md 9), .inl (cI, 40, .inl hp)), ((md 10), .inl (cI, 40, .inl hs)), ((md 11), .inl (cI, 200, .inl mh)), ((md 12), .inl (cI, 12, .inl mp)), ((md 13), .inl (cI, 12, .inl mt)), ((md 14), .inl (cJ, 12, .inr (.inl mf)))] H := hP
  replace hD : va_D A [(moC md sd (0) mst hn cn pn mq gn mln mnn ln mlt msz mcu mtk mfr mti mfa mfb an un lc td mtn), ((md 7), .inl (cI, 40, .inl ho)), ((md 8), .inl (cI, 40, .inl hc)), ((md 9), .inl (cI, 40, .inl hp)), ((md 10), .inl (cI, 40, .inl hs)), ((md 11), .inl (cI, 200, .inl mh)), ((md 12), .inl (cI, 12, .inl mp)), ((md 13), .inl (cI, 12, .inl mt)), ((md 14), .inl (cJ, 12, .inr (.inl mf)))] := hD
  refine lv_iload_n hx hb dX11_share_5 rfl (lv_at hl 1 rfl) ?_
  refine st_i (wr := [(moC md sd (0) mst hn cn pn mq gn mln mnn ln mlt msz mcu mtk mfr mti mfa mfb an un lc td mtn), ((md 7), .inl (cI, 40, .inl ho)), ((md 8), .inl (cI, 40, .inl hc)), ((md 9), .inl (cI, 40, .inl hp)), ((md 10), .inl (cI, 40, .inl hs)), ((md 11), .inl (cI, 200, .inl mh)), ((md 12), .inl (cI, 12, .inl mp)), ((md 13), .inl (cI, 12, .inl mt)), ((md 14), .inl (cJ, 12, .inr (.inl mf)))]) (va_runS (As := [.int q]) (rest := []) ⟨hx, hb, hml, hown, hts⟩ (ct_X11_isPerson l D cI cY cJ cQ _ q) (va_cwS 1 hts gX11_share_X11_isPerson rfl rfl rfl cdX11_isPerson ⟨Nat.le_of_ble_eq_true rfl, Nat.le_of_ble_eq_true rfl⟩) (cPreS (hP.sub [] rfl) hK (hD.sub [] (by decide +kernel) rfl) hN) rfl rfl hl.1 rfl (lv_room (Nat.le_of_ble_eq_true rfl)) dX11_share_6 ⟨Nat.le_of_ble_eq_true rfl, Nat.le_of_ble_eq_true rfl⟩) hP hD hS hA [] [0, 1, 2, 3, 4, 5, 6, 7, 8] rfl rfl (by decide +kernel) (by decide +kernel) (fun r3 u1 H locs hw2 => ?_)
  clear hP hD hS
  intro hP hD hS
  replace hw2 : r3 = if 0 ≤ q.toInt ∧ q.toInt ≤ 9 then 1 else 0 := hw2
  replace hP : va_P D vwCl [(moC md sd (0) mst hn cn pn mq gn mln mnn ln mlt msz mcu mtk mfr mti mfa mfb an un lc td mtn), ((md 7), .inl (cI, 40, .inl ho)), ((md 8), .inl (cI, 40, .inl hc)), ((md 9), .inl (cI, 40, .inl hp)), ((md 10), .inl (cI, 40, .inl hs)), ((md 11), .inl (cI, 200, .inl mh)), ((md 12), .inl (cI, 12, .inl mp)), ((md 13), .inl (cI, 12, .inl mt)), ((md 14), .inl (cJ, 12, .inr (.inl mf)))] H := hP
  replace hD : va_D A [(moC md sd (0) mst hn cn pn mq gn mln mnn ln mlt msz mcu mtk mfr mti mfa mfb an un lc td mtn), ((md 7), .inl (cI, 40, .inl ho)), ((md 8), .inl (cI, 40, .inl hc)), ((md 9), .inl (cI, 40, .inl hp)), ((md 10), .inl (cI, 40, .inl hs)), ((md 11), .inl (cI, 200, .inl mh)), ((md 12), .inl (cI, 12, .inl mp)), ((md 13), .inl (cI, 12, .inl mt)), ((md 14), .inl (cJ, 12, .inr (.inl mf)))] := hD
  refine lv_if_eq (tgt := 26) hx hb dX11_share_9 (by decide) (fun c4 => ?_) (fun c4 => ?_)
  · skip
    have f5 := bo_f hw2 c4
    refine lv_ldc hx hb hown (hts (Cond.constant RX11 157 (-1000001)) (List.mem_cons_of_mem _ (List.mem_append_left _ (List.mem_append_left _ (List.mem_of_getElem? (i := 1) rfl))))) dX11_share_26 ?_
    refine lv_goto (tgt := 38) hx hb dX11_share_28 (by decide) ?_
    have hP9 := hP.sub (ws' := [(moC md sd (0) mst hn cn pn mq gn mln mnn ln mlt msz mcu mtk mfr mti mfa mfb an un lc td mtn), ((md 7), .inl (cI, 40, .inl ho)), ((md 8), .inl (cI, 40, .inl hc)), ((md 9), .inl (cI, 40, .inl hp)), ((md 10), .inl (cI, 40, .inl hs)), ((md 11), .inl (cI, 200, .inl mh)), ((md 12), .inl (cI, 12, .inl mp)), ((md 13), .inl (cI, 12, .inl mt)), ((md 14), .inl (cJ, 12, .inr (.inl mf)))]) [0, 1, 2, 3, 4, 5, 6, 7, 8] rfl
    have hD9 := hD.sub (ws' := [(moC md sd (0) mst hn cn pn mq gn mln mnn ln mlt msz mcu mtk mfr mti mfa mfb an un lc td mtn), ((md 7), .inl (cI, 40, .inl ho)), ((md 8), .inl (cI, 40, .inl hc)), ((md 9), .inl (cI, 40, .inl hp)), ((md 10), .inl (cI, 40, .inl hs)), ((md 11), .inl (cI, 200, .inl mh)), ((md 12), .inl (cI, 12, .inl mp)), ((md 13), .inl (cI, 12, .inl mt)), ((md 14), .inl (cJ, 12, .inr (.inl mf)))]) [0, 1, 2, 3, 4, 5, 6, 7, 8] (by decide +kernel) rfl
    exact W.iret (v := (-1000001)) hx hb hr (fun t ht hW => ⟨⟨(-1000001), (mh, mp, mt, mf), rfl, trivial, by rw [ht]; exact hP9, va_K.moved hW.alike hK, hD9⟩, hS.F ht⟩) hS.2.2 dX11_share_38
  · skip
    have f6 := bo_t hw2 c4
    refine lv_iload_n hx hb dX11_share_12 rfl (lv_at hl 2 rfl) ?_
    refine st_i (wr := [(moC md sd (0) mst hn cn pn mq gn mln mnn ln mlt msz mcu mtk mfr mti mfa mfb an un lc td mtn), ((md 7), .inl (cI, 40, .inl ho)), ((md 8), .inl (cI, 40, .inl hc)), ((md 9), .inl (cI, 40, .inl hp)), ((md 10), .inl (cI, 40, .inl hs)), ((md 11), .inl (cI, 200, .inl mh)), ((md 12), .inl (cI, 12, .inl mp)), ((md 13), .inl (cI, 12, .inl mt)), ((md 14), .inl (cJ, 12, .inr (.inl mf)))]) (va_runS (As := [.int o]) (rest := []) ⟨hx, hb, hml, hown, hts⟩ (ct_X11_isOwner l D cI cY cJ cQ _ o) (va_cwS 1 hts gX11_share_X11_isOwner rfl rfl rfl cdX11_isOwner ⟨Nat.le_of_ble_eq_true rfl, Nat.le_of_ble_eq_true rfl⟩) (cPreS (hP.sub [] rfl) hK (hD.sub [] (by decide +kernel) rfl) hN) rfl rfl hl.1 rfl (lv_room (Nat.le_of_ble_eq_true rfl)) dX11_share_13 ⟨Nat.le_of_ble_eq_true rfl, Nat.le_of_ble_eq_true rfl⟩) hP hD hS hA [] [0, 1, 2, 3, 4, 5, 6, 7, 8] rfl rfl (by decide +kernel) (by decide +kernel) (fun r9 u7 H locs hw8 => ?_)
    clear hP hD hS
    intro hP hD hS
    replace hw8 : r9 = if 0 ≤ o.toInt ∧ o.toInt ≤ 19 then 1 else 0 := hw8
    replace hP : va_P D vwCl [(moC md sd (0) mst hn cn pn mq gn mln mnn ln mlt msz mcu mtk mfr mti mfa mfb an un lc td mtn), ((md 7), .inl (cI, 40, .inl ho)), ((md 8), .inl (cI, 40, .inl hc)), ((md 9), .inl (cI, 40, .inl hp)), ((md 10), .inl (cI, 40, .inl hs)), ((md 11), .inl (cI, 200, .inl mh)), ((md 12), .inl (cI, 12, .inl mp)), ((md 13), .inl (cI, 12, .inl mt)), ((md 14), .inl (cJ, 12, .inr (.inl mf)))] H := hP
    replace hD : va_D A [(moC md sd (0) mst hn cn pn mq gn mln mnn ln mlt msz mcu mtk mfr mti mfa mfb an un lc td mtn), ((md 7), .inl (cI, 40, .inl ho)), ((md 8), .inl (cI, 40, .inl hc)), ((md 9), .inl (cI, 40, .inl hp)), ((md 10), .inl (cI, 40, .inl hs)), ((md 11), .inl (cI, 200, .inl mh)), ((md 12), .inl (cI, 12, .inl mp)), ((md 13), .inl (cI, 12, .inl mt)), ((md 14), .inl (cJ, 12, .inr (.inl mf)))] := hD
    refine lv_if_eq (tgt := 26) hx hb dX11_share_16 (by decide) (fun c10 => ?_) (fun c10 => ?_)
    · skip
      have f11 := bo_f hw8 c10
      refine lv_ldc hx hb hown (hts (Cond.constant RX11 157 (-1000001)) (List.mem_cons_of_mem _ (List.mem_append_left _ (List.mem_append_left _ (List.mem_of_getElem? (i := 1) rfl))))) dX11_share_26 ?_
      refine lv_goto (tgt := 38) hx hb dX11_share_28 (by decide) ?_
      have hP9 := hP.sub (ws' := [(moC md sd (0) mst hn cn pn mq gn mln mnn ln mlt msz mcu mtk mfr mti mfa mfb an un lc td mtn), ((md 7), .inl (cI, 40, .inl ho)), ((md 8), .inl (cI, 40, .inl hc)), ((md 9), .inl (cI, 40, .inl hp)), ((md 10), .inl (cI, 40, .inl hs)), ((md 11), .inl (cI, 200, .inl mh)), ((md 12), .inl (cI, 12, .inl mp)), ((md 13), .inl (cI, 12, .inl mt)), ((md 14), .inl (cJ, 12, .inr (.inl mf)))]) [0, 1, 2, 3, 4, 5, 6, 7, 8] rfl
      have hD9 := hD.sub (ws' := [(moC md sd (0) mst hn cn pn mq gn mln mnn ln mlt msz mcu mtk mfr mti mfa mfb an un lc td mtn), ((md 7), .inl (cI, 40, .inl ho)), ((md 8), .inl (cI, 40, .inl hc)), ((md 9), .inl (cI, 40, .inl hp)), ((md 10), .inl (cI, 40, .inl hs)), ((md 11), .inl (cI, 200, .inl mh)), ((md 12), .inl (cI, 12, .inl mp)), ((md 13), .inl (cI, 12, .inl mt)), ((md 14), .inl (cJ, 12, .inr (.inl mf)))]) [0, 1, 2, 3, 4, 5, 6, 7, 8] (by decide +kernel) rfl
      exact W.iret (v := (-1000001)) hx hb hr (fun t ht hW => ⟨⟨(-1000001), (mh, mp, mt, mf), rfl, trivial, by rw [ht]; exact hP9, va_K.moved hW.alike hK, hD9⟩, hS.F ht⟩) hS.2.2 dX11_share_38
    · skip
      have f12 := bo_t hw8 c10
      refine lv_iload_n hx hb dX11_share_19 rfl (lv_at hl 3 rfl) ?_
      refine st_i (wr := [(moC md sd (0) mst hn cn pn mq gn mln mnn ln mlt msz mcu mtk mfr mti mfa mfb an un lc td mtn), ((md 7), .inl (cI, 40, .inl ho)), ((md 8), .inl (cI, 40, .inl hc)), ((md 9), .inl (cI, 40, .inl hp)), ((md 10), .inl (cI, 40, .inl hs)), ((md 11), .inl (cI, 200, .inl mh)), ((md 12), .inl (cI, 12, .inl mp)), ((md 13), .inl (cI, 12, .inl mt)), ((md 14), .inl (cJ, 12, .inr (.inl mf)))]) (va_runS (As := [.int d]) (rest := []) ⟨hx, hb, hml, hown, hts⟩ (ct_X11_isDay l D cI cY cJ cQ _ d) (va_cwS 1 hts gX11_share_X11_isDay rfl rfl rfl cdX11_isDay ⟨Nat.le_of_ble_eq_true rfl, Nat.le_of_ble_eq_true rfl⟩) (cPreS (hP.sub [] rfl) hK (hD.sub [] (by decide +kernel) rfl) hN) rfl rfl hl.1 rfl (lv_room (Nat.le_of_ble_eq_true rfl)) dX11_share_20 ⟨Nat.le_of_ble_eq_true rfl, Nat.le_of_ble_eq_true rfl⟩) hP hD hS hA [] [0, 1, 2, 3, 4, 5, 6, 7, 8] rfl rfl (by decide +kernel) (by decide +kernel) (fun r15 u13 H locs hw14 => ?_)
      clear hP hD hS
      intro hP hD hS
      replace hw14 : r15 = if 0 ≤ d.toInt ∧ d.toInt ≤ 9999 then 1 else 0 := hw14
      replace hP : va_P D vwCl [(moC md sd (0) mst hn cn pn mq gn mln mnn ln mlt msz mcu mtk mfr mti mfa mfb an un lc td mtn), ((md 7), .inl (cI, 40, .inl ho)), ((md 8), .inl (cI, 40, .inl hc)), ((md 9), .inl (cI, 40, .inl hp)), ((md 10), .inl (cI, 40, .inl hs)), ((md 11), .inl (cI, 200, .inl mh)), ((md 12), .inl (cI, 12, .inl mp)), ((md 13), .inl (cI, 12, .inl mt)), ((md 14), .inl (cJ, 12, .inr (.inl mf)))] H := hP
      replace hD : va_D A [(moC md sd (0) mst hn cn pn mq gn mln mnn ln mlt msz mcu mtk mfr mti mfa mfb an un lc td mtn), ((md 7), .inl (cI, 40, .inl ho)), ((md 8), .inl (cI, 40, .inl hc)), ((md 9), .inl (cI, 40, .inl hp)), ((md 10), .inl (cI, 40, .inl hs)), ((md 11), .inl (cI, 200, .inl mh)), ((md 12), .inl (cI, 12, .inl mp)), ((md 13), .inl (cI, 12, .inl mt)), ((md 14), .inl (cJ, 12, .inr (.inl mf)))] := hD
      refine lv_if_ne (tgt := 31) hx hb dX11_share_23 (by decide) (fun c16 => ?_) (fun c16 => ?_)
      · skip
        have f17 := bo_t hw14 c16
        refine lv_aload_n hx hb dX11_share_31 rfl (lv_at hl 0 rfl) ?_
        refine lv_iload_n hx hb dX11_share_32 rfl (lv_at hl 1 rfl) ?_
        refine lv_iload_n hx hb dX11_share_33 rfl (lv_at hl 2 rfl) ?_
        refine lv_iload_n hx hb dX11_share_34 rfl (lv_at hl 3 rfl) ?_
        refine st_i (wr := []) (va_runV (C := RX11) (As := [.int q, .int o, .int d]) (rest := []) ⟨hx, hb, hml, hown, hts⟩ (ct_X11_shareOf l D cI cY cJ cQ _ md sd 0 mst hn cn pn mq gn mln mnn ln mlt msz mcu mtk mfr mti mfa mfb an un lc td mtn ho hc hp hs mh mp mt mf q o d (by omega) (by omega) (by omega) (by omega)) (cwV 3 hts gX11_share_X11_shareOf rfl rfl rfl ⟨rfl, cdX11_shareOf⟩ ⟨Nat.le_of_ble_eq_true rfl, Nat.le_of_ble_eq_true rfl⟩) (cPreV (hP.sub [0, 1, 2, 3, 4, 5, 6, 7, 8] rfl) hK (hD.sub [0, 1, 2, 3, 4, 5, 6, 7, 8] (by decide +kernel) rfl) hN (ci := 11) (q0 := 0) rfl rfl) rfl rfl hl.1 rfl (lv_room (Nat.le_of_ble_eq_true rfl)) dX11_share_35 ⟨Nat.le_of_ble_eq_true rfl, Nat.le_of_ble_eq_true rfl⟩) hP hD hS hA [0, 1, 2, 3, 4, 5, 6, 7, 8] [] rfl rfl (by decide +kernel) (by decide +kernel) (fun r20 u18 H locs hw19 => ?_)
        clear hP hD hS
        intro hP hD hS
        obtain ⟨mh_21, mp_22, mt_23, mf_24⟩ := u18
        replace hw19 : True := hw19
        replace hP : va_P D vwCl [(moC md sd (0) mst hn cn pn mq gn mln mnn ln mlt msz mcu mtk mfr mti mfa mfb an un lc td mtn), ((md 7), .inl (cI, 40, .inl ho)), ((md 8), .inl (cI, 40, .inl hc)), ((md 9), .inl (cI, 40, .inl hp)), ((md 10), .inl (cI, 40, .inl hs)), ((md 11), .inl (cI, 200, .inl mh_21)), ((md 12), .inl (cI, 12, .inl mp_22)), ((md 13), .inl (cI, 12, .inl mt_23)), ((md 14), .inl (cJ, 12, .inr (.inl mf_24)))] H := hP
        replace hD : va_D A [(moC md sd (0) mst hn cn pn mq gn mln mnn ln mlt msz mcu mtk mfr mti mfa mfb an un lc td mtn), ((md 7), .inl (cI, 40, .inl ho)), ((md 8), .inl (cI, 40, .inl hc)), ((md 9), .inl (cI, 40, .inl hp)), ((md 10), .inl (cI, 40, .inl hs)), ((md 11), .inl (cI, 200, .inl mh_21)), ((md 12), .inl (cI, 12, .inl mp_22)), ((md 13), .inl (cI, 12, .inl mt_23)), ((md 14), .inl (cJ, 12, .inr (.inl mf_24)))] := hD
        have hP9 := hP.sub (ws' := [(moC md sd (0) mst hn cn pn mq gn mln mnn ln mlt msz mcu mtk mfr mti mfa mfb an un lc td mtn), ((md 7), .inl (cI, 40, .inl ho)), ((md 8), .inl (cI, 40, .inl hc)), ((md 9), .inl (cI, 40, .inl hp)), ((md 10), .inl (cI, 40, .inl hs)), ((md 11), .inl (cI, 200, .inl mh_21)), ((md 12), .inl (cI, 12, .inl mp_22)), ((md 13), .inl (cI, 12, .inl mt_23)), ((md 14), .inl (cJ, 12, .inr (.inl mf_24)))]) [0, 1, 2, 3, 4, 5, 6, 7, 8] rfl
        have hD9 := hD.sub (ws' := [(moC md sd (0) mst hn cn pn mq gn mln mnn ln mlt msz mcu mtk mfr mti mfa mfb an un lc td mtn), ((md 7), .inl (cI, 40, .inl ho)), ((md 8), .inl (cI, 40, .inl hc)), ((md 9), .inl (cI, 40, .inl hp)), ((md 10), .inl (cI, 40, .inl hs)), ((md 11), .inl (cI, 200, .inl mh_21)), ((md 12), .inl (cI, 12, .inl mp_22)), ((md 13), .inl (cI, 12, .inl mt_23)), ((md 14), .inl (cJ, 12, .inr (.inl mf_24)))]) [0, 1, 2, 3, 4, 5, 6, 7, 8] (by decide +kernel) rfl
        exact W.iret (v := r20) hx hb hr (fun t ht hW => ⟨⟨r20, (mh_21, mp_22, mt_23, mf_24), rfl, trivial, by rw [ht]; exact hP9, va_K.moved hW.alike hK, hD9⟩, hS.F ht⟩) hS.2.2 dX11_share_38
      · skip
        have f25 := bo_f hw14 c16
        refine lv_ldc hx hb hown (hts (Cond.constant RX11 157 (-1000001)) (List.mem_cons_of_mem _ (List.mem_append_left _ (List.mem_append_left _ (List.mem_of_getElem? (i := 1) rfl))))) dX11_share_26 ?_
        refine lv_goto (tgt := 38) hx hb dX11_share_28 (by decide) ?_
        have hP9 := hP.sub (ws' := [(moC md sd (0) mst hn cn pn mq gn mln mnn ln mlt msz mcu mtk mfr mti mfa mfb an un lc td mtn), ((md 7), .inl (cI, 40, .inl ho)), ((md 8), .inl (cI, 40, .inl hc)), ((md 9), .inl (cI, 40, .inl hp)), ((md 10), .inl (cI, 40, .inl hs)), ((md 11), .inl (cI, 200, .inl mh)), ((md 12), .inl (cI, 12, .inl mp)), ((md 13), .inl (cI, 12, .inl mt)), ((md 14), .inl (cJ, 12, .inr (.inl mf)))]) [0, 1, 2, 3, 4, 5, 6, 7, 8] rfl
        have hD9 := hD.sub (ws' := [(moC md sd (0) mst hn cn pn mq gn mln mnn ln mlt msz mcu mtk mfr mti mfa mfb an un lc td mtn), ((md 7), .inl (cI, 40, .inl ho)), ((md 8), .inl (cI, 40, .inl hc)), ((md 9), .inl (cI, 40, .inl hp)), ((md 10), .inl (cI, 40, .inl hs)), ((md 11), .inl (cI, 200, .inl mh)), ((md 12), .inl (cI, 12, .inl mp)), ((md 13), .inl (cI, 12, .inl mt)), ((md 14), .inl (cJ, 12, .inr (.inl mf)))]) [0, 1, 2, 3, 4, 5, 6, 7, 8] (by decide +kernel) rfl
        exact W.iret (v := (-1000001)) hx hb hr (fun t ht hW => ⟨⟨(-1000001), (mh, mp, mt, mf), rfl, trivial, by rw [ht]; exact hP9, va_K.moved hW.alike hK, hD9⟩, hS.F ht⟩) hS.2.2 dX11_share_38

set_option maxHeartbeats 4000000 in
set_option maxRecDepth 100000 in
theorem ct_X11_truly (l : Launch) (D : va_G) (cI cY cJ cQ : ClassId) (sz : Nat) (md : Nat → Nat) (sd : Int32) (mth mst hn cn pn mq gn mln mnn ln mlt msz mcu mtk mfr mti mfa mfb an un lc td mtn : Int32) (ho hc hp hs mh mp mt : Nat → Int32) (mf : Nat → Int64) (o : Int32) (d : Int32)  (h1 : 0 ≤ hn.toInt) (h2 : hn.toInt ≤ 40)  : Met l yX11_truly wsX11_truly ({ frames := 3, cells := 0, slots := 0, locals := 71 }) (cPre D (ty4 cI cY cJ cQ) [(moC md sd mth mst hn cn pn mq gn mln mnn ln mlt msz mcu mtk mfr mti mfa mfb an un lc td mtn), ((md 7), .inl (cI, 40, .inl ho)), ((md 8), .inl (cI, 40, .inl hc)), ((md 9), .inl (cI, 40, .inl hp)), ((md 10), .inl (cI, 40, .inl hs)), ((md 11), .inl (cI, 200, .inl mh)), ((md 12), .inl (cI, 12, .inl mp)), ((md 13), .inl (cI, 12, .inl mt)), ((md 14), .inl (cJ, 12, .inr (.inl mf)))] sz [.ref (md 64), .int o, .int d]) (va_Qi (fun (r : Int32) (u : (Nat → Int32) × (Nat → Int32) × (Nat → Int32) × (Nat → Int64)) => True) (cB D (ty4 cI cY cJ cQ) (fun (u : (Nat → Int32) × (Nat → Int32) × (Nat → Int32) × (Nat → Int64)) => [(moC md sd 0 mst hn cn pn mq gn mln mnn ln mlt msz mcu mtk mfr mti mfa mfb an un lc td mtn), ((md 7), .inl (cI, 40, .inl ho)), ((md 8), .inl (cI, 40, .inl hc)), ((md 9), .inl (cI, 40, .inl hp)), ((md 10), .inl (cI, 40, .inl hs)), ((md 11), .inl (cI, 200, .inl u.1)), ((md 12), .inl (cI, 12, .inl u.2.1)), ((md 13), .inl (cI, 12, .inl u.2.2.1)), ((md 14), .inl (cJ, 12, .inr (.inl u.2.2.2)))]) (va_A [(moC md sd mth mst hn cn pn mq gn mln mnn ln mlt msz mcu mtk mfr mti mfa mfb an un lc td mtn), ((md 7), .inl (cI, 40, .inl ho)), ((md 8), .inl (cI, 40, .inl hc)), ((md 9), .inl (cI, 40, .inl hp)), ((md 10), .inl (cI, 40, .inl hs)), ((md 11), .inl (cI, 200, .inl mh)), ((md 12), .inl (cI, 12, .inl mp)), ((md 13), .inl (cI, 12, .inl mt)), ((md 14), .inl (cJ, 12, .inr (.inl mf)))] sz)) (va_A [(moC md sd mth mst hn cn pn mq gn mln mnn ln mlt msz mcu mtk mfr mti mfa mfb an un lc td mtn), ((md 7), .inl (cI, 40, .inl ho)), ((md 8), .inl (cI, 40, .inl hc)), ((md 9), .inl (cI, 40, .inl hp)), ((md 10), .inl (cI, 40, .inl hs)), ((md 11), .inl (cI, 200, .inl mh)), ((md 12), .inl (cI, 12, .inl mp)), ((md 13), .inl (cI, 12, .inl mt)), ((md 14), .inl (cJ, 12, .inr (.inl mf)))] sz)) 0 0 (va_A [(moC md sd mth mst hn cn pn mq gn mln mnn ln mlt msz mcu mtk mfr mti mfa mfb an un lc td mtn), ((md 7), .inl (cI, 40, .inl ho)), ((md 8), .inl (cI, 40, .inl hc)), ((md 9), .inl (cI, 40, .inl hp)), ((md 10), .inl (cI, 40, .inl hs)), ((md 11), .inl (cI, 200, .inl mh)), ((md 12), .inl (cI, 12, .inl mp)), ((md 13), .inl (cI, 12, .inl mt)), ((md 14), .inl (cJ, 12, .inr (.inl mf)))] sz) := by
  refine Met.ofW (cc := cX11_truly) (maxL := 7) (ret := (some .int)) (by decide) rfl ?_
  intro p e s m args below meth c s₁ B hml hv
  obtain ⟨rfl, hsz, hP, hK, hD0, hN⟩ := hv
  have hx := B.exec
  have hb := B.bytes
  have hr := B.returns
  have hts := atoms_spec (ws := wsX11_truly) B.pre
  have hown : s.vm.findClass RX11 = some m.cls := findClass_of_methodNamed B.named
  have hlocks := B.notSynchronized
  subst hsz
  have hD := hD0.self (sz := s.heap.size)
  generalize hAe : va_A [(moC md sd mth mst hn cn pn mq gn mln mnn ln mlt msz mcu mtk mfr mti mfa mfb an un lc td mtn), ((md 7), .inl (cI, 40, .inl ho)), ((md 8), .inl (cI, 40, .inl hc)), ((md 9), .inl (cI, 40, .inl hp)), ((md 10), .inl (cI, 40, .inl hs)), ((md 11), .inl (cI, 200, .inl mh)), ((md 12), .inl (cI, 12, .inl mp)), ((md 13), .inl (cI, 12, .inl mt)), ((md 14), .inl (cJ, 12, .inr (.inl mf)))] s.heap.size = A at hD ⊢
  have hA : ∀ q : Nat, s.heap.size ≤ q → A q := fun q h => by rw [← hAe]; exact Or.inr h
  have hS : va_S A s.heap s.heap [] := va_S.rf
  have hP : va_P D vwCl [(moC md sd mth mst hn cn pn mq gn mln mnn ln mlt msz mcu mtk mfr mti mfa mfb an un lc td mtn), ((md 7), .inl (cI, 40, .inl ho)), ((md 8), .inl (cI, 40, .inl hc)), ((md 9), .inl (cI, 40, .inl hp)), ((md 10), .inl (cI, 40, .inl hs)), ((md 11), .inl (cI, 200, .inl mh)), ((md 12), .inl (cI, 12, .inl mp)), ((md 13), .inl (cI, 12, .inl mt)), ((md 14), .inl (cJ, 12, .inr (.inl mf)))] s.heap := hP
  have hl := lv_entry ([.ref (md 64), .int o, .int d]) (n := 7) (Nat.le_of_ble_eq_true rfl)
  rw [lg_entry_eq]
  generalize (lg_sl ([.ref (md 64), .int o, .int d]) ++ List.replicate (7 - (lg_sl ([.ref (md 64), .int o, .int d])).length) Slot.unset).toArray = ls at hl ⊢
  have hl : lv_has ls 7 [(0, .ref (md 64)), (1, .int o), (2, .int d)] := hl
  have km1000000 : (-1000000 : Int32).toInt = -1000000 := by decide
  have k0 : (0 : Int32).toInt = 0 := by decide
  have k1 : (1 : Int32).toInt = 1 := by decide
  have k10 : (10 : Int32).toInt = 10 := by decide
  refine lv_aload_n hx hb dX11_truly_0 rfl (lv_at hl 0 rfl) ?_
  refine lv_iconst (v := 0) hx hb dX11_truly_1 (by decide) ?_
  refine va_put (D := D) (ci := 11) (v := .int 0) (ty := .int) (C := RX11) (T := TX11) (N := 64) hx hb hts inX11_truly_X11 tyX11 tyX11_ok nmX11 hown hK hP hD hS 0 rfl rfl 0 (by decide) (hts (Cond.fieldLink RX11 1 "PortRoomsModel" "thrown" "I") (List.mem_cons_of_mem _ (List.mem_append_left _ (List.mem_append_left _ (List.mem_of_getElem? (i := 0) rfl))))) (fun _ h9 => h9) rfl (tyX11_ok 0 (by decide)) rfl rfl (Nat.le_of_ble_eq_true rfl) dX11_truly_2 (fun H locs => ?_)
  clear hP hD hS
  intro hP hD hS
  replace hP : va_P D vwCl [(moC md sd (0) mst hn cn pn mq gn mln mnn ln mlt msz mcu mtk mfr mti mfa mfb an un lc td mtn), ((md 7), .inl (cI, 40, .inl ho)), ((md 8), .inl (cI, 40, .inl hc)), ((md 9), .inl (cI, 40, .inl hp)), ((md 10), .inl (cI, 40, .inl hs)), ((md 11), .inl (cI, 200, .inl mh)), ((md 12), .inl (cI, 12, .inl mp)), ((md 13), .inl (cI, 12, .inl mt)), ((md 14), .inl (cJ, 12, .inr (.inl mf)))] H := hP
  replace hD : va_D A [(moC md sd (0) mst hn cn pn mq gn mln mnn ln mlt msz mcu mtk mfr mti mfa mfb an un lc td mtn), ((md 7), .inl (cI, 40, .inl ho)), ((md 8), .inl (cI, 40, .inl hc)), ((md 9), .inl (cI, 40, .inl hp)), ((md 10), .inl (cI, 40, .inl hs)), ((md 11), .inl (cI, 200, .inl mh)), ((md 12), .inl (cI, 12, .inl mp)), ((md 13), .inl (cI, 12, .inl mt)), ((md 14), .inl (cJ, 12, .inr (.inl mf)))] := hD
  refine lv_iload_n hx hb dX11_truly_5 rfl (lv_at hl 1 rfl) ?_
  refine st_i (wr := [(moC md sd (0) mst hn cn pn mq gn mln mnn ln mlt msz mcu mtk mfr mti mfa mfb an un lc td mtn), ((md 7), .inl (cI, 40, .inl ho)), ((md 8), .inl (cI, 40, .inl hc)), ((md 9), .inl (cI, 40, .inl hp)), ((md 10), .inl (cI, 40, .inl hs)), ((md 11), .inl (cI, 200, .inl mh)), ((md 12), .inl (cI, 12, .inl mp)), ((md 13), .inl (cI, 12, .inl mt)), ((md 14), .inl (cJ, 12, .inr (.inl mf)))]) (va_runS (As := [.int o]) (rest := []) ⟨hx, hb, hml, hown, hts⟩ (ct_X11_isOwner l D cI cY cJ cQ _ o) (va_cwS 1 hts gX11_truly_X11_isOwner rfl rfl rfl cdX11_isOwner ⟨Nat.le_of_ble_eq_true rfl, Nat.le_of_ble_eq_true rfl⟩) (cPreS (hP.sub [] rfl) hK (hD.sub [] (by decide +kernel) rfl) hN) rfl rfl hl.1 rfl (lv_room (Nat.le_of_ble_eq_true rfl)) dX11_truly_6 ⟨Nat.le_of_ble_eq_true rfl, Nat.le_of_ble_eq_true rfl⟩) hP hD hS hA [] [0, 1, 2, 3, 4, 5, 6, 7, 8] rfl rfl (by decide +kernel) (by decide +kernel) (fun r3 u1 H locs hw2 => ?_)
  clear hP hD hS
  intro hP hD hS
  replace hw2 : r3 = if 0 ≤ o.toInt ∧ o.toInt ≤ 19 then 1 else 0 := hw2
  replace hP : va_P D vwCl [(moC md sd (0) mst hn cn pn mq gn mln mnn ln mlt msz mcu mtk mfr mti mfa mfb an un lc td mtn), ((md 7), .inl (cI, 40, .inl ho)), ((md 8), .inl (cI, 40, .inl hc)), ((md 9), .inl (cI, 40, .inl hp)), ((md 10), .inl (cI, 40, .inl hs)), ((md 11), .inl (cI, 200, .inl mh)), ((md 12), .inl (cI, 12, .inl mp)), ((md 13), .inl (cI, 12, .inl mt)), ((md 14), .inl (cJ, 12, .inr (.inl mf)))] H := hP
  replace hD : va_D A [(moC md sd (0) mst hn cn pn mq gn mln mnn ln mlt msz mcu mtk mfr mti mfa mfb an un lc td mtn), ((md 7), .inl (cI, 40, .inl ho)), ((md 8), .inl (cI, 40, .inl hc)), ((md 9), .inl (cI, 40, .inl hp)), ((md 10), .inl (cI, 40, .inl hs)), ((md 11), .inl (cI, 200, .inl mh)), ((md 12), .inl (cI, 12, .inl mp)), ((md 13), .inl (cI, 12, .inl mt)), ((md 14), .inl (cJ, 12, .inr (.inl mf)))] := hD
  refine lv_if_eq (tgt := 19) hx hb dX11_truly_9 (by decide) (fun c4 => ?_) (fun c4 => ?_)
  · skip
    have f5 := bo_f hw2 c4
    refine lv_ldc hx hb hown (hts (Cond.constant RX11 157 (-1000001)) (List.mem_cons_of_mem _ (List.mem_append_left _ (List.mem_append_left _ (List.mem_of_getElem? (i := 1) rfl))))) dX11_truly_19 ?_
    have hP9 := hP.sub (ws' := [(moC md sd (0) mst hn cn pn mq gn mln mnn ln mlt msz mcu mtk mfr mti mfa mfb an un lc td mtn), ((md 7), .inl (cI, 40, .inl ho)), ((md 8), .inl (cI, 40, .inl hc)), ((md 9), .inl (cI, 40, .inl hp)), ((md 10), .inl (cI, 40, .inl hs)), ((md 11), .inl (cI, 200, .inl mh)), ((md 12), .inl (cI, 12, .inl mp)), ((md 13), .inl (cI, 12, .inl mt)), ((md 14), .inl (cJ, 12, .inr (.inl mf)))]) [0, 1, 2, 3, 4, 5, 6, 7, 8] rfl
    have hD9 := hD.sub (ws' := [(moC md sd (0) mst hn cn pn mq gn mln mnn ln mlt msz mcu mtk mfr mti mfa mfb an un lc td mtn), ((md 7), .inl (cI, 40, .inl ho)), ((md 8), .inl (cI, 40, .inl hc)), ((md 9), .inl (cI, 40, .inl hp)), ((md 10), .inl (cI, 40, .inl hs)), ((md 11), .inl (cI, 200, .inl mh)), ((md 12), .inl (cI, 12, .inl mp)), ((md 13), .inl (cI, 12, .inl mt)), ((md 14), .inl (cJ, 12, .inr (.inl mf)))]) [0, 1, 2, 3, 4, 5, 6, 7, 8] (by decide +kernel) rfl
    exact W.iret (v := (-1000001)) hx hb hr (fun t ht hW => ⟨⟨(-1000001), (mh, mp, mt, mf), rfl, trivial, by rw [ht]; exact hP9, va_K.moved hW.alike hK, hD9⟩, hS.F ht⟩) hS.2.2 dX11_truly_21
  · skip
    have f6 := bo_t hw2 c4
    refine lv_iload_n hx hb dX11_truly_12 rfl (lv_at hl 2 rfl) ?_
    refine st_i (wr := [(moC md sd (0) mst hn cn pn mq gn mln mnn ln mlt msz mcu mtk mfr mti mfa mfb an un lc td mtn), ((md 7), .inl (cI, 40, .inl ho)), ((md 8), .inl (cI, 40, .inl hc)), ((md 9), .inl (cI, 40, .inl hp)), ((md 10), .inl (cI, 40, .inl hs)), ((md 11), .inl (cI, 200, .inl mh)), ((md 12), .inl (cI, 12, .inl mp)), ((md 13), .inl (cI, 12, .inl mt)), ((md 14), .inl (cJ, 12, .inr (.inl mf)))]) (va_runS (As := [.int d]) (rest := []) ⟨hx, hb, hml, hown, hts⟩ (ct_X11_isDay l D cI cY cJ cQ _ d) (va_cwS 1 hts gX11_truly_X11_isDay rfl rfl rfl cdX11_isDay ⟨Nat.le_of_ble_eq_true rfl, Nat.le_of_ble_eq_true rfl⟩) (cPreS (hP.sub [] rfl) hK (hD.sub [] (by decide +kernel) rfl) hN) rfl rfl hl.1 rfl (lv_room (Nat.le_of_ble_eq_true rfl)) dX11_truly_13 ⟨Nat.le_of_ble_eq_true rfl, Nat.le_of_ble_eq_true rfl⟩) hP hD hS hA [] [0, 1, 2, 3, 4, 5, 6, 7, 8] rfl rfl (by decide +kernel) (by decide +kernel) (fun r9 u7 H locs hw8 => ?_)
    clear hP hD hS
    intro hP hD hS
    replace hw8 : r9 = if 0 ≤ d.toInt ∧ d.toInt ≤ 9999 then 1 else 0 := hw8
    replace hP : va_P D vwCl [(moC md sd (0) mst hn cn pn mq gn mln mnn ln mlt msz mcu mtk mfr mti mfa mfb an un lc td mtn), ((md 7), .inl (cI, 40, .inl ho)), ((md 8), .inl (cI, 40, .inl hc)), ((md 9), .inl (cI, 40, .inl hp)), ((md 10), .inl (cI, 40, .inl hs)), ((md 11), .inl (cI, 200, .inl mh)), ((md 12), .inl (cI, 12, .inl mp)), ((md 13), .inl (cI, 12, .inl mt)), ((md 14), .inl (cJ, 12, .inr (.inl mf)))] H := hP
    replace hD : va_D A [(moC md sd (0) mst hn cn pn mq gn mln mnn ln mlt msz mcu mtk mfr mti mfa mfb an un lc td mtn), ((md 7), .inl (cI, 40, .inl ho)), ((md 8), .inl (cI, 40, .inl hc)), ((md 9), .inl (cI, 40, .inl hp)), ((md 10), .inl (cI, 40, .inl hs)), ((md 11), .inl (cI, 200, .inl mh)), ((md 12), .inl (cI, 12, .inl mp)), ((md 13), .inl (cI, 12, .inl mt)), ((md 14), .inl (cJ, 12, .inr (.inl mf)))] := hD
    refine lv_if_ne (tgt := 22) hx hb dX11_truly_16 (by decide) (fun c10 => ?_) (fun c10 => ?_)
    · skip
      have f11 := bo_t hw8 c10
      refine lv_ldc hx hb hown (hts (Cond.constant RX11 139 (-1000000)) (List.mem_cons_of_mem _ (List.mem_append_left _ (List.mem_append_left _ (List.mem_of_getElem? (i := 2) rfl))))) dX11_truly_22 ?_
      refine lv_istore_n (lv' := [(3, .int (-1000000)), (0, .ref (md 64)), (1, .int o), (2, .int d)]) hx hb dX11_truly_24 rfl hl (by decide) rfl (fun ls hl => ?_)
      refine lv_iconst (v := 0) hx hb dX11_truly_25 (by decide) ?_
      refine lv_istore (lv' := [(4, .int 0), (3, .int (-1000000)), (0, .ref (md 64)), (1, .int o), (2, .int d)]) hx hb dX11_truly_26 hl (by decide) rfl (fun ls hl => ?_)
      refine lv_iconst (v := 0) hx hb dX11_truly_28 (by decide) ?_
      refine lv_istore (lv' := [(5, .int 0), (4, .int 0), (3, .int (-1000000)), (0, .ref (md 64)), (1, .int o), (2, .int d)]) hx hb dX11_truly_29 hl (by decide) rfl (fun ls hl => ?_)
      refine st_loop 31 (fun _ => []) (fun (z : Int32 × Int32 × Int32 × (Nat → Int32) × (Nat → Int32) × (Nat → Int32) × (Nat → Int64)) (ls : Array Slot) (H : Heap) (locs : List Loc) => match z with | (q31_3, q31_4, q31_5, mhq, mpq, mtq, mfq) => (0 ≤ q31_5.toInt) ∧ (q31_5.toInt ≤ 10) ∧ lv_has ls 7 [(0, .ref (md 64)), (1, .int o), (2, .int d), (3, .int q31_3), (4, .int q31_4), (5, .int q31_5)] ∧ va_P D vwCl [(moC md sd (0) mst hn cn pn mq gn mln mnn ln mlt msz mcu mtk mfr mti mfa mfb an un lc td mtn), ((md 7), .inl (cI, 40, .inl ho)), ((md 8), .inl (cI, 40, .inl hc)), ((md 9), .inl (cI, 40, .inl hp)), ((md 10), .inl (cI, 40, .inl hs)), ((md 11), .inl (cI, 200, .inl mhq)), ((md 12), .inl (cI, 12, .inl mpq)), ((md 13), .inl (cI, 12, .inl mtq)), ((md 14), .inl (cJ, 12, .inr (.inl mfq)))] H ∧ va_D A [(moC md sd (0) mst hn cn pn mq gn mln mnn ln mlt msz mcu mtk mfr mti mfa mfb an un lc td mtn), ((md 7), .inl (cI, 40, .inl ho)), ((md 8), .inl (cI, 40, .inl hc)), ((md 9), .inl (cI, 40, .inl hp)), ((md 10), .inl (cI, 40, .inl hs)), ((md 11), .inl (cI, 200, .inl mhq)), ((md 12), .inl (cI, 12, .inl mpq)), ((md 13), .inl (cI, 12, .inl mtq)), ((md 14), .inl (cJ, 12, .inr (.inl mfq)))] ∧ va_S A s.heap H locs) (fun (z : Int32 × Int32 × Int32 × (Nat → Int32) × (Nat → Int32) × (Nat → Int32) × (Nat → Int64)) => match z with | (q31_3, q31_4, q31_5, mhq, mpq, mtq, mfq) => 10 - q31_5.toInt) ?_ ?_ (((-1000000) : Int32), (0 : Int32), (0 : Int32), mh, mp, mt, mf) ⟨(by omega), (by omega), lv_sub hl [3, 4, 5, 2, 1, 0] rfl, hP, hD, hS⟩
      · rintro ⟨q31_3, q31_4, q31_5, mhq, mpq, mtq, mfq⟩ ls H locs ⟨g12, g13, hl, hP, hD, hS⟩
        show (0 : Int) ≤ 10 - q31_5.toInt
        omega
      · rintro n16 ih14 ⟨q31_3, q31_4, q31_5, mhq, mpq, mtq, mfq⟩ ls H locs ⟨g12, g13, hl, hP, hD, hS⟩ hm15
        have hm15 : 10 - q31_5.toInt < (n16 : Int) + 1 := hm15
        replace hl : lv_has ls 7 [(0, .ref (md 64)), (1, .int o), (2, .int d), (3, .int q31_3), (4, .int q31_4), (5, .int q31_5)] := hl
        replace hP : va_P D vwCl [(moC md sd (0) mst hn cn pn mq gn mln mnn ln mlt msz mcu mtk mfr mti mfa mfb an un lc td mtn), ((md 7), .inl (cI, 40, .inl ho)), ((md 8), .inl (cI, 40, .inl hc)), ((md 9), .inl (cI, 40, .inl hp)), ((md 10), .inl (cI, 40, .inl hs)), ((md 11), .inl (cI, 200, .inl mhq)), ((md 12), .inl (cI, 12, .inl mpq)), ((md 13), .inl (cI, 12, .inl mtq)), ((md 14), .inl (cJ, 12, .inr (.inl mfq)))] H := hP
        replace hD : va_D A [(moC md sd (0) mst hn cn pn mq gn mln mnn ln mlt msz mcu mtk mfr mti mfa mfb an un lc td mtn), ((md 7), .inl (cI, 40, .inl ho)), ((md 8), .inl (cI, 40, .inl hc)), ((md 9), .inl (cI, 40, .inl hp)), ((md 10), .inl (cI, 40, .inl hs)), ((md 11), .inl (cI, 200, .inl mhq)), ((md 12), .inl (cI, 12, .inl mpq)), ((md 13), .inl (cI, 12, .inl mtq)), ((md 14), .inl (cJ, 12, .inr (.inl mfq)))] := hD
        show W _ _ _ _ _ _ _ _ _ _ _ _ _ _ _ (F0 m 31 ls [])
        refine lv_iload hx hb dX11_truly_31 (lv_at hl 5 rfl) ?_
        refine lv_bipush (v := 10) hx hb dX11_truly_33 (by decide) ?_
        refine lv_icmp_ge (tgt := 68) hx hb dX11_truly_35 (by decide) (fun c17 => ?_) (fun c17 => ?_)
        · skip
          have f18 := i_le c17
          refine lv_iload_n hx hb dX11_truly_68 rfl (lv_at hl 3 rfl) ?_
          have hP9 := hP.sub (ws' := [(moC md sd (0) mst hn cn pn mq gn mln mnn ln mlt msz mcu mtk mfr mti mfa mfb an un lc td mtn), ((md 7), .inl (cI, 40, .inl ho)), ((md 8), .inl (cI, 40, .inl hc)), ((md 9), .inl (cI, 40, .inl hp)), ((md 10), .inl (cI, 40, .inl hs)), ((md 11), .inl (cI, 200, .inl mhq)), ((md 12), .inl (cI, 12, .inl mpq)), ((md 13), .inl (cI, 12, .inl mtq)), ((md 14), .inl (cJ, 12, .inr (.inl mfq)))]) [0, 1, 2, 3, 4, 5, 6, 7, 8] rfl
          have hD9 := hD.sub (ws' := [(moC md sd (0) mst hn cn pn mq gn mln mnn ln mlt msz mcu mtk mfr mti mfa mfb an un lc td mtn), ((md 7), .inl (cI, 40, .inl ho)), ((md 8), .inl (cI, 40, .inl hc)), ((md 9), .inl (cI, 40, .inl hp)), ((md 10), .inl (cI, 40, .inl hs)), ((md 11), .inl (cI, 200, .inl mhq)), ((md 12), .inl (cI, 12, .inl mpq)), ((md 13), .inl (cI, 12, .inl mtq)), ((md 14), .inl (cJ, 12, .inr (.inl mfq)))]) [0, 1, 2, 3, 4, 5, 6, 7, 8] (by decide +kernel) rfl
          exact W.iret (v := q31_3) hx hb hr (fun t ht hW => ⟨⟨q31_3, (mhq, mpq, mtq, mfq), rfl, trivial, by rw [ht]; exact hP9, va_K.moved hW.alike hK, hD9⟩, hS.F ht⟩) hS.2.2 dX11_truly_69
        · skip
          have f19 := i_nle c17
          refine lv_aload_n hx hb dX11_truly_38 rfl (lv_at hl 0 rfl) ?_
          refine lv_iload hx hb dX11_truly_39 (lv_at hl 5 rfl) ?_
          refine lv_iload_n hx hb dX11_truly_41 rfl (lv_at hl 1 rfl) ?_
          refine lv_iload_n hx hb dX11_truly_42 rfl (lv_at hl 2 rfl) ?_
          refine st_i (wr := []) (va_runV (C := RX11) (As := [.int q31_5, .int o, .int d]) (rest := []) ⟨hx, hb, hml, hown, hts⟩ (ct_X11_shareOf l D cI cY cJ cQ _ md sd 0 mst hn cn pn mq gn mln mnn ln mlt msz mcu mtk mfr mti mfa mfb an un lc td mtn ho hc hp hs mhq mpq mtq mfq q31_5 o d (by omega) (by omega) (by omega) (by omega)) (cwV 3 hts gX11_truly_X11_shareOf rfl rfl rfl ⟨rfl, cdX11_shareOf⟩ ⟨Nat.le_of_ble_eq_true rfl, Nat.le_of_ble_eq_true rfl⟩) (cPreV (hP.sub [0, 1, 2, 3, 4, 5, 6, 7, 8] rfl) hK (hD.sub [0, 1, 2, 3, 4, 5, 6, 7, 8] (by decide +kernel) rfl) hN (ci := 11) (q0 := 0) rfl rfl) rfl rfl hl.1 rfl (lv_room (Nat.le_of_ble_eq_true rfl)) dX11_truly_43 ⟨Nat.le_of_ble_eq_true rfl, Nat.le_of_ble_eq_true rfl⟩) hP hD hS hA [0, 1, 2, 3, 4, 5, 6, 7, 8] [] rfl rfl (by decide +kernel) (by decide +kernel) (fun r22 u20 H locs hw21 => ?_)
          clear hP hD hS
          intro hP hD hS
          obtain ⟨mh_23, mp_24, mt_25, mf_26⟩ := u20
          replace hw21 : True := hw21
          replace hP : va_P D vwCl [(moC md sd (0) mst hn cn pn mq gn mln mnn ln mlt msz mcu mtk mfr mti mfa mfb an un lc td mtn), ((md 7), .inl (cI, 40, .inl ho)), ((md 8), .inl (cI, 40, .inl hc)), ((md 9), .inl (cI, 40, .inl hp)), ((md 10), .inl (cI, 40, .inl hs)), ((md 11), .inl (cI, 200, .inl mh_23)), ((md 12), .inl (cI, 12, .inl mp_24)), ((md 13), .inl (cI, 12, .inl mt_25)), ((md 14), .inl (cJ, 12, .inr (.inl mf_26)))] H := hP
          replace hD : va_D A [(moC md sd (0) mst hn cn pn mq gn mln mnn ln mlt msz mcu mtk mfr mti mfa mfb an un lc td mtn), ((md 7), .inl (cI, 40, .inl ho)), ((md 8), .inl (cI, 40, .inl hc)), ((md 9), .inl (cI, 40, .inl hp)), ((md 10), .inl (cI, 40, .inl hs)), ((md 11), .inl (cI, 200, .inl mh_23)), ((md 12), .inl (cI, 12, .inl mp_24)), ((md 13), .inl (cI, 12, .inl mt_25)), ((md 14), .inl (cJ, 12, .inr (.inl mf_26)))] := hD
          refine lv_istore (lv' := [(6, .int r22), (0, .ref (md 64)), (1, .int o), (2, .int d), (3, .int q31_3), (4, .int q31_4), (5, .int q31_5)]) hx hb dX11_truly_46 hl (by decide) rfl (fun ls hl => ?_)
          refine lv_iload hx hb dX11_truly_48 (lv_at hl 0 rfl) ?_
          refine lv_iload hx hb dX11_truly_50 (lv_at hl 5 rfl) ?_
          refine lv_icmp_le (tgt := 62) hx hb dX11_truly_52 (by decide) (fun c27 => ?_) (fun c27 => ?_)
          · skip
            have f28 := i_le c27
            obtain ⟨v29, ev29⟩ : ∃ y : Int32, y = q31_5 + 1 := ⟨_, rfl⟩
            try have tv29 : v29.toInt = q31_5.toInt + 1 := by rw [ev29]; exact (i_add (x := q31_5) (y := (1 : Int32)) (by rw [k1]; omega) (by rw [k1]; omega)).trans (by rw [k1])
            refine lv_iinc (v := v29) (lv' := [(5, .int v29), (6, .int r22), (0, .ref (md 64)), (1, .int o), (2, .int d), (3, .int q31_3), (4, .int q31_4)]) hx hb dX11_truly_62 hl (k := 6) rfl (by rw [ev29]; rfl) (by decide) rfl (fun ls hl => ?_)
            refine lv_goto (tgt := 31) hx hb dX11_truly_65 (by decide) ?_
            exact ih14 (q31_3, q31_4, v29, mh_23, mp_24, mt_25, mf_26) ls H locs ⟨(by omega), (by omega), lv_sub hl [2, 3, 4, 5, 6, 0] rfl, hP.sub [0, 1, 2, 3, 4, 5, 6, 7, 8] rfl, hD.sub [0, 1, 2, 3, 4, 5, 6, 7, 8] (by decide +kernel) rfl, hS⟩ (by show 10 - v29.toInt < _; omega)
          · skip
            have f30 := i_nle c27
            refine lv_iload hx hb dX11_truly_55 (lv_at hl 0 rfl) ?_
            refine lv_istore (lv' := [(4, .int r22), (6, .int r22), (0, .ref (md 64)), (1, .int o), (2, .int d), (3, .int q31_3), (5, .int q31_5)]) hx hb dX11_truly_57 hl (by decide) rfl (fun ls hl => ?_)
            refine lv_iload hx hb dX11_truly_59 (lv_at hl 6 rfl) ?_
            refine lv_istore_n (lv' := [(3, .int q31_5), (4, .int r22), (6, .int r22), (0, .ref (md 64)), (1, .int o), (2, .int d), (5, .int q31_5)]) hx hb dX11_truly_61 rfl hl (by decide) rfl (fun ls hl => ?_)
            obtain ⟨v31, ev31⟩ : ∃ y : Int32, y = q31_5 + 1 := ⟨_, rfl⟩
            try have tv31 : v31.toInt = q31_5.toInt + 1 := by rw [ev31]; exact (i_add (x := q31_5) (y := (1 : Int32)) (by rw [k1]; omega) (by rw [k1]; omega)).trans (by rw [k1])
            refine lv_iinc (v := v31) (lv' := [(5, .int v31), (3, .int q31_5), (4, .int r22), (6, .int r22), (0, .ref (md 64)), (1, .int o), (2, .int d)]) hx hb dX11_truly_62 hl (k := 6) rfl (by rw [ev31]; rfl) (by decide) rfl (fun ls hl => ?_)
            refine lv_goto (tgt := 31) hx hb dX11_truly_65 (by decide) ?_
            exact ih14 (q31_5, r22, v31, mh_23, mp_24, mt_25, mf_26) ls H locs ⟨(by omega), (by omega), lv_sub hl [4, 5, 6, 1, 2, 0] rfl, hP.sub [0, 1, 2, 3, 4, 5, 6, 7, 8] rfl, hD.sub [0, 1, 2, 3, 4, 5, 6, 7, 8] (by decide +kernel) rfl, hS⟩ (by show 10 - v31.toInt < _; omega)
    · skip
      have f32 := bo_f hw8 c10
      refine lv_ldc hx hb hown (hts (Cond.constant RX11 157 (-1000001)) (List.mem_cons_of_mem _ (List.mem_append_left _ (List.mem_append_left _ (List.mem_of_getElem? (i := 1) rfl))))) dX11_truly_19 ?_
      have hP9 := hP.sub (ws' := [(moC md sd (0) mst hn cn pn mq gn mln mnn ln mlt msz mcu mtk mfr mti mfa mfb an un lc td mtn), ((md 7), .inl (cI, 40, .inl ho)), ((md 8), .inl (cI, 40, .inl hc)), ((md 9), .inl (cI, 40, .inl hp)), ((md 10), .inl (cI, 40, .inl hs)), ((md 11), .inl (cI, 200, .inl mh)), ((md 12), .inl (cI, 12, .inl mp)), ((md 13), .inl (cI, 12, .inl mt)), ((md 14), .inl (cJ, 12, .inr (.inl mf)))]) [0, 1, 2, 3, 4, 5, 6, 7, 8] rfl
      have hD9 := hD.sub (ws' := [(moC md sd (0) mst hn cn pn mq gn mln mnn ln mlt msz mcu mtk mfr mti mfa mfb an un lc td mtn), ((md 7), .inl (cI, 40, .inl ho)), ((md 8), .inl (cI, 40, .inl hc)), ((md 9), .inl (cI, 40, .inl hp)), ((md 10), .inl (cI, 40, .inl hs)), ((md 11), .inl (cI, 200, .inl mh)), ((md 12), .inl (cI, 12, .inl mp)), ((md 13), .inl (cI, 12, .inl mt)), ((md 14), .inl (cJ, 12, .inr (.inl mf)))]) [0, 1, 2, 3, 4, 5, 6, 7, 8] (by decide +kernel) rfl
      exact W.iret (v := (-1000001)) hx hb hr (fun t ht hW => ⟨⟨(-1000001), (mh, mp, mt, mf), rfl, trivial, by rw [ht]; exact hP9, va_K.moved hW.alike hK, hD9⟩, hS.F ht⟩) hS.2.2 dX11_truly_21

set_option maxHeartbeats 4000000 in
set_option maxRecDepth 100000 in
theorem ct_X11_rings (l : Launch) (D : va_G) (cI cY cJ cQ : ClassId) (sz : Nat) (md : Nat → Nat) (sd : Int32) (mth mst hn cn pn mq gn mln mnn ln mlt msz mcu mtk mfr mti mfa mfb an un lc td mtn : Int32) (ho hc hp hs mh : Nat → Int32) (d : Int32)  (h1 : 0 ≤ hn.toInt) (h2 : hn.toInt ≤ 40)  : Met l yX11_rings wsX11_rings ({ frames := 2, cells := 0, slots := 0, locals := 48 }) (cPre D (ty4 cI cY cJ cQ) [(moC md sd mth mst hn cn pn mq gn mln mnn ln mlt msz mcu mtk mfr mti mfa mfb an un lc td mtn), ((md 7), .inl (cI, 40, .inl ho)), ((md 8), .inl (cI, 40, .inl hc)), ((md 9), .inl (cI, 40, .inl hp)), ((md 10), .inl (cI, 40, .inl hs)), ((md 11), .inl (cI, 200, .inl mh))] sz [.ref (md 64), .int d]) (va_Qi (fun (r : Int32) (u : (Nat → Int32)) => True) (cB D (ty4 cI cY cJ cQ) (fun (u : (Nat → Int32)) => [(moC md sd 0 mst hn cn pn mq gn mln mnn ln mlt msz mcu mtk mfr mti mfa mfb an un lc td mtn), ((md 7), .inl (cI, 40, .inl ho)), ((md 8), .inl (cI, 40, .inl hc)), ((md 9), .inl (cI, 40, .inl hp)), ((md 10), .inl (cI, 40, .inl hs)), ((md 11), .inl (cI, 200, .inl u))]) (va_A [(moC md sd mth mst hn cn pn mq gn mln mnn ln mlt msz mcu mtk mfr mti mfa mfb an un lc td mtn), ((md 7), .inl (cI, 40, .inl ho)), ((md 8), .inl (cI, 40, .inl hc)), ((md 9), .inl (cI, 40, .inl hp)), ((md 10), .inl (cI, 40, .inl hs)), ((md 11), .inl (cI, 200, .inl mh))] sz)) (va_A [(moC md sd mth mst hn cn pn mq gn mln mnn ln mlt msz mcu mtk mfr mti mfa mfb an un lc td mtn), ((md 7), .inl (cI, 40, .inl ho)), ((md 8), .inl (cI, 40, .inl hc)), ((md 9), .inl (cI, 40, .inl hp)), ((md 10), .inl (cI, 40, .inl hs)), ((md 11), .inl (cI, 200, .inl mh))] sz)) 0 0 (va_A [(moC md sd mth mst hn cn pn mq gn mln mnn ln mlt msz mcu mtk mfr mti mfa mfb an un lc td mtn), ((md 7), .inl (cI, 40, .inl ho)), ((md 8), .inl (cI, 40, .inl hc)), ((md 9), .inl (cI, 40, .inl hp)), ((md 10), .inl (cI, 40, .inl hs)), ((md 11), .inl (cI, 200, .inl mh))] sz) := by
  refine Met.ofW (cc := cX11_rings) (maxL := 10) (ret := (some .int)) (by decide) rfl ?_
  intro p e s m args below meth c s₁ B hml hv
  obtain ⟨rfl, hsz, hP, hK, hD0, hN⟩ := hv
  have hx := B.exec
  have hb := B.bytes
  have hr := B.returns
  have hts := atoms_spec (ws := wsX11_rings) B.pre
  have hown : s.vm.findClass RX11 = some m.cls := findClass_of_methodNamed B.named
  have hlocks := B.notSynchronized
  subst hsz
  have hD := hD0.self (sz := s.heap.size)
  generalize hAe : va_A [(moC md sd mth mst hn cn pn mq gn mln mnn ln mlt msz mcu mtk mfr mti mfa mfb an un lc td mtn), ((md 7), .inl (cI, 40, .inl ho)), ((md 8), .inl (cI, 40, .inl hc)), ((md 9), .inl (cI, 40, .inl hp)), ((md 10), .inl (cI, 40, .inl hs)), ((md 11), .inl (cI, 200, .inl mh))] s.heap.size = A at hD ⊢
  have hA : ∀ q : Nat, s.heap.size ≤ q → A q := fun q h => by rw [← hAe]; exact Or.inr h
  have hS : va_S A s.heap s.heap [] := va_S.rf
  have hP : va_P D vwCl [(moC md sd mth mst hn cn pn mq gn mln mnn ln mlt msz mcu mtk mfr mti mfa mfb an un lc td mtn), ((md 7), .inl (cI, 40, .inl ho)), ((md 8), .inl (cI, 40, .inl hc)), ((md 9), .inl (cI, 40, .inl hp)), ((md 10), .inl (cI, 40, .inl hs)), ((md 11), .inl (cI, 200, .inl mh))] s.heap := hP
  have hl := lv_entry ([.ref (md 64), .int d]) (n := 10) (Nat.le_of_ble_eq_true rfl)
  rw [lg_entry_eq]
  generalize (lg_sl ([.ref (md 64), .int d]) ++ List.replicate (10 - (lg_sl ([.ref (md 64), .int d])).length) Slot.unset).toArray = ls at hl ⊢
  have hl : lv_has ls 10 [(0, .ref (md 64)), (1, .int d)] := hl
  have k0 : (0 : Int32).toInt = 0 := by decide
  have k1 : (1 : Int32).toInt = 1 := by decide
  have k10 : (10 : Int32).toInt = 10 := by decide
  have k11 : (11 : Int32).toInt = 11 := by decide
  refine lv_aload_n hx hb dX11_rings_0 rfl (lv_at hl 0 rfl) ?_
  refine lv_iconst (v := 0) hx hb dX11_rings_1 (by decide) ?_
  refine va_put (D := D) (ci := 11) (v := .int 0) (ty := .int) (C := RX11) (T := TX11) (N := 64) hx hb hts inX11_rings_X11 tyX11 tyX11_ok nmX11 hown hK hP hD hS 0 rfl rfl 0 (by decide) (hts (Cond.fieldLink RX11 1 "PortRoomsModel" "thrown" "I") (List.mem_cons_of_mem _ (List.mem_append_left _ (List.mem_append_left _ (List.mem_of_getElem? (i := 0) rfl))))) (fun _ h9 => h9) rfl (tyX11_ok 0 (by decide)) rfl rfl (Nat.le_of_ble_eq_true rfl) dX11_rings_2 (fun H locs => ?_)
  clear hP hD hS
  intro hP hD hS
  replace hP : va_P D vwCl [(moC md sd (0) mst hn cn pn mq gn mln mnn ln mlt msz mcu mtk mfr mti mfa mfb an un lc td mtn), ((md 7), .inl (cI, 40, .inl ho)), ((md 8), .inl (cI, 40, .inl hc)), ((md 9), .inl (cI, 40, .inl hp)), ((md 10), .inl (cI, 40, .inl hs)), ((md 11), .inl (cI, 200, .inl mh))] H := hP
  replace hD : va_D A [(moC md sd (0) mst hn cn pn mq gn mln mnn ln mlt msz mcu mtk mfr mti mfa mfb an un lc td mtn), ((md 7), .inl (cI, 40, .inl ho)), ((md 8), .inl (cI, 40, .inl hc)), ((md 9), .inl (cI, 40, .inl hp)), ((md 10), .inl (cI, 40, .inl hs)), ((md 11), .inl (cI, 200, .inl mh))] := hD
  refine lv_iload_n hx hb dX11_rings_5 rfl (lv_at hl 1 rfl) ?_
  refine st_i (wr := [(moC md sd (0) mst hn cn pn mq gn mln mnn ln mlt msz mcu mtk mfr mti mfa mfb an un lc td mtn), ((md 7), .inl (cI, 40, .inl ho)), ((md 8), .inl (cI, 40, .inl hc)), ((md 9), .inl (cI, 40, .inl hp)), ((md 10), .inl (cI, 40, .inl hs)), ((md 11), .inl (cI, 200, .inl mh))]) (va_runS (As := [.int d]) (rest := []) ⟨hx, hb, hml, hown, hts⟩ (ct_X11_isDay l D cI cY cJ cQ _ d) (va_cwS 1 hts gX11_rings_X11_isDay rfl rfl rfl cdX11_isDay ⟨Nat.le_of_ble_eq_true rfl, Nat.le_of_ble_eq_true rfl⟩) (cPreS (hP.sub [] rfl) hK (hD.sub [] (by decide +kernel) rfl) hN) rfl rfl hl.1 rfl (lv_room (Nat.le_of_ble_eq_true rfl)) dX11_rings_6 ⟨Nat.le_of_ble_eq_true rfl, Nat.le_of_ble_eq_true rfl⟩) hP hD hS hA [] [0, 1, 2, 3, 4, 5] rfl rfl (by decide +kernel) (by decide +kernel) (fun r3 u1 H locs hw2 => ?_)
  clear hP hD hS
  intro hP hD hS
  replace hw2 : r3 = if 0 ≤ d.toInt ∧ d.toInt ≤ 9999 then 1 else 0 := hw2
  replace hP : va_P D vwCl [(moC md sd (0) mst hn cn pn mq gn mln mnn ln mlt msz mcu mtk mfr mti mfa mfb an un lc td mtn), ((md 7), .inl (cI, 40, .inl ho)), ((md 8), .inl (cI, 40, .inl hc)), ((md 9), .inl (cI, 40, .inl hp)), ((md 10), .inl (cI, 40, .inl hs)), ((md 11), .inl (cI, 200, .inl mh))] H := hP
  replace hD : va_D A [(moC md sd (0) mst hn cn pn mq gn mln mnn ln mlt msz mcu mtk mfr mti mfa mfb an un lc td mtn), ((md 7), .inl (cI, 40, .inl ho)), ((md 8), .inl (cI, 40, .inl hc)), ((md 9), .inl (cI, 40, .inl hp)), ((md 10), .inl (cI, 40, .inl hs)), ((md 11), .inl (cI, 200, .inl mh))] := hD
  refine lv_if_ne (tgt := 15) hx hb dX11_rings_9 (by decide) (fun c4 => ?_) (fun c4 => ?_)
  · skip
    have f5 := bo_t hw2 c4
    refine lv_aload_n hx hb dX11_rings_15 rfl (lv_at hl 0 rfl) ?_
    refine lv_iload_n hx hb dX11_rings_16 rfl (lv_at hl 1 rfl) ?_
    refine st_v (wr := []) (va_runV (C := RX11) (As := [.int d]) (rest := []) ⟨hx, hb, hml, hown, hts⟩ (ct_X11_findHas l D cI cY cJ cQ _ md sd 0 mst hn cn pn mq gn mln mnn ln mlt msz mcu mtk mfr mti mfa mfb an un lc td mtn ho hc hp hs mh d (by omega) (by omega)) (cwV 1 hts gX11_rings_X11_findHas rfl rfl rfl ⟨rfl, cdX11_findHas⟩ ⟨Nat.le_of_ble_eq_true rfl, Nat.le_of_ble_eq_true rfl⟩) (cPreV (hP.sub [0, 1, 2, 3, 4, 5] rfl) hK (hD.sub [0, 1, 2, 3, 4, 5] (by decide +kernel) rfl) hN (ci := 11) (q0 := 0) rfl rfl) rfl rfl hl.1 rfl (lv_room (Nat.le_of_ble_eq_true rfl)) dX11_rings_17 ⟨Nat.le_of_ble_eq_true rfl, Nat.le_of_ble_eq_true rfl⟩) hP hD hS hA [0, 1, 2, 3, 4, 5] [] rfl rfl (by decide +kernel) (by decide +kernel) (fun u6 H locs hw7 => ?_)
    clear hP hD hS
    intro hP hD hS
    replace hw7 : True := hw7
    replace hP : va_P D vwCl [(moC md sd (0) mst hn cn pn mq gn mln mnn ln mlt msz mcu mtk mfr mti mfa mfb an un lc td mtn), ((md 7), .inl (cI, 40, .inl ho)), ((md 8), .inl (cI, 40, .inl hc)), ((md 9), .inl (cI, 40, .inl hp)), ((md 10), .inl (cI, 40, .inl hs)), ((md 11), .inl (cI, 200, .inl u6))] H := hP
    replace hD : va_D A [(moC md sd (0) mst hn cn pn mq gn mln mnn ln mlt msz mcu mtk mfr mti mfa mfb an un lc td mtn), ((md 7), .inl (cI, 40, .inl ho)), ((md 8), .inl (cI, 40, .inl hc)), ((md 9), .inl (cI, 40, .inl hp)), ((md 10), .inl (cI, 40, .inl hs)), ((md 11), .inl (cI, 200, .inl u6))] := hD
    refine lv_iconst (v := 0) hx hb dX11_rings_20 (by decide) ?_
    refine lv_istore_n (lv' := [(2, .int 0), (0, .ref (md 64)), (1, .int d)]) hx hb dX11_rings_21 rfl hl (by decide) rfl (fun ls hl => ?_)
    refine lv_iconst (v := 0) hx hb dX11_rings_22 (by decide) ?_
    refine lv_istore_n (lv' := [(3, .int 0), (2, .int 0), (0, .ref (md 64)), (1, .int d)]) hx hb dX11_rings_23 rfl hl (by decide) rfl (fun ls hl => ?_)
    refine st_loop 24 (fun _ => []) (fun (z : Int32 × Int32) (ls : Array Slot) (H : Heap) (locs : List Loc) => match z with | (q24_2, q24_3) => (0 ≤ q24_3.toInt) ∧ (q24_3.toInt ≤ 10) ∧ lv_has ls 10 [(0, .ref (md 64)), (1, .int d), (2, .int q24_2), (3, .int q24_3)] ∧ va_P D vwCl [(moC md sd (0) mst hn cn pn mq gn mln mnn ln mlt msz mcu mtk mfr mti mfa mfb an un lc td mtn), ((md 7), .inl (cI, 40, .inl ho)), ((md 8), .inl (cI, 40, .inl hc)), ((md 9), .inl (cI, 40, .inl hp)), ((md 10), .inl (cI, 40, .inl hs)), ((md 11), .inl (cI, 200, .inl u6))] H ∧ va_D A [(moC md sd (0) mst hn cn pn mq gn mln mnn ln mlt msz mcu mtk mfr mti mfa mfb an un lc td mtn), ((md 7), .inl (cI, 40, .inl ho)), ((md 8), .inl (cI, 40, .inl hc)), ((md 9), .inl (cI, 40, .inl hp)), ((md 10), .inl (cI, 40, .inl hs)), ((md 11), .inl (cI, 200, .inl u6))] ∧ va_S A s.heap H locs) (fun (z : Int32 × Int32) => match z with | (q24_2, q24_3) => 10 - q24_3.toInt) ?_ ?_ ((0 : Int32), (0 : Int32)) ⟨(by omega), (by omega), lv_sub hl [2, 3, 1, 0] rfl, hP, hD, hS⟩
    · rintro ⟨q24_2, q24_3⟩ ls H locs ⟨g9, g10, hl, hP, hD, hS⟩
      show (0 : Int) ≤ 10 - q24_3.toInt
      omega
    · rintro n13 ih11 ⟨q24_2, q24_3⟩ ls H locs ⟨g9, g10, hl, hP, hD, hS⟩ hm12
      have hm12 : 10 - q24_3.toInt < (n13 : Int) + 1 := hm12
      replace hl : lv_has ls 10 [(0, .ref (md 64)), (1, .int d), (2, .int q24_2), (3, .int q24_3)] := hl
      replace hP : va_P D vwCl [(moC md sd (0) mst hn cn pn mq gn mln mnn ln mlt msz mcu mtk mfr mti mfa mfb an un lc td mtn), ((md 7), .inl (cI, 40, .inl ho)), ((md 8), .inl (cI, 40, .inl hc)), ((md 9), .inl (cI, 40, .inl hp)), ((md 10), .inl (cI, 40, .inl hs)), ((md 11), .inl (cI, 200, .inl u6))] H := hP
      replace hD : va_D A [(moC md sd (0) mst hn cn pn mq gn mln mnn ln mlt msz mcu mtk mfr mti mfa mfb an un lc td mtn), ((md 7), .inl (cI, 40, .inl ho)), ((md 8), .inl (cI, 40, .inl hc)), ((md 9), .inl (cI, 40, .inl hp)), ((md 10), .inl (cI, 40, .inl hs)), ((md 11), .inl (cI, 200, .inl u6))] := hD
      show W _ _ _ _ _ _ _ _ _ _ _ _ _ _ _ (F0 m 24 ls [])
      refine lv_iload_n hx hb dX11_rings_24 rfl (lv_at hl 3 rfl) ?_
      refine lv_bipush (v := 10) hx hb dX11_rings_25 (by decide) ?_
      refine lv_icmp_ge (tgt := 166) hx hb dX11_rings_27 (by decide) (fun c14 => ?_) (fun c14 => ?_)
      · skip
        have f15 := i_le c14
        refine lv_iload_n hx hb dX11_rings_166 rfl (lv_at hl 2 rfl) ?_
        have hP9 := hP.sub (ws' := [(moC md sd (0) mst hn cn pn mq gn mln mnn ln mlt msz mcu mtk mfr mti mfa mfb an un lc td mtn), ((md 7), .inl (cI, 40, .inl ho)), ((md 8), .inl (cI, 40, .inl hc)), ((md 9), .inl (cI, 40, .inl hp)), ((md 10), .inl (cI, 40, .inl hs)), ((md 11), .inl (cI, 200, .inl u6))]) [0, 1, 2, 3, 4, 5] rfl
        have hD9 := hD.sub (ws' := [(moC md sd (0) mst hn cn pn mq gn mln mnn ln mlt msz mcu mtk mfr mti mfa mfb an un lc td mtn), ((md 7), .inl (cI, 40, .inl ho)), ((md 8), .inl (cI, 40, .inl hc)), ((md 9), .inl (cI, 40, .inl hp)), ((md 10), .inl (cI, 40, .inl hs)), ((md 11), .inl (cI, 200, .inl u6))]) [0, 1, 2, 3, 4, 5] (by decide +kernel) rfl
        exact W.iret (v := q24_2) hx hb hr (fun t ht hW => ⟨⟨q24_2, u6, rfl, trivial, by rw [ht]; exact hP9, va_K.moved hW.alike hK, hD9⟩, hS.F ht⟩) hS.2.2 dX11_rings_167
      · skip
        have f16 := i_nle c14
        refine lv_iconst (v := 0) hx hb dX11_rings_30 (by decide) ?_
        refine lv_istore (lv' := [(4, .int 0), (0, .ref (md 64)), (1, .int d), (2, .int q24_2), (3, .int q24_3)]) hx hb dX11_rings_31 hl (by decide) rfl (fun ls hl => ?_)
        refine lv_iconst (v := 1) hx hb dX11_rings_33 (by decide) ?_
        refine lv_iload_n hx hb dX11_rings_34 rfl (lv_at hl 4 rfl) ?_
        refine lv_ishl hx hb dX11_rings_35 ?_
        refine lv_topi (fun v17 ev17 => ?_)
        refine lv_istore (lv' := [(5, .int v17), (4, .int 0), (0, .ref (md 64)), (1, .int d), (2, .int q24_2), (3, .int q24_3)]) hx hb dX11_rings_36 hl (by decide) rfl (fun ls hl => ?_)
        refine lv_iconst (v := 0) hx hb dX11_rings_38 (by decide) ?_
        refine lv_istore (lv' := [(6, .int 0), (5, .int v17), (4, .int 0), (0, .ref (md 64)), (1, .int d), (2, .int q24_2), (3, .int q24_3)]) hx hb dX11_rings_39 hl (by decide) rfl (fun ls hl => ?_)
        refine st_loop 41 (fun _ => []) (fun (z : Int32 × Int32) (ls : Array Slot) (H : Heap) (locs : List Loc) => match z with | (q41_4, q41_6) => (0 ≤ q41_6.toInt) ∧ (q41_6.toInt ≤ 11) ∧ lv_has ls 10 [(0, .ref (md 64)), (1, .int d), (2, .int q24_2), (3, .int q24_3), (4, .int q41_4), (5, .int v17), (6, .int q41_6)] ∧ va_P D vwCl [(moC md sd (0) mst hn cn pn mq gn mln mnn ln mlt msz mcu mtk mfr mti mfa mfb an un lc td mtn), ((md 7), .inl (cI, 40, .inl ho)), ((md 8), .inl (cI, 40, .inl hc)), ((md 9), .inl (cI, 40, .inl hp)), ((md 10), .inl (cI, 40, .inl hs)), ((md 11), .inl (cI, 200, .inl u6))] H ∧ va_D A [(moC md sd (0) mst hn cn pn mq gn mln mnn ln mlt msz mcu mtk mfr mti mfa mfb an un lc td mtn), ((md 7), .inl (cI, 40, .inl ho)), ((md 8), .inl (cI, 40, .inl hc)), ((md 9), .inl (cI, 40, .inl hp)), ((md 10), .inl (cI, 40, .inl hs)), ((md 11), .inl (cI, 200, .inl u6))] ∧ va_S A s.heap H locs) (fun (z : Int32 × Int32) => match z with | (q41_4, q41_6) => 11 - q41_6.toInt) ?_ ?_ ((0 : Int32), (0 : Int32)) ⟨(by omega), (by omega), lv_sub hl [3, 4, 5, 6, 2, 1, 0] rfl, hP, hD, hS⟩
        · rintro ⟨q41_4, q41_6⟩ ls H locs ⟨g18, g19, hl, hP, hD, hS⟩
          show (0 : Int) ≤ 11 - q41_6.toInt
          omega
        · rintro n22 ih20 ⟨q41_4, q41_6⟩ ls H locs ⟨g18, g19, hl, hP, hD, hS⟩ hm21
          have hm21 : 11 - q41_6.toInt < (n22 : Int) + 1 := hm21
          replace hl : lv_has ls 10 [(0, .ref (md 64)), (1, .int d), (2, .int q24_2), (3, .int q24_3), (4, .int q41_4), (5, .int v17), (6, .int q41_6)] := hl
          replace hP : va_P D vwCl [(moC md sd (0) mst hn cn pn mq gn mln mnn ln mlt msz mcu mtk mfr mti mfa mfb an un lc td mtn), ((md 7), .inl (cI, 40, .inl ho)), ((md 8), .inl (cI, 40, .inl hc)), ((md 9), .inl (cI, 40, .inl hp)), ((md 10), .inl (cI, 40, .inl hs)), ((md 11), .inl (cI, 200, .inl u6))] H := hP
          replace hD : va_D A [(moC md sd (0) mst hn cn pn mq gn mln mnn ln mlt msz mcu mtk mfr mti mfa mfb an un lc td mtn), ((md 7), .inl (cI, 40, .inl ho)), ((md 8), .inl (cI, 40, .inl hc)), ((md 9), .inl (cI, 40, .inl hp)), ((md 10), .inl (cI, 40, .inl hs)), ((md 11), .inl (cI, 200, .inl u6))] := hD
          show W _ _ _ _ _ _ _ _ _ _ _ _ _ _ _ (F0 m 41 ls [])
          refine lv_iload hx hb dX11_rings_41 (lv_at hl 6 rfl) ?_
          refine lv_bipush (v := 11) hx hb dX11_rings_43 (by decide) ?_
          refine lv_icmp_ge (tgt := 140) hx hb dX11_rings_45 (by decide) (fun c23 => ?_) (fun c23 => ?_)
          · skip
            have f24 := i_le c23
            refine lv_iload hx hb dX11_rings_140 (lv_at hl 4 rfl) ?_
            refine lv_iload_n hx hb dX11_rings_142 rfl (lv_at hl 3 rfl) ?_
            refine lv_ishr hx hb dX11_rings_143 ?_
            refine lv_topi (fun v25 ev25 => ?_)
            refine lv_iconst (v := 1) hx hb dX11_rings_144 (by decide) ?_
            refine lv_iand hx hb dX11_rings_145 ?_
            refine lv_topi (fun v26 ev26 => ?_)
            refine lv_iconst (v := 1) hx hb dX11_rings_146 (by decide) ?_
            refine lv_icmp_ne (tgt := 158) hx hb dX11_rings_147 (by decide) (fun c27 => ?_) (fun c27 => ?_)
            · skip
              have f28 := i_ne c27
              refine lv_iload_n hx hb dX11_rings_158 rfl (lv_at hl 2 rfl) ?_
              refine lv_istore_n (lv' := [(2, .int q24_2), (0, .ref (md 64)), (1, .int d), (3, .int q24_3), (4, .int q41_4), (5, .int v17), (6, .int q41_6)]) hx hb dX11_rings_159 rfl hl (by decide) rfl (fun ls hl => ?_)
              obtain ⟨v29, ev29⟩ : ∃ y : Int32, y = q24_3 + 1 := ⟨_, rfl⟩
              try have tv29 : v29.toInt = q24_3.toInt + 1 := by rw [ev29]; exact (i_add (x := q24_3) (y := (1 : Int32)) (by rw [k1]; omega) (by rw [k1]; omega)).trans (by rw [k1])
              refine lv_iinc (v := v29) (lv' := [(3, .int v29), (2, .int q24_2), (0, .ref (md 64)), (1, .int d), (4, .int q41_4), (5, .int v17), (6, .int q41_6)]) hx hb dX11_rings_160 hl (k := 3) rfl (by rw [ev29]; rfl) (by decide) rfl (fun ls hl => ?_)
              refine lv_goto (tgt := 24) hx hb dX11_rings_163 (by decide) ?_
              exact ih11 (q24_2, v29) ls H locs ⟨(by omega), (by omega), lv_sub hl [2, 3, 1, 0] rfl, hP.sub [0, 1, 2, 3, 4, 5] rfl, hD.sub [0, 1, 2, 3, 4, 5] (by decide +kernel) rfl, hS⟩ (by show 10 - v29.toInt < _; omega)
            · skip
              have f30 := i_eq c27
              refine lv_iload_n hx hb dX11_rings_150 rfl (lv_at hl 2 rfl) ?_
              refine lv_iconst (v := 1) hx hb dX11_rings_151 (by decide) ?_
              refine lv_iload_n hx hb dX11_rings_152 rfl (lv_at hl 3 rfl) ?_
              refine lv_ishl hx hb dX11_rings_153 ?_
              refine lv_topi (fun v31 ev31 => ?_)
              refine lv_ior hx hb dX11_rings_154 ?_
              refine lv_topi (fun v32 ev32 => ?_)
              refine lv_goto (tgt := 159) hx hb dX11_rings_155 (by decide) ?_
              refine lv_istore_n (lv' := [(2, .int v32), (0, .ref (md 64)), (1, .int d), (3, .int q24_3), (4, .int q41_4), (5, .int v17), (6, .int q41_6)]) hx hb dX11_rings_159 rfl hl (by decide) rfl (fun ls hl => ?_)
              obtain ⟨v33, ev33⟩ : ∃ y : Int32, y = q24_3 + 1 := ⟨_, rfl⟩
              try have tv33 : v33.toInt = q24_3.toInt + 1 := by rw [ev33]; exact (i_add (x := q24_3) (y := (1 : Int32)) (by rw [k1]; omega) (by rw [k1]; omega)).trans (by rw [k1])
              refine lv_iinc (v := v33) (lv' := [(3, .int v33), (2, .int v32), (0, .ref (md 64)), (1, .int d), (4, .int q41_4), (5, .int v17), (6, .int q41_6)]) hx hb dX11_rings_160 hl (k := 3) rfl (by rw [ev33]; rfl) (by decide) rfl (fun ls hl => ?_)
              refine lv_goto (tgt := 24) hx hb dX11_rings_163 (by decide) ?_
              exact ih11 (v32, v33) ls H locs ⟨(by omega), (by omega), lv_sub hl [2, 3, 1, 0] rfl, hP.sub [0, 1, 2, 3, 4, 5] rfl, hD.sub [0, 1, 2, 3, 4, 5] (by decide +kernel) rfl, hS⟩ (by show 10 - v33.toInt < _; omega)
          · skip
            have f34 := i_nle c23
            refine lv_iload hx hb dX11_rings_48 (lv_at hl 4 rfl) ?_
            refine lv_istore (lv' := [(7, .int q41_4), (0, .ref (md 64)), (1, .int d), (2, .int q24_2), (3, .int q24_3), (4, .int q41_4), (5, .int v17), (6, .int q41_6)]) hx hb dX11_rings_50 hl (by decide) rfl (fun ls hl => ?_)
            refine lv_iconst (v := 0) hx hb dX11_rings_52 (by decide) ?_
            refine lv_istore (lv' := [(8, .int 0), (7, .int q41_4), (0, .ref (md 64)), (1, .int d), (2, .int q24_2), (3, .int q24_3), (4, .int q41_4), (5, .int v17), (6, .int q41_6)]) hx hb dX11_rings_53 hl (by decide) rfl (fun ls hl => ?_)
            refine st_loop 55 (fun _ => []) (fun (z : Int32 × Int32) (ls : Array Slot) (H : Heap) (locs : List Loc) => match z with | (q55_8, q55_7) => (0 ≤ q55_8.toInt) ∧ (q55_8.toInt ≤ 10) ∧ lv_has ls 10 [(0, .ref (md 64)), (1, .int d), (2, .int q24_2), (3, .int q24_3), (4, .int q41_4), (5, .int v17), (6, .int q41_6), (7, .int q55_7), (8, .int q55_8)] ∧ va_P D vwCl [(moC md sd (0) mst hn cn pn mq gn mln mnn ln mlt msz mcu mtk mfr mti mfa mfb an un lc td mtn), ((md 7), .inl (cI, 40, .inl ho)), ((md 8), .inl (cI, 40, .inl hc)), ((md 9), .inl (cI, 40, .inl hp)), ((md 10), .inl (cI, 40, .inl hs)), ((md 11), .inl (cI, 200, .inl u6))] H ∧ va_D A [(moC md sd (0) mst hn cn pn mq gn mln mnn ln mlt msz mcu mtk mfr mti mfa mfb an un lc td mtn), ((md 7), .inl (cI, 40, .inl ho)), ((md 8), .inl (cI, 40, .inl hc)), ((md 9), .inl (cI, 40, .inl hp)), ((md 10), .inl (cI, 40, .inl hs)), ((md 11), .inl (cI, 200, .inl u6))] ∧ va_S A s.heap H locs) (fun (z : Int32 × Int32) => match z with | (q55_8, q55_7) => 10 - q55_8.toInt) ?_ ?_ ((0 : Int32), q41_4) ⟨(by omega), (by omega), lv_sub hl [2, 3, 4, 5, 6, 7, 8, 1, 0] rfl, hP, hD, hS⟩
            · rintro ⟨q55_8, q55_7⟩ ls H locs ⟨g35, g36, hl, hP, hD, hS⟩
              show (0 : Int) ≤ 10 - q55_8.toInt
              omega
            · rintro n39 ih37 ⟨q55_8, q55_7⟩ ls H locs ⟨g35, g36, hl, hP, hD, hS⟩ hm38
              have hm38 : 10 - q55_8.toInt < (n39 : Int) + 1 := hm38
              replace hl : lv_has ls 10 [(0, .ref (md 64)), (1, .int d), (2, .int q24_2), (3, .int q24_3), (4, .int q41_4), (5, .int v17), (6, .int q41_6), (7, .int q55_7), (8, .int q55_8)] := hl
              replace hP : va_P D vwCl [(moC md sd (0) mst hn cn pn mq gn mln mnn ln mlt msz mcu mtk mfr mti mfa mfb an un lc td mtn), ((md 7), .inl (cI, 40, .inl ho)), ((md 8), .inl (cI, 40, .inl hc)), ((md 9), .inl (cI, 40, .inl hp)), ((md 10), .inl (cI, 40, .inl hs)), ((md 11), .inl (cI, 200, .inl u6))] H := hP
              replace hD : va_D A [(moC md sd (0) mst hn cn pn mq gn mln mnn ln mlt msz mcu mtk mfr mti mfa mfb an un lc td mtn), ((md 7), .inl (cI, 40, .inl ho)), ((md 8), .inl (cI, 40, .inl hc)), ((md 9), .inl (cI, 40, .inl hp)), ((md 10), .inl (cI, 40, .inl hs)), ((md 11), .inl (cI, 200, .inl u6))] := hD
              show W _ _ _ _ _ _ _ _ _ _ _ _ _ _ _ (F0 m 55 ls [])
              refine lv_iload hx hb dX11_rings_55 (lv_at hl 8 rfl) ?_
              refine lv_bipush (v := 10) hx hb dX11_rings_57 (by decide) ?_
              refine lv_icmp_ge (tgt := 130) hx hb dX11_rings_59 (by decide) (fun c40 => ?_) (fun c40 => ?_)
              · skip
                have f41 := i_le c40
                refine lv_iload hx hb dX11_rings_130 (lv_at hl 7 rfl) ?_
                refine lv_istore (lv' := [(4, .int q55_7), (0, .ref (md 64)), (1, .int d), (2, .int q24_2), (3, .int q24_3), (5, .int v17), (6, .int q41_6), (7, .int q55_7), (8, .int q55_8)]) hx hb dX11_rings_132 hl (by decide) rfl (fun ls hl => ?_)
                obtain ⟨v42, ev42⟩ : ∃ y : Int32, y = q41_6 + 1 := ⟨_, rfl⟩
                try have tv42 : v42.toInt = q41_6.toInt + 1 := by rw [ev42]; exact (i_add (x := q41_6) (y := (1 : Int32)) (by rw [k1]; omega) (by rw [k1]; omega)).trans (by rw [k1])
                refine lv_iinc (v := v42) (lv' := [(6, .int v42), (4, .int q55_7), (0, .ref (md 64)), (1, .int d), (2, .int q24_2), (3, .int q24_3), (5, .int v17), (7, .int q55_7), (8, .int q55_8)]) hx hb dX11_rings_134 hl (k := 6) rfl (by rw [ev42]; rfl) (by decide) rfl (fun ls hl => ?_)
                refine lv_goto (tgt := 41) hx hb dX11_rings_137 (by decide) ?_
                exact ih20 (q55_7, v42) ls H locs ⟨(by omega), (by omega), lv_sub hl [2, 3, 4, 5, 1, 6, 0] rfl, hP.sub [0, 1, 2, 3, 4, 5] rfl, hD.sub [0, 1, 2, 3, 4, 5] (by decide +kernel) rfl, hS⟩ (by show 11 - v42.toInt < _; omega)
              · skip
                have f43 := i_nle c40
                refine lv_iconst (v := 0) hx hb dX11_rings_62 (by decide) ?_
                refine lv_istore (lv' := [(9, .int 0), (0, .ref (md 64)), (1, .int d), (2, .int q24_2), (3, .int q24_3), (4, .int q41_4), (5, .int v17), (6, .int q41_6), (7, .int q55_7), (8, .int q55_8)]) hx hb dX11_rings_63 hl (by decide) rfl (fun ls hl => ?_)
                refine st_loop 65 (fun _ => []) (fun (z : Int32 × Int32) (ls : Array Slot) (H : Heap) (locs : List Loc) => match z with | (q65_9, q65_7) => (0 ≤ q65_9.toInt) ∧ (q65_9.toInt ≤ 10) ∧ lv_has ls 10 [(0, .ref (md 64)), (1, .int d), (2, .int q24_2), (3, .int q24_3), (4, .int q41_4), (5, .int v17), (6, .int q41_6), (7, .int q65_7), (8, .int q55_8), (9, .int q65_9)] ∧ va_P D vwCl [(moC md sd (0) mst hn cn pn mq gn mln mnn ln mlt msz mcu mtk mfr mti mfa mfb an un lc td mtn), ((md 7), .inl (cI, 40, .inl ho)), ((md 8), .inl (cI, 40, .inl hc)), ((md 9), .inl (cI, 40, .inl hp)), ((md 10), .inl (cI, 40, .inl hs)), ((md 11), .inl (cI, 200, .inl u6))] H ∧ va_D A [(moC md sd (0) mst hn cn pn mq gn mln mnn ln mlt msz mcu mtk mfr mti mfa mfb an un lc td mtn), ((md 7), .inl (cI, 40, .inl ho)), ((md 8), .inl (cI, 40, .inl hc)), ((md 9), .inl (cI, 40, .inl hp)), ((md 10), .inl (cI, 40, .inl hs)), ((md 11), .inl (cI, 200, .inl u6))] ∧ va_S A s.heap H locs) (fun (z : Int32 × Int32) => match z with | (q65_9, q65_7) => 10 - q65_9.toInt) ?_ ?_ ((0 : Int32), q55_7) ⟨(by omega), (by omega), lv_sub hl [1, 2, 3, 4, 5, 6, 7, 8, 9, 0] rfl, hP, hD, hS⟩
                · rintro ⟨q65_9, q65_7⟩ ls H locs ⟨g44, g45, hl, hP, hD, hS⟩
                  show (0 : Int) ≤ 10 - q65_9.toInt
                  omega
                · rintro n48 ih46 ⟨q65_9, q65_7⟩ ls H locs ⟨g44, g45, hl, hP, hD, hS⟩ hm47
                  have hm47 : 10 - q65_9.toInt < (n48 : Int) + 1 := hm47
                  replace hl : lv_has ls 10 [(0, .ref (md 64)), (1, .int d), (2, .int q24_2), (3, .int q24_3), (4, .int q41_4), (5, .int v17), (6, .int q41_6), (7, .int q65_7), (8, .int q55_8), (9, .int q65_9)] := hl
                  replace hP : va_P D vwCl [(moC md sd (0) mst hn cn pn mq gn mln mnn ln mlt msz mcu mtk mfr mti mfa mfb an un lc td mtn), ((md 7), .inl (cI, 40, .inl ho)), ((md 8), .inl (cI, 40, .inl hc)), ((md 9), .inl (cI, 40, .inl hp)), ((md 10), .inl (cI, 40, .inl hs)), ((md 11), .inl (cI, 200, .inl u6))] H := hP
                  replace hD : va_D A [(moC md sd (0) mst hn cn pn mq gn mln mnn ln mlt msz mcu mtk mfr mti mfa mfb an un lc td mtn), ((md 7), .inl (cI, 40, .inl ho)), ((md 8), .inl (cI, 40, .inl hc)), ((md 9), .inl (cI, 40, .inl hp)), ((md 10), .inl (cI, 40, .inl hs)), ((md 11), .inl (cI, 200, .inl u6))] := hD
                  show W _ _ _ _ _ _ _ _ _ _ _ _ _ _ _ (F0 m 65 ls [])
                  refine lv_iload hx hb dX11_rings_65 (lv_at hl 9 rfl) ?_
                  refine lv_bipush (v := 10) hx hb dX11_rings_67 (by decide) ?_
                  refine lv_icmp_ge (tgt := 124) hx hb dX11_rings_69 (by decide) (fun c49 => ?_) (fun c49 => ?_)
                  · skip
                    have f50 := i_le c49
                    obtain ⟨v51, ev51⟩ : ∃ y : Int32, y = q55_8 + 1 := ⟨_, rfl⟩
                    try have tv51 : v51.toInt = q55_8.toInt + 1 := by rw [ev51]; exact (i_add (x := q55_8) (y := (1 : Int32)) (by rw [k1]; omega) (by rw [k1]; omega)).trans (by rw [k1])
                    refine lv_iinc (v := v51) (lv' := [(8, .int v51), (0, .ref (md 64)), (1, .int d), (2, .int q24_2), (3, .int q24_3), (4, .int q41_4), (5, .int v17), (6, .int q41_6), (7, .int q65_7), (9, .int q65_9)]) hx hb dX11_rings_124 hl (k := 8) rfl (by rw [ev51]; rfl) (by decide) rfl (fun ls hl => ?_)
                    refine lv_goto (tgt := 55) hx hb dX11_rings_127 (by decide) ?_
                    exact ih37 (v51, q65_7) ls H locs ⟨(by omega), (by omega), lv_sub hl [1, 2, 3, 4, 5, 6, 7, 8, 0] rfl, hP.sub [0, 1, 2, 3, 4, 5] rfl, hD.sub [0, 1, 2, 3, 4, 5] (by decide +kernel) rfl, hS⟩ (by show 10 - v51.toInt < _; omega)
                  · skip
                    have f52 := i_nle c49
                    refine lv_iload hx hb dX11_rings_72 (lv_at hl 4 rfl) ?_
                    refine lv_iload hx hb dX11_rings_74 (lv_at hl 5 rfl) ?_
                    refine lv_ior hx hb dX11_rings_76 ?_
                    refine lv_topi (fun v53 ev53 => ?_)
                    refine lv_iload hx hb dX11_rings_77 (lv_at hl 8 rfl) ?_
                    refine lv_ishr hx hb dX11_rings_79 ?_
                    refine lv_topi (fun v54 ev54 => ?_)
                    refine lv_iconst (v := 1) hx hb dX11_rings_80 (by decide) ?_
                    refine lv_iand hx hb dX11_rings_81 ?_
                    refine lv_topi (fun v55 ev55 => ?_)
                    refine lv_iconst (v := 1) hx hb dX11_rings_82 (by decide) ?_
                    refine lv_icmp_ne (tgt := 124) hx hb dX11_rings_83 (by decide) (fun c56 => ?_) (fun c56 => ?_)
                    · skip
                      have f57 := i_ne c56
                      obtain ⟨v58, ev58⟩ : ∃ y : Int32, y = q55_8 + 1 := ⟨_, rfl⟩
                      try have tv58 : v58.toInt = q55_8.toInt + 1 := by rw [ev58]; exact (i_add (x := q55_8) (y := (1 : Int32)) (by rw [k1]; omega) (by rw [k1]; omega)).trans (by rw [k1])
                      refine lv_iinc (v := v58) (lv' := [(8, .int v58), (0, .ref (md 64)), (1, .int d), (2, .int q24_2), (3, .int q24_3), (4, .int q41_4), (5, .int v17), (6, .int q41_6), (7, .int q65_7), (9, .int q65_9)]) hx hb dX11_rings_124 hl (k := 8) rfl (by rw [ev58]; rfl) (by decide) rfl (fun ls hl => ?_)
                      refine lv_goto (tgt := 55) hx hb dX11_rings_127 (by decide) ?_
                      exact ih37 (v58, q65_7) ls H locs ⟨(by omega), (by omega), lv_sub hl [1, 2, 3, 4, 5, 6, 7, 8, 0] rfl, hP.sub [0, 1, 2, 3, 4, 5] rfl, hD.sub [0, 1, 2, 3, 4, 5] (by decide +kernel) rfl, hS⟩ (by show 10 - v58.toInt < _; omega)
                    · skip
                      have f59 := i_eq c56
                      refine lv_iload hx hb dX11_rings_86 (lv_at hl 7 rfl) ?_
                      refine lv_aload_n hx hb dX11_rings_88 rfl (lv_at hl 0 rfl) ?_
                      refine va_get (D := D) (ci := 11) (v := .ref (md 11)) (C := RX11) (T := TX11) (N := 64) hx hb hts inX11_rings_X11 hown hK hP 0 rfl rfl 11 (by decide) (hts (Cond.fieldLink RX11 35 "PortRoomsModel" "has" "[I") (List.mem_cons_of_mem _ (List.mem_append_left _ (List.mem_append_left _ (List.mem_of_getElem? (i := 2) rfl))))) (fun _ h9 => h9) rfl dX11_rings_89 ?_
                      refine lv_bipush (v := 10) hx hb dX11_rings_92 (by decide) ?_
                      refine lv_iload hx hb dX11_rings_94 (lv_at hl 8 rfl) ?_
                      refine lv_bipush (v := 10) hx hb dX11_rings_96 (by decide) ?_
                      refine lv_iadd hx hb dX11_rings_98 ?_
                      refine lv_topi (fun v60 ev60 => ?_)
                      try have tv60 : v60.toInt = q55_8.toInt + 10 := by rw [ev60]; exact (i_add (x := q55_8) (y := (10 : Int32)) (by rw [k10]; omega) (by rw [k10]; omega)).trans (by rw [k10])
                      refine lv_imul hx hb dX11_rings_99 ?_
                      refine lv_topi (fun v61 ev61 => ?_)
                      try have tv61 : v61.toInt = 10 * v60.toInt := by rw [ev61]; exact (i_mul (x := (10 : Int32)) (y := v60) (by rw [k10]; omega) (by rw [k10]; omega)).trans (by rw [k10])
                      refine lv_iload hx hb dX11_rings_100 (lv_at hl 9 rfl) ?_
                      refine lv_iadd hx hb dX11_rings_102 ?_
                      refine lv_topi (fun v62 ev62 => ?_)
                      try have tv62 : v62.toInt = v61.toInt + q65_9.toInt := by rw [ev62]; exact (i_add (x := v61) (y := q65_9) (by omega) (by omega))
                      refine va_iald hx hb hK hP 5 0 rfl rfl (i_in (by omega) (by omega)) dX11_rings_103 ?_
                      refine lv_topi (fun v63 ev63 => ?_)
                      refine lv_if_le (tgt := 114) hx hb dX11_rings_104 (by decide) (fun c64 => ?_) (fun c64 => ?_)
                      · skip
                        have f65 := i_le c64
                        refine lv_iconst (v := 0) hx hb dX11_rings_114 (by decide) ?_
                        refine lv_ior hx hb dX11_rings_115 ?_
                        refine lv_topi (fun v66 ev66 => ?_)
                        refine lv_istore (lv' := [(7, .int v66), (0, .ref (md 64)), (1, .int d), (2, .int q24_2), (3, .int q24_3), (4, .int q41_4), (5, .int v17), (6, .int q41_6), (8, .int q55_8), (9, .int q65_9)]) hx hb dX11_rings_116 hl (by decide) rfl (fun ls hl => ?_)
                        obtain ⟨v67, ev67⟩ : ∃ y : Int32, y = q65_9 + 1 := ⟨_, rfl⟩
                        try have tv67 : v67.toInt = q65_9.toInt + 1 := by rw [ev67]; exact (i_add (x := q65_9) (y := (1 : Int32)) (by rw [k1]; omega) (by rw [k1]; omega)).trans (by rw [k1])
                        refine lv_iinc (v := v67) (lv' := [(9, .int v67), (7, .int v66), (0, .ref (md 64)), (1, .int d), (2, .int q24_2), (3, .int q24_3), (4, .int q41_4), (5, .int v17), (6, .int q41_6), (8, .int q55_8)]) hx hb dX11_rings_118 hl (k := 9) rfl (by rw [ev67]; rfl) (by decide) rfl (fun ls hl => ?_)
                        refine lv_goto (tgt := 65) hx hb dX11_rings_121 (by decide) ?_
                        exact ih46 (v67, v66) ls H locs ⟨(by omega), (by omega), lv_sub hl [2, 3, 4, 5, 6, 7, 8, 1, 9, 0] rfl, hP.sub [0, 1, 2, 3, 4, 5] rfl, hD.sub [0, 1, 2, 3, 4, 5] (by decide +kernel) rfl, hS⟩ (by show 10 - v67.toInt < _; omega)
                      · skip
                        have f68 := i_nle c64
                        refine lv_iconst (v := 1) hx hb dX11_rings_107 (by decide) ?_
                        refine lv_iload hx hb dX11_rings_108 (lv_at hl 9 rfl) ?_
                        refine lv_ishl hx hb dX11_rings_110 ?_
                        refine lv_topi (fun v69 ev69 => ?_)
                        refine lv_goto (tgt := 115) hx hb dX11_rings_111 (by decide) ?_
                        refine lv_ior hx hb dX11_rings_115 ?_
                        refine lv_topi (fun v70 ev70 => ?_)
                        refine lv_istore (lv' := [(7, .int v70), (0, .ref (md 64)), (1, .int d), (2, .int q24_2), (3, .int q24_3), (4, .int q41_4), (5, .int v17), (6, .int q41_6), (8, .int q55_8), (9, .int q65_9)]) hx hb dX11_rings_116 hl (by decide) rfl (fun ls hl => ?_)
                        obtain ⟨v71, ev71⟩ : ∃ y : Int32, y = q65_9 + 1 := ⟨_, rfl⟩
                        try have tv71 : v71.toInt = q65_9.toInt + 1 := by rw [ev71]; exact (i_add (x := q65_9) (y := (1 : Int32)) (by rw [k1]; omega) (by rw [k1]; omega)).trans (by rw [k1])
                        refine lv_iinc (v := v71) (lv' := [(9, .int v71), (7, .int v70), (0, .ref (md 64)), (1, .int d), (2, .int q24_2), (3, .int q24_3), (4, .int q41_4), (5, .int v17), (6, .int q41_6), (8, .int q55_8)]) hx hb dX11_rings_118 hl (k := 9) rfl (by rw [ev71]; rfl) (by decide) rfl (fun ls hl => ?_)
                        refine lv_goto (tgt := 65) hx hb dX11_rings_121 (by decide) ?_
                        exact ih46 (v71, v70) ls H locs ⟨(by omega), (by omega), lv_sub hl [2, 3, 4, 5, 6, 7, 8, 1, 9, 0] rfl, hP.sub [0, 1, 2, 3, 4, 5] rfl, hD.sub [0, 1, 2, 3, 4, 5] (by decide +kernel) rfl, hS⟩ (by show 10 - v71.toInt < _; omega)
  · skip
    have f72 := bo_f hw2 c4
    refine lv_ldc hx hb hown (hts (Cond.constant RX11 157 (-1000001)) (List.mem_cons_of_mem _ (List.mem_append_left _ (List.mem_append_left _ (List.mem_of_getElem? (i := 1) rfl))))) dX11_rings_12 ?_
    have hP9 := hP.sub (ws' := [(moC md sd (0) mst hn cn pn mq gn mln mnn ln mlt msz mcu mtk mfr mti mfa mfb an un lc td mtn), ((md 7), .inl (cI, 40, .inl ho)), ((md 8), .inl (cI, 40, .inl hc)), ((md 9), .inl (cI, 40, .inl hp)), ((md 10), .inl (cI, 40, .inl hs)), ((md 11), .inl (cI, 200, .inl mh))]) [0, 1, 2, 3, 4, 5] rfl
    have hD9 := hD.sub (ws' := [(moC md sd (0) mst hn cn pn mq gn mln mnn ln mlt msz mcu mtk mfr mti mfa mfb an un lc td mtn), ((md 7), .inl (cI, 40, .inl ho)), ((md 8), .inl (cI, 40, .inl hc)), ((md 9), .inl (cI, 40, .inl hp)), ((md 10), .inl (cI, 40, .inl hs)), ((md 11), .inl (cI, 200, .inl mh))]) [0, 1, 2, 3, 4, 5] (by decide +kernel) rfl
    exact W.iret (v := (-1000001)) hx hb hr (fun t ht hW => ⟨⟨(-1000001), mh, rfl, trivial, by rw [ht]; exact hP9, va_K.moved hW.alike hK, hD9⟩, hS.F ht⟩) hS.2.2 dX11_rings_14
