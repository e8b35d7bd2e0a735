theorem cdX11_ownerOf : yX11_ownerOf.cls ≠ "java/lang/invoke/MethodHandle" ∧ yX11_ownerOf.cls ≠ "java/lang/invoke/VarHandle" ∧ (parseMethodDescriptor yX11_ownerOf.desc).map (fun d => d.parameters.length) = some 3 := by decide +kernel
theorem Gd_X11_ownerOf : gdA wsX11_ownerOf := gd_cons (by decide +kernel) (gd_app (gd_all (ws := wsX11_ownerOf_o1) (by decide +kernel)) Gd_X110)
theorem inX11_ownerOf_X11 : ∀ w ∈ u_ws RX11 TX11 64, w ∈ wsX11_ownerOf := fun _ h => (List.mem_cons_of_mem _ (List.mem_append_right _ h))
theorem inX11_owner_X11 : ∀ w ∈ u_ws RX11 TX11 64, w ∈ wsX11_owner := fun _ h => (List.mem_cons_of_mem _ (List.mem_append_right _ (List.mem_append_left _ (List.mem_append_left _ h))))
theorem inX11_quarrels_X11 : ∀ w ∈ u_ws RX11 TX11 64, w ∈ wsX11_quarrels := fun _ h => (List.mem_cons_of_mem _ (List.mem_append_right _ (List.mem_append_left _ (List.mem_append_left _ h))))
theorem dX11_ownerOf_all0 : decode cX11_ownerOf 0 = .ok (.aload_n 0, 1) ∧ decode cX11_ownerOf 1 = .ok (.getfield 48, 3) ∧ decode cX11_ownerOf 4 = .ok (.iload_n 1, 1) ∧ decode cX11_ownerOf 5 = .ok (.iaload, 1) ∧ decode cX11_ownerOf 6 = .ok (.istore 4, 2) ∧ decode cX11_ownerOf 8 = .ok (.aload_n 0, 1) ∧ decode cX11_ownerOf 9 = .ok (.getfield 48, 3) ∧ decode cX11_ownerOf 12 = .ok (.iload_n 1, 1) ∧ decode cX11_ownerOf 13 = .ok (.iaload, 1) ∧ decode cX11_ownerOf 14 = .ok (.istore 5, 2) ∧ decode cX11_ownerOf 16 = .ok (.lconst 0, 1) ∧ decode cX11_ownerOf 17 = .ok (.lstore 6, 2) := by decide +kernel
theorem dX11_ownerOf_0 : decode cX11_ownerOf 0 = .ok (.aload_n 0, 1) := dX11_ownerOf_all0.1
theorem dX11_ownerOf_1 : decode cX11_ownerOf 1 = .ok (.getfield 48, 3) := dX11_ownerOf_all0.2.1
theorem dX11_ownerOf_4 : decode cX11_ownerOf 4 = .ok (.iload_n 1, 1) := dX11_ownerOf_all0.2.2.1
theorem dX11_ownerOf_5 : decode cX11_ownerOf 5 = .ok (.iaload, 1) := dX11_ownerOf_all0.2.2.2.1
theorem dX11_ownerOf_6 : decode cX11_ownerOf 6 = .ok (.istore 4, 2) := dX11_ownerOf_all0.2.2.2.2.1
theorem dX11_ownerOf_8 : decode cX11_ownerOf 8 = .ok (.aload_n 0, 1) := dX11_ownerOf_all0.2.2.2.2.2.1
theorem dX11_ownerOf_9 : decode cX11_ownerOf 9 = .ok (.getfield 48, 3) := dX11_ownerOf_all0.2.2.2.2.2.2.1
theorem dX11_ownerOf_12 : decode cX11_ownerOf 12 = .ok (.iload_n 1, 1) := dX11_ownerOf_all0.2.2.2.2.2.2.2.1
theorem dX11_ownerOf_13 : decode cX11_ownerOf 13 = .ok (.iaload, 1) := dX11_ownerOf_all0.2.2.2.2.2.2.2.2.1
theorem dX11_ownerOf_14 : decode cX11_ownerOf 14 = .ok (.istore 5, 2) := dX11_ownerOf_all0.2.2.2.2.2.2.2.2.2.1
theorem dX11_ownerOf_16 : decode cX11_ownerOf 16 = .ok (.lconst 0, 1) := dX11_ownerOf_all0.2.2.2.2.2.2.2.2.2.2.1
theorem dX11_ownerOf_17 : decode cX11_ownerOf 17 = .ok (.lstore 6, 2) := dX11_ownerOf_all0.2.2.2.2.2.2.2.2.2.2.2
theorem dX11_ownerOf_all1 : decode cX11_ownerOf 19 = .ok (.aload_n 0, 1) ∧ decode cX11_ownerOf 20 = .ok (.iconst 0, 1) ∧ decode cX11_ownerOf 21 = .ok (.putfield 225, 3) ∧ decode cX11_ownerOf 24 = .ok (.iconst 1, 1) ∧ decode cX11_ownerOf 25 = .ok (.istore 8, 2) ∧ decode cX11_ownerOf 27 = .ok (.iload 8, 2) ∧ decode cX11_ownerOf 29 = .ok (.ifCond .eq 223, 3) ∧ decode cX11_ownerOf 32 = .ok (.ldc 139, 2) ∧ decode cX11_ownerOf 34 = .ok (.istore 9, 2) ∧ decode cX11_ownerOf 36 = .ok (.iconst 0, 1) ∧ decode cX11_ownerOf 37 = .ok (.istore 10, 2) ∧ decode cX11_ownerOf 39 = .ok (.iload 10, 2) := by decide +kernel
theorem dX11_ownerOf_19 : decode cX11_ownerOf 19 = .ok (.aload_n 0, 1) := dX11_ownerOf_all1.1
theorem dX11_ownerOf_20 : decode cX11_ownerOf 20 = .ok (.iconst 0, 1) := dX11_ownerOf_all1.2.1
theorem dX11_ownerOf_21 : decode cX11_ownerOf 21 = .ok (.putfield 225, 3) := dX11_ownerOf_all1.2.2.1
theorem dX11_ownerOf_24 : decode cX11_ownerOf 24 = .ok (.iconst 1, 1) := dX11_ownerOf_all1.2.2.2.1
theorem dX11_ownerOf_25 : decode cX11_ownerOf 25 = .ok (.istore 8, 2) := dX11_ownerOf_all1.2.2.2.2.1
theorem dX11_ownerOf_27 : decode cX11_ownerOf 27 = .ok (.iload 8, 2) := dX11_ownerOf_all1.2.2.2.2.2.1
theorem dX11_ownerOf_29 : decode cX11_ownerOf 29 = .ok (.ifCond .eq 223, 3) := dX11_ownerOf_all1.2.2.2.2.2.2.1
theorem dX11_ownerOf_32 : decode cX11_ownerOf 32 = .ok (.ldc 139, 2) := dX11_ownerOf_all1.2.2.2.2.2.2.2.1
theorem dX11_ownerOf_34 : decode cX11_ownerOf 34 = .ok (.istore 9, 2) := dX11_ownerOf_all1.2.2.2.2.2.2.2.2.1
theorem dX11_ownerOf_36 : decode cX11_ownerOf 36 = .ok (.iconst 0, 1) := dX11_ownerOf_all1.2.2.2.2.2.2.2.2.2.1
theorem dX11_ownerOf_37 : decode cX11_ownerOf 37 = .ok (.istore 10, 2) := dX11_ownerOf_all1.2.2.2.2.2.2.2.2.2.2.1
theorem dX11_ownerOf_39 : decode cX11_ownerOf 39 = .ok (.iload 10, 2) := dX11_ownerOf_all1.2.2.2.2.2.2.2.2.2.2.2
theorem dX11_ownerOf_all2 : decode cX11_ownerOf 41 = .ok (.aload_n 0, 1) ∧ decode cX11_ownerOf 42 = .ok (.getfield 222, 3) ∧ decode cX11_ownerOf 45 = .ok (.if_icmp .ge 122, 3) ∧ decode cX11_ownerOf 48 = .ok (.aload_n 0, 1) ∧ decode cX11_ownerOf 49 = .ok (.getfield 54, 3) ∧ decode cX11_ownerOf 52 = .ok (.iload 10, 2) ∧ decode cX11_ownerOf 54 = .ok (.iaload, 1) ∧ decode cX11_ownerOf 55 = .ok (.iload_n 1, 1) ∧ decode cX11_ownerOf 56 = .ok (.if_icmp .ne 105, 3) ∧ decode cX11_ownerOf 59 = .ok (.aload_n 0, 1) ∧ decode cX11_ownerOf 60 = .ok (.getfield 66, 3) ∧ decode cX11_ownerOf 63 = .ok (.iload 10, 2) := by decide +kernel
theorem dX11_ownerOf_41 : decode cX11_ownerOf 41 = .ok (.aload_n 0, 1) := dX11_ownerOf_all2.1
theorem dX11_ownerOf_42 : decode cX11_ownerOf 42 = .ok (.getfield 222, 3) := dX11_ownerOf_all2.2.1
theorem dX11_ownerOf_45 : decode cX11_ownerOf 45 = .ok (.if_icmp .ge 122, 3) := dX11_ownerOf_all2.2.2.1
theorem dX11_ownerOf_48 : decode cX11_ownerOf 48 = .ok (.aload_n 0, 1) := dX11_ownerOf_all2.2.2.2.1
theorem dX11_ownerOf_49 : decode cX11_ownerOf 49 = .ok (.getfield 54, 3) := dX11_ownerOf_all2.2.2.2.2.1
theorem dX11_ownerOf_52 : decode cX11_ownerOf 52 = .ok (.iload 10, 2) := dX11_ownerOf_all2.2.2.2.2.2.1
theorem dX11_ownerOf_54 : decode cX11_ownerOf 54 = .ok (.iaload, 1) := dX11_ownerOf_all2.2.2.2.2.2.2.1
theorem dX11_ownerOf_55 : decode cX11_ownerOf 55 = .ok (.iload_n 1, 1) := dX11_ownerOf_all2.2.2.2.2.2.2.2.1
theorem dX11_ownerOf_56 : decode cX11_ownerOf 56 = .ok (.if_icmp .ne 105, 3) := dX11_ownerOf_all2.2.2.2.2.2.2.2.2.1
theorem dX11_ownerOf_59 : decode cX11_ownerOf 59 = .ok (.aload_n 0, 1) := dX11_ownerOf_all2.2.2.2.2.2.2.2.2.2.1
theorem dX11_ownerOf_60 : decode cX11_ownerOf 60 = .ok (.getfield 66, 3) := dX11_ownerOf_all2.2.2.2.2.2.2.2.2.2.2.1
theorem dX11_ownerOf_63 : decode cX11_ownerOf 63 = .ok (.iload 10, 2) := dX11_ownerOf_all2.2.2.2.2.2.2.2.2.2.2.2
theorem dX11_ownerOf_all3 : decode cX11_ownerOf 65 = .ok (.iaload, 1) ∧ decode cX11_ownerOf 66 = .ok (.iload_n 3, 1) ∧ decode cX11_ownerOf 67 = .ok (.if_icmp .gt 94, 3) ∧ decode cX11_ownerOf 70 = .ok (.lload 6, 2) ∧ decode cX11_ownerOf 72 = .ok (.iload 10, 2) ∧ decode cX11_ownerOf 74 = .ok (.lshr, 1) ∧ decode cX11_ownerOf 75 = .ok (.lconst 1, 1) ∧ decode cX11_ownerOf 76 = .ok (.land, 1) ∧ decode cX11_ownerOf 77 = .ok (.lconst 0, 1) ∧ decode cX11_ownerOf 78 = .ok (.lcmp, 1) ∧ decode cX11_ownerOf 79 = .ok (.ifCond .ne 82, 3) ∧ decode cX11_ownerOf 82 = .ok (.iload 9, 2) := by decide +kernel
theorem dX11_ownerOf_65 : decode cX11_ownerOf 65 = .ok (.iaload, 1) := dX11_ownerOf_all3.1
theorem dX11_ownerOf_66 : decode cX11_ownerOf 66 = .ok (.iload_n 3, 1) := dX11_ownerOf_all3.2.1
theorem dX11_ownerOf_67 : decode cX11_ownerOf 67 = .ok (.if_icmp .gt 94, 3) := dX11_ownerOf_all3.2.2.1
theorem dX11_ownerOf_70 : decode cX11_ownerOf 70 = .ok (.lload 6, 2) := dX11_ownerOf_all3.2.2.2.1
theorem dX11_ownerOf_72 : decode cX11_ownerOf 72 = .ok (.iload 10, 2) := dX11_ownerOf_all3.2.2.2.2.1
theorem dX11_ownerOf_74 : decode cX11_ownerOf 74 = .ok (.lshr, 1) := dX11_ownerOf_all3.2.2.2.2.2.1
theorem dX11_ownerOf_75 : decode cX11_ownerOf 75 = .ok (.lconst 1, 1) := dX11_ownerOf_all3.2.2.2.2.2.2.1
theorem dX11_ownerOf_76 : decode cX11_ownerOf 76 = .ok (.land, 1) := dX11_ownerOf_all3.2.2.2.2.2.2.2.1
theorem dX11_ownerOf_77 : decode cX11_ownerOf 77 = .ok (.lconst 0, 1) := dX11_ownerOf_all3.2.2.2.2.2.2.2.2.1
theorem dX11_ownerOf_78 : decode cX11_ownerOf 78 = .ok (.lcmp, 1) := dX11_ownerOf_all3.2.2.2.2.2.2.2.2.2.1
theorem dX11_ownerOf_79 : decode cX11_ownerOf 79 = .ok (.ifCond .ne 82, 3) := dX11_ownerOf_all3.2.2.2.2.2.2.2.2.2.2.1
theorem dX11_ownerOf_82 : decode cX11_ownerOf 82 = .ok (.iload 9, 2) := dX11_ownerOf_all3.2.2.2.2.2.2.2.2.2.2.2
theorem dX11_ownerOf_all4 : decode cX11_ownerOf 84 = .ok (.ldc 139, 2) ∧ decode cX11_ownerOf 86 = .ok (.if_icmp .eq 54, 3) ∧ decode cX11_ownerOf 89 = .ok (.aload_n 0, 1) ∧ decode cX11_ownerOf 90 = .ok (.getfield 63, 3) ∧ decode cX11_ownerOf 93 = .ok (.iload 10, 2) ∧ decode cX11_ownerOf 95 = .ok (.iaload, 1) ∧ decode cX11_ownerOf 96 = .ok (.aload_n 0, 1) ∧ decode cX11_ownerOf 97 = .ok (.getfield 63, 3) ∧ decode cX11_ownerOf 100 = .ok (.iload 9, 2) ∧ decode cX11_ownerOf 102 = .ok (.iaload, 1) ∧ decode cX11_ownerOf 103 = .ok (.if_icmp .lt 37, 3) ∧ decode cX11_ownerOf 106 = .ok (.aload_n 0, 1) := by decide +kernel
theorem dX11_ownerOf_84 : decode cX11_ownerOf 84 = .ok (.ldc 139, 2) := dX11_ownerOf_all4.1
theorem dX11_ownerOf_86 : decode cX11_ownerOf 86 = .ok (.if_icmp .eq 54, 3) := dX11_ownerOf_all4.2.1
theorem dX11_ownerOf_89 : decode cX11_ownerOf 89 = .ok (.aload_n 0, 1) := dX11_ownerOf_all4.2.2.1
theorem dX11_ownerOf_90 : decode cX11_ownerOf 90 = .ok (.getfield 63, 3) := dX11_ownerOf_all4.2.2.2.1
theorem dX11_ownerOf_93 : decode cX11_ownerOf 93 = .ok (.iload 10, 2) := dX11_ownerOf_all4.2.2.2.2.1
theorem dX11_ownerOf_95 : decode cX11_ownerOf 95 = .ok (.iaload, 1) := dX11_ownerOf_all4.2.2.2.2.2.1
theorem dX11_ownerOf_96 : decode cX11_ownerOf 96 = .ok (.aload_n 0, 1) := dX11_ownerOf_all4.2.2.2.2.2.2.1
theorem dX11_ownerOf_97 : decode cX11_ownerOf 97 = .ok (.getfield 63, 3) := dX11_ownerOf_all4.2.2.2.2.2.2.2.1
theorem dX11_ownerOf_100 : decode cX11_ownerOf 100 = .ok (.iload 9, 2) := dX11_ownerOf_all4.2.2.2.2.2.2.2.2.1
theorem dX11_ownerOf_102 : decode cX11_ownerOf 102 = .ok (.iaload, 1) := dX11_ownerOf_all4.2.2.2.2.2.2.2.2.2.1
theorem dX11_ownerOf_103 : decode cX11_ownerOf 103 = .ok (.if_icmp .lt 37, 3) := dX11_ownerOf_all4.2.2.2.2.2.2.2.2.2.2.1
theorem dX11_ownerOf_106 : decode cX11_ownerOf 106 = .ok (.aload_n 0, 1) := dX11_ownerOf_all4.2.2.2.2.2.2.2.2.2.2.2
theorem dX11_ownerOf_all5 : decode cX11_ownerOf 107 = .ok (.getfield 63, 3) ∧ decode cX11_ownerOf 110 = .ok (.iload 10, 2) ∧ decode cX11_ownerOf 112 = .ok (.iaload, 1) ∧ decode cX11_ownerOf 113 = .ok (.aload_n 0, 1) ∧ decode cX11_ownerOf 114 = .ok (.getfield 63, 3) ∧ decode cX11_ownerOf 117 = .ok (.iload 9, 2) ∧ decode cX11_ownerOf 119 = .ok (.iaload, 1) ∧ decode cX11_ownerOf 120 = .ok (.if_icmp .ne 24, 3) ∧ decode cX11_ownerOf 123 = .ok (.aload_n 0, 1) ∧ decode cX11_ownerOf 124 = .ok (.getfield 66, 3) ∧ decode cX11_ownerOf 127 = .ok (.iload 10, 2) ∧ decode cX11_ownerOf 129 = .ok (.iaload, 1) := by decide +kernel
theorem dX11_ownerOf_107 : decode cX11_ownerOf 107 = .ok (.getfield 63, 3) := dX11_ownerOf_all5.1
theorem dX11_ownerOf_110 : decode cX11_ownerOf 110 = .ok (.iload 10, 2) := dX11_ownerOf_all5.2.1
theorem dX11_ownerOf_112 : decode cX11_ownerOf 112 = .ok (.iaload, 1) := dX11_ownerOf_all5.2.2.1
theorem dX11_ownerOf_113 : decode cX11_ownerOf 113 = .ok (.aload_n 0, 1) := dX11_ownerOf_all5.2.2.2.1
theorem dX11_ownerOf_114 : decode cX11_ownerOf 114 = .ok (.getfield 63, 3) := dX11_ownerOf_all5.2.2.2.2.1
theorem dX11_ownerOf_117 : decode cX11_ownerOf 117 = .ok (.iload 9, 2) := dX11_ownerOf_all5.2.2.2.2.2.1
theorem dX11_ownerOf_119 : decode cX11_ownerOf 119 = .ok (.iaload, 1) := dX11_ownerOf_all5.2.2.2.2.2.2.1
theorem dX11_ownerOf_120 : decode cX11_ownerOf 120 = .ok (.if_icmp .ne 24, 3) := dX11_ownerOf_all5.2.2.2.2.2.2.2.1
theorem dX11_ownerOf_123 : decode cX11_ownerOf 123 = .ok (.aload_n 0, 1) := dX11_ownerOf_all5.2.2.2.2.2.2.2.2.1
theorem dX11_ownerOf_124 : decode cX11_ownerOf 124 = .ok (.getfield 66, 3) := dX11_ownerOf_all5.2.2.2.2.2.2.2.2.2.1
theorem dX11_ownerOf_127 : decode cX11_ownerOf 127 = .ok (.iload 10, 2) := dX11_ownerOf_all5.2.2.2.2.2.2.2.2.2.2.1
theorem dX11_ownerOf_129 : decode cX11_ownerOf 129 = .ok (.iaload, 1) := dX11_ownerOf_all5.2.2.2.2.2.2.2.2.2.2.2
theorem dX11_ownerOf_all6 : decode cX11_ownerOf 130 = .ok (.aload_n 0, 1) ∧ decode cX11_ownerOf 131 = .ok (.getfield 66, 3) ∧ decode cX11_ownerOf 134 = .ok (.iload 9, 2) ∧ decode cX11_ownerOf 136 = .ok (.iaload, 1) ∧ decode cX11_ownerOf 137 = .ok (.if_icmp .ge 7, 3) ∧ decode cX11_ownerOf 140 = .ok (.iconst 1, 1) ∧ decode cX11_ownerOf 141 = .ok (.goto 4, 3) ∧ decode cX11_ownerOf 144 = .ok (.iconst 0, 1) ∧ decode cX11_ownerOf 145 = .ok (.istore 11, 2) ∧ decode cX11_ownerOf 147 = .ok (.iload 11, 2) ∧ decode cX11_ownerOf 149 = .ok (.ifCond .eq 8, 3) ∧ decode cX11_ownerOf 152 = .ok (.iload 10, 2) := by decide +kernel
theorem dX11_ownerOf_130 : decode cX11_ownerOf 130 = .ok (.aload_n 0, 1) := dX11_ownerOf_all6.1
theorem dX11_ownerOf_131 : decode cX11_ownerOf 131 = .ok (.getfield 66, 3) := dX11_ownerOf_all6.2.1
theorem dX11_ownerOf_134 : decode cX11_ownerOf 134 = .ok (.iload 9, 2) := dX11_ownerOf_all6.2.2.1
theorem dX11_ownerOf_136 : decode cX11_ownerOf 136 = .ok (.iaload, 1) := dX11_ownerOf_all6.2.2.2.1
theorem dX11_ownerOf_137 : decode cX11_ownerOf 137 = .ok (.if_icmp .ge 7, 3) := dX11_ownerOf_all6.2.2.2.2.1
theorem dX11_ownerOf_140 : decode cX11_ownerOf 140 = .ok (.iconst 1, 1) := dX11_ownerOf_all6.2.2.2.2.2.1
theorem dX11_ownerOf_141 : decode cX11_ownerOf 141 = .ok (.goto 4, 3) := dX11_ownerOf_all6.2.2.2.2.2.2.1
theorem dX11_ownerOf_144 : decode cX11_ownerOf 144 = .ok (.iconst 0, 1) := dX11_ownerOf_all6.2.2.2.2.2.2.2.1
theorem dX11_ownerOf_145 : decode cX11_ownerOf 145 = .ok (.istore 11, 2) := dX11_ownerOf_all6.2.2.2.2.2.2.2.2.1
theorem dX11_ownerOf_147 : decode cX11_ownerOf 147 = .ok (.iload 11, 2) := dX11_ownerOf_all6.2.2.2.2.2.2.2.2.2.1
theorem dX11_ownerOf_149 : decode cX11_ownerOf 149 = .ok (.ifCond .eq 8, 3) := dX11_ownerOf_all6.2.2.2.2.2.2.2.2.2.2.1
theorem dX11_ownerOf_152 : decode cX11_ownerOf 152 = .ok (.iload 10, 2) := dX11_ownerOf_all6.2.2.2.2.2.2.2.2.2.2.2
theorem dX11_ownerOf_all7 : decode cX11_ownerOf 154 = .ok (.goto 5, 3) ∧ decode cX11_ownerOf 157 = .ok (.iload 9, 2) ∧ decode cX11_ownerOf 159 = .ok (.istore 9, 2) ∧ decode cX11_ownerOf 161 = .ok (.iinc 10 1, 3) ∧ decode cX11_ownerOf 164 = .ok (.goto (-125), 3) ∧ decode cX11_ownerOf 167 = .ok (.iload 9, 2) ∧ decode cX11_ownerOf 169 = .ok (.ldc 139, 2) ∧ decode cX11_ownerOf 171 = .ok (.if_icmp .eq 7, 3) ∧ decode cX11_ownerOf 174 = .ok (.iconst 1, 1) ∧ decode cX11_ownerOf 175 = .ok (.goto 4, 3) ∧ decode cX11_ownerOf 178 = .ok (.iconst 0, 1) ∧ decode cX11_ownerOf 179 = .ok (.istore 8, 2) := by decide +kernel
theorem dX11_ownerOf_154 : decode cX11_ownerOf 154 = .ok (.goto 5, 3) := dX11_ownerOf_all7.1
theorem dX11_ownerOf_157 : decode cX11_ownerOf 157 = .ok (.iload 9, 2) := dX11_ownerOf_all7.2.1
theorem dX11_ownerOf_159 : decode cX11_ownerOf 159 = .ok (.istore 9, 2) := dX11_ownerOf_all7.2.2.1
theorem dX11_ownerOf_161 : decode cX11_ownerOf 161 = .ok (.iinc 10 1, 3) := dX11_ownerOf_all7.2.2.2.1
theorem dX11_ownerOf_164 : decode cX11_ownerOf 164 = .ok (.goto (-125), 3) := dX11_ownerOf_all7.2.2.2.2.1
theorem dX11_ownerOf_167 : decode cX11_ownerOf 167 = .ok (.iload 9, 2) := dX11_ownerOf_all7.2.2.2.2.2.1
theorem dX11_ownerOf_169 : decode cX11_ownerOf 169 = .ok (.ldc 139, 2) := dX11_ownerOf_all7.2.2.2.2.2.2.1
theorem dX11_ownerOf_171 : decode cX11_ownerOf 171 = .ok (.if_icmp .eq 7, 3) := dX11_ownerOf_all7.2.2.2.2.2.2.2.1
theorem dX11_ownerOf_174 : decode cX11_ownerOf 174 = .ok (.iconst 1, 1) := dX11_ownerOf_all7.2.2.2.2.2.2.2.2.1
theorem dX11_ownerOf_175 : decode cX11_ownerOf 175 = .ok (.goto 4, 3) := dX11_ownerOf_all7.2.2.2.2.2.2.2.2.2.1
theorem dX11_ownerOf_178 : decode cX11_ownerOf 178 = .ok (.iconst 0, 1) := dX11_ownerOf_all7.2.2.2.2.2.2.2.2.2.2.1
theorem dX11_ownerOf_179 : decode cX11_ownerOf 179 = .ok (.istore 8, 2) := dX11_ownerOf_all7.2.2.2.2.2.2.2.2.2.2.2
theorem dX11_ownerOf_all8 : decode cX11_ownerOf 181 = .ok (.iload 8, 2) ∧ decode cX11_ownerOf 183 = .ok (.ifCond .eq 66, 3) ∧ decode cX11_ownerOf 186 = .ok (.lload 6, 2) ∧ decode cX11_ownerOf 188 = .ok (.lconst 1, 1) ∧ decode cX11_ownerOf 189 = .ok (.iload 9, 2) ∧ decode cX11_ownerOf 191 = .ok (.lshl, 1) ∧ decode cX11_ownerOf 192 = .ok (.lor, 1) ∧ decode cX11_ownerOf 193 = .ok (.lstore 6, 2) ∧ decode cX11_ownerOf 195 = .ok (.aload_n 0, 1) ∧ decode cX11_ownerOf 196 = .ok (.getfield 57, 3) ∧ decode cX11_ownerOf 199 = .ok (.iload 9, 2) ∧ decode cX11_ownerOf 201 = .ok (.iaload, 1) := by decide +kernel
theorem dX11_ownerOf_181 : decode cX11_ownerOf 181 = .ok (.iload 8, 2) := dX11_ownerOf_all8.1
theorem dX11_ownerOf_183 : decode cX11_ownerOf 183 = .ok (.ifCond .eq 66, 3) := dX11_ownerOf_all8.2.1
theorem dX11_ownerOf_186 : decode cX11_ownerOf 186 = .ok (.lload 6, 2) := dX11_ownerOf_all8.2.2.1
theorem dX11_ownerOf_188 : decode cX11_ownerOf 188 = .ok (.lconst 1, 1) := dX11_ownerOf_all8.2.2.2.1
theorem dX11_ownerOf_189 : decode cX11_ownerOf 189 = .ok (.iload 9, 2) := dX11_ownerOf_all8.2.2.2.2.1
theorem dX11_ownerOf_191 : decode cX11_ownerOf 191 = .ok (.lshl, 1) := dX11_ownerOf_all8.2.2.2.2.2.1
theorem dX11_ownerOf_192 : decode cX11_ownerOf 192 = .ok (.lor, 1) := dX11_ownerOf_all8.2.2.2.2.2.2.1
theorem dX11_ownerOf_193 : decode cX11_ownerOf 193 = .ok (.lstore 6, 2) := dX11_ownerOf_all8.2.2.2.2.2.2.2.1
theorem dX11_ownerOf_195 : decode cX11_ownerOf 195 = .ok (.aload_n 0, 1) := dX11_ownerOf_all8.2.2.2.2.2.2.2.2.1
theorem dX11_ownerOf_196 : decode cX11_ownerOf 196 = .ok (.getfield 57, 3) := dX11_ownerOf_all8.2.2.2.2.2.2.2.2.2.1
theorem dX11_ownerOf_199 : decode cX11_ownerOf 199 = .ok (.iload 9, 2) := dX11_ownerOf_all8.2.2.2.2.2.2.2.2.2.2.1
theorem dX11_ownerOf_201 : decode cX11_ownerOf 201 = .ok (.iaload, 1) := dX11_ownerOf_all8.2.2.2.2.2.2.2.2.2.2.2
theorem dX11_ownerOf_all9 : decode cX11_ownerOf 202 = .ok (.iload 4, 2) ∧ decode cX11_ownerOf 204 = .ok (.if_icmp .ne 35, 3) ∧ decode cX11_ownerOf 207 = .ok (.aload_n 0, 1) ∧ decode cX11_ownerOf 208 = .ok (.getfield 60, 3) ∧ decode cX11_ownerOf 211 = .ok (.iload 9, 2) ∧ decode cX11_ownerOf 213 = .ok (.iaload, 1) ∧ decode cX11_ownerOf 214 = .ok (.istore 4, 2) ∧ decode cX11_ownerOf 216 = .ok (.aload_n 0, 1) ∧ decode cX11_ownerOf 217 = .ok (.getfield 63, 3) ∧ decode cX11_ownerOf 220 = .ok (.iload 9, 2) ∧ decode cX11_ownerOf 222 = .ok (.iaload, 1) ∧ decode cX11_ownerOf 223 = .ok (.iload_n 2, 1) := by decide +kernel
theorem dX11_ownerOf_202 : decode cX11_ownerOf 202 = .ok (.iload 4, 2) := dX11_ownerOf_all9.1
theorem dX11_ownerOf_204 : decode cX11_ownerOf 204 = .ok (.if_icmp .ne 35, 3) := dX11_ownerOf_all9.2.1
theorem dX11_ownerOf_207 : decode cX11_ownerOf 207 = .ok (.aload_n 0, 1) := dX11_ownerOf_all9.2.2.1
theorem dX11_ownerOf_208 : decode cX11_ownerOf 208 = .ok (.getfield 60, 3) := dX11_ownerOf_all9.2.2.2.1
theorem dX11_ownerOf_211 : decode cX11_ownerOf 211 = .ok (.iload 9, 2) := dX11_ownerOf_all9.2.2.2.2.1
theorem dX11_ownerOf_213 : decode cX11_ownerOf 213 = .ok (.iaload, 1) := dX11_ownerOf_all9.2.2.2.2.2.1
theorem dX11_ownerOf_214 : decode cX11_ownerOf 214 = .ok (.istore 4, 2) := dX11_ownerOf_all9.2.2.2.2.2.2.1
theorem dX11_ownerOf_216 : decode cX11_ownerOf 216 = .ok (.aload_n 0, 1) := dX11_ownerOf_all9.2.2.2.2.2.2.2.1
theorem dX11_ownerOf_217 : decode cX11_ownerOf 217 = .ok (.getfield 63, 3) := dX11_ownerOf_all9.2.2.2.2.2.2.2.2.1
theorem dX11_ownerOf_220 : decode cX11_ownerOf 220 = .ok (.iload 9, 2) := dX11_ownerOf_all9.2.2.2.2.2.2.2.2.2.1
theorem dX11_ownerOf_222 : decode cX11_ownerOf 222 = .ok (.iaload, 1) := dX11_ownerOf_all9.2.2.2.2.2.2.2.2.2.2.1
theorem dX11_ownerOf_223 : decode cX11_ownerOf 223 = .ok (.iload_n 2, 1) := dX11_ownerOf_all9.2.2.2.2.2.2.2.2.2.2.2
theorem dX11_ownerOf_all10 : decode cX11_ownerOf 224 = .ok (.if_icmp .gt 8, 3) ∧ decode cX11_ownerOf 227 = .ok (.iload 4, 2) ∧ decode cX11_ownerOf 229 = .ok (.goto 5, 3) ∧ decode cX11_ownerOf 232 = .ok (.iload 5, 2) ∧ decode cX11_ownerOf 234 = .ok (.istore 5, 2) ∧ decode cX11_ownerOf 236 = .ok (.goto 13, 3) ∧ decode cX11_ownerOf 239 = .ok (.aload_n 0, 1) ∧ decode cX11_ownerOf 240 = .ok (.dup, 1) ∧ decode cX11_ownerOf 241 = .ok (.getfield 225, 3) ∧ decode cX11_ownerOf 244 = .ok (.iconst 1, 1) ∧ decode cX11_ownerOf 245 = .ok (.iadd, 1) ∧ decode cX11_ownerOf 246 = .ok (.putfield 225, 3) := by decide +kernel
theorem dX11_ownerOf_224 : decode cX11_ownerOf 224 = .ok (.if_icmp .gt 8, 3) := dX11_ownerOf_all10.1
theorem dX11_ownerOf_227 : decode cX11_ownerOf 227 = .ok (.iload 4, 2) := dX11_ownerOf_all10.2.1
theorem dX11_ownerOf_229 : decode cX11_ownerOf 229 = .ok (.goto 5, 3) := dX11_ownerOf_all10.2.2.1
theorem dX11_ownerOf_232 : decode cX11_ownerOf 232 = .ok (.iload 5, 2) := dX11_ownerOf_all10.2.2.2.1
theorem dX11_ownerOf_234 : decode cX11_ownerOf 234 = .ok (.istore 5, 2) := dX11_ownerOf_all10.2.2.2.2.1
theorem dX11_ownerOf_236 : decode cX11_ownerOf 236 = .ok (.goto 13, 3) := dX11_ownerOf_all10.2.2.2.2.2.1
theorem dX11_ownerOf_239 : decode cX11_ownerOf 239 = .ok (.aload_n 0, 1) := dX11_ownerOf_all10.2.2.2.2.2.2.1
theorem dX11_ownerOf_240 : decode cX11_ownerOf 240 = .ok (.dup, 1) := dX11_ownerOf_all10.2.2.2.2.2.2.2.1
theorem dX11_ownerOf_241 : decode cX11_ownerOf 241 = .ok (.getfield 225, 3) := dX11_ownerOf_all10.2.2.2.2.2.2.2.2.1
theorem dX11_ownerOf_244 : decode cX11_ownerOf 244 = .ok (.iconst 1, 1) := dX11_ownerOf_all10.2.2.2.2.2.2.2.2.2.1
theorem dX11_ownerOf_245 : decode cX11_ownerOf 245 = .ok (.iadd, 1) := dX11_ownerOf_all10.2.2.2.2.2.2.2.2.2.2.1
theorem dX11_ownerOf_246 : decode cX11_ownerOf 246 = .ok (.putfield 225, 3) := dX11_ownerOf_all10.2.2.2.2.2.2.2.2.2.2.2
theorem dX11_ownerOf_all11 : decode cX11_ownerOf 249 = .ok (.goto (-222), 3) ∧ decode cX11_ownerOf 252 = .ok (.iload 5, 2) ∧ decode cX11_ownerOf 254 = .ok (.ireturn, 1) := by decide +kernel
theorem dX11_ownerOf_249 : decode cX11_ownerOf 249 = .ok (.goto (-222), 3) := dX11_ownerOf_all11.1
theorem dX11_ownerOf_252 : decode cX11_ownerOf 252 = .ok (.iload 5, 2) := dX11_ownerOf_all11.2.1
theorem dX11_ownerOf_254 : decode cX11_ownerOf 254 = .ok (.ireturn, 1) := dX11_ownerOf_all11.2.2
theorem ggX11_owner_X11_isCrate : GoodIn wsX11_owner wsX11_isCrate := goodIn_s (fun _ h => wm_t (wm_r (wm_l (wm_r h)))) Gd_X11_isCrate
theorem gX11_owner_X11_isCrate : GoodIn wsX11_owner (wsV RX11 219 RX11 yX11_isCrate wsX11_isCrate) := goodIn_V (own := RX11) (idx := 219) (C := RX11) (y := yX11_isCrate) (wm_t (wm_l (wm_i 2 rfl))) (wm_t (wm_l (wm_i 3 rfl))) (wm_t (wm_l (wm_i 4 rfl))) (wm_t (wm_l (wm_i 5 rfl))) ggX11_owner_X11_isCrate
theorem ggX11_owner_X11_isDay : GoodIn wsX11_owner wsX11_isDay := goodIn_s (fun _ h => wm_t (wm_r (wm_r (wm_l h)))) Gd_X11_isDay
theorem gX11_owner_X11_isDay : GoodIn wsX11_owner (va_wsS RX11 178 yX11_isDay wsX11_isDay) := goodIn_S (own := RX11) (idx := 178) (y := yX11_isDay) (wm_t (wm_l (wm_i 6 rfl))) (wm_t (wm_l (wm_i 7 rfl))) (wm_t (wm_l (wm_i 5 rfl))) ggX11_owner_X11_isDay
theorem ggX11_owner_X11_ownerOf : GoodIn wsX11_owner wsX11_ownerOf := goodIn_s (fun _ h => wm_t (wm_r (wm_r (wm_r h)))) Gd_X11_ownerOf
theorem gX11_owner_X11_ownerOf : GoodIn wsX11_owner (wsV RX11 228 RX11 yX11_ownerOf wsX11_ownerOf) := goodIn_V (own := RX11) (idx := 228) (C := RX11) (y := yX11_ownerOf) (wm_t (wm_l (wm_i 8 rfl))) (wm_t (wm_l (wm_i 9 rfl))) (wm_t (wm_l (wm_i 10 rfl))) (wm_t (wm_l (wm_i 5 rfl))) ggX11_owner_X11_ownerOf
theorem dX11_owner_all0 : decode cX11_owner 0 = .ok (.aload_n 0, 1) ∧ decode cX11_owner 1 = .ok (.iconst 0, 1) ∧ decode cX11_owner 2 = .ok (.putfield 1, 3) ∧ decode cX11_owner 5 = .ok (.aload_n 0, 1) ∧ decode cX11_owner 6 = .ok (.iload_n 1, 1) ∧ decode cX11_owner 7 = .ok (.invokevirtual 219, 3) ∧ decode cX11_owner 10 = .ok (.ifCond .eq 17, 3) ∧ decode cX11_owner 13 = .ok (.iload_n 2, 1) ∧ decode cX11_owner 14 = .ok (.invokestatic 178, 3) ∧ decode cX11_owner 17 = .ok (.ifCond .eq 10, 3) ∧ decode cX11_owner 20 = .ok (.iload_n 3, 1) ∧ decode cX11_owner 21 = .ok (.invokestatic 178, 3) := by decide +kernel
theorem dX11_owner_0 : decode cX11_owner 0 = .ok (.aload_n 0, 1) := dX11_owner_all0.1
theorem dX11_owner_1 : decode cX11_owner 1 = .ok (.iconst 0, 1) := dX11_owner_all0.2.1
theorem dX11_owner_2 : decode cX11_owner 2 = .ok (.putfield 1, 3) := dX11_owner_all0.2.2.1
theorem dX11_owner_5 : decode cX11_owner 5 = .ok (.aload_n 0, 1) := dX11_owner_all0.2.2.2.1
theorem dX11_owner_6 : decode cX11_owner 6 = .ok (.iload_n 1, 1) := dX11_owner_all0.2.2.2.2.1
theorem dX11_owner_7 : decode cX11_owner 7 = .ok (.invokevirtual 219, 3) := dX11_owner_all0.2.2.2.2.2.1
theorem dX11_owner_10 : decode cX11_owner 10 = .ok (.ifCond .eq 17, 3) := dX11_owner_all0.2.2.2.2.2.2.1
theorem dX11_owner_13 : decode cX11_owner 13 = .ok (.iload_n 2, 1) := dX11_owner_all0.2.2.2.2.2.2.2.1
theorem dX11_owner_14 : decode cX11_owner 14 = .ok (.invokestatic 178, 3) := dX11_owner_all0.2.2.2.2.2.2.2.2.1
theorem dX11_owner_17 : decode cX11_owner 17 = .ok (.ifCond .eq 10, 3) := dX11_owner_all0.2.2.2.2.2.2.2.2.2.1
theorem dX11_owner_20 : decode cX11_owner 20 = .ok (.iload_n 3, 1) := dX11_owner_all0.2.2.2.2.2.2.2.2.2.2.1
theorem dX11_owner_21 : decode cX11_owner 21 = .ok (.invokestatic 178, 3) := dX11_owner_all0.2.2.2.2.2.2.2.2.2.2.2
theorem dX11_owner_all1 : decode cX11_owner 24 = .ok (.ifCond .ne 8, 3) ∧ decode cX11_owner 27 = .ok (.ldc 157, 2) ∧ decode cX11_owner 29 = .ok (.goto 10, 3) ∧ decode cX11_owner 32 = .ok (.aload_n 0, 1) ∧ decode cX11_owner 33 = .ok (.iload_n 1, 1) ∧ decode cX11_owner 34 = .ok (.iload_n 2, 1) ∧ decode cX11_owner 35 = .ok (.iload_n 3, 1) ∧ decode cX11_owner 36 = .ok (.invokevirtual 228, 3) ∧ decode cX11_owner 39 = .ok (.ireturn, 1) := by decide +kernel
theorem dX11_owner_24 : decode cX11_owner 24 = .ok (.ifCond .ne 8, 3) := dX11_owner_all1.1
theorem dX11_owner_27 : decode cX11_owner 27 = .ok (.ldc 157, 2) := dX11_owner_all1.2.1
theorem dX11_owner_29 : decode cX11_owner 29 = .ok (.goto 10, 3) := dX11_owner_all1.2.2.1
theorem dX11_owner_32 : decode cX11_owner 32 = .ok (.aload_n 0, 1) := dX11_owner_all1.2.2.2.1
theorem dX11_owner_33 : decode cX11_owner 33 = .ok (.iload_n 1, 1) := dX11_owner_all1.2.2.2.2.1
theorem dX11_owner_34 : decode cX11_owner 34 = .ok (.iload_n 2, 1) := dX11_owner_all1.2.2.2.2.2.1
theorem dX11_owner_35 : decode cX11_owner 35 = .ok (.iload_n 3, 1) := dX11_owner_all1.2.2.2.2.2.2.1
theorem dX11_owner_36 : decode cX11_owner 36 = .ok (.invokevirtual 228, 3) := dX11_owner_all1.2.2.2.2.2.2.2.1
theorem dX11_owner_39 : decode cX11_owner 39 = .ok (.ireturn, 1) := dX11_owner_all1.2.2.2.2.2.2.2.2
theorem ggX11_quarrels_X11_isCrate : GoodIn wsX11_quarrels wsX11_isCrate := goodIn_s (fun _ h => wm_t (wm_r (wm_l (wm_r h)))) Gd_X11_isCrate
theorem gX11_quarrels_X11_isCrate : GoodIn wsX11_quarrels (wsV RX11 219 RX11 yX11_isCrate wsX11_isCrate) := goodIn_V (own := RX11) (idx := 219) (C := RX11) (y := yX11_isCrate) (wm_t (wm_l (wm_i 3 rfl))) (wm_t (wm_l (wm_i 4 rfl))) (wm_t (wm_l (wm_i 5 rfl))) (wm_t (wm_l (wm_i 6 rfl))) ggX11_quarrels_X11_isCrate
theorem ggX11_quarrels_X11_isDay : GoodIn wsX11_quarrels wsX11_isDay := goodIn_s (fun _ h => wm_t (wm_r (wm_r (wm_l h)))) Gd_X11_isDay
theorem gX11_quarrels_X11_isDay : GoodIn wsX11_quarrels (va_wsS RX11 178 yX11_isDay wsX11_isDay) := goodIn_S (own := RX11) (idx := 178) (y := yX11_isDay) (wm_t (wm_l (wm_i 7 rfl))) (wm_t (wm_l (wm_i 8 rfl))) (wm_t (wm_l (wm_i 6 rfl))) ggX11_quarrels_X11_isDay
theorem ggX11_quarrels_X11_ownerOf : GoodIn wsX11_quarrels wsX11_ownerOf := goodIn_s (fun _ h => wm_t (wm_r (wm_r (wm_r h)))) Gd_X11_ownerOf
theorem gX11_quarrels_X11_ownerOf : GoodIn wsX11_quarrels (wsV RX11 228 RX11 yX11_ownerOf wsX11_ownerOf) := goodIn_V (own := RX11) (idx := 228) (C := RX11) (y := yX11_ownerOf) (wm_t (wm_l (wm_i 9 rfl))) (wm_t (wm_l (wm_i 10 rfl))) (wm_t (wm_l (wm_i 11 rfl))) (wm_t (wm_l (wm_i 6 rfl))) ggX11_quarrels_X11_ownerOf
theorem dX11_quarrels_all0 : decode cX11_quarrels 0 = .ok (.aload_n 0, 1) ∧ decode cX11_quarrels 1 = .ok (.iconst 0, 1) ∧ decode cX11_quarrels 2 = .ok (.putfield 1, 3) ∧ decode cX11_quarrels 5 = .ok (.aload_n 0, 1) ∧ decode cX11_quarrels 6 = .ok (.iload_n 1, 1) ∧ decode cX11_quarrels 7 = .ok (.invokevirtual 219, 3) ∧ decode cX11_quarrels 10 = .ok (.ifCond .eq 10, 3) ∧ decode cX11_quarrels 13 = .ok (.iload_n 2, 1) ∧ decode cX11_quarrels 14 = .ok (.invokestatic 178, 3) ∧ decode cX11_quarrels 17 = .ok (.ifCond .ne 6, 3) ∧ decode cX11_quarrels 20 = .ok (.ldc 157, 2) ∧ decode cX11_quarrels 22 = .ok (.ireturn, 1) := by decide +kernel
theorem dX11_quarrels_0 : decode cX11_quarrels 0 = .ok (.aload_n 0, 1) := dX11_quarrels_all0.1
theorem dX11_quarrels_1 : decode cX11_quarrels 1 = .ok (.iconst 0, 1) := dX11_quarrels_all0.2.1
theorem dX11_quarrels_2 : decode cX11_quarrels 2 = .ok (.putfield 1, 3) := dX11_quarrels_all0.2.2.1
theorem dX11_quarrels_5 : decode cX11_quarrels 5 = .ok (.aload_n 0, 1) := dX11_quarrels_all0.2.2.2.1
theorem dX11_quarrels_6 : decode cX11_quarrels 6 = .ok (.iload_n 1, 1) := dX11_quarrels_all0.2.2.2.2.1
theorem dX11_quarrels_7 : decode cX11_quarrels 7 = .ok (.invokevirtual 219, 3) := dX11_quarrels_all0.2.2.2.2.2.1
theorem dX11_quarrels_10 : decode cX11_quarrels 10 = .ok (.ifCond .eq 10, 3) := dX11_quarrels_all0.2.2.2.2.2.2.1
theorem dX11_quarrels_13 : decode cX11_quarrels 13 = .ok (.iload_n 2, 1) := dX11_quarrels_all0.2.2.2.2.2.2.2.1
theorem dX11_quarrels_14 : decode cX11_quarrels 14 = .ok (.invokestatic 178, 3) := dX11_quarrels_all0.2.2.2.2.2.2.2.2.1
theorem dX11_quarrels_17 : decode cX11_quarrels 17 = .ok (.ifCond .ne 6, 3) := dX11_quarrels_all0.2.2.2.2.2.2.2.2.2.1
theorem dX11_quarrels_20 : decode cX11_quarrels 20 = .ok (.ldc 157, 2) := dX11_quarrels_all0.2.2.2.2.2.2.2.2.2.2.1
theorem dX11_quarrels_22 : decode cX11_quarrels 22 = .ok (.ireturn, 1) := dX11_quarrels_all0.2.2.2.2.2.2.2.2.2.2.2
theorem dX11_quarrels_all1 : decode cX11_quarrels 23 = .ok (.aload_n 0, 1) ∧ decode cX11_quarrels 24 = .ok (.iload_n 1, 1) ∧ decode cX11_quarrels 25 = .ok (.iconst 0, 1) ∧ decode cX11_quarrels 26 = .ok (.iload_n 2, 1) ∧ decode cX11_quarrels 27 = .ok (.invokevirtual 228, 3) ∧ decode cX11_quarrels 30 = .ok (.istore_n 3, 1) ∧ decode cX11_quarrels 31 = .ok (.aload_n 0, 1) ∧ decode cX11_quarrels 32 = .ok (.getfield 225, 3) ∧ decode cX11_quarrels 35 = .ok (.ireturn, 1) := by decide +kernel
theorem dX11_quarrels_23 : decode cX11_quarrels 23 = .ok (.aload_n 0, 1) := dX11_quarrels_all1.1
theorem dX11_quarrels_24 : decode cX11_quarrels 24 = .ok (.iload_n 1, 1) := dX11_quarrels_all1.2.1
theorem dX11_quarrels_25 : decode cX11_quarrels 25 = .ok (.iconst 0, 1) := dX11_quarrels_all1.2.2.1
theorem dX11_quarrels_26 : decode cX11_quarrels 26 = .ok (.iload_n 2, 1) := dX11_quarrels_all1.2.2.2.1
theorem dX11_quarrels_27 : decode cX11_quarrels 27 = .ok (.invokevirtual 228, 3) := dX11_quarrels_all1.2.2.2.2.1
theorem dX11_quarrels_30 : decode cX11_quarrels 30 = .ok (.istore_n 3, 1) := dX11_quarrels_all1.2.2.2.2.2.1
theorem dX11_quarrels_31 : decode cX11_quarrels 31 = .ok (.aload_n 0, 1) := dX11_quarrels_all1.2.2.2.2.2.2.1
theorem dX11_quarrels_32 : decode cX11_quarrels 32 = .ok (.getfield 225, 3) := dX11_quarrels_all1.2.2.2.2.2.2.2.1
theorem dX11_quarrels_35 : decode cX11_quarrels 35 = .ok (.ireturn, 1) := dX11_quarrels_all1.2.2.2.2.2.2.2.2

/-- the paper that comes next, as the reference finds it -/
def nxV (pk pd pe : Nat → Int32) (k n : Int32) (met : Int64) : Nat → Int32
  | 0 => -1000000
  | m + 1 => if (pk m).toInt = k.toInt ∧ (pe m).toInt ≤ n.toInt ∧ btL met m = false ∧ ((nxV pk pd pe k n met m).toInt = -1000000 ∨ (pd m).toInt < (pd (nxV pk pd pe k n met m).toNatClampNeg).toInt ∨ ((pd m).toInt = (pd (nxV pk pd pe k n met m).toNatClampNeg).toInt ∧ (pe m).toInt < (pe (nxV pk pd pe k n met m).toNatClampNeg).toInt)) then nI m else nxV pk pd pe k n met m
theorem nxV_s (pk pd pe : Nat → Int32) (k n : Int32) (met : Int64) (m : Nat) : nxV pk pd pe k n met (m + 1) = if (pk m).toInt = k.toInt ∧ (pe m).toInt ≤ n.toInt ∧ btL met m = false ∧ ((nxV pk pd pe k n met m).toInt = -1000000 ∨ (pd m).toInt < (pd (nxV pk pd pe k n met m).toNatClampNeg).toInt ∨ ((pd m).toInt = (pd (nxV pk pd pe k n met m).toNatClampNeg).toInt ∧ (pe m).toInt < (pe (nxV pk pd pe k n met m).toNatClampNeg).toInt)) then nI m else nxV pk pd pe k n met m := rfl
/-- the papers known, one after the other: the owner on the day, and how many quarrel -/
def ooV (pk pf po pd pe : Nat → Int32) (pn : Nat) (k d n : Int32) : Nat → Int64 → Int32 → Int32 → Int32 → Int32 × Int32
  | 0, _, _, t, q => (t, q)
  | f + 1, met, w, t, q => if (nxV pk pd pe k n met pn).toInt = -1000000 then (t, q) else if (pf (nxV pk pd pe k n met pn).toNatClampNeg).toInt = w.toInt then ooV pk pf po pd pe pn k d n f (met ||| ((1 : Int64) <<< ((nxV pk pd pe k n met pn).toInt64 &&& 63))) (po (nxV pk pd pe k n met pn).toNatClampNeg) (if (pd (nxV pk pd pe k n met pn).toNatClampNeg).toInt ≤ d.toInt then po (nxV pk pd pe k n met pn).toNatClampNeg else t) q else ooV pk pf po pd pe pn k d n f (met ||| ((1 : Int64) <<< ((nxV pk pd pe k n met pn).toInt64 &&& 63))) w t (q + 1)
theorem ooV_s (pk pf po pd pe : Nat → Int32) (pn : Nat) (k d n : Int32) (f : Nat) (met : Int64) (w t q : Int32) : ooV pk pf po pd pe pn k d n (f + 1) met w t q = if (nxV pk pd pe k n met pn).toInt = -1000000 then (t, q) else if (pf (nxV pk pd pe k n met pn).toNatClampNeg).toInt = w.toInt then ooV pk pf po pd pe pn k d n f (met ||| ((1 : Int64) <<< ((nxV pk pd pe k n met pn).toInt64 &&& 63))) (po (nxV pk pd pe k n met pn).toNatClampNeg) (if (pd (nxV pk pd pe k n met pn).toNatClampNeg).toInt ≤ d.toInt then po (nxV pk pd pe k n met pn).toNatClampNeg else t) q else ooV pk pf po pd pe pn k d n f (met ||| ((1 : Int64) <<< ((nxV pk pd pe k n met pn).toInt64 &&& 63))) w t (q + 1) := rfl
theorem nbL_0 : nbL 0 40 = 0 := by decide +kernel
def sm_owner (cn pn : Int32) (fo pk pf po pd pe : Nat → Int32) (k d n : Int32) : Int32 := if 0 ≤ k.toInt ∧ k.toInt < cn.toInt ∧ 0 ≤ d.toInt ∧ d.toInt < 10000 ∧ 0 ≤ n.toInt ∧ n.toInt < 10000 then (ooV pk pf po pd pe pn.toNatClampNeg k d n 41 0 (fo k.toNatClampNeg) (fo k.toNatClampNeg) 0).1 else -1000001
def sm_quarrels (cn pn : Int32) (fo pk pf po pd pe : Nat → Int32) (k n : Int32) : Int32 := if 0 ≤ k.toInt ∧ k.toInt < cn.toInt ∧ 0 ≤ n.toInt ∧ n.toInt < 10000 then (ooV pk pf po pd pe pn.toNatClampNeg k 0 n 41 0 (fo k.toNatClampNeg) (fo k.toNatClampNeg) 0).2 else -1000001

set_option maxHeartbeats 4000000 in
set_option maxRecDepth 100000 in
theorem ct_X11_ownerOf (l : Launch) (D : va_G) (cI cY cJ cQ : ClassId) (sz : Nat) (md : Nat → Nat) (sd : Int32) (mth mst hn cn pn mq gn mln mnn ln mlt msz mcu mtk mfr mti mfa mfb an un lc td mtn : Int32) (fo pk pf po pd pe : Nat → Int32) (k : Int32) (d : Int32) (n : Int32)  (h1 : 0 ≤ k.toInt) (h2 : k.toInt < 12) (h3 : 0 ≤ pn.toInt) (h4 : pn.toInt ≤ 40)  : Met l yX11_ownerOf wsX11_ownerOf ({ frames := 0, cells := 0, slots := 0, locals := 0 }) (cPre D (ty4 cI cY cJ cQ) [(moC md sd mth mst hn cn pn mq gn mln mnn ln mlt msz mcu mtk mfr mti mfa mfb an un lc td mtn), (aI cI (md 16) 12 fo), (aI cI (md 19) 40 pk), (aI cI (md 20) 40 pf), (aI cI (md 21) 40 po), (aI cI (md 22) 40 pd), (aI cI (md 23) 40 pe)] sz [.ref (md 64), .int k, .int d, .int n]) (va_Qi (fun (r : Int32) (u : Int32) => (r, u) = ooV pk pf po pd pe pn.toNatClampNeg k d n 41 0 (fo k.toNatClampNeg) (fo k.toNatClampNeg) 0) (cB D (ty4 cI cY cJ cQ) (fun (u : Int32) => [(moC md sd mth mst hn cn pn u gn mln mnn ln mlt msz mcu mtk mfr mti mfa mfb an un lc td mtn), (aI cI (md 16) 12 fo), (aI cI (md 19) 40 pk), (aI cI (md 20) 40 pf), (aI cI (md 21) 40 po), (aI cI (md 22) 40 pd), (aI cI (md 23) 40 pe)]) (va_A [(moC md sd mth mst hn cn pn mq gn mln mnn ln mlt msz mcu mtk mfr mti mfa mfb an un lc td mtn), (aI cI (md 16) 12 fo), (aI cI (md 19) 40 pk), (aI cI (md 20) 40 pf), (aI cI (md 21) 40 po), (aI cI (md 22) 40 pd), (aI cI (md 23) 40 pe)] sz)) (va_A [(moC md sd mth mst hn cn pn mq gn mln mnn ln mlt msz mcu mtk mfr mti mfa mfb an un lc td mtn), (aI cI (md 16) 12 fo), (aI cI (md 19) 40 pk), (aI cI (md 20) 40 pf), (aI cI (md 21) 40 po), (aI cI (md 22) 40 pd), (aI cI (md 23) 40 pe)] sz)) 0 0 (va_A [(moC md sd mth mst hn cn pn mq gn mln mnn ln mlt msz mcu mtk mfr mti mfa mfb an un lc td mtn), (aI cI (md 16) 12 fo), (aI cI (md 19) 40 pk), (aI cI (md 20) 40 pf), (aI cI (md 21) 40 po), (aI cI (md 22) 40 pd), (aI cI (md 23) 40 pe)] sz) := by
  refine Met.ofW (cc := cX11_ownerOf) (maxL := 12) (ret := (some .int)) (by decide) rfl ?_
  intro p e s m args below meth c s₁ B hml hv
  obtain ⟨rfl, hsz, hP, hK, hD0, hN⟩ := hv
  have hx := B.exec
  have hb := B.bytes
  have hr := B.returns
  have hts := atoms_spec (ws := wsX11_ownerOf) B.pre
  have hown : s.vm.findClass RX11 = some m.cls := findClass_of_methodNamed B.named
  have hlocks := B.notSynchronized
  subst hsz
  have hD := hD0.self (sz := s.heap.size)
  generalize hAe : va_A [(moC md sd mth mst hn cn pn mq gn mln mnn ln mlt msz mcu mtk mfr mti mfa mfb an un lc td mtn), (aI cI (md 16) 12 fo), (aI cI (md 19) 40 pk), (aI cI (md 20) 40 pf), (aI cI (md 21) 40 po), (aI cI (md 22) 40 pd), (aI cI (md 23) 40 pe)] s.heap.size = A at hD ⊢
  have hA : ∀ q : Nat, s.heap.size ≤ q → A q := fun q h => by rw [← hAe]; exact Or.inr h
  have hS : va_S A s.heap s.heap [] := va_S.rf
  have hP : va_P D vwCl [(moC md sd mth mst hn cn pn mq gn mln mnn ln mlt msz mcu mtk mfr mti mfa mfb an un lc td mtn), (aI cI (md 16) 12 fo), (aI cI (md 19) 40 pk), (aI cI (md 20) 40 pf), (aI cI (md 21) 40 po), (aI cI (md 22) 40 pd), (aI cI (md 23) 40 pe)] s.heap := hP
  have hl := lv_entry ([.ref (md 64), .int k, .int d, .int n]) (n := 12) (Nat.le_of_ble_eq_true rfl)
  rw [lg_entry_eq]
  generalize (lg_sl ([.ref (md 64), .int k, .int d, .int n]) ++ List.replicate (12 - (lg_sl ([.ref (md 64), .int k, .int d, .int n])).length) Slot.unset).toArray = ls at hl ⊢
  have hl : lv_has ls 12 [(0, .ref (md 64)), (1, .int k), (2, .int d), (3, .int n)] := hl
  have km1000000 : (-1000000 : Int32).toInt = -1000000 := by decide
  have k0 : (0 : Int32).toInt = 0 := by decide
  have k1 : (1 : Int32).toInt = 1 := by decide
  have kl0 : (0 : Int64).toInt = 0 := by decide
  refine lv_aload_n hx hb dX11_ownerOf_0 rfl (lv_at hl 0 rfl) ?_
  refine va_get (D := D) (ci := 11) (v := .ref (md 16)) (C := RX11) (T := TX11) (N := 64) hx hb hts inX11_ownerOf_X11 hown hK hP 0 rfl rfl 16 (by decide) (hts (Cond.fieldLink RX11 48 "PortRoomsModel" "first" "[I") (wm_t (wm_l (wm_i 0 rfl)))) (fun _ h9 => h9) rfl dX11_ownerOf_1 ?_
  refine lv_iload_n hx hb dX11_ownerOf_4 rfl (lv_at hl 1 rfl) ?_
  refine va_iald hx hb hK hP 1 0 rfl rfl (i_in (by omega) (by omega)) dX11_ownerOf_5 ?_
  refine lv_topi (fun v1 ev1 => ?_)
  have tlv1 : v1.toInt = (fo k.toNatClampNeg).toInt := by rw [ev1]
  refine lv_istore (lv' := [(4, .int v1), (0, .ref (md 64)), (1, .int k), (2, .int d), (3, .int n)]) hx hb dX11_ownerOf_6 hl (by decide) rfl (fun ls hl => ?_)
  refine lv_aload_n hx hb dX11_ownerOf_8 rfl (lv_at hl 1 rfl) ?_
  refine va_get (D := D) (ci := 11) (v := .ref (md 16)) (C := RX11) (T := TX11) (N := 64) hx hb hts inX11_ownerOf_X11 hown hK hP 0 rfl rfl 16 (by decide) (hts (Cond.fieldLink RX11 48 "PortRoomsModel" "first" "[I") (wm_t (wm_l (wm_i 0 rfl)))) (fun _ h9 => h9) rfl dX11_ownerOf_9 ?_
  refine lv_iload_n hx hb dX11_ownerOf_12 rfl (lv_at hl 2 rfl) ?_
  refine va_iald hx hb hK hP 1 0 rfl rfl (i_in (by omega) (by omega)) dX11_ownerOf_13 ?_
  refine lv_topi (fun v2 ev2 => ?_)
  have tlv2 : v2.toInt = (fo k.toNatClampNeg).toInt := by rw [ev2]
  refine lv_istore (lv' := [(5, .int v2), (4, .int v1), (0, .ref (md 64)), (1, .int k), (2, .int d), (3, .int n)]) hx hb dX11_ownerOf_14 hl (by decide) rfl (fun ls hl => ?_)
  refine lv_lconst (v := 0) hx hb dX11_ownerOf_16 (by decide) ?_
  refine lv_lstore (lv' := [(6, .long 0), (5, .int v2), (4, .int v1), (0, .ref (md 64)), (1, .int k), (2, .int d), (3, .int n)]) hx hb dX11_ownerOf_17 hl (by decide) rfl (fun ls hl => ?_)
  refine lv_aload_n hx hb dX11_ownerOf_19 rfl (lv_at hl 3 rfl) ?_
  refine lv_iconst (v := 0) hx hb dX11_ownerOf_20 (by decide) ?_
  refine va_put (D := D) (ci := 11) (v := .int 0) (ty := .int) (C := RX11) (T := TX11) (N := 64) hx hb hts inX11_ownerOf_X11 tyX11 tyX11_ok nmX11 hown hK hP hD hS 0 rfl rfl 24 (by decide) (hts (Cond.fieldLink RX11 225 "PortRoomsModel" "quarrelling" "I") (wm_t (wm_l (wm_i 1 rfl)))) (fun _ h9 => h9) rfl (tyX11_ok 24 (by decide)) rfl rfl (Nat.le_of_ble_eq_true rfl) dX11_ownerOf_21 (fun H locs => ?_)
  clear hP hD hS
  intro hP hD hS
  replace hP : va_P D vwCl [(moC md sd mth mst hn cn pn (0) gn mln mnn ln mlt msz mcu mtk mfr mti mfa mfb an un lc td mtn), (aI cI (md 16) 12 fo), (aI cI (md 19) 40 pk), (aI cI (md 20) 40 pf), (aI cI (md 21) 40 po), (aI cI (md 22) 40 pd), (aI cI (md 23) 40 pe)] H := hP
  replace hD : va_D A [(moC md sd mth mst hn cn pn (0) gn mln mnn ln mlt msz mcu mtk mfr mti mfa mfb an un lc td mtn), (aI cI (md 16) 12 fo), (aI cI (md 19) 40 pk), (aI cI (md 20) 40 pf), (aI cI (md 21) 40 po), (aI cI (md 22) 40 pd), (aI cI (md 23) 40 pe)] := hD
  refine lv_iconst (v := 1) hx hb dX11_ownerOf_24 (by decide) ?_
  refine lv_istore (lv' := [(8, .int 1), (6, .long 0), (5, .int v2), (4, .int v1), (0, .ref (md 64)), (1, .int k), (2, .int d), (3, .int n)]) hx hb dX11_ownerOf_25 hl (by decide) rfl (fun ls hl => ?_)
  refine st_loop 27 (fun _ => []) (fun (z : Int32 × Int32 × Int64 × Int32 × Int32) (ls : Array Slot) (H : Heap) (locs : List Loc) => match z with | (q27_4, q27_5, q27_6, q27_8, mqq) => (q27_8.toInt = 0 ∨ q27_8.toInt = 1) ∧ ((q27_8.toInt = 1 → ooV pk pf po pd pe pn.toNatClampNeg k d n (41 - nbL q27_6 40) q27_6 q27_4 q27_5 mqq = ooV pk pf po pd pe pn.toNatClampNeg k d n 41 0 (fo k.toNatClampNeg) (fo k.toNatClampNeg) 0) ∧ (q27_8.toInt = 0 → (q27_5, mqq) = ooV pk pf po pd pe pn.toNatClampNeg k d n 41 0 (fo k.toNatClampNeg) (fo k.toNatClampNeg) 0)) ∧ lv_has ls 12 [(0, .ref (md 64)), (1, .int k), (2, .int d), (3, .int n), (4, .int q27_4), (5, .int q27_5), (6, .long q27_6), (8, .int q27_8)] ∧ va_P D vwCl [(moC md sd mth mst hn cn pn mqq gn mln mnn ln mlt msz mcu mtk mfr mti mfa mfb an un lc td mtn), (aI cI (md 16) 12 fo), (aI cI (md 19) 40 pk), (aI cI (md 20) 40 pf), (aI cI (md 21) 40 po), (aI cI (md 22) 40 pd), (aI cI (md 23) 40 pe)] H ∧ va_D A [(moC md sd mth mst hn cn pn mqq gn mln mnn ln mlt msz mcu mtk mfr mti mfa mfb an un lc td mtn), (aI cI (md 16) 12 fo), (aI cI (md 19) 40 pk), (aI cI (md 20) 40 pf), (aI cI (md 21) 40 po), (aI cI (md 22) 40 pd), (aI cI (md 23) 40 pe)] ∧ va_S A s.heap H locs) (fun (z : Int32 × Int32 × Int64 × Int32 × Int32) => match z with | (q27_4, q27_5, q27_6, q27_8, mqq) => 40 - (nbL q27_6 40 : Int) + q27_8.toInt) ?_ ?_ (v1, v2, (0 : Int64), (1 : Int32), (0 : Int32)) ⟨(by omega), (by exact ⟨fun _ => by rw [nbL_0, ev1, ev2], fun h9 => absurd h9 (by decide)⟩), lv_sub hl [4, 5, 6, 7, 3, 2, 1, 0] rfl, hP, hD, hS⟩
  · rintro ⟨q27_4, q27_5, q27_6, q27_8, mqq⟩ ls H locs ⟨g3, g4, hl, hP, hD, hS⟩
    show (0 : Int) ≤ 40 - (nbL q27_6 40 : Int) + q27_8.toInt
    have := nbL_le q27_6 40; omega
  · rintro n7 ih5 ⟨q27_4, q27_5, q27_6, q27_8, mqq⟩ ls H locs ⟨g3, g4, hl, hP, hD, hS⟩ hm6
    have hm6 : 40 - (nbL q27_6 40 : Int) + q27_8.toInt < (n7 : Int) + 1 := hm6
    replace hl : lv_has ls 12 [(0, .ref (md 64)), (1, .int k), (2, .int d), (3, .int n), (4, .int q27_4), (5, .int q27_5), (6, .long q27_6), (8, .int q27_8)] := hl
    replace hP : va_P D vwCl [(moC md sd mth mst hn cn pn mqq gn mln mnn ln mlt msz mcu mtk mfr mti mfa mfb an un lc td mtn), (aI cI (md 16) 12 fo), (aI cI (md 19) 40 pk), (aI cI (md 20) 40 pf), (aI cI (md 21) 40 po), (aI cI (md 22) 40 pd), (aI cI (md 23) 40 pe)] H := hP
    replace hD : va_D A [(moC md sd mth mst hn cn pn mqq gn mln mnn ln mlt msz mcu mtk mfr mti mfa mfb an un lc td mtn), (aI cI (md 16) 12 fo), (aI cI (md 19) 40 pk), (aI cI (md 20) 40 pf), (aI cI (md 21) 40 po), (aI cI (md 22) 40 pd), (aI cI (md 23) 40 pe)] := hD
    show W _ _ _ _ _ _ _ _ _ _ _ _ _ _ _ (F0 m 27 ls [])
    refine lv_iload hx hb dX11_ownerOf_27 (lv_at hl 7 rfl) ?_
    refine lv_if_eq (tgt := 252) hx hb dX11_ownerOf_29 (by decide) (fun c8 => ?_) (fun c8 => ?_)
    · skip
      have f9 := i_eq c8
      refine lv_iload hx hb dX11_ownerOf_252 (lv_at hl 5 rfl) ?_
      have hP9 := hP
      have hD9 := hD
      exact W.iret (v := q27_5) hx hb hr (fun t ht hW => ⟨⟨q27_5, mqq, rfl, (g4.2 (by omega)), by rw [ht]; exact hP9, va_K.moved hW.alike hK, hD9⟩, hS.F ht⟩) hS.2.2 dX11_ownerOf_254
    · skip
      have f10 := i_ne c8
      refine lv_ldc hx hb hown (hts (Cond.constant RX11 139 (-1000000)) (wm_t (wm_l (wm_i 2 rfl)))) dX11_ownerOf_32 ?_
      refine lv_istore (lv' := [(9, .int (-1000000)), (0, .ref (md 64)), (1, .int k), (2, .int d), (3, .int n), (4, .int q27_4), (5, .int q27_5), (6, .long q27_6), (8, .int q27_8)]) hx hb dX11_ownerOf_34 hl (by decide) rfl (fun ls hl => ?_)
      refine lv_iconst (v := 0) hx hb dX11_ownerOf_36 (by decide) ?_
      refine lv_istore (lv' := [(10, .int 0), (9, .int (-1000000)), (0, .ref (md 64)), (1, .int k), (2, .int d), (3, .int n), (4, .int q27_4), (5, .int q27_5), (6, .long q27_6), (8, .int q27_8)]) hx hb dX11_ownerOf_37 hl (by decide) rfl (fun ls hl => ?_)
      refine st_loop 39 (fun _ => []) (fun (z : Int32 × Int32) (ls : Array Slot) (H : Heap) (locs : List Loc) => match z with | (q39_9, q39_10) => (0 ≤ q39_10.toInt) ∧ (q39_10.toInt ≤ pn.toInt) ∧ (q39_9.toInt = -1000000 ∨ (0 ≤ q39_9.toInt ∧ q39_9.toInt < pn.toInt)) ∧ (0 ≤ q39_9.toInt → btL q27_6 q39_9.toNatClampNeg = false) ∧ (q39_9 = nxV pk pd pe k n q27_6 q39_10.toNatClampNeg) ∧ lv_has ls 12 [(0, .ref (md 64)), (1, .int k), (2, .int d), (3, .int n), (4, .int q27_4), (5, .int q27_5), (6, .long q27_6), (8, .int q27_8), (9, .int q39_9), (10, .int q39_10)] ∧ va_P D vwCl [(moC md sd mth mst hn cn pn mqq gn mln mnn ln mlt msz mcu mtk mfr mti mfa mfb an un lc td mtn), (aI cI (md 16) 12 fo), (aI cI (md 19) 40 pk), (aI cI (md 20) 40 pf), (aI cI (md 21) 40 po), (aI cI (md 22) 40 pd), (aI cI (md 23) 40 pe)] H ∧ va_D A [(moC md sd mth mst hn cn pn mqq gn mln mnn ln mlt msz mcu mtk mfr mti mfa mfb an un lc td mtn), (aI cI (md 16) 12 fo), (aI cI (md 19) 40 pk), (aI cI (md 20) 40 pf), (aI cI (md 21) 40 po), (aI cI (md 22) 40 pd), (aI cI (md 23) 40 pe)] ∧ va_S A s.heap H locs) (fun (z : Int32 × Int32) => match z with | (q39_9, q39_10) => pn.toInt - q39_10.toInt) ?_ ?_ (((-1000000) : Int32), (0 : Int32)) ⟨(by omega), (by omega), (by omega), (by intro h9; exfalso; omega), (by rfl), lv_sub hl [2, 3, 4, 5, 6, 7, 8, 9, 1, 0] rfl, hP, hD, hS⟩
      · rintro ⟨q39_9, q39_10⟩ ls H locs ⟨g11, g12, g13, g14, g15, hl, hP, hD, hS⟩
        show (0 : Int) ≤ pn.toInt - q39_10.toInt
        omega
      · rintro n18 ih16 ⟨q39_9, q39_10⟩ ls H locs ⟨g11, g12, g13, g14, g15, hl, hP, hD, hS⟩ hm17
        have hm17 : pn.toInt - q39_10.toInt < (n18 : Int) + 1 := hm17
        replace hl : lv_has ls 12 [(0, .ref (md 64)), (1, .int k), (2, .int d), (3, .int n), (4, .int q27_4), (5, .int q27_5), (6, .long q27_6), (8, .int q27_8), (9, .int q39_9), (10, .int q39_10)] := hl
        replace hP : va_P D vwCl [(moC md sd mth mst hn cn pn mqq gn mln mnn ln mlt msz mcu mtk mfr mti mfa mfb an un lc td mtn), (aI cI (md 16) 12 fo), (aI cI (md 19) 40 pk), (aI cI (md 20) 40 pf), (aI cI (md 21) 40 po), (aI cI (md 22) 40 pd), (aI cI (md 23) 40 pe)] H := hP
        replace hD : va_D A [(moC md sd mth mst hn cn pn mqq gn mln mnn ln mlt msz mcu mtk mfr mti mfa mfb an un lc td mtn), (aI cI (md 16) 12 fo), (aI cI (md 19) 40 pk), (aI cI (md 20) 40 pf), (aI cI (md 21) 40 po), (aI cI (md 22) 40 pd), (aI cI (md 23) 40 pe)] := hD
        show W _ _ _ _ _ _ _ _ _ _ _ _ _ _ _ (F0 m 39 ls [])
        refine lv_iload hx hb dX11_ownerOf_39 (lv_at hl 9 rfl) ?_
        refine lv_aload_n hx hb dX11_ownerOf_41 rfl (lv_at hl 0 rfl) ?_
        refine va_get (D := D) (ci := 11) (v := .int pn) (C := RX11) (T := TX11) (N := 64) hx hb hts inX11_ownerOf_X11 hown hK hP 0 rfl rfl 18 (by decide) (hts (Cond.fieldLink RX11 222 "PortRoomsModel" "papers" "I") (wm_t (wm_l (wm_i 3 rfl)))) (fun _ h9 => h9) rfl dX11_ownerOf_42 ?_
        refine lv_icmp_ge (tgt := 167) hx hb dX11_ownerOf_45 (by decide) (fun c19 => ?_) (fun c19 => ?_)
        · skip
          have f20 := i_le c19
          refine lv_iload hx hb dX11_ownerOf_167 (lv_at hl 8 rfl) ?_
          refine lv_ldc hx hb hown (hts (Cond.constant RX11 139 (-1000000)) (wm_t (wm_l (wm_i 2 rfl)))) dX11_ownerOf_169 ?_
          refine lv_icmp_eq (tgt := 178) hx hb dX11_ownerOf_171 (by decide) (fun c21 => ?_) (fun c21 => ?_)
          · skip
            have f22 := i_eq c21
            refine lv_iconst (v := 0) hx hb dX11_ownerOf_178 (by decide) ?_
            refine lv_istore (lv' := [(8, .int 0), (0, .ref (md 64)), (1, .int k), (2, .int d), (3, .int n), (4, .int q27_4), (5, .int q27_5), (6, .long q27_6), (9, .int q39_9), (10, .int q39_10)]) hx hb dX11_ownerOf_179 hl (by decide) rfl (fun ls hl => ?_)
            refine lv_iload hx hb dX11_ownerOf_181 (lv_at hl 0 rfl) ?_
            refine lv_if_eq (tgt := 249) hx hb dX11_ownerOf_183 (by decide) (fun _ => ?_) (fun c => absurd (by decide) c)
            refine lv_goto (tgt := 27) hx hb dX11_ownerOf_249 (by decide) ?_
            have hle8 := nbL_le q27_6 40
            have ha9 := g4.1 (by omega)
            rw [show 41 - nbL q27_6 40 = (40 - nbL q27_6 40) + 1 by omega, ooV_s] at ha9
            have ce8 := i_cl (x := q39_10) (by omega)
            have ce9 := i_cl (x := pn) (by omega)
            have ee9 : q39_10.toNatClampNeg = pn.toNatClampNeg := by omega
            have hz9 := g15
            rw [ee9] at hz9
            rw [← hz9] at ha9
            exact ih5 (q27_4, q27_5, q27_6, (0 : Int32), mqq) ls H locs ⟨(by omega), (by exact ⟨fun h9 => absurd h9 (by decide), fun _ => by rw [if_pos (by omega)] at ha9; exact ha9⟩), lv_sub hl [1, 2, 3, 4, 5, 6, 7, 0] rfl, hP.sub [0, 1, 2, 3, 4, 5, 6] rfl, hD.sub [0, 1, 2, 3, 4, 5, 6] (by decide +kernel) rfl, hS⟩ (by show 40 - (nbL q27_6 40 : Int) + (0 : Int32).toInt < _; omega)
          · skip
            have f23 := i_ne c21
            refine lv_iconst (v := 1) hx hb dX11_ownerOf_174 (by decide) ?_
            refine lv_goto (tgt := 179) hx hb dX11_ownerOf_175 (by decide) ?_
            refine lv_istore (lv' := [(8, .int 1), (0, .ref (md 64)), (1, .int k), (2, .int d), (3, .int n), (4, .int q27_4), (5, .int q27_5), (6, .long q27_6), (9, .int q39_9), (10, .int q39_10)]) hx hb dX11_ownerOf_179 hl (by decide) rfl (fun ls hl => ?_)
            refine lv_iload hx hb dX11_ownerOf_181 (lv_at hl 0 rfl) ?_
            refine lv_if_eq (tgt := 249) hx hb dX11_ownerOf_183 (by decide) (fun c => absurd c (by decide)) (fun _ => ?_)
            refine lv_lload hx hb dX11_ownerOf_186 (lv_at hl 7 rfl) ?_
            refine lv_lconst (v := 1) hx hb dX11_ownerOf_188 (by decide) ?_
            refine lv_iload hx hb dX11_ownerOf_189 (lv_at hl 8 rfl) ?_
            refine lv_lshl hx hb dX11_ownerOf_191 rfl ?_
            refine lv_topl (fun z24 ez24 => ?_)
            refine lv_lor hx hb dX11_ownerOf_192 ?_
            refine lv_topl (fun z25 ez25 => ?_)
            refine lv_lstore (lv' := [(6, .long z25), (8, .int 1), (0, .ref (md 64)), (1, .int k), (2, .int d), (3, .int n), (4, .int q27_4), (5, .int q27_5), (9, .int q39_9), (10, .int q39_10)]) hx hb dX11_ownerOf_193 hl (by decide) rfl (fun ls hl => ?_)
            refine lv_aload_n hx hb dX11_ownerOf_195 rfl (lv_at hl 2 rfl) ?_
            refine va_get (D := D) (ci := 11) (v := .ref (md 20)) (C := RX11) (T := TX11) (N := 64) hx hb hts inX11_ownerOf_X11 hown hK hP 0 rfl rfl 20 (by decide) (hts (Cond.fieldLink RX11 57 "PortRoomsModel" "paperFrom" "[I") (wm_t (wm_l (wm_i 7 rfl)))) (fun _ h9 => h9) rfl dX11_ownerOf_196 ?_
            refine lv_iload hx hb dX11_ownerOf_199 (lv_at hl 8 rfl) ?_
            refine va_iald hx hb hK hP 3 0 rfl rfl (i_in (by omega) (by omega)) dX11_ownerOf_201 ?_
            refine lv_topi (fun v26 ev26 => ?_)
            have tlv26 : v26.toInt = (pf q39_9.toNatClampNeg).toInt := by rw [ev26]
            refine lv_iload hx hb dX11_ownerOf_202 (lv_at hl 6 rfl) ?_
            refine lv_icmp_ne (tgt := 239) hx hb dX11_ownerOf_204 (by decide) (fun c27 => ?_) (fun c27 => ?_)
            · skip
              have f28 := i_ne c27
              refine lv_aload_n hx hb dX11_ownerOf_239 rfl (lv_at hl 2 rfl) ?_
              refine lv_dup hx hb dX11_ownerOf_240 rfl ?_
              refine va_get (D := D) (ci := 11) (v := .int mqq) (C := RX11) (T := TX11) (N := 64) hx hb hts inX11_ownerOf_X11 hown hK hP 0 rfl rfl 24 (by decide) (hts (Cond.fieldLink RX11 225 "PortRoomsModel" "quarrelling" "I") (wm_t (wm_l (wm_i 1 rfl)))) (fun _ h9 => h9) rfl dX11_ownerOf_241 ?_
              refine lv_iconst (v := 1) hx hb dX11_ownerOf_244 (by decide) ?_
              refine lv_iadd hx hb dX11_ownerOf_245 ?_
              refine lv_topi (fun v29 ev29 => ?_)
              refine va_put (D := D) (ci := 11) (v := .int v29) (ty := .int) (C := RX11) (T := TX11) (N := 64) hx hb hts inX11_ownerOf_X11 tyX11 tyX11_ok nmX11 hown hK hP hD hS 0 rfl rfl 24 (by decide) (hts (Cond.fieldLink RX11 225 "PortRoomsModel" "quarrelling" "I") (wm_t (wm_l (wm_i 1 rfl)))) (fun _ h9 => h9) rfl (tyX11_ok 24 (by decide)) rfl rfl (Nat.le_of_ble_eq_true rfl) dX11_ownerOf_246 (fun H locs => ?_)
              clear hP hD hS
              intro hP hD hS
              replace hP : va_P D vwCl [(moC md sd mth mst hn cn pn v29 gn mln mnn ln mlt msz mcu mtk mfr mti mfa mfb an un lc td mtn), (aI cI (md 16) 12 fo), (aI cI (md 19) 40 pk), (aI cI (md 20) 40 pf), (aI cI (md 21) 40 po), (aI cI (md 22) 40 pd), (aI cI (md 23) 40 pe)] H := hP
              replace hD : va_D A [(moC md sd mth mst hn cn pn v29 gn mln mnn ln mlt msz mcu mtk mfr mti mfa mfb an un lc td mtn), (aI cI (md 16) 12 fo), (aI cI (md 19) 40 pk), (aI cI (md 20) 40 pf), (aI cI (md 21) 40 po), (aI cI (md 22) 40 pd), (aI cI (md 23) 40 pe)] := hD
              refine lv_goto (tgt := 27) hx hb dX11_ownerOf_249 (by decide) ?_
              have hle8 := nbL_le q27_6 40
              have ha9 := g4.1 (by omega)
              rw [show 41 - nbL q27_6 40 = (40 - nbL q27_6 40) + 1 by omega, ooV_s] at ha9
              have ce8 := i_cl (x := q39_10) (by omega)
              have ce9 := i_cl (x := pn) (by omega)
              have ee9 : q39_10.toNatClampNeg = pn.toNatClampNeg := by omega
              have hz9 := g15
              rw [ee9] at hz9
              rw [← hz9] at ha9
              have hn9 := nbL_set (x := q27_6) (c := q39_9) (by omega) (by omega) (g14 (by omega))
              rw [← ez24, ← ez25] at hn9
              have hle9 := nbL_le z25 40
              rw [if_neg (by omega)] at ha9
              rw [← ez24, ← ez25] at ha9
              have hfu9 : 41 - nbL z25 40 = 40 - nbL q27_6 40 := by omega
              exact ih5 (q27_4, q27_5, z25, (1 : Int32), v29) ls H locs ⟨(by omega), (by exact ⟨fun _ => by rw [if_neg (by omega)] at ha9; rw [hfu9, ev29]; exact ha9, fun h9 => absurd h9 (by decide)⟩), lv_sub hl [2, 3, 4, 5, 6, 7, 0, 1] rfl, hP.sub [0, 1, 2, 3, 4, 5, 6] rfl, hD.sub [0, 1, 2, 3, 4, 5, 6] (by decide +kernel) rfl, hS⟩ (by show 40 - (nbL z25 40 : Int) + (1 : Int32).toInt < _; omega)
            · skip
              have f30 := i_eq c27
              refine lv_aload_n hx hb dX11_ownerOf_207 rfl (lv_at hl 2 rfl) ?_
              refine va_get (D := D) (ci := 11) (v := .ref (md 21)) (C := RX11) (T := TX11) (N := 64) hx hb hts inX11_ownerOf_X11 hown hK hP 0 rfl rfl 21 (by decide) (hts (Cond.fieldLink RX11 60 "PortRoomsModel" "paperTo" "[I") (wm_t (wm_l (wm_i 8 rfl)))) (fun _ h9 => h9) rfl dX11_ownerOf_208 ?_
              refine lv_iload hx hb dX11_ownerOf_211 (lv_at hl 8 rfl) ?_
              refine va_iald hx hb hK hP 4 0 rfl rfl (i_in (by omega) (by omega)) dX11_ownerOf_213 ?_
              refine lv_topi (fun v31 ev31 => ?_)
              have tlv31 : v31.toInt = (po q39_9.toNatClampNeg).toInt := by rw [ev31]
              refine lv_istore (lv' := [(4, .int v31), (6, .long z25), (8, .int 1), (0, .ref (md 64)), (1, .int k), (2, .int d), (3, .int n), (5, .int q27_5), (9, .int q39_9), (10, .int q39_10)]) hx hb dX11_ownerOf_214 hl (by decide) rfl (fun ls hl => ?_)
              refine lv_aload_n hx hb dX11_ownerOf_216 rfl (lv_at hl 3 rfl) ?_
              refine va_get (D := D) (ci := 11) (v := .ref (md 22)) (C := RX11) (T := TX11) (N := 64) hx hb hts inX11_ownerOf_X11 hown hK hP 0 rfl rfl 22 (by decide) (hts (Cond.fieldLink RX11 63 "PortRoomsModel" "paperSaid" "[I") (wm_t (wm_l (wm_i 6 rfl)))) (fun _ h9 => h9) rfl dX11_ownerOf_217 ?_
              refine lv_iload hx hb dX11_ownerOf_220 (lv_at hl 8 rfl) ?_
              refine va_iald hx hb hK hP 5 0 rfl rfl (i_in (by omega) (by omega)) dX11_ownerOf_222 ?_
              refine lv_topi (fun v32 ev32 => ?_)
              have tlv32 : v32.toInt = (pd q39_9.toNatClampNeg).toInt := by rw [ev32]
              refine lv_iload_n hx hb dX11_ownerOf_223 rfl (lv_at hl 5 rfl) ?_
              refine lv_icmp_gt (tgt := 232) hx hb dX11_ownerOf_224 (by decide) (fun c33 => ?_) (fun c33 => ?_)
              · skip
                have f34 := i_lt c33
                refine lv_iload hx hb dX11_ownerOf_232 (lv_at hl 7 rfl) ?_
                refine lv_istore (lv' := [(5, .int q27_5), (4, .int v31), (6, .long z25), (8, .int 1), (0, .ref (md 64)), (1, .int k), (2, .int d), (3, .int n), (9, .int q39_9), (10, .int q39_10)]) hx hb dX11_ownerOf_234 hl (by decide) rfl (fun ls hl => ?_)
                refine lv_goto (tgt := 249) hx hb dX11_ownerOf_236 (by decide) ?_
                refine lv_goto (tgt := 27) hx hb dX11_ownerOf_249 (by decide) ?_
                have hle8 := nbL_le q27_6 40
                have ha9 := g4.1 (by omega)
                rw [show 41 - nbL q27_6 40 = (40 - nbL q27_6 40) + 1 by omega, ooV_s] at ha9
                have ce8 := i_cl (x := q39_10) (by omega)
                have ce9 := i_cl (x := pn) (by omega)
                have ee9 : q39_10.toNatClampNeg = pn.toNatClampNeg := by omega
                have hz9 := g15
                rw [ee9] at hz9
                rw [← hz9] at ha9
                have hn9 := nbL_set (x := q27_6) (c := q39_9) (by omega) (by omega) (g14 (by omega))
                rw [← ez24, ← ez25] at hn9
                have hle9 := nbL_le z25 40
                rw [if_neg (by omega)] at ha9
                rw [← ez24, ← ez25] at ha9
                have hfu9 : 41 - nbL z25 40 = 40 - nbL q27_6 40 := by omega
                exact ih5 (v31, q27_5, z25, (1 : Int32), mqq) ls H locs ⟨(by omega), (by exact ⟨fun _ => by rw [if_pos (by omega), if_neg (by omega)] at ha9; rw [hfu9, ev31]; exact ha9, fun h9 => absurd h9 (by decide)⟩), lv_sub hl [4, 5, 6, 7, 1, 0, 2, 3] rfl, hP.sub [0, 1, 2, 3, 4, 5, 6] rfl, hD.sub [0, 1, 2, 3, 4, 5, 6] (by decide +kernel) rfl, hS⟩ (by show 40 - (nbL z25 40 : Int) + (1 : Int32).toInt < _; omega)
              · skip
                have f35 := i_nlt c33
                refine lv_iload hx hb dX11_ownerOf_227 (lv_at hl 0 rfl) ?_
                refine lv_goto (tgt := 234) hx hb dX11_ownerOf_229 (by decide) ?_
                refine lv_istore (lv' := [(5, .int v31), (4, .int v31), (6, .long z25), (8, .int 1), (0, .ref (md 64)), (1, .int k), (2, .int d), (3, .int n), (9, .int q39_9), (10, .int q39_10)]) hx hb dX11_ownerOf_234 hl (by decide) rfl (fun ls hl => ?_)
                refine lv_goto (tgt := 249) hx hb dX11_ownerOf_236 (by decide) ?_
                refine lv_goto (tgt := 27) hx hb dX11_ownerOf_249 (by decide) ?_
                have hle8 := nbL_le q27_6 40
                have ha9 := g4.1 (by omega)
                rw [show 41 - nbL q27_6 40 = (40 - nbL q27_6 40) + 1 by omega, ooV_s] at ha9
                have ce8 := i_cl (x := q39_10) (by omega)
                have ce9 := i_cl (x := pn) (by omega)
                have ee9 : q39_10.toNatClampNeg = pn.toNatClampNeg := by omega
                have hz9 := g15
                rw [ee9] at hz9
                rw [← hz9] at ha9
                have hn9 := nbL_set (x := q27_6) (c := q39_9) (by omega) (by omega) (g14 (by omega))
                rw [← ez24, ← ez25] at hn9
                have hle9 := nbL_le z25 40
                rw [if_neg (by omega)] at ha9
                rw [← ez24, ← ez25] at ha9
                have hfu9 : 41 - nbL z25 40 = 40 - nbL q27_6 40 := by omega
                exact ih5 (v31, v31, z25, (1 : Int32), mqq) ls H locs ⟨(by omega), (by exact ⟨fun _ => by rw [if_pos (by omega), if_pos (by omega)] at ha9; rw [hfu9, ev31]; exact ha9, fun h9 => absurd h9 (by decide)⟩), lv_sub hl [4, 5, 6, 7, 1, 0, 2, 3] rfl, hP.sub [0, 1, 2, 3, 4, 5, 6] rfl, hD.sub [0, 1, 2, 3, 4, 5, 6] (by decide +kernel) rfl, hS⟩ (by show 40 - (nbL z25 40 : Int) + (1 : Int32).toInt < _; omega)
        · skip
          have f36 := i_nle c19
          refine lv_aload_n hx hb dX11_ownerOf_48 rfl (lv_at hl 0 rfl) ?_
          refine va_get (D := D) (ci := 11) (v := .ref (md 19)) (C := RX11) (T := TX11) (N := 64) hx hb hts inX11_ownerOf_X11 hown hK hP 0 rfl rfl 19 (by decide) (hts (Cond.fieldLink RX11 54 "PortRoomsModel" "paperCrate" "[I") (wm_t (wm_l (wm_i 4 rfl)))) (fun _ h9 => h9) rfl dX11_ownerOf_49 ?_
          refine lv_iload hx hb dX11_ownerOf_52 (lv_at hl 9 rfl) ?_
          refine va_iald hx hb hK hP 2 0 rfl rfl (i_in (by omega) (by omega)) dX11_ownerOf_54 ?_
          refine lv_topi (fun v37 ev37 => ?_)
          have tlv37 : v37.toInt = (pk q39_10.toNatClampNeg).toInt := by rw [ev37]
          refine lv_iload_n hx hb dX11_ownerOf_55 rfl (lv_at hl 1 rfl) ?_
          refine lv_icmp_ne (tgt := 161) hx hb dX11_ownerOf_56 (by decide) (fun c38 => ?_) (fun c38 => ?_)
          · skip
            have f39 := i_ne c38
            obtain ⟨v40, ev40⟩ : ∃ y : Int32, y = q39_10 + 1 := ⟨_, rfl⟩
            try have tv40 : v40.toInt = q39_10.toInt + 1 := by rw [ev40]; exact (i_add (x := q39_10) (y := (1 : Int32)) (by rw [k1]; omega) (by rw [k1]; omega)).trans (by rw [k1])
            refine lv_iinc (v := v40) (lv' := [(10, .int v40), (0, .ref (md 64)), (1, .int k), (2, .int d), (3, .int n), (4, .int q27_4), (5, .int q27_5), (6, .long q27_6), (8, .int q27_8), (9, .int q39_9)]) hx hb dX11_ownerOf_161 hl (k := 9) rfl (by rw [ev40]; rfl) (by decide) rfl (fun ls hl => ?_)
            refine lv_goto (tgt := 39) hx hb dX11_ownerOf_164 (by decide) ?_
            have clk8 := i_cl (x := q39_10) (by omega)
            have clk9 := i_cl (x := v40) (by omega)
            have ek9 : v40.toNatClampNeg = q39_10.toNatClampNeg + 1 := by omega
            have nk9 : nI q39_10.toNatClampNeg = q39_10 := i_nI (by omega)
            exact ih16 (q39_9, v40) ls H locs ⟨(by omega), (by omega), (by omega), (by first | exact g14 | exact fun _ => (by assumption)), (by rw [ek9, nxV_s, nk9, ← g15]; split <;> first | rfl | (exfalso; omega) | (rename_i z9; exact absurd z9.2.2.1 hb9) | (rename_i z9; exact absurd ⟨by omega, by omega, hb9, by omega⟩ z9)), lv_sub hl [1, 2, 3, 4, 5, 6, 7, 8, 9, 0] rfl, hP.sub [0, 1, 2, 3, 4, 5, 6] rfl, hD.sub [0, 1, 2, 3, 4, 5, 6] (by decide +kernel) rfl, hS⟩ (by show pn.toInt - v40.toInt < _; omega)
          · skip
            have f41 := i_eq c38
            refine lv_aload_n hx hb dX11_ownerOf_59 rfl (lv_at hl 0 rfl) ?_
            refine va_get (D := D) (ci := 11) (v := .ref (md 23)) (C := RX11) (T := TX11) (N := 64) hx hb hts inX11_ownerOf_X11 hown hK hP 0 rfl rfl 23 (by decide) (hts (Cond.fieldLink RX11 66 "PortRoomsModel" "paperFiled" "[I") (wm_t (wm_l (wm_i 5 rfl)))) (fun _ h9 => h9) rfl dX11_ownerOf_60 ?_
            refine lv_iload hx hb dX11_ownerOf_63 (lv_at hl 9 rfl) ?_
            refine va_iald hx hb hK hP 6 0 rfl rfl (i_in (by omega) (by omega)) dX11_ownerOf_65 ?_
            refine lv_topi (fun v42 ev42 => ?_)
            have tlv42 : v42.toInt = (pe q39_10.toNatClampNeg).toInt := by rw [ev42]
            refine lv_iload_n hx hb dX11_ownerOf_66 rfl (lv_at hl 3 rfl) ?_
            refine lv_icmp_gt (tgt := 161) hx hb dX11_ownerOf_67 (by decide) (fun c43 => ?_) (fun c43 => ?_)
            · skip
              have f44 := i_lt c43
              obtain ⟨v45, ev45⟩ : ∃ y : Int32, y = q39_10 + 1 := ⟨_, rfl⟩
              try have tv45 : v45.toInt = q39_10.toInt + 1 := by rw [ev45]; exact (i_add (x := q39_10) (y := (1 : Int32)) (by rw [k1]; omega) (by rw [k1]; omega)).trans (by rw [k1])
              refine lv_iinc (v := v45) (lv' := [(10, .int v45), (0, .ref (md 64)), (1, .int k), (2, .int d), (3, .int n), (4, .int q27_4), (5, .int q27_5), (6, .long q27_6), (8, .int q27_8), (9, .int q39_9)]) hx hb dX11_ownerOf_161 hl (k := 9) rfl (by rw [ev45]; rfl) (by decide) rfl (fun ls hl => ?_)
              refine lv_goto (tgt := 39) hx hb dX11_ownerOf_164 (by decide) ?_
              have clk8 := i_cl (x := q39_10) (by omega)
              have clk9 := i_cl (x := v45) (by omega)
              have ek9 : v45.toNatClampNeg = q39_10.toNatClampNeg + 1 := by omega
              have nk9 : nI q39_10.toNatClampNeg = q39_10 := i_nI (by omega)
              exact ih16 (q39_9, v45) ls H locs ⟨(by omega), (by omega), (by omega), (by first | exact g14 | exact fun _ => (by assumption)), (by rw [ek9, nxV_s, nk9, ← g15]; split <;> first | rfl | (exfalso; omega) | (rename_i z9; exact absurd z9.2.2.1 hb9) | (rename_i z9; exact absurd ⟨by omega, by omega, hb9, by omega⟩ z9)), lv_sub hl [1, 2, 3, 4, 5, 6, 7, 8, 9, 0] rfl, hP.sub [0, 1, 2, 3, 4, 5, 6] rfl, hD.sub [0, 1, 2, 3, 4, 5, 6] (by decide +kernel) rfl, hS⟩ (by show pn.toInt - v45.toInt < _; omega)
            · skip
              have f46 := i_nlt c43
              refine lv_lload hx hb dX11_ownerOf_70 (lv_at hl 6 rfl) ?_
              refine lv_iload hx hb dX11_ownerOf_72 (lv_at hl 9 rfl) ?_
              refine lv_lshr hx hb dX11_ownerOf_74 rfl ?_
              refine lv_topl (fun z47 ez47 => ?_)
              refine lv_lconst (v := 1) hx hb dX11_ownerOf_75 (by decide) ?_
              refine lv_land hx hb dX11_ownerOf_76 ?_
              refine lv_topl (fun z48 ez48 => ?_)
              refine lv_lconst (v := 0) hx hb dX11_ownerOf_77 (by decide) ?_
              refine W.lcmp hx hb dX11_ownerOf_78 ?_
              refine lv_topi (fun v49 ev49 => ?_)
              refine lv_if_ne (tgt := 161) hx hb dX11_ownerOf_79 (by decide) (fun c50 => ?_) (fun c50 => ?_)
              · skip
                have f51 := lc_ne ev49 c50
                obtain ⟨v52, ev52⟩ : ∃ y : Int32, y = q39_10 + 1 := ⟨_, rfl⟩
                try have tv52 : v52.toInt = q39_10.toInt + 1 := by rw [ev52]; exact (i_add (x := q39_10) (y := (1 : Int32)) (by rw [k1]; omega) (by rw [k1]; omega)).trans (by rw [k1])
                refine lv_iinc (v := v52) (lv' := [(10, .int v52), (0, .ref (md 64)), (1, .int k), (2, .int d), (3, .int n), (4, .int q27_4), (5, .int q27_5), (6, .long q27_6), (8, .int q27_8), (9, .int q39_9)]) hx hb dX11_ownerOf_161 hl (k := 9) rfl (by rw [ev52]; rfl) (by decide) rfl (fun ls hl => ?_)
                refine lv_goto (tgt := 39) hx hb dX11_ownerOf_164 (by decide) ?_
                have clk8 := i_cl (x := q39_10) (by omega)
                have clk9 := i_cl (x := v52) (by omega)
                have ek9 : v52.toNatClampNeg = q39_10.toNatClampNeg + 1 := by omega
                have nk9 : nI q39_10.toNatClampNeg = q39_10 := i_nI (by omega)
                have hb9 : ¬ btL q27_6 q39_10.toNatClampNeg = false := fun h9 => by have z0 := (btL_bit (x := q27_6) (c := q39_10) (by omega) (by omega)).mpr h9; rw [← ez47, ← ez48] at z0; rw [z0] at f51; exact f51 rfl
                exact ih16 (q39_9, v52) ls H locs ⟨(by omega), (by omega), (by omega), (by first | exact g14 | exact fun _ => (by assumption)), (by rw [ek9, nxV_s, nk9, ← g15]; split <;> first | rfl | (exfalso; omega) | (rename_i z9; exact absurd z9.2.2.1 hb9) | (rename_i z9; exact absurd ⟨by omega, by omega, hb9, by omega⟩ z9)), lv_sub hl [1, 2, 3, 4, 5, 6, 7, 8, 9, 0] rfl, hP.sub [0, 1, 2, 3, 4, 5, 6] rfl, hD.sub [0, 1, 2, 3, 4, 5, 6] (by decide +kernel) rfl, hS⟩ (by show pn.toInt - v52.toInt < _; omega)
              · skip
                have f53 := lc_eq ev49 c50
                have hz9 : z48 = 0 := Int64.toInt_inj.mp (by assumption)
                have hb9 := (btL_bit (x := q27_6) (c := q39_10) (by omega) (by omega)).mp (by rw [← ez47, ← ez48]; exact hz9)
                refine lv_iload hx hb dX11_ownerOf_82 (lv_at hl 8 rfl) ?_
                refine lv_ldc hx hb hown (hts (Cond.constant RX11 139 (-1000000)) (wm_t (wm_l (wm_i 2 rfl)))) dX11_ownerOf_84 ?_
                refine lv_icmp_eq (tgt := 140) hx hb dX11_ownerOf_86 (by decide) (fun c54 => ?_) (fun c54 => ?_)
                · skip
                  have f55 := i_eq c54
                  refine lv_iconst (v := 1) hx hb dX11_ownerOf_140 (by decide) ?_
                  refine lv_goto (tgt := 145) hx hb dX11_ownerOf_141 (by decide) ?_
                  refine lv_istore (lv' := [(11, .int 1), (0, .ref (md 64)), (1, .int k), (2, .int d), (3, .int n), (4, .int q27_4), (5, .int q27_5), (6, .long q27_6), (8, .int q27_8), (9, .int q39_9), (10, .int q39_10)]) hx hb dX11_ownerOf_145 hl (by decide) rfl (fun ls hl => ?_)
                  refine lv_iload hx hb dX11_ownerOf_147 (lv_at hl 0 rfl) ?_
                  refine lv_if_eq (tgt := 157) hx hb dX11_ownerOf_149 (by decide) (fun c => absurd c (by decide)) (fun _ => ?_)
                  refine lv_iload hx hb dX11_ownerOf_152 (lv_at hl 10 rfl) ?_
                  refine lv_goto (tgt := 159) hx hb dX11_ownerOf_154 (by decide) ?_
                  refine lv_istore (lv' := [(9, .int q39_10), (11, .int 1), (0, .ref (md 64)), (1, .int k), (2, .int d), (3, .int n), (4, .int q27_4), (5, .int q27_5), (6, .long q27_6), (8, .int q27_8), (10, .int q39_10)]) hx hb dX11_ownerOf_159 hl (by decide) rfl (fun ls hl => ?_)
                  obtain ⟨v56, ev56⟩ : ∃ y : Int32, y = q39_10 + 1 := ⟨_, rfl⟩
                  try have tv56 : v56.toInt = q39_10.toInt + 1 := by rw [ev56]; exact (i_add (x := q39_10) (y := (1 : Int32)) (by rw [k1]; omega) (by rw [k1]; omega)).trans (by rw [k1])
                  refine lv_iinc (v := v56) (lv' := [(10, .int v56), (9, .int q39_10), (11, .int 1), (0, .ref (md 64)), (1, .int k), (2, .int d), (3, .int n), (4, .int q27_4), (5, .int q27_5), (6, .long q27_6), (8, .int q27_8)]) hx hb dX11_ownerOf_161 hl (k := 10) rfl (by rw [ev56]; rfl) (by decide) rfl (fun ls hl => ?_)
                  refine lv_goto (tgt := 39) hx hb dX11_ownerOf_164 (by decide) ?_
                  have clk8 := i_cl (x := q39_10) (by omega)
                  have clk9 := i_cl (x := v56) (by omega)
                  have ek9 : v56.toNatClampNeg = q39_10.toNatClampNeg + 1 := by omega
                  have nk9 : nI q39_10.toNatClampNeg = q39_10 := i_nI (by omega)
                  exact ih16 (q39_10, v56) ls H locs ⟨(by omega), (by omega), (by omega), (by first | exact g14 | exact fun _ => (by assumption)), (by rw [ek9, nxV_s, nk9, ← g15]; split <;> first | rfl | (exfalso; omega) | (rename_i z9; exact absurd z9.2.2.1 hb9) | (rename_i z9; exact absurd ⟨by omega, by omega, hb9, by omega⟩ z9)), lv_sub hl [3, 4, 5, 6, 7, 8, 9, 10, 1, 0] rfl, hP.sub [0, 1, 2, 3, 4, 5, 6] rfl, hD.sub [0, 1, 2, 3, 4, 5, 6] (by decide +kernel) rfl, hS⟩ (by show pn.toInt - v56.toInt < _; omega)
                · skip
                  have f57 := i_ne c54
                  refine lv_aload_n hx hb dX11_ownerOf_89 rfl (lv_at hl 0 rfl) ?_
                  refine va_get (D := D) (ci := 11) (v := .ref (md 22)) (C := RX11) (T := TX11) (N := 64) hx hb hts inX11_ownerOf_X11 hown hK hP 0 rfl rfl 22 (by decide) (hts (Cond.fieldLink RX11 63 "PortRoomsModel" "paperSaid" "[I") (wm_t (wm_l (wm_i 6 rfl)))) (fun _ h9 => h9) rfl dX11_ownerOf_90 ?_
                  refine lv_iload hx hb dX11_ownerOf_93 (lv_at hl 9 rfl) ?_
                  refine va_iald hx hb hK hP 5 0 rfl rfl (i_in (by omega) (by omega)) dX11_ownerOf_95 ?_
                  refine lv_topi (fun v58 ev58 => ?_)
                  have tlv58 : v58.toInt = (pd q39_10.toNatClampNeg).toInt := by rw [ev58]
                  refine lv_aload_n hx hb dX11_ownerOf_96 rfl (lv_at hl 0 rfl) ?_
                  refine va_get (D := D) (ci := 11) (v := .ref (md 22)) (C := RX11) (T := TX11) (N := 64) hx hb hts inX11_ownerOf_X11 hown hK hP 0 rfl rfl 22 (by decide) (hts (Cond.fieldLink RX11 63 "PortRoomsModel" "paperSaid" "[I") (wm_t (wm_l (wm_i 6 rfl)))) (fun _ h9 => h9) rfl dX11_ownerOf_97 ?_
                  refine lv_iload hx hb dX11_ownerOf_100 (lv_at hl 8 rfl) ?_
                  refine va_iald hx hb hK hP 5 0 rfl rfl (i_in (by omega) (by omega)) dX11_ownerOf_102 ?_
                  refine lv_topi (fun v59 ev59 => ?_)
                  have tlv59 : v59.toInt = (pd q39_9.toNatClampNeg).toInt := by rw [ev59]
                  refine lv_icmp_lt (tgt := 140) hx hb dX11_ownerOf_103 (by decide) (fun c60 => ?_) (fun c60 => ?_)
                  · skip
                    have f61 := i_lt c60
                    refine lv_iconst (v := 1) hx hb dX11_ownerOf_140 (by decide) ?_
                    refine lv_goto (tgt := 145) hx hb dX11_ownerOf_141 (by decide) ?_
                    refine lv_istore (lv' := [(11, .int 1), (0, .ref (md 64)), (1, .int k), (2, .int d), (3, .int n), (4, .int q27_4), (5, .int q27_5), (6, .long q27_6), (8, .int q27_8), (9, .int q39_9), (10, .int q39_10)]) hx hb dX11_ownerOf_145 hl (by decide) rfl (fun ls hl => ?_)
                    refine lv_iload hx hb dX11_ownerOf_147 (lv_at hl 0 rfl) ?_
                    refine lv_if_eq (tgt := 157) hx hb dX11_ownerOf_149 (by decide) (fun c => absurd c (by decide)) (fun _ => ?_)
                    refine lv_iload hx hb dX11_ownerOf_152 (lv_at hl 10 rfl) ?_
                    refine lv_goto (tgt := 159) hx hb dX11_ownerOf_154 (by decide) ?_
                    refine lv_istore (lv' := [(9, .int q39_10), (11, .int 1), (0, .ref (md 64)), (1, .int k), (2, .int d), (3, .int n), (4, .int q27_4), (5, .int q27_5), (6, .long q27_6), (8, .int q27_8), (10, .int q39_10)]) hx hb dX11_ownerOf_159 hl (by decide) rfl (fun ls hl => ?_)
                    obtain ⟨v62, ev62⟩ : ∃ y : Int32, y = q39_10 + 1 := ⟨_, rfl⟩
                    try have tv62 : v62.toInt = q39_10.toInt + 1 := by rw [ev62]; exact (i_add (x := q39_10) (y := (1 : Int32)) (by rw [k1]; omega) (by rw [k1]; omega)).trans (by rw [k1])
                    refine lv_iinc (v := v62) (lv' := [(10, .int v62), (9, .int q39_10), (11, .int 1), (0, .ref (md 64)), (1, .int k), (2, .int d), (3, .int n), (4, .int q27_4), (5, .int q27_5), (6, .long q27_6), (8, .int q27_8)]) hx hb dX11_ownerOf_161 hl (k := 10) rfl (by rw [ev62]; rfl) (by decide) rfl (fun ls hl => ?_)
                    refine lv_goto (tgt := 39) hx hb dX11_ownerOf_164 (by decide) ?_
                    have clk8 := i_cl (x := q39_10) (by omega)
                    have clk9 := i_cl (x := v62) (by omega)
                    have ek9 : v62.toNatClampNeg = q39_10.toNatClampNeg + 1 := by omega
                    have nk9 : nI q39_10.toNatClampNeg = q39_10 := i_nI (by omega)
                    exact ih16 (q39_10, v62) ls H locs ⟨(by omega), (by omega), (by omega), (by first | exact g14 | exact fun _ => (by assumption)), (by rw [ek9, nxV_s, nk9, ← g15]; split <;> first | rfl | (exfalso; omega) | (rename_i z9; exact absurd z9.2.2.1 hb9) | (rename_i z9; exact absurd ⟨by omega, by omega, hb9, by omega⟩ z9)), lv_sub hl [3, 4, 5, 6, 7, 8, 9, 10, 1, 0] rfl, hP.sub [0, 1, 2, 3, 4, 5, 6] rfl, hD.sub [0, 1, 2, 3, 4, 5, 6] (by decide +kernel) rfl, hS⟩ (by show pn.toInt - v62.toInt < _; omega)
                  · skip
                    have f63 := i_nlt c60
                    refine lv_aload_n hx hb dX11_ownerOf_106 rfl (lv_at hl 0 rfl) ?_
                    refine va_get (D := D) (ci := 11) (v := .ref (md 22)) (C := RX11) (T := TX11) (N := 64) hx hb hts inX11_ownerOf_X11 hown hK hP 0 rfl rfl 22 (by decide) (hts (Cond.fieldLink RX11 63 "PortRoomsModel" "paperSaid" "[I") (wm_t (wm_l (wm_i 6 rfl)))) (fun _ h9 => h9) rfl dX11_ownerOf_107 ?_
                    refine lv_iload hx hb dX11_ownerOf_110 (lv_at hl 9 rfl) ?_
                    refine va_iald hx hb hK hP 5 0 rfl rfl (i_in (by omega) (by omega)) dX11_ownerOf_112 ?_
                    refine lv_topi (fun v64 ev64 => ?_)
                    have tlv64 : v64.toInt = (pd q39_10.toNatClampNeg).toInt := by rw [ev64]
                    refine lv_aload_n hx hb dX11_ownerOf_113 rfl (lv_at hl 0 rfl) ?_
                    refine va_get (D := D) (ci := 11) (v := .ref (md 22)) (C := RX11) (T := TX11) (N := 64) hx hb hts inX11_ownerOf_X11 hown hK hP 0 rfl rfl 22 (by decide) (hts (Cond.fieldLink RX11 63 "PortRoomsModel" "paperSaid" "[I") (wm_t (wm_l (wm_i 6 rfl)))) (fun _ h9 => h9) rfl dX11_ownerOf_114 ?_
                    refine lv_iload hx hb dX11_ownerOf_117 (lv_at hl 8 rfl) ?_
                    refine va_iald hx hb hK hP 5 0 rfl rfl (i_in (by omega) (by omega)) dX11_ownerOf_119 ?_
                    refine lv_topi (fun v65 ev65 => ?_)
                    have tlv65 : v65.toInt = (pd q39_9.toNatClampNeg).toInt := by rw [ev65]
                    refine lv_icmp_ne (tgt := 144) hx hb dX11_ownerOf_120 (by decide) (fun c66 => ?_) (fun c66 => ?_)
                    · skip
                      have f67 := i_ne c66
                      refine lv_iconst (v := 0) hx hb dX11_ownerOf_144 (by decide) ?_
                      refine lv_istore (lv' := [(11, .int 0), (0, .ref (md 64)), (1, .int k), (2, .int d), (3, .int n), (4, .int q27_4), (5, .int q27_5), (6, .long q27_6), (8, .int q27_8), (9, .int q39_9), (10, .int q39_10)]) hx hb dX11_ownerOf_145 hl (by decide) rfl (fun ls hl => ?_)
                      refine lv_iload hx hb dX11_ownerOf_147 (lv_at hl 0 rfl) ?_
                      refine lv_if_eq (tgt := 157) hx hb dX11_ownerOf_149 (by decide) (fun _ => ?_) (fun c => absurd (by decide) c)
                      refine lv_iload hx hb dX11_ownerOf_157 (lv_at hl 9 rfl) ?_
                      refine lv_istore (lv' := [(9, .int q39_9), (11, .int 0), (0, .ref (md 64)), (1, .int k), (2, .int d), (3, .int n), (4, .int q27_4), (5, .int q27_5), (6, .long q27_6), (8, .int q27_8), (10, .int q39_10)]) hx hb dX11_ownerOf_159 hl (by decide) rfl (fun ls hl => ?_)
                      obtain ⟨v68, ev68⟩ : ∃ y : Int32, y = q39_10 + 1 := ⟨_, rfl⟩
                      try have tv68 : v68.toInt = q39_10.toInt + 1 := by rw [ev68]; exact (i_add (x := q39_10) (y := (1 : Int32)) (by rw [k1]; omega) (by rw [k1]; omega)).trans (by rw [k1])
                      refine lv_iinc (v := v68) (lv' := [(10, .int v68), (9, .int q39_9), (11, .int 0), (0, .ref (md 64)), (1, .int k), (2, .int d), (3, .int n), (4, .int q27_4), (5, .int q27_5), (6, .long q27_6), (8, .int q27_8)]) hx hb dX11_ownerOf_161 hl (k := 10) rfl (by rw [ev68]; rfl) (by decide) rfl (fun ls hl => ?_)
                      refine lv_goto (tgt := 39) hx hb dX11_ownerOf_164 (by decide) ?_
                      have clk8 := i_cl (x := q39_10) (by omega)
                      have clk9 := i_cl (x := v68) (by omega)
                      have ek9 : v68.toNatClampNeg = q39_10.toNatClampNeg + 1 := by omega
                      have nk9 : nI q39_10.toNatClampNeg = q39_10 := i_nI (by omega)
                      exact ih16 (q39_9, v68) ls H locs ⟨(by omega), (by omega), (by omega), (by first | exact g14 | exact fun _ => (by assumption)), (by rw [ek9, nxV_s, nk9, ← g15]; split <;> first | rfl | (exfalso; omega) | (rename_i z9; exact absurd z9.2.2.1 hb9) | (rename_i z9; exact absurd ⟨by omega, by omega, hb9, by omega⟩ z9)), lv_sub hl [3, 4, 5, 6, 7, 8, 9, 10, 1, 0] rfl, hP.sub [0, 1, 2, 3, 4, 5, 6] rfl, hD.sub [0, 1, 2, 3, 4, 5, 6] (by decide +kernel) rfl, hS⟩ (by show pn.toInt - v68.toInt < _; omega)
                    · skip
                      have f69 := i_eq c66
                      refine lv_aload_n hx hb dX11_ownerOf_123 rfl (lv_at hl 0 rfl) ?_
                      refine va_get (D := D) (ci := 11) (v := .ref (md 23)) (C := RX11) (T := TX11) (N := 64) hx hb hts inX11_ownerOf_X11 hown hK hP 0 rfl rfl 23 (by decide) (hts (Cond.fieldLink RX11 66 "PortRoomsModel" "paperFiled" "[I") (wm_t (wm_l (wm_i 5 rfl)))) (fun _ h9 => h9) rfl dX11_ownerOf_124 ?_
                      refine lv_iload hx hb dX11_ownerOf_127 (lv_at hl 9 rfl) ?_
                      refine va_iald hx hb hK hP 6 0 rfl rfl (i_in (by omega) (by omega)) dX11_ownerOf_129 ?_
                      refine lv_topi (fun v70 ev70 => ?_)
                      have tlv70 : v70.toInt = (pe q39_10.toNatClampNeg).toInt := by rw [ev70]
                      refine lv_aload_n hx hb dX11_ownerOf_130 rfl (lv_at hl 0 rfl) ?_
                      refine va_get (D := D) (ci := 11) (v := .ref (md 23)) (C := RX11) (T := TX11) (N := 64) hx hb hts inX11_ownerOf_X11 hown hK hP 0 rfl rfl 23 (by decide) (hts (Cond.fieldLink RX11 66 "PortRoomsModel" "paperFiled" "[I") (wm_t (wm_l (wm_i 5 rfl)))) (fun _ h9 => h9) rfl dX11_ownerOf_131 ?_
                      refine lv_iload hx hb dX11_ownerOf_134 (lv_at hl 8 rfl) ?_
                      refine va_iald hx hb hK hP 6 0 rfl rfl (i_in (by omega) (by omega)) dX11_ownerOf_136 ?_
                      refine lv_topi (fun v71 ev71 => ?_)
                      have tlv71 : v71.toInt = (pe q39_9.toNatClampNeg).toInt := by rw [ev71]
                      refine lv_icmp_ge (tgt := 144) hx hb dX11_ownerOf_137 (by decide) (fun c72 => ?_) (fun c72 => ?_)
                      · skip
                        have f73 := i_le c72
                        refine lv_iconst (v := 0) hx hb dX11_ownerOf_144 (by decide) ?_
                        refine lv_istore (lv' := [(11, .int 0), (0, .ref (md 64)), (1, .int k), (2, .int d), (3, .int n), (4, .int q27_4), (5, .int q27_5), (6, .long q27_6), (8, .int q27_8), (9, .int q39_9), (10, .int q39_10)]) hx hb dX11_ownerOf_145 hl (by decide) rfl (fun ls hl => ?_)
                        refine lv_iload hx hb dX11_ownerOf_147 (lv_at hl 0 rfl) ?_
                        refine lv_if_eq (tgt := 157) hx hb dX11_ownerOf_149 (by decide) (fun _ => ?_) (fun c => absurd (by decide) c)
                        refine lv_iload hx hb dX11_ownerOf_157 (lv_at hl 9 rfl) ?_
                        refine lv_istore (lv' := [(9, .int q39_9), (11, .int 0), (0, .ref (md 64)), (1, .int k), (2, .int d), (3, .int n), (4, .int q27_4), (5, .int q27_5), (6, .long q27_6), (8, .int q27_8), (10, .int q39_10)]) hx hb dX11_ownerOf_159 hl (by decide) rfl (fun ls hl => ?_)
                        obtain ⟨v74, ev74⟩ : ∃ y : Int32, y = q39_10 + 1 := ⟨_, rfl⟩
                        try have tv74 : v74.toInt = q39_10.toInt + 1 := by rw [ev74]; exact (i_add (x := q39_10) (y := (1 : Int32)) (by rw [k1]; omega) (by rw [k1]; omega)).trans (by rw [k1])
                        refine lv_iinc (v := v74) (lv' := [(10, .int v74), (9, .int q39_9), (11, .int 0), (0, .ref (md 64)), (1, .int k), (2, .int d), (3, .int n), (4, .int q27_4), (5, .int q27_5), (6, .long q27_6), (8, .int q27_8)]) hx hb dX11_ownerOf_161 hl (k := 10) rfl (by rw [ev74]; rfl) (by decide) rfl (fun ls hl => ?_)
                        refine lv_goto (tgt := 39) hx hb dX11_ownerOf_164 (by decide) ?_
                        have clk8 := i_cl (x := q39_10) (by omega)
                        have clk9 := i_cl (x := v74) (by omega)
                        have ek9 : v74.toNatClampNeg = q39_10.toNatClampNeg + 1 := by omega
                        have nk9 : nI q39_10.toNatClampNeg = q39_10 := i_nI (by omega)
                        exact ih16 (q39_9, v74) ls H locs ⟨(by omega), (by omega), (by omega), (by first | exact g14 | exact fun _ => (by assumption)), (by rw [ek9, nxV_s, nk9, ← g15]; split <;> first | rfl | (exfalso; omega) | (rename_i z9; exact absurd z9.2.2.1 hb9) | (rename_i z9; exact absurd ⟨by omega, by omega, hb9, by omega⟩ z9)), lv_sub hl [3, 4, 5, 6, 7, 8, 9, 10, 1, 0] rfl, hP.sub [0, 1, 2, 3, 4, 5, 6] rfl, hD.sub [0, 1, 2, 3, 4, 5, 6] (by decide +kernel) rfl, hS⟩ (by show pn.toInt - v74.toInt < _; omega)
                      · skip
                        have f75 := i_nle c72
                        refine lv_iconst (v := 1) hx hb dX11_ownerOf_140 (by decide) ?_
                        refine lv_goto (tgt := 145) hx hb dX11_ownerOf_141 (by decide) ?_
                        refine lv_istore (lv' := [(11, .int 1), (0, .ref (md 64)), (1, .int k), (2, .int d), (3, .int n), (4, .int q27_4), (5, .int q27_5), (6, .long q27_6), (8, .int q27_8), (9, .int q39_9), (10, .int q39_10)]) hx hb dX11_ownerOf_145 hl (by decide) rfl (fun ls hl => ?_)
                        refine lv_iload hx hb dX11_ownerOf_147 (lv_at hl 0 rfl) ?_
                        refine lv_if_eq (tgt := 157) hx hb dX11_ownerOf_149 (by decide) (fun c => absurd c (by decide)) (fun _ => ?_)
                        refine lv_iload hx hb dX11_ownerOf_152 (lv_at hl 10 rfl) ?_
                        refine lv_goto (tgt := 159) hx hb dX11_ownerOf_154 (by decide) ?_
                        refine lv_istore (lv' := [(9, .int q39_10), (11, .int 1), (0, .ref (md 64)), (1, .int k), (2, .int d), (3, .int n), (4, .int q27_4), (5, .int q27_5), (6, .long q27_6), (8, .int q27_8), (10, .int q39_10)]) hx hb dX11_ownerOf_159 hl (by decide) rfl (fun ls hl => ?_)
                        obtain ⟨v76, ev76⟩ : ∃ y : Int32, y = q39_10 + 1 := ⟨_, rfl⟩
                        try have tv76 : v76.toInt = q39_10.toInt + 1 := by rw [ev76]; exact (i_add (x := q39_10) (y := (1 : Int32)) (by rw [k1]; omega) (by rw [k1]; omega)).trans (by rw [k1])
                        refine lv_iinc (v := v76) (lv' := [(10, .int v76), (9, .int q39_10), (11, .int 1), (0, .ref (md 64)), (1, .int k), (2, .int d), (3, .int n), (4, .int q27_4), (5, .int q27_5), (6, .long q27_6), (8, .int q27_8)]) hx hb dX11_ownerOf_161 hl (k := 10) rfl (by rw [ev76]; rfl) (by decide) rfl (fun ls hl => ?_)
                        refine lv_goto (tgt := 39) hx hb dX11_ownerOf_164 (by decide) ?_
                        have clk8 := i_cl (x := q39_10) (by omega)
                        have clk9 := i_cl (x := v76) (by omega)
                        have ek9 : v76.toNatClampNeg = q39_10.toNatClampNeg + 1 := by omega
                        have nk9 : nI q39_10.toNatClampNeg = q39_10 := i_nI (by omega)
                        exact ih16 (q39_10, v76) ls H locs ⟨(by omega), (by omega), (by omega), (by first | exact g14 | exact fun _ => (by assumption)), (by rw [ek9, nxV_s, nk9, ← g15]; split <;> first | rfl | (exfalso; omega) | (rename_i z9; exact absurd z9.2.2.1 hb9) | (rename_i z9; exact absurd ⟨by omega, by omega, hb9, by omega⟩ z9)), lv_sub hl [3, 4, 5, 6, 7, 8, 9, 10, 1, 0] rfl, hP.sub [0, 1, 2, 3, 4, 5, 6] rfl, hD.sub [0, 1, 2, 3, 4, 5, 6] (by decide +kernel) rfl, hS⟩ (by show pn.toInt - v76.toInt < _; omega)

set_option maxHeartbeats 4000000 in
set_option maxRecDepth 100000 in
theorem ct_X11_owner (l : Launch) (D : va_G) (cI cY cJ cQ : ClassId) (sz : Nat) (md : Nat → Nat) (sd : Int32) (mth mst hn cn pn mq gn mln mnn ln mlt msz mcu mtk mfr mti mfa mfb an un lc td mtn : Int32) (fo pk pf po pd pe : Nat → Int32) (k : Int32) (d : Int32) (n : Int32)  (h1 : 0 ≤ cn.toInt) (h2 : cn.toInt ≤ 12) (h3 : 0 ≤ pn.toInt) (h4 : pn.toInt ≤ 40)  : Met l yX11_owner wsX11_owner ({ frames := 2, cells := 0, slots := 0, locals := 46 }) (cPre D (ty4 cI cY cJ cQ) [(moC md sd mth mst hn cn pn mq gn mln mnn ln mlt msz mcu mtk mfr mti mfa mfb an un lc td mtn), (aI cI (md 16) 12 fo), (aI cI (md 19) 40 pk), (aI cI (md 20) 40 pf), (aI cI (md 21) 40 po), (aI cI (md 22) 40 pd), (aI cI (md 23) 40 pe)] sz [.ref (md 64), .int k, .int d, .int n]) (va_Qi (fun (r : Int32) (u : Int32) => r = sm_owner cn pn fo pk pf po pd pe k d n) (cB D (ty4 cI cY cJ cQ) (fun (u : Int32) => [(moC md sd 0 mst hn cn pn u gn mln mnn ln mlt msz mcu mtk mfr mti mfa mfb an un lc td mtn), (aI cI (md 16) 12 fo), (aI cI (md 19) 40 pk), (aI cI (md 20) 40 pf), (aI cI (md 21) 40 po), (aI cI (md 22) 40 pd), (aI cI (md 23) 40 pe)]) (va_A [(moC md sd mth mst hn cn pn mq gn mln mnn ln mlt msz mcu mtk mfr mti mfa mfb an un lc td mtn), (aI cI (md 16) 12 fo), (aI cI (md 19) 40 pk), (aI cI (md 20) 40 pf), (aI cI (md 21) 40 po), (aI cI (md 22) 40 pd), (aI cI (md 23) 40 pe)] sz)) (va_A [(moC md sd mth mst hn cn pn mq gn mln mnn ln mlt msz mcu mtk mfr mti mfa mfb an un lc td mtn), (aI cI (md 16) 12 fo), (aI cI (md 19) 40 pk), (aI cI (md 20) 40 pf), (aI cI (md 21) 40 po), (aI cI (md 22) 40 pd), (aI cI (md 23) 40 pe)] sz)) 0 0 (va_A [(moC md sd mth mst hn cn pn mq gn mln mnn ln mlt msz mcu mtk mfr mti mfa mfb an un lc td mtn), (aI cI (md 16) 12 fo), (aI cI (md 19) 40 pk), (aI cI (md 20) 40 pf), (aI cI (md 21) 40 po), (aI cI (md 22) 40 pd), (aI cI (md 23) 40 pe)] sz) := by
  refine Met.ofW (cc := cX11_owner) (maxL := 4) (ret := (some .int)) (by decide) rfl ?_
  intro p e s m args below meth c s₁ B hml hv
  obtain ⟨rfl, hsz, hP, hK, hD0, hN⟩ := hv
  have hx := B.exec
  have hb := B.bytes
  have hr := B.returns
  have hts := atoms_spec (ws := wsX11_owner) B.pre
  have hown : s.vm.findClass RX11 = some m.cls := findClass_of_methodNamed B.named
  have hlocks := B.notSynchronized
  subst hsz
  have hD := hD0.self (sz := s.heap.size)
  generalize hAe : va_A [(moC md sd mth mst hn cn pn mq gn mln mnn ln mlt msz mcu mtk mfr mti mfa mfb an un lc td mtn), (aI cI (md 16) 12 fo), (aI cI (md 19) 40 pk), (aI cI (md 20) 40 pf), (aI cI (md 21) 40 po), (aI cI (md 22) 40 pd), (aI cI (md 23) 40 pe)] s.heap.size = A at hD ⊢
  have hA : ∀ q : Nat, s.heap.size ≤ q → A q := fun q h => by rw [← hAe]; exact Or.inr h
  have hS : va_S A s.heap s.heap [] := va_S.rf
  have hP : va_P D vwCl [(moC md sd mth mst hn cn pn mq gn mln mnn ln mlt msz mcu mtk mfr mti mfa mfb an un lc td mtn), (aI cI (md 16) 12 fo), (aI cI (md 19) 40 pk), (aI cI (md 20) 40 pf), (aI cI (md 21) 40 po), (aI cI (md 22) 40 pd), (aI cI (md 23) 40 pe)] s.heap := hP
  have hl := lv_entry ([.ref (md 64), .int k, .int d, .int n]) (n := 4) (Nat.le_of_ble_eq_true rfl)
  rw [lg_entry_eq]
  generalize (lg_sl ([.ref (md 64), .int k, .int d, .int n]) ++ List.replicate (4 - (lg_sl ([.ref (md 64), .int k, .int d, .int n])).length) Slot.unset).toArray = ls at hl ⊢
  have hl : lv_has ls 4 [(0, .ref (md 64)), (1, .int k), (2, .int d), (3, .int n)] := hl
  have k0 : (0 : Int32).toInt = 0 := by decide
  refine lv_aload_n hx hb dX11_owner_0 rfl (lv_at hl 0 rfl) ?_
  refine lv_iconst (v := 0) hx hb dX11_owner_1 (by decide) ?_
  refine va_put (D := D) (ci := 11) (v := .int 0) (ty := .int) (C := RX11) (T := TX11) (N := 64) hx hb hts inX11_owner_X11 tyX11 tyX11_ok nmX11 hown hK hP hD hS 0 rfl rfl 0 (by decide) (hts (Cond.fieldLink RX11 1 "PortRoomsModel" "thrown" "I") (wm_t (wm_l (wm_i 0 rfl)))) (fun _ h9 => h9) rfl (tyX11_ok 0 (by decide)) rfl rfl (Nat.le_of_ble_eq_true rfl) dX11_owner_2 (fun H locs => ?_)
  clear hP hD hS
  intro hP hD hS
  replace hP : va_P D vwCl [(moC md sd (0) mst hn cn pn mq gn mln mnn ln mlt msz mcu mtk mfr mti mfa mfb an un lc td mtn), (aI cI (md 16) 12 fo), (aI cI (md 19) 40 pk), (aI cI (md 20) 40 pf), (aI cI (md 21) 40 po), (aI cI (md 22) 40 pd), (aI cI (md 23) 40 pe)] H := hP
  replace hD : va_D A [(moC md sd (0) mst hn cn pn mq gn mln mnn ln mlt msz mcu mtk mfr mti mfa mfb an un lc td mtn), (aI cI (md 16) 12 fo), (aI cI (md 19) 40 pk), (aI cI (md 20) 40 pf), (aI cI (md 21) 40 po), (aI cI (md 22) 40 pd), (aI cI (md 23) 40 pe)] := hD
  refine lv_aload_n hx hb dX11_owner_5 rfl (lv_at hl 0 rfl) ?_
  refine lv_iload_n hx hb dX11_owner_6 rfl (lv_at hl 1 rfl) ?_
  refine st_i1 (va_runV (C := RX11) (As := [.int k]) (rest := []) ⟨hx, hb, hml, hown, hts⟩ (ct_X11_isCrate l D cI cY cJ cQ _ md sd 0 mst hn cn pn mq gn mln mnn ln mlt msz mcu mtk mfr mti mfa mfb an un lc td mtn k h1 h2) (cwV 1 hts gX11_owner_X11_isCrate rfl rfl rfl ⟨rfl, cdX11_isCrate⟩ ⟨Nat.le_of_ble_eq_true rfl, Nat.le_of_ble_eq_true rfl⟩) (cPreV (hP.sub [0] rfl) hK (hD.sub [0] (by decide +kernel) rfl) hN (ci := 11) (q0 := 0) rfl rfl) rfl rfl hl.1 rfl (lv_room (Nat.le_of_ble_eq_true rfl)) dX11_owner_7 ⟨Nat.le_of_ble_eq_true rfl, Nat.le_of_ble_eq_true rfl⟩) hP hD hS hA [0] rfl (fun _ => rfl) (fun r3 u1 H locs hw2 => ?_)
  clear hP hS
  intro hP hS
  replace hw2 : r3 = if 0 ≤ k.toInt ∧ k.toInt < cn.toInt then 1 else 0 := hw2
  refine lv_if_eq (tgt := 27) hx hb dX11_owner_10 (by decide) (fun c4 => ?_) (fun c4 => ?_)
  · skip
    have f5 := bo_f hw2 c4
    refine lv_ldc hx hb hown (hts (Cond.constant RX11 157 (-1000001)) (wm_t (wm_l (wm_i 1 rfl)))) dX11_owner_27 ?_
    refine lv_goto (tgt := 39) hx hb dX11_owner_29 (by decide) ?_
    have hP9 := hP
    have hD9 := hD
    exact W.iret (v := (-1000001)) hx hb hr (fun t ht hW => ⟨⟨(-1000001), mq, rfl, (by unfold sm_owner; rw [if_neg (by omega)]), by rw [ht]; exact hP9, va_K.moved hW.alike hK, hD9⟩, hS.F ht⟩) hS.2.2 dX11_owner_39
  · skip
    have f6 := bo_t hw2 c4
    refine lv_iload_n hx hb dX11_owner_13 rfl (lv_at hl 2 rfl) ?_
    refine st_i1 (va_runS (As := [.int d]) (rest := []) ⟨hx, hb, hml, hown, hts⟩ (ct_X11_isDay l D cI cY cJ cQ _ d) (va_cwS 1 hts gX11_owner_X11_isDay rfl rfl rfl cdX11_isDay ⟨Nat.le_of_ble_eq_true rfl, Nat.le_of_ble_eq_true rfl⟩) (cPreS (hP.sub [] rfl) hK (hD.sub [] (by decide +kernel) rfl) hN) rfl rfl hl.1 rfl (lv_room (Nat.le_of_ble_eq_true rfl)) dX11_owner_14 ⟨Nat.le_of_ble_eq_true rfl, Nat.le_of_ble_eq_true rfl⟩) hP hD hS hA [] rfl (fun _ => rfl) (fun r9 u7 H locs hw8 => ?_)
    clear hP hS
    intro hP hS
    replace hw8 : r9 = if 0 ≤ d.toInt ∧ d.toInt ≤ 9999 then 1 else 0 := hw8
    refine lv_if_eq (tgt := 27) hx hb dX11_owner_17 (by decide) (fun c10 => ?_) (fun c10 => ?_)
    · skip
      have f11 := bo_f hw8 c10
      refine lv_ldc hx hb hown (hts (Cond.constant RX11 157 (-1000001)) (wm_t (wm_l (wm_i 1 rfl)))) dX11_owner_27 ?_
      refine lv_goto (tgt := 39) hx hb dX11_owner_29 (by decide) ?_
      have hP9 := hP
      have hD9 := hD
      exact W.iret (v := (-1000001)) hx hb hr (fun t ht hW => ⟨⟨(-1000001), mq, rfl, (by unfold sm_owner; rw [if_neg (by omega)]), by rw [ht]; exact hP9, va_K.moved hW.alike hK, hD9⟩, hS.F ht⟩) hS.2.2 dX11_owner_39
    · skip
      have f12 := bo_t hw8 c10
      refine lv_iload_n hx hb dX11_owner_20 rfl (lv_at hl 3 rfl) ?_
      refine st_i1 (va_runS (As := [.int n]) (rest := []) ⟨hx, hb, hml, hown, hts⟩ (ct_X11_isDay l D cI cY cJ cQ _ n) (va_cwS 1 hts gX11_owner_X11_isDay rfl rfl rfl cdX11_isDay ⟨Nat.le_of_ble_eq_true rfl, Nat.le_of_ble_eq_true rfl⟩) (cPreS (hP.sub [] rfl) hK (hD.sub [] (by decide +kernel) rfl) hN) rfl rfl hl.1 rfl (lv_room (Nat.le_of_ble_eq_true rfl)) dX11_owner_21 ⟨Nat.le_of_ble_eq_true rfl, Nat.le_of_ble_eq_true rfl⟩) hP hD hS hA [] rfl (fun _ => rfl) (fun r15 u13 H locs hw14 => ?_)
      clear hP hS
      intro hP hS
      replace hw14 : r15 = if 0 ≤ n.toInt ∧ n.toInt ≤ 9999 then 1 else 0 := hw14
      refine lv_if_ne (tgt := 32) hx hb dX11_owner_24 (by decide) (fun c16 => ?_) (fun c16 => ?_)
      · skip
        have f17 := bo_t hw14 c16
        refine lv_aload_n hx hb dX11_owner_32 rfl (lv_at hl 0 rfl) ?_
        refine lv_iload_n hx hb dX11_owner_33 rfl (lv_at hl 1 rfl) ?_
        refine lv_iload_n hx hb dX11_owner_34 rfl (lv_at hl 2 rfl) ?_
        refine lv_iload_n hx hb dX11_owner_35 rfl (lv_at hl 3 rfl) ?_
        refine st_i (wr := []) (va_runV (C := RX11) (As := [.int k, .int d, .int n]) (rest := []) ⟨hx, hb, hml, hown, hts⟩ (ct_X11_ownerOf l D cI cY cJ cQ _ md sd 0 mst hn cn pn mq gn mln mnn ln mlt msz mcu mtk mfr mti mfa mfb an un lc td mtn fo pk pf po pd pe k d n (by omega) (by omega) h3 h4) (cwV 3 hts gX11_owner_X11_ownerOf rfl rfl rfl ⟨rfl, cdX11_ownerOf⟩ ⟨Nat.le_of_ble_eq_true rfl, Nat.le_of_ble_eq_true rfl⟩) (cPreV (hP.sub [0, 1, 2, 3, 4, 5, 6] rfl) hK (hD.sub [0, 1, 2, 3, 4, 5, 6] (by decide +kernel) rfl) hN (ci := 11) (q0 := 0) rfl rfl) rfl rfl hl.1 rfl (lv_room (Nat.le_of_ble_eq_true rfl)) dX11_owner_36 ⟨Nat.le_of_ble_eq_true rfl, Nat.le_of_ble_eq_true rfl⟩) hP hD hS hA [0, 1, 2, 3, 4, 5, 6] [] rfl rfl (by decide +kernel) (by decide +kernel) (fun r20 u18 H locs hw19 => ?_)
        clear hP hD hS
        intro hP hD hS
        replace hw19 : (r20, u18) = ooV pk pf po pd pe pn.toNatClampNeg k d n 41 0 (fo k.toNatClampNeg) (fo k.toNatClampNeg) 0 := hw19
        replace hP : va_P D vwCl [(moC md sd (0) mst hn cn pn u18 gn mln mnn ln mlt msz mcu mtk mfr mti mfa mfb an un lc td mtn), (aI cI (md 16) 12 fo), (aI cI (md 19) 40 pk), (aI cI (md 20) 40 pf), (aI cI (md 21) 40 po), (aI cI (md 22) 40 pd), (aI cI (md 23) 40 pe)] H := hP
        replace hD : va_D A [(moC md sd (0) mst hn cn pn u18 gn mln mnn ln mlt msz mcu mtk mfr mti mfa mfb an un lc td mtn), (aI cI (md 16) 12 fo), (aI cI (md 19) 40 pk), (aI cI (md 20) 40 pf), (aI cI (md 21) 40 po), (aI cI (md 22) 40 pd), (aI cI (md 23) 40 pe)] := hD
        have hP9 := hP
        have hD9 := hD
        exact W.iret (v := r20) hx hb hr (fun t ht hW => ⟨⟨r20, u18, rfl, (by unfold sm_owner; rw [if_pos (by omega), ← hw19]), by rw [ht]; exact hP9, va_K.moved hW.alike hK, hD9⟩, hS.F ht⟩) hS.2.2 dX11_owner_39
      · skip
        have f21 := bo_f hw14 c16
        refine lv_ldc hx hb hown (hts (Cond.constant RX11 157 (-1000001)) (wm_t (wm_l (wm_i 1 rfl)))) dX11_owner_27 ?_
        refine lv_goto (tgt := 39) hx hb dX11_owner_29 (by decide) ?_
        have hP9 := hP
        have hD9 := hD
        exact W.iret (v := (-1000001)) hx hb hr (fun t ht hW => ⟨⟨(-1000001), mq, rfl, (by unfold sm_owner; rw [if_neg (by omega)]), by rw [ht]; exact hP9, va_K.moved hW.alike hK, hD9⟩, hS.F ht⟩) hS.2.2 dX11_owner_39

set_option maxHeartbeats 4000000 in
set_option maxRecDepth 100000 in
theorem ct_X11_quarrels (l : Launch) (D : va_G) (cI cY cJ cQ : ClassId) (sz : Nat) (md : Nat → Nat) (sd : Int32) (mth mst hn cn pn mq gn mln mnn ln mlt msz mcu mtk mfr mti mfa mfb an un lc td mtn : Int32) (fo pk pf po pd pe : Nat → Int32) (k : Int32) (n : Int32)  (h1 : 0 ≤ cn.toInt) (h2 : cn.toInt ≤ 12) (h3 : 0 ≤ pn.toInt) (h4 : pn.toInt ≤ 40)  : Met l yX11_quarrels wsX11_quarrels ({ frames := 2, cells := 0, slots := 0, locals := 46 }) (cPre D (ty4 cI cY cJ cQ) [(moC md sd mth mst hn cn pn mq gn mln mnn ln mlt msz mcu mtk mfr mti mfa mfb an un lc td mtn), (aI cI (md 16) 12 fo), (aI cI (md 19) 40 pk), (aI cI (md 20) 40 pf), (aI cI (md 21) 40 po), (aI cI (md 22) 40 pd), (aI cI (md 23) 40 pe)] sz [.ref (md 64), .int k, .int n]) (va_Qi (fun (r : Int32) (u : Int32) => r = sm_quarrels cn pn fo pk pf po pd pe k n) (cB D (ty4 cI cY cJ cQ) (fun (u : Int32) => [(moC md sd 0 mst hn cn pn u gn mln mnn ln mlt msz mcu mtk mfr mti mfa mfb an un lc td mtn), (aI cI (md 16) 12 fo), (aI cI (md 19) 40 pk), (aI cI (md 20) 40 pf), (aI cI (md 21) 40 po), (aI cI (md 22) 40 pd), (aI cI (md 23) 40 pe)]) (va_A [(moC md sd mth mst hn cn pn mq gn mln mnn ln mlt msz mcu mtk mfr mti mfa mfb an un lc td mtn), (aI cI (md 16) 12 fo), (aI cI (md 19) 40 pk), (aI cI (md 20) 40 pf), (aI cI (md 21) 40 po), (aI cI (md 22) 40 pd), (aI cI (md 23) 40 pe)] sz)) (va_A [(moC md sd mth mst hn cn pn mq gn mln mnn ln mlt msz mcu mtk mfr mti mfa mfb an un lc td mtn), (aI cI (md 16) 12 fo), (aI cI (md 19) 40 pk), (aI cI (md 20) 40 pf), (aI cI (md 21) 40 po), (aI cI (md 22) 40 pd), (aI cI (md 23) 40 pe)] sz)) 0 0 (va_A [(moC md sd mth mst hn cn pn mq gn mln mnn ln mlt msz mcu mtk mfr mti mfa mfb an un lc td mtn), (aI cI (md 16) 12 fo), (aI cI (md 19) 40 pk), (aI cI (md 20) 40 pf), (aI cI (md 21) 40 po), (aI cI (md 22) 40 pd), (aI cI (md 23) 40 pe)] sz) := by
  refine Met.ofW (cc := cX11_quarrels) (maxL := 4) (ret := (some .int)) (by decide) rfl ?_
  intro p e s m args below meth c s₁ B hml hv
  obtain ⟨rfl, hsz, hP, hK, hD0, hN⟩ := hv
  have hx := B.exec
  have hb := B.bytes
  have hr := B.returns
  have hts := atoms_spec (ws := wsX11_quarrels) B.pre
  have hown : s.vm.findClass RX11 = some m.cls := findClass_of_methodNamed B.named
  have hlocks := B.notSynchronized
  subst hsz
  have hD := hD0.self (sz := s.heap.size)
  generalize hAe : va_A [(moC md sd mth mst hn cn pn mq gn mln mnn ln mlt msz mcu mtk mfr mti mfa mfb an un lc td mtn), (aI cI (md 16) 12 fo), (aI cI (md 19) 40 pk), (aI cI (md 20) 40 pf), (aI cI (md 21) 40 po), (aI cI (md 22) 40 pd), (aI cI (md 23) 40 pe)] s.heap.size = A at hD ⊢
  have hA : ∀ q : Nat, s.heap.size ≤ q → A q := fun q h => by rw [← hAe]; exact Or.inr h
  have hS : va_S A s.heap s.heap [] := va_S.rf
  have hP : va_P D vwCl [(moC md sd mth mst hn cn pn mq gn mln mnn ln mlt msz mcu mtk mfr mti mfa mfb an un lc td mtn), (aI cI (md 16) 12 fo), (aI cI (md 19) 40 pk), (aI cI (md 20) 40 pf), (aI cI (md 21) 40 po), (aI cI (md 22) 40 pd), (aI cI (md 23) 40 pe)] s.heap := hP
  have hl := lv_entry ([.ref (md 64), .int k, .int n]) (n := 4) (Nat.le_of_ble_eq_true rfl)
  rw [lg_entry_eq]
  generalize (lg_sl ([.ref (md 64), .int k, .int n]) ++ List.replicate (4 - (lg_sl ([.ref (md 64), .int k, .int n])).length) Slot.unset).toArray = ls at hl ⊢
  have hl : lv_has ls 4 [(0, .ref (md 64)), (1, .int k), (2, .int n)] := hl
  have k0 : (0 : Int32).toInt = 0 := by decide
  refine lv_aload_n hx hb dX11_quarrels_0 rfl (lv_at hl 0 rfl) ?_
  refine lv_iconst (v := 0) hx hb dX11_quarrels_1 (by decide) ?_
  refine va_put (D := D) (ci := 11) (v := .int 0) (ty := .int) (C := RX11) (T := TX11) (N := 64) hx hb hts inX11_quarrels_X11 tyX11 tyX11_ok nmX11 hown hK hP hD hS 0 rfl rfl 0 (by decide) (hts (Cond.fieldLink RX11 1 "PortRoomsModel" "thrown" "I") (wm_t (wm_l (wm_i 0 rfl)))) (fun _ h9 => h9) rfl (tyX11_ok 0 (by decide)) rfl rfl (Nat.le_of_ble_eq_true rfl) dX11_quarrels_2 (fun H locs => ?_)
  clear hP hD hS
  intro hP hD hS
  replace hP : va_P D vwCl [(moC md sd (0) mst hn cn pn mq gn mln mnn ln mlt msz mcu mtk mfr mti mfa mfb an un lc td mtn), (aI cI (md 16) 12 fo), (aI cI (md 19) 40 pk), (aI cI (md 20) 40 pf), (aI cI (md 21) 40 po), (aI cI (md 22) 40 pd), (aI cI (md 23) 40 pe)] H := hP
  replace hD : va_D A [(moC md sd (0) mst hn cn pn mq gn mln mnn ln mlt msz mcu mtk mfr mti mfa mfb an un lc td mtn), (aI cI (md 16) 12 fo), (aI cI (md 19) 40 pk), (aI cI (md 20) 40 pf), (aI cI (md 21) 40 po), (aI cI (md 22) 40 pd), (aI cI (md 23) 40 pe)] := hD
  refine lv_aload_n hx hb dX11_quarrels_5 rfl (lv_at hl 0 rfl) ?_
  refine lv_iload_n hx hb dX11_quarrels_6 rfl (lv_at hl 1 rfl) ?_
  refine st_i1 (va_runV (C := RX11) (As := [.int k]) (rest := []) ⟨hx, hb, hml, hown, hts⟩ (ct_X11_isCrate l D cI cY cJ cQ _ md sd 0 mst hn cn pn mq gn mln mnn ln mlt msz mcu mtk mfr mti mfa mfb an un lc td mtn k h1 h2) (cwV 1 hts gX11_quarrels_X11_isCrate rfl rfl rfl ⟨rfl, cdX11_isCrate⟩ ⟨Nat.le_of_ble_eq_true rfl, Nat.le_of_ble_eq_true rfl⟩) (cPreV (hP.sub [0] rfl) hK (hD.sub [0] (by decide +kernel) rfl) hN (ci := 11) (q0 := 0) rfl rfl) rfl rfl hl.1 rfl (lv_room (Nat.le_of_ble_eq_true rfl)) dX11_quarrels_7 ⟨Nat.le_of_ble_eq_true rfl, Nat.le_of_ble_eq_true rfl⟩) hP hD hS hA [0] rfl (fun _ => rfl) (fun r3 u1 H locs hw2 => ?_)
  clear hP hS
  intro hP hS
  replace hw2 : r3 = if 0 ≤ k.toInt ∧ k.toInt < cn.toInt then 1 else 0 := hw2
  refine lv_if_eq (tgt := 20) hx hb dX11_quarrels_10 (by decide) (fun c4 => ?_) (fun c4 => ?_)
  · skip
    have f5 := bo_f hw2 c4
    refine lv_ldc hx hb hown (hts (Cond.constant RX11 157 (-1000001)) (wm_t (wm_l (wm_i 1 rfl)))) dX11_quarrels_20 ?_
    have hP9 := hP
    have hD9 := hD
    exact W.iret (v := (-1000001)) hx hb hr (fun t ht hW => ⟨⟨(-1000001), mq, rfl, (by unfold sm_quarrels; rw [if_neg (by omega)]), by rw [ht]; exact hP9, va_K.moved hW.alike hK, hD9⟩, hS.F ht⟩) hS.2.2 dX11_quarrels_22
  · skip
    have f6 := bo_t hw2 c4
    refine lv_iload_n hx hb dX11_quarrels_13 rfl (lv_at hl 2 rfl) ?_
    refine st_i1 (va_runS (As := [.int n]) (rest := []) ⟨hx, hb, hml, hown, hts⟩ (ct_X11_isDay l D cI cY cJ cQ _ n) (va_cwS 1 hts gX11_quarrels_X11_isDay rfl rfl rfl cdX11_isDay ⟨Nat.le_of_ble_eq_true rfl, Nat.le_of_ble_eq_true rfl⟩) (cPreS (hP.sub [] rfl) hK (hD.sub [] (by decide +kernel) rfl) hN) rfl rfl hl.1 rfl (lv_room (Nat.le_of_ble_eq_true rfl)) dX11_quarrels_14 ⟨Nat.le_of_ble_eq_true rfl, Nat.le_of_ble_eq_true rfl⟩) hP hD hS hA [] rfl (fun _ => rfl) (fun r9 u7 H locs hw8 => ?_)
    clear hP hS
    intro hP hS
    replace hw8 : r9 = if 0 ≤ n.toInt ∧ n.toInt ≤ 9999 then 1 else 0 := hw8
    refine lv_if_ne (tgt := 23) hx hb dX11_quarrels_17 (by decide) (fun c10 => ?_) (fun c10 => ?_)
    · skip
      have f11 := bo_t hw8 c10
      refine lv_aload_n hx hb dX11_quarrels_23 rfl (lv_at hl 0 rfl) ?_
      refine lv_iload_n hx hb dX11_quarrels_24 rfl (lv_at hl 1 rfl) ?_
      refine lv_iconst (v := 0) hx hb dX11_quarrels_25 (by decide) ?_
      refine lv_iload_n hx hb dX11_quarrels_26 rfl (lv_at hl 2 rfl) ?_
      refine st_i (wr := []) (va_runV (C := RX11) (As := [.int k, .int 0, .int n]) (rest := []) ⟨hx, hb, hml, hown, hts⟩ (ct_X11_ownerOf l D cI cY cJ cQ _ md sd 0 mst hn cn pn mq gn mln mnn ln mlt msz mcu mtk mfr mti mfa mfb an un lc td mtn fo pk pf po pd pe k (0 : Int32) n (by omega) (by omega) h3 h4) (cwV 3 hts gX11_quarrels_X11_ownerOf rfl rfl rfl ⟨rfl, cdX11_ownerOf⟩ ⟨Nat.le_of_ble_eq_true rfl, Nat.le_of_ble_eq_true rfl⟩) (cPreV (hP.sub [0, 1, 2, 3, 4, 5, 6] rfl) hK (hD.sub [0, 1, 2, 3, 4, 5, 6] (by decide +kernel) rfl) hN (ci := 11) (q0 := 0) rfl rfl) rfl rfl hl.1 rfl (lv_room (Nat.le_of_ble_eq_true rfl)) dX11_quarrels_27 ⟨Nat.le_of_ble_eq_true rfl, Nat.le_of_ble_eq_true rfl⟩) hP hD hS hA [0, 1, 2, 3, 4, 5, 6] [] rfl rfl (by decide +kernel) (by decide +kernel) (fun r14 u12 H locs hw13 => ?_)
      clear hP hD hS
      intro hP hD hS
      replace hw13 : (r14, u12) = ooV pk pf po pd pe pn.toNatClampNeg k (0 : Int32) n 41 0 (fo k.toNatClampNeg) (fo k.toNatClampNeg) 0 := hw13
      replace hP : va_P D vwCl [(moC md sd (0) mst hn cn pn u12 gn mln mnn ln mlt msz mcu mtk mfr mti mfa mfb an un lc td mtn), (aI cI (md 16) 12 fo), (aI cI (md 19) 40 pk), (aI cI (md 20) 40 pf), (aI cI (md 21) 40 po), (aI cI (md 22) 40 pd), (aI cI (md 23) 40 pe)] H := hP
      replace hD : va_D A [(moC md sd (0) mst hn cn pn u12 gn mln mnn ln mlt msz mcu mtk mfr mti mfa mfb an un lc td mtn), (aI cI (md 16) 12 fo), (aI cI (md 19) 40 pk), (aI cI (md 20) 40 pf), (aI cI (md 21) 40 po), (aI cI (md 22) 40 pd), (aI cI (md 23) 40 pe)] := hD
      refine lv_istore_n (lv' := [(3, .int r14), (0, .ref (md 64)), (1, .int k), (2, .int n)]) hx hb dX11_quarrels_30 rfl hl (by decide) rfl (fun ls hl => ?_)
      refine lv_aload_n hx hb dX11_quarrels_31 rfl (lv_at hl 1 rfl) ?_
      refine va_get (D := D) (ci := 11) (v := .int u12) (C := RX11) (T := TX11) (N := 64) hx hb hts inX11_quarrels_X11 hown hK hP 0 rfl rfl 24 (by decide) (hts (Cond.fieldLink RX11 225 "PortRoomsModel" "quarrelling" "I") (wm_t (wm_l (wm_i 2 rfl)))) (fun _ h9 => h9) rfl dX11_quarrels_32 ?_
      have hP9 := hP
      have hD9 := hD
      exact W.iret (v := u12) hx hb hr (fun t ht hW => ⟨⟨u12, u12, rfl, (by unfold sm_quarrels; rw [if_pos (by omega), ← hw13]), by rw [ht]; exact hP9, va_K.moved hW.alike hK, hD9⟩, hS.F ht⟩) hS.2.2 dX11_quarrels_35
    · skip
      have f15 := bo_f hw8 c10
      refine lv_ldc hx hb hown (hts (Cond.constant RX11 157 (-1000001)) (wm_t (wm_l (wm_i 1 rfl)))) dX11_quarrels_20 ?_
      have hP9 := hP
      have hD9 := hD
      exact W.iret (v := (-1000001)) hx hb hr (fun t ht hW => ⟨⟨(-1000001), mq, rfl, (by unfold sm_quarrels; rw [if_neg (by omega)]), by rw [ht]; exact hP9, va_K.moved hW.alike hK, hD9⟩, hS.F ht⟩) hS.2.2 dX11_quarrels_22
