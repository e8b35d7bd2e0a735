section
theorem cdX11_bits : yX11_bits.cls ≠ "java/lang/invoke/MethodHandle" ∧ yX11_bits.cls ≠ "java/lang/invoke/VarHandle" ∧ (parseMethodDescriptor yX11_bits.desc).map (fun d => d.parameters.length) = some 1 := by decide +kernel
theorem Gd_X11_bits : gdA wsX11_bits := gd_cons (by decide +kernel) (gd_all (ws := []) rfl)
theorem inX11_verdict_X11 : ∀ w ∈ u_ws RX11 TX11 64, w ∈ wsX11_verdict := fun _ h => (List.mem_cons_of_mem _ (List.mem_append_right _ (List.mem_append_left _ (List.mem_append_left _ h))))
theorem ggX11_verdict_X11_isCrate : GoodIn wsX11_verdict wsX11_isCrate := goodIn_s (fun _ h => wm_t (wm_r (wm_l (wm_r h)))) Gd_X11_isCrate
theorem gX11_verdict_X11_isCrate : GoodIn wsX11_verdict (wsV RX11 219 RX11 yX11_isCrate wsX11_isCrate) := goodIn_V (own := RX11) (idx := 219) (C := RX11) (y := yX11_isCrate) (wm_t (wm_l (wm_i 8 rfl))) (wm_t (wm_l (wm_i 9 rfl))) (wm_t (wm_l (wm_i 10 rfl))) (wm_t (wm_l (wm_i 11 rfl))) ggX11_verdict_X11_isCrate
theorem ggX11_verdict_X11_bits : GoodIn wsX11_verdict wsX11_bits := goodIn_s (fun _ h => wm_t (wm_r (wm_r h))) Gd_X11_bits
theorem gX11_verdict_X11_bits : GoodIn wsX11_verdict (va_wsS RX11 357 yX11_bits wsX11_bits) := goodIn_S (own := RX11) (idx := 357) (y := yX11_bits) (wm_t (wm_l (wm_i 12 rfl))) (wm_t (wm_l (wm_i 13 rfl))) (wm_t (wm_l (wm_i 11 rfl))) ggX11_verdict_X11_bits
theorem dX11_verdict_all0 : decode cX11_verdict 0 = .ok (.aload_n 0, 1) ∧ decode cX11_verdict 1 = .ok (.iconst 0, 1) ∧ decode cX11_verdict 2 = .ok (.putfield 1, 3) ∧ decode cX11_verdict 5 = .ok (.aload_n 0, 1) ∧ decode cX11_verdict 6 = .ok (.iload_n 1, 1) ∧ decode cX11_verdict 7 = .ok (.invokevirtual 219, 3) ∧ decode cX11_verdict 10 = .ok (.ifCond .ne 6, 3) ∧ decode cX11_verdict 13 = .ok (.ldc 157, 2) ∧ decode cX11_verdict 15 = .ok (.ireturn, 1) ∧ decode cX11_verdict 16 = .ok (.ldc 139, 2) ∧ decode cX11_verdict 18 = .ok (.istore_n 2, 1) ∧ decode cX11_verdict 19 = .ok (.iconst 0, 1) := by decide +kernel
theorem dX11_verdict_0 : decode cX11_verdict 0 = .ok (.aload_n 0, 1) := dX11_verdict_all0.1
theorem dX11_verdict_1 : decode cX11_verdict 1 = .ok (.iconst 0, 1) := dX11_verdict_all0.2.1
theorem dX11_verdict_2 : decode cX11_verdict 2 = .ok (.putfield 1, 3) := dX11_verdict_all0.2.2.1
theorem dX11_verdict_5 : decode cX11_verdict 5 = .ok (.aload_n 0, 1) := dX11_verdict_all0.2.2.2.1
theorem dX11_verdict_6 : decode cX11_verdict 6 = .ok (.iload_n 1, 1) := dX11_verdict_all0.2.2.2.2.1
theorem dX11_verdict_7 : decode cX11_verdict 7 = .ok (.invokevirtual 219, 3) := dX11_verdict_all0.2.2.2.2.2.1
theorem dX11_verdict_10 : decode cX11_verdict 10 = .ok (.ifCond .ne 6, 3) := dX11_verdict_all0.2.2.2.2.2.2.1
theorem dX11_verdict_13 : decode cX11_verdict 13 = .ok (.ldc 157, 2) := dX11_verdict_all0.2.2.2.2.2.2.2.1
theorem dX11_verdict_15 : decode cX11_verdict 15 = .ok (.ireturn, 1) := dX11_verdict_all0.2.2.2.2.2.2.2.2.1
theorem dX11_verdict_16 : decode cX11_verdict 16 = .ok (.ldc 139, 2) := dX11_verdict_all0.2.2.2.2.2.2.2.2.2.1
theorem dX11_verdict_18 : decode cX11_verdict 18 = .ok (.istore_n 2, 1) := dX11_verdict_all0.2.2.2.2.2.2.2.2.2.2.1
theorem dX11_verdict_19 : decode cX11_verdict 19 = .ok (.iconst 0, 1) := dX11_verdict_all0.2.2.2.2.2.2.2.2.2.2.2
theorem dX11_verdict_all1 : decode cX11_verdict 20 = .ok (.istore_n 3, 1) ∧ decode cX11_verdict 21 = .ok (.iload_n 3, 1) ∧ decode cX11_verdict 22 = .ok (.aload_n 0, 1) ∧ decode cX11_verdict 23 = .ok (.getfield 354, 3) ∧ decode cX11_verdict 26 = .ok (.if_icmp .ge 46, 3) ∧ decode cX11_verdict 29 = .ok (.aload_n 0, 1) ∧ decode cX11_verdict 30 = .ok (.getfield 111, 3) ∧ decode cX11_verdict 33 = .ok (.iload_n 3, 1) ∧ decode cX11_verdict 34 = .ok (.iaload, 1) ∧ decode cX11_verdict 35 = .ok (.iload_n 1, 1) ∧ decode cX11_verdict 36 = .ok (.if_icmp .ne 28, 3) ∧ decode cX11_verdict 39 = .ok (.iload_n 2, 1) := by decide +kernel
theorem dX11_verdict_20 : decode cX11_verdict 20 = .ok (.istore_n 3, 1) := dX11_verdict_all1.1
theorem dX11_verdict_21 : decode cX11_verdict 21 = .ok (.iload_n 3, 1) := dX11_verdict_all1.2.1
theorem dX11_verdict_22 : decode cX11_verdict 22 = .ok (.aload_n 0, 1) := dX11_verdict_all1.2.2.1
theorem dX11_verdict_23 : decode cX11_verdict 23 = .ok (.getfield 354, 3) := dX11_verdict_all1.2.2.2.1
theorem dX11_verdict_26 : decode cX11_verdict 26 = .ok (.if_icmp .ge 46, 3) := dX11_verdict_all1.2.2.2.2.1
theorem dX11_verdict_29 : decode cX11_verdict 29 = .ok (.aload_n 0, 1) := dX11_verdict_all1.2.2.2.2.2.1
theorem dX11_verdict_30 : decode cX11_verdict 30 = .ok (.getfield 111, 3) := dX11_verdict_all1.2.2.2.2.2.2.1
theorem dX11_verdict_33 : decode cX11_verdict 33 = .ok (.iload_n 3, 1) := dX11_verdict_all1.2.2.2.2.2.2.2.1
theorem dX11_verdict_34 : decode cX11_verdict 34 = .ok (.iaload, 1) := dX11_verdict_all1.2.2.2.2.2.2.2.2.1
theorem dX11_verdict_35 : decode cX11_verdict 35 = .ok (.iload_n 1, 1) := dX11_verdict_all1.2.2.2.2.2.2.2.2.2.1
theorem dX11_verdict_36 : decode cX11_verdict 36 = .ok (.if_icmp .ne 28, 3) := dX11_verdict_all1.2.2.2.2.2.2.2.2.2.2.1
theorem dX11_verdict_39 : decode cX11_verdict 39 = .ok (.iload_n 2, 1) := dX11_verdict_all1.2.2.2.2.2.2.2.2.2.2.2
theorem dX11_verdict_all2 : decode cX11_verdict 40 = .ok (.ldc 139, 2) ∧ decode cX11_verdict 42 = .ok (.if_icmp .eq 18, 3) ∧ decode cX11_verdict 45 = .ok (.aload_n 0, 1) ∧ decode cX11_verdict 46 = .ok (.getfield 114, 3) ∧ decode cX11_verdict 49 = .ok (.iload_n 3, 1) ∧ decode cX11_verdict 50 = .ok (.iaload, 1) ∧ decode cX11_verdict 51 = .ok (.aload_n 0, 1) ∧ decode cX11_verdict 52 = .ok (.getfield 114, 3) ∧ decode cX11_verdict 55 = .ok (.iload_n 2, 1) ∧ decode cX11_verdict 56 = .ok (.iaload, 1) ∧ decode cX11_verdict 57 = .ok (.if_icmp .ge 7, 3) ∧ decode cX11_verdict 60 = .ok (.iload_n 3, 1) := by decide +kernel
theorem dX11_verdict_40 : decode cX11_verdict 40 = .ok (.ldc 139, 2) := dX11_verdict_all2.1
theorem dX11_verdict_42 : decode cX11_verdict 42 = .ok (.if_icmp .eq 18, 3) := dX11_verdict_all2.2.1
theorem dX11_verdict_45 : decode cX11_verdict 45 = .ok (.aload_n 0, 1) := dX11_verdict_all2.2.2.1
theorem dX11_verdict_46 : decode cX11_verdict 46 = .ok (.getfield 114, 3) := dX11_verdict_all2.2.2.2.1
theorem dX11_verdict_49 : decode cX11_verdict 49 = .ok (.iload_n 3, 1) := dX11_verdict_all2.2.2.2.2.1
theorem dX11_verdict_50 : decode cX11_verdict 50 = .ok (.iaload, 1) := dX11_verdict_all2.2.2.2.2.2.1
theorem dX11_verdict_51 : decode cX11_verdict 51 = .ok (.aload_n 0, 1) := dX11_verdict_all2.2.2.2.2.2.2.1
theorem dX11_verdict_52 : decode cX11_verdict 52 = .ok (.getfield 114, 3) := dX11_verdict_all2.2.2.2.2.2.2.2.1
theorem dX11_verdict_55 : decode cX11_verdict 55 = .ok (.iload_n 2, 1) := dX11_verdict_all2.2.2.2.2.2.2.2.2.1
theorem dX11_verdict_56 : decode cX11_verdict 56 = .ok (.iaload, 1) := dX11_verdict_all2.2.2.2.2.2.2.2.2.2.1
theorem dX11_verdict_57 : decode cX11_verdict 57 = .ok (.if_icmp .ge 7, 3) := dX11_verdict_all2.2.2.2.2.2.2.2.2.2.2.1
theorem dX11_verdict_60 : decode cX11_verdict 60 = .ok (.iload_n 3, 1) := dX11_verdict_all2.2.2.2.2.2.2.2.2.2.2.2
theorem dX11_verdict_all3 : decode cX11_verdict 61 = .ok (.goto 4, 3) ∧ decode cX11_verdict 64 = .ok (.iload_n 2, 1) ∧ decode cX11_verdict 65 = .ok (.istore_n 2, 1) ∧ decode cX11_verdict 66 = .ok (.iinc 3 1, 3) ∧ decode cX11_verdict 69 = .ok (.goto (-48), 3) ∧ decode cX11_verdict 72 = .ok (.iconst 0, 1) ∧ decode cX11_verdict 73 = .ok (.istore_n 3, 1) ∧ decode cX11_verdict 74 = .ok (.iconst 0, 1) ∧ decode cX11_verdict 75 = .ok (.istore 4, 2) ∧ decode cX11_verdict 77 = .ok (.iload 4, 2) ∧ decode cX11_verdict 79 = .ok (.aload_n 0, 1) ∧ decode cX11_verdict 80 = .ok (.getfield 354, 3) := by decide +kernel
theorem dX11_verdict_61 : decode cX11_verdict 61 = .ok (.goto 4, 3) := dX11_verdict_all3.1
theorem dX11_verdict_64 : decode cX11_verdict 64 = .ok (.iload_n 2, 1) := dX11_verdict_all3.2.1
theorem dX11_verdict_65 : decode cX11_verdict 65 = .ok (.istore_n 2, 1) := dX11_verdict_all3.2.2.1
theorem dX11_verdict_66 : decode cX11_verdict 66 = .ok (.iinc 3 1, 3) := dX11_verdict_all3.2.2.2.1
theorem dX11_verdict_69 : decode cX11_verdict 69 = .ok (.goto (-48), 3) := dX11_verdict_all3.2.2.2.2.1
theorem dX11_verdict_72 : decode cX11_verdict 72 = .ok (.iconst 0, 1) := dX11_verdict_all3.2.2.2.2.2.1
theorem dX11_verdict_73 : decode cX11_verdict 73 = .ok (.istore_n 3, 1) := dX11_verdict_all3.2.2.2.2.2.2.1
theorem dX11_verdict_74 : decode cX11_verdict 74 = .ok (.iconst 0, 1) := dX11_verdict_all3.2.2.2.2.2.2.2.1
theorem dX11_verdict_75 : decode cX11_verdict 75 = .ok (.istore 4, 2) := dX11_verdict_all3.2.2.2.2.2.2.2.2.1
theorem dX11_verdict_77 : decode cX11_verdict 77 = .ok (.iload 4, 2) := dX11_verdict_all3.2.2.2.2.2.2.2.2.2.1
theorem dX11_verdict_79 : decode cX11_verdict 79 = .ok (.aload_n 0, 1) := dX11_verdict_all3.2.2.2.2.2.2.2.2.2.2.1
theorem dX11_verdict_80 : decode cX11_verdict 80 = .ok (.getfield 354, 3) := dX11_verdict_all3.2.2.2.2.2.2.2.2.2.2.2
theorem dX11_verdict_all4 : decode cX11_verdict 83 = .ok (.if_icmp .ge 127, 3) ∧ decode cX11_verdict 86 = .ok (.aload_n 0, 1) ∧ decode cX11_verdict 87 = .ok (.getfield 111, 3) ∧ decode cX11_verdict 90 = .ok (.iload 4, 2) ∧ decode cX11_verdict 92 = .ok (.iaload, 1) ∧ decode cX11_verdict 93 = .ok (.iload_n 1, 1) ∧ decode cX11_verdict 94 = .ok (.if_icmp .ne 110, 3) ∧ decode cX11_verdict 97 = .ok (.iload 4, 2) ∧ decode cX11_verdict 99 = .ok (.iload_n 2, 1) ∧ decode cX11_verdict 100 = .ok (.if_icmp .eq 104, 3) ∧ decode cX11_verdict 103 = .ok (.aload_n 0, 1) ∧ decode cX11_verdict 104 = .ok (.getfield 117, 3) := by decide +kernel
theorem dX11_verdict_83 : decode cX11_verdict 83 = .ok (.if_icmp .ge 127, 3) := dX11_verdict_all4.1
theorem dX11_verdict_86 : decode cX11_verdict 86 = .ok (.aload_n 0, 1) := dX11_verdict_all4.2.1
theorem dX11_verdict_87 : decode cX11_verdict 87 = .ok (.getfield 111, 3) := dX11_verdict_all4.2.2.1
theorem dX11_verdict_90 : decode cX11_verdict 90 = .ok (.iload 4, 2) := dX11_verdict_all4.2.2.2.1
theorem dX11_verdict_92 : decode cX11_verdict 92 = .ok (.iaload, 1) := dX11_verdict_all4.2.2.2.2.1
theorem dX11_verdict_93 : decode cX11_verdict 93 = .ok (.iload_n 1, 1) := dX11_verdict_all4.2.2.2.2.2.1
theorem dX11_verdict_94 : decode cX11_verdict 94 = .ok (.if_icmp .ne 110, 3) := dX11_verdict_all4.2.2.2.2.2.2.1
theorem dX11_verdict_97 : decode cX11_verdict 97 = .ok (.iload 4, 2) := dX11_verdict_all4.2.2.2.2.2.2.2.1
theorem dX11_verdict_99 : decode cX11_verdict 99 = .ok (.iload_n 2, 1) := dX11_verdict_all4.2.2.2.2.2.2.2.2.1
theorem dX11_verdict_100 : decode cX11_verdict 100 = .ok (.if_icmp .eq 104, 3) := dX11_verdict_all4.2.2.2.2.2.2.2.2.2.1
theorem dX11_verdict_103 : decode cX11_verdict 103 = .ok (.aload_n 0, 1) := dX11_verdict_all4.2.2.2.2.2.2.2.2.2.2.1
theorem dX11_verdict_104 : decode cX11_verdict 104 = .ok (.getfield 117, 3) := dX11_verdict_all4.2.2.2.2.2.2.2.2.2.2.2
theorem dX11_verdict_all5 : decode cX11_verdict 107 = .ok (.iload 4, 2) ∧ decode cX11_verdict 109 = .ok (.iaload, 1) ∧ decode cX11_verdict 110 = .ok (.aload_n 0, 1) ∧ decode cX11_verdict 111 = .ok (.getfield 117, 3) ∧ decode cX11_verdict 114 = .ok (.iload_n 2, 1) ∧ decode cX11_verdict 115 = .ok (.iaload, 1) ∧ decode cX11_verdict 116 = .ok (.isub, 1) ∧ decode cX11_verdict 117 = .ok (.istore 5, 2) ∧ decode cX11_verdict 119 = .ok (.iload 5, 2) ∧ decode cX11_verdict 121 = .ok (.ifCond .ge 9, 3) ∧ decode cX11_verdict 124 = .ok (.iload 5, 2) ∧ decode cX11_verdict 126 = .ok (.ineg, 1) := by decide +kernel
theorem dX11_verdict_107 : decode cX11_verdict 107 = .ok (.iload 4, 2) := dX11_verdict_all5.1
theorem dX11_verdict_109 : decode cX11_verdict 109 = .ok (.iaload, 1) := dX11_verdict_all5.2.1
theorem dX11_verdict_110 : decode cX11_verdict 110 = .ok (.aload_n 0, 1) := dX11_verdict_all5.2.2.1
theorem dX11_verdict_111 : decode cX11_verdict 111 = .ok (.getfield 117, 3) := dX11_verdict_all5.2.2.2.1
theorem dX11_verdict_114 : decode cX11_verdict 114 = .ok (.iload_n 2, 1) := dX11_verdict_all5.2.2.2.2.1
theorem dX11_verdict_115 : decode cX11_verdict 115 = .ok (.iaload, 1) := dX11_verdict_all5.2.2.2.2.2.1
theorem dX11_verdict_116 : decode cX11_verdict 116 = .ok (.isub, 1) := dX11_verdict_all5.2.2.2.2.2.2.1
theorem dX11_verdict_117 : decode cX11_verdict 117 = .ok (.istore 5, 2) := dX11_verdict_all5.2.2.2.2.2.2.2.1
theorem dX11_verdict_119 : decode cX11_verdict 119 = .ok (.iload 5, 2) := dX11_verdict_all5.2.2.2.2.2.2.2.2.1
theorem dX11_verdict_121 : decode cX11_verdict 121 = .ok (.ifCond .ge 9, 3) := dX11_verdict_all5.2.2.2.2.2.2.2.2.2.1
theorem dX11_verdict_124 : decode cX11_verdict 124 = .ok (.iload 5, 2) := dX11_verdict_all5.2.2.2.2.2.2.2.2.2.2.1
theorem dX11_verdict_126 : decode cX11_verdict 126 = .ok (.ineg, 1) := dX11_verdict_all5.2.2.2.2.2.2.2.2.2.2.2
theorem dX11_verdict_all6 : decode cX11_verdict 127 = .ok (.goto 5, 3) ∧ decode cX11_verdict 130 = .ok (.iload 5, 2) ∧ decode cX11_verdict 132 = .ok (.istore 5, 2) ∧ decode cX11_verdict 134 = .ok (.aload_n 0, 1) ∧ decode cX11_verdict 135 = .ok (.getfield 120, 3) ∧ decode cX11_verdict 138 = .ok (.iload_n 2, 1) ∧ decode cX11_verdict 139 = .ok (.iaload, 1) ∧ decode cX11_verdict 140 = .ok (.aload_n 0, 1) ∧ decode cX11_verdict 141 = .ok (.getfield 120, 3) ∧ decode cX11_verdict 144 = .ok (.iload 4, 2) ∧ decode cX11_verdict 146 = .ok (.iaload, 1) ∧ decode cX11_verdict 147 = .ok (.iconst (-1), 1) := by decide +kernel
theorem dX11_verdict_127 : decode cX11_verdict 127 = .ok (.goto 5, 3) := dX11_verdict_all6.1
theorem dX11_verdict_130 : decode cX11_verdict 130 = .ok (.iload 5, 2) := dX11_verdict_all6.2.1
theorem dX11_verdict_132 : decode cX11_verdict 132 = .ok (.istore 5, 2) := dX11_verdict_all6.2.2.1
theorem dX11_verdict_134 : decode cX11_verdict 134 = .ok (.aload_n 0, 1) := dX11_verdict_all6.2.2.2.1
theorem dX11_verdict_135 : decode cX11_verdict 135 = .ok (.getfield 120, 3) := dX11_verdict_all6.2.2.2.2.1
theorem dX11_verdict_138 : decode cX11_verdict 138 = .ok (.iload_n 2, 1) := dX11_verdict_all6.2.2.2.2.2.1
theorem dX11_verdict_139 : decode cX11_verdict 139 = .ok (.iaload, 1) := dX11_verdict_all6.2.2.2.2.2.2.1
theorem dX11_verdict_140 : decode cX11_verdict 140 = .ok (.aload_n 0, 1) := dX11_verdict_all6.2.2.2.2.2.2.2.1
theorem dX11_verdict_141 : decode cX11_verdict 141 = .ok (.getfield 120, 3) := dX11_verdict_all6.2.2.2.2.2.2.2.2.1
theorem dX11_verdict_144 : decode cX11_verdict 144 = .ok (.iload 4, 2) := dX11_verdict_all6.2.2.2.2.2.2.2.2.2.1
theorem dX11_verdict_146 : decode cX11_verdict 146 = .ok (.iaload, 1) := dX11_verdict_all6.2.2.2.2.2.2.2.2.2.2.1
theorem dX11_verdict_147 : decode cX11_verdict 147 = .ok (.iconst (-1), 1) := dX11_verdict_all6.2.2.2.2.2.2.2.2.2.2.2
theorem dX11_verdict_all7 : decode cX11_verdict 148 = .ok (.ixor, 1) ∧ decode cX11_verdict 149 = .ok (.iand, 1) ∧ decode cX11_verdict 150 = .ok (.invokestatic 357, 3) ∧ decode cX11_verdict 153 = .ok (.istore 6, 2) ∧ decode cX11_verdict 155 = .ok (.iload 5, 2) ∧ decode cX11_verdict 157 = .ok (.bipush 100, 2) ∧ decode cX11_verdict 159 = .ok (.if_icmp .gt 9, 3) ∧ decode cX11_verdict 162 = .ok (.iload 6, 2) ∧ decode cX11_verdict 164 = .ok (.iconst 1, 1) ∧ decode cX11_verdict 165 = .ok (.if_icmp .le 7, 3) ∧ decode cX11_verdict 168 = .ok (.iconst 2, 1) ∧ decode cX11_verdict 169 = .ok (.goto 20, 3) := by decide +kernel
theorem dX11_verdict_148 : decode cX11_verdict 148 = .ok (.ixor, 1) := dX11_verdict_all7.1
theorem dX11_verdict_149 : decode cX11_verdict 149 = .ok (.iand, 1) := dX11_verdict_all7.2.1
theorem dX11_verdict_150 : decode cX11_verdict 150 = .ok (.invokestatic 357, 3) := dX11_verdict_all7.2.2.1
theorem dX11_verdict_153 : decode cX11_verdict 153 = .ok (.istore 6, 2) := dX11_verdict_all7.2.2.2.1
theorem dX11_verdict_155 : decode cX11_verdict 155 = .ok (.iload 5, 2) := dX11_verdict_all7.2.2.2.2.1
theorem dX11_verdict_157 : decode cX11_verdict 157 = .ok (.bipush 100, 2) := dX11_verdict_all7.2.2.2.2.2.1
theorem dX11_verdict_159 : decode cX11_verdict 159 = .ok (.if_icmp .gt 9, 3) := dX11_verdict_all7.2.2.2.2.2.2.1
theorem dX11_verdict_162 : decode cX11_verdict 162 = .ok (.iload 6, 2) := dX11_verdict_all7.2.2.2.2.2.2.2.1
theorem dX11_verdict_164 : decode cX11_verdict 164 = .ok (.iconst 1, 1) := dX11_verdict_all7.2.2.2.2.2.2.2.2.1
theorem dX11_verdict_165 : decode cX11_verdict 165 = .ok (.if_icmp .le 7, 3) := dX11_verdict_all7.2.2.2.2.2.2.2.2.2.1
theorem dX11_verdict_168 : decode cX11_verdict 168 = .ok (.iconst 2, 1) := dX11_verdict_all7.2.2.2.2.2.2.2.2.2.2.1
theorem dX11_verdict_169 : decode cX11_verdict 169 = .ok (.goto 20, 3) := dX11_verdict_all7.2.2.2.2.2.2.2.2.2.2.2
theorem dX11_verdict_all8 : decode cX11_verdict 172 = .ok (.iload 5, 2) ∧ decode cX11_verdict 174 = .ok (.bipush 10, 2) ∧ decode cX11_verdict 176 = .ok (.if_icmp .gt 8, 3) ∧ decode cX11_verdict 179 = .ok (.iload 6, 2) ∧ decode cX11_verdict 181 = .ok (.ifCond .le 7, 3) ∧ decode cX11_verdict 184 = .ok (.iconst 1, 1) ∧ decode cX11_verdict 185 = .ok (.goto 4, 3) ∧ decode cX11_verdict 188 = .ok (.iconst 0, 1) ∧ decode cX11_verdict 189 = .ok (.istore 7, 2) ∧ decode cX11_verdict 191 = .ok (.iload 7, 2) ∧ decode cX11_verdict 193 = .ok (.iload_n 3, 1) ∧ decode cX11_verdict 194 = .ok (.if_icmp .le 8, 3) := by decide +kernel
theorem dX11_verdict_172 : decode cX11_verdict 172 = .ok (.iload 5, 2) := dX11_verdict_all8.1
theorem dX11_verdict_174 : decode cX11_verdict 174 = .ok (.bipush 10, 2) := dX11_verdict_all8.2.1
theorem dX11_verdict_176 : decode cX11_verdict 176 = .ok (.if_icmp .gt 8, 3) := dX11_verdict_all8.2.2.1
theorem dX11_verdict_179 : decode cX11_verdict 179 = .ok (.iload 6, 2) := dX11_verdict_all8.2.2.2.1
theorem dX11_verdict_181 : decode cX11_verdict 181 = .ok (.ifCond .le 7, 3) := dX11_verdict_all8.2.2.2.2.1
theorem dX11_verdict_184 : decode cX11_verdict 184 = .ok (.iconst 1, 1) := dX11_verdict_all8.2.2.2.2.2.1
theorem dX11_verdict_185 : decode cX11_verdict 185 = .ok (.goto 4, 3) := dX11_verdict_all8.2.2.2.2.2.2.1
theorem dX11_verdict_188 : decode cX11_verdict 188 = .ok (.iconst 0, 1) := dX11_verdict_all8.2.2.2.2.2.2.2.1
theorem dX11_verdict_189 : decode cX11_verdict 189 = .ok (.istore 7, 2) := dX11_verdict_all8.2.2.2.2.2.2.2.2.1
theorem dX11_verdict_191 : decode cX11_verdict 191 = .ok (.iload 7, 2) := dX11_verdict_all8.2.2.2.2.2.2.2.2.2.1
theorem dX11_verdict_193 : decode cX11_verdict 193 = .ok (.iload_n 3, 1) := dX11_verdict_all8.2.2.2.2.2.2.2.2.2.2.1
theorem dX11_verdict_194 : decode cX11_verdict 194 = .ok (.if_icmp .le 8, 3) := dX11_verdict_all8.2.2.2.2.2.2.2.2.2.2.2
theorem dX11_verdict_all9 : decode cX11_verdict 197 = .ok (.iload 7, 2) ∧ decode cX11_verdict 199 = .ok (.goto 4, 3) ∧ decode cX11_verdict 202 = .ok (.iload_n 3, 1) ∧ decode cX11_verdict 203 = .ok (.istore_n 3, 1) ∧ decode cX11_verdict 204 = .ok (.iinc 4 1, 3) ∧ decode cX11_verdict 207 = .ok (.goto (-130), 3) ∧ decode cX11_verdict 210 = .ok (.iload_n 3, 1) ∧ decode cX11_verdict 211 = .ok (.ireturn, 1) := by decide +kernel
theorem dX11_verdict_197 : decode cX11_verdict 197 = .ok (.iload 7, 2) := dX11_verdict_all9.1
theorem dX11_verdict_199 : decode cX11_verdict 199 = .ok (.goto 4, 3) := dX11_verdict_all9.2.1
theorem dX11_verdict_202 : decode cX11_verdict 202 = .ok (.iload_n 3, 1) := dX11_verdict_all9.2.2.1
theorem dX11_verdict_203 : decode cX11_verdict 203 = .ok (.istore_n 3, 1) := dX11_verdict_all9.2.2.2.1
theorem dX11_verdict_204 : decode cX11_verdict 204 = .ok (.iinc 4 1, 3) := dX11_verdict_all9.2.2.2.2.1
theorem dX11_verdict_207 : decode cX11_verdict 207 = .ok (.goto (-130), 3) := dX11_verdict_all9.2.2.2.2.2.1
theorem dX11_verdict_210 : decode cX11_verdict 210 = .ok (.iload_n 3, 1) := dX11_verdict_all9.2.2.2.2.2.2.1
theorem dX11_verdict_211 : decode cX11_verdict 211 = .ok (.ireturn, 1) := dX11_verdict_all9.2.2.2.2.2.2.2

theorem ver_step {uk : Nat → Int32} {k i b : Int32} (h : ∀ j : Nat, (j : Int) < i.toInt → ¬ uk j = k) (h0 : 0 ≤ i.toInt) (hb : b.toInt = i.toInt + 1) (hv : ¬ uk i.toNatClampNeg = k) : ∀ j : Nat, (j : Int) < b.toInt → ¬ uk j = k := by
  intro j hj
  have := i_cl h0
  by_cases e : (j : Int) < i.toInt
  · exact h j e
  · have e8 : j = i.toNatClampNeg := by omega
    subst e8; exact hv


def onV (uk uy : Nat → Int32) (k : Int32) : Nat → Int32
  | 0 => -1000000
  | n + 1 => if (uk n).toInt = k.toInt ∧ ((onV uk uy k n).toInt = -1000000 ∨ (uy n).toInt < (uy (onV uk uy k n).toNatClampNeg).toInt) then nI n else onV uk uy k n
theorem onV_s (uk uy : Nat → Int32) (k : Int32) (n : Nat) : onV uk uy k (n + 1) = if (uk n).toInt = k.toInt ∧ ((onV uk uy k n).toInt = -1000000 ∨ (uy n).toInt < (uy (onV uk uy k n).toNatClampNeg).toInt) then nI n else onV uk uy k n := rfl
def cvF (far mis : Int32) : Int32 := if 100 < far.toInt ∨ 1 < mis.toInt then 2 else if 10 < far.toInt ∨ 0 < mis.toInt then 1 else 0
theorem cvF_2 {far mis : Int32} (h : 100 < far.toInt ∨ 1 < mis.toInt) : 2 = cvF far mis := by unfold cvF; rw [if_pos h]
theorem cvF_1 {far mis : Int32} (h : ¬ (100 < far.toInt ∨ 1 < mis.toInt)) (h1 : 10 < far.toInt ∨ 0 < mis.toInt) : 1 = cvF far mis := by unfold cvF; rw [if_neg h, if_pos h1]
theorem cvF_0 {far mis : Int32} (h : ¬ (100 < far.toInt ∨ 1 < mis.toInt)) (h1 : ¬ (10 < far.toInt ∨ 0 < mis.toInt)) : 0 = cvF far mis := by unfold cvF; rw [if_neg h, if_neg h1]
def wmV (uk uw um : Nat → Int32) (k o : Int32) : Nat → Int32
  | 0 => 0
  | n + 1 => if (uk n).toInt = k.toInt ∧ ¬ (n : Int) = o.toInt then maxV (wmV uk uw um k o n) (cvF (absV (uw n - uw o.toNatClampNeg)) (bmV (um o.toNatClampNeg &&& (um n ^^^ (-1))) 12)) else wmV uk uw um k o n
theorem wmV_s (uk uw um : Nat → Int32) (k o : Int32) (n : Nat) : wmV uk uw um k o (n + 1) = if (uk n).toInt = k.toInt ∧ ¬ (n : Int) = o.toInt then maxV (wmV uk uw um k o n) (cvF (absV (uw n - uw o.toNatClampNeg)) (bmV (um o.toNatClampNeg &&& (um n ^^^ (-1))) 12)) else wmV uk uw um k o n := rfl
def sm_verdict (cn un : Int32) (uk uy uw um : Nat → Int32) (k : Int32) : Int32 := if 0 ≤ k.toInt ∧ k.toInt < cn.toInt then wmV uk uw um k (onV uk uy k un.toNatClampNeg) un.toNatClampNeg else -1000001

set_option maxHeartbeats 4000000 in
set_option maxRecDepth 100000 in
theorem ct_X11_verdict (l : Launch) (D : va_G) (cI cY cJ cQ : ClassId) (sz : Nat) (md : Nat → Nat) (sd : Int32) (mth mst hn cn pn mq gn mln mnn ln mlt msz mcu mtk mfr mti mfa mfb an un lc td mtn : Int32) (uk uy uw um : Nat → Int32) (k : Int32)  (h1 : 0 ≤ cn.toInt) (h2 : cn.toInt ≤ 12) (h3 : 0 ≤ un.toInt) (h4 : un.toInt ≤ 60)  : Met l yX11_verdict wsX11_verdict ({ frames := 2, cells := 0, slots := 0, locals := 46 }) (cPre D (ty4 cI cY cJ cQ) [(moC md sd mth mst hn cn pn mq gn mln mnn ln mlt msz mcu mtk mfr mti mfa mfb an un lc td mtn), (aI cI (md 53) 60 uk), (aI cI (md 54) 60 uy), (aI cI (md 55) 60 uw), (aI cI (md 56) 60 um)] sz [.ref (md 64), .int k]) (va_Qi (fun (r : Int32) (u : Unit) => r = sm_verdict cn un uk uy uw um k) (cB D (ty4 cI cY cJ cQ) (fun (u : Unit) => [(moC md sd 0 mst hn cn pn mq gn mln mnn ln mlt msz mcu mtk mfr mti mfa mfb an un lc td mtn), (aI cI (md 53) 60 uk), (aI cI (md 54) 60 uy), (aI cI (md 55) 60 uw), (aI cI (md 56) 60 um)]) (va_A [(moC md sd mth mst hn cn pn mq gn mln mnn ln mlt msz mcu mtk mfr mti mfa mfb an un lc td mtn), (aI cI (md 53) 60 uk), (aI cI (md 54) 60 uy), (aI cI (md 55) 60 uw), (aI cI (md 56) 60 um)] sz)) (va_A [(moC md sd mth mst hn cn pn mq gn mln mnn ln mlt msz mcu mtk mfr mti mfa mfb an un lc td mtn), (aI cI (md 53) 60 uk), (aI cI (md 54) 60 uy), (aI cI (md 55) 60 uw), (aI cI (md 56) 60 um)] sz)) 0 0 (va_A [(moC md sd mth mst hn cn pn mq gn mln mnn ln mlt msz mcu mtk mfr mti mfa mfb an un lc td mtn), (aI cI (md 53) 60 uk), (aI cI (md 54) 60 uy), (aI cI (md 55) 60 uw), (aI cI (md 56) 60 um)] sz) := by
  refine Met.ofW (cc := cX11_verdict) (maxL := 8) (ret := (some .int)) (by decide) rfl ?_
  intro p e s m args below meth c s₁ B hml hv
  obtain ⟨rfl, hsz, hP, hK, hD0, hN⟩ := hv
  have hx := B.exec
  have hb := B.bytes
  have hr := B.returns
  have hts := atoms_spec (ws := wsX11_verdict) B.pre
  have hown : s.vm.findClass RX11 = some m.cls := findClass_of_methodNamed B.named
  have hlocks := B.notSynchronized
  subst hsz
  have hD := hD0.self (sz := s.heap.size)
  generalize hAe : va_A [(moC md sd mth mst hn cn pn mq gn mln mnn ln mlt msz mcu mtk mfr mti mfa mfb an un lc td mtn), (aI cI (md 53) 60 uk), (aI cI (md 54) 60 uy), (aI cI (md 55) 60 uw), (aI cI (md 56) 60 um)] s.heap.size = A at hD ⊢
  have hA : ∀ q : Nat, s.heap.size ≤ q → A q := fun q h => by rw [← hAe]; exact Or.inr h
  have hS : va_S A s.heap s.heap [] := va_S.rf
  have hP : va_P D vwCl [(moC md sd mth mst hn cn pn mq gn mln mnn ln mlt msz mcu mtk mfr mti mfa mfb an un lc td mtn), (aI cI (md 53) 60 uk), (aI cI (md 54) 60 uy), (aI cI (md 55) 60 uw), (aI cI (md 56) 60 um)] s.heap := hP
  have hl := lv_entry ([.ref (md 64), .int k]) (n := 8) (Nat.le_of_ble_eq_true rfl)
  rw [lg_entry_eq]
  generalize (lg_sl ([.ref (md 64), .int k]) ++ List.replicate (8 - (lg_sl ([.ref (md 64), .int k])).length) Slot.unset).toArray = ls at hl ⊢
  have hl : lv_has ls 8 [(0, .ref (md 64)), (1, .int k)] := hl
  have km1000000 : (-1000000 : Int32).toInt = -1000000 := by decide
  have km1 : (-1 : Int32).toInt = -1 := by decide
  have k0 : (0 : Int32).toInt = 0 := by decide
  have k1 : (1 : Int32).toInt = 1 := by decide
  have k2 : (2 : Int32).toInt = 2 := by decide
  have k10 : (10 : Int32).toInt = 10 := by decide
  have k100 : (100 : Int32).toInt = 100 := by decide
  refine lv_aload_n hx hb dX11_verdict_0 rfl (lv_at hl 0 rfl) ?_
  refine lv_iconst (v := 0) hx hb dX11_verdict_1 (by decide) ?_
  refine va_put (D := D) (ci := 11) (v := .int 0) (ty := .int) (C := RX11) (T := TX11) (N := 64) hx hb hts inX11_verdict_X11 tyX11 tyX11_ok nmX11 hown hK hP hD hS 0 rfl rfl 0 (by decide) (hts (Cond.fieldLink RX11 1 "PortRoomsModel" "thrown" "I") (wm_t (wm_l (wm_i 0 rfl)))) (fun _ h9 => h9) rfl (tyX11_ok 0 (by decide)) rfl rfl (Nat.le_of_ble_eq_true rfl) dX11_verdict_2 (fun H locs => ?_)
  clear hP hD hS
  intro hP hD hS
  replace hP : va_P D vwCl [(moC md sd (0) mst hn cn pn mq gn mln mnn ln mlt msz mcu mtk mfr mti mfa mfb an un lc td mtn), (aI cI (md 53) 60 uk), (aI cI (md 54) 60 uy), (aI cI (md 55) 60 uw), (aI cI (md 56) 60 um)] H := hP
  replace hD : va_D A [(moC md sd (0) mst hn cn pn mq gn mln mnn ln mlt msz mcu mtk mfr mti mfa mfb an un lc td mtn), (aI cI (md 53) 60 uk), (aI cI (md 54) 60 uy), (aI cI (md 55) 60 uw), (aI cI (md 56) 60 um)] := hD
  refine lv_aload_n hx hb dX11_verdict_5 rfl (lv_at hl 0 rfl) ?_
  refine lv_iload_n hx hb dX11_verdict_6 rfl (lv_at hl 1 rfl) ?_
  refine st_i1 (va_runV (C := RX11) (As := [.int k]) (rest := []) ⟨hx, hb, hml, hown, hts⟩ (ct_X11_isCrate l D cI cY cJ cQ _ md sd 0 mst hn cn pn mq gn mln mnn ln mlt msz mcu mtk mfr mti mfa mfb an un lc td mtn k h1 h2) (cwV 1 hts gX11_verdict_X11_isCrate rfl rfl rfl ⟨rfl, cdX11_isCrate⟩ ⟨Nat.le_of_ble_eq_true rfl, Nat.le_of_ble_eq_true rfl⟩) (cPreV (hP.sub [0] rfl) hK (hD.sub [0] (by decide +kernel) rfl) hN (ci := 11) (q0 := 0) rfl rfl) rfl rfl hl.1 rfl (lv_room (Nat.le_of_ble_eq_true rfl)) dX11_verdict_7 ⟨Nat.le_of_ble_eq_true rfl, Nat.le_of_ble_eq_true rfl⟩) hP hD hS hA [0] rfl (fun _ => rfl) (fun r3 u1 H locs hw2 => ?_)
  clear hP hS
  intro hP hS
  replace hw2 : r3 = if 0 ≤ k.toInt ∧ k.toInt < cn.toInt then 1 else 0 := hw2
  refine lv_if_ne (tgt := 16) hx hb dX11_verdict_10 (by decide) (fun c4 => ?_) (fun c4 => ?_)
  · skip
    have f5 := bo_t hw2 c4
    refine lv_ldc hx hb hown (hts (Cond.constant RX11 139 (-1000000)) (wm_t (wm_l (wm_i 2 rfl)))) dX11_verdict_16 ?_
    refine lv_istore_n (lv' := [(2, .int (-1000000)), (0, .ref (md 64)), (1, .int k)]) hx hb dX11_verdict_18 rfl hl (by decide) rfl (fun ls hl => ?_)
    refine lv_iconst (v := 0) hx hb dX11_verdict_19 (by decide) ?_
    refine lv_istore_n (lv' := [(3, .int 0), (2, .int (-1000000)), (0, .ref (md 64)), (1, .int k)]) hx hb dX11_verdict_20 rfl hl (by decide) rfl (fun ls hl => ?_)
    refine st_loop 21 (fun _ => []) (fun (z : Int32 × Int32) (ls : Array Slot) (H : Heap) (locs : List Loc) => match z with | (q21_2, q21_3) => (0 ≤ q21_3.toInt) ∧ (q21_3.toInt ≤ un.toInt) ∧ (q21_2.toInt = -1000000 ∨ (0 ≤ q21_2.toInt ∧ q21_2.toInt < un.toInt)) ∧ (q21_2.toInt = -1000000 → ∀ j : Nat, (j : Int) < q21_3.toInt → ¬ uk j = k) ∧ (q21_2 = onV uk uy k q21_3.toNatClampNeg) ∧ lv_has ls 8 [(0, .ref (md 64)), (1, .int k), (2, .int q21_2), (3, .int q21_3)] ∧ va_P D vwCl [(moC md sd (0) mst hn cn pn mq gn mln mnn ln mlt msz mcu mtk mfr mti mfa mfb an un lc td mtn), (aI cI (md 53) 60 uk), (aI cI (md 54) 60 uy), (aI cI (md 55) 60 uw), (aI cI (md 56) 60 um)] H ∧ va_D A [(moC md sd (0) mst hn cn pn mq gn mln mnn ln mlt msz mcu mtk mfr mti mfa mfb an un lc td mtn), (aI cI (md 53) 60 uk), (aI cI (md 54) 60 uy), (aI cI (md 55) 60 uw), (aI cI (md 56) 60 um)] ∧ va_S A s.heap H locs) (fun (z : Int32 × Int32) => match z with | (q21_2, q21_3) => un.toInt - q21_3.toInt) ?_ ?_ (((-1000000) : Int32), (0 : Int32)) ⟨(by omega), (by omega), (by omega), (by intro h9 j hj; exfalso; omega), (by rfl), lv_sub hl [2, 3, 1, 0] rfl, hP, hD, hS⟩
    · rintro ⟨q21_2, q21_3⟩ ls H locs ⟨g6, g7, g8, g9, g10, hl, hP, hD, hS⟩
      show (0 : Int) ≤ un.toInt - q21_3.toInt
      omega
    · rintro n13 ih11 ⟨q21_2, q21_3⟩ ls H locs ⟨g6, g7, g8, g9, g10, hl, hP, hD, hS⟩ hm12
      have hm12 : un.toInt - q21_3.toInt < (n13 : Int) + 1 := hm12
      replace hl : lv_has ls 8 [(0, .ref (md 64)), (1, .int k), (2, .int q21_2), (3, .int q21_3)] := hl
      replace hP : va_P D vwCl [(moC md sd (0) mst hn cn pn mq gn mln mnn ln mlt msz mcu mtk mfr mti mfa mfb an un lc td mtn), (aI cI (md 53) 60 uk), (aI cI (md 54) 60 uy), (aI cI (md 55) 60 uw), (aI cI (md 56) 60 um)] H := hP
      replace hD : va_D A [(moC md sd (0) mst hn cn pn mq gn mln mnn ln mlt msz mcu mtk mfr mti mfa mfb an un lc td mtn), (aI cI (md 53) 60 uk), (aI cI (md 54) 60 uy), (aI cI (md 55) 60 uw), (aI cI (md 56) 60 um)] := hD
      show W _ _ _ _ _ _ _ _ _ _ _ _ _ _ _ (F0 m 21 ls [])
      refine lv_iload_n hx hb dX11_verdict_21 rfl (lv_at hl 3 rfl) ?_
      refine lv_aload_n hx hb dX11_verdict_22 rfl (lv_at hl 0 rfl) ?_
      refine va_get (D := D) (ci := 11) (v := .int un) (C := RX11) (T := TX11) (N := 64) hx hb hts inX11_verdict_X11 hown hK hP 0 rfl rfl 52 (by decide) (hts (Cond.fieldLink RX11 354 "PortRoomsModel" "opens" "I") (wm_t (wm_l (wm_i 3 rfl)))) (fun _ h9 => h9) rfl dX11_verdict_23 ?_
      refine lv_icmp_ge (tgt := 72) hx hb dX11_verdict_26 (by decide) (fun c14 => ?_) (fun c14 => ?_)
      · skip
        have f15 := i_le c14
        refine lv_iconst (v := 0) hx hb dX11_verdict_72 (by decide) ?_
        refine lv_istore_n (lv' := [(3, .int 0), (0, .ref (md 64)), (1, .int k), (2, .int q21_2)]) hx hb dX11_verdict_73 rfl hl (by decide) rfl (fun ls hl => ?_)
        refine lv_iconst (v := 0) hx hb dX11_verdict_74 (by decide) ?_
        refine lv_istore (lv' := [(4, .int 0), (3, .int 0), (0, .ref (md 64)), (1, .int k), (2, .int q21_2)]) hx hb dX11_verdict_75 hl (by decide) rfl (fun ls hl => ?_)
        refine st_loop 77 (fun _ => []) (fun (z : Int32 × Int32) (ls : Array Slot) (H : Heap) (locs : List Loc) => match z with | (q77_3, q77_4) => (0 ≤ q77_4.toInt) ∧ (q77_4.toInt ≤ un.toInt) ∧ (q77_3 = wmV uk uw um k q21_2 q77_4.toNatClampNeg) ∧ lv_has ls 8 [(0, .ref (md 64)), (1, .int k), (2, .int q21_2), (3, .int q77_3), (4, .int q77_4)] ∧ va_P D vwCl [(moC md sd (0) mst hn cn pn mq gn mln mnn ln mlt msz mcu mtk mfr mti mfa mfb an un lc td mtn), (aI cI (md 53) 60 uk), (aI cI (md 54) 60 uy), (aI cI (md 55) 60 uw), (aI cI (md 56) 60 um)] H ∧ va_D A [(moC md sd (0) mst hn cn pn mq gn mln mnn ln mlt msz mcu mtk mfr mti mfa mfb an un lc td mtn), (aI cI (md 53) 60 uk), (aI cI (md 54) 60 uy), (aI cI (md 55) 60 uw), (aI cI (md 56) 60 um)] ∧ va_S A s.heap H locs) (fun (z : Int32 × Int32) => match z with | (q77_3, q77_4) => un.toInt - q77_4.toInt) ?_ ?_ ((0 : Int32), (0 : Int32)) ⟨(by omega), (by omega), (by rfl), lv_sub hl [2, 3, 4, 1, 0] rfl, hP, hD, hS⟩
        · rintro ⟨q77_3, q77_4⟩ ls H locs ⟨g16, g17, g18, hl, hP, hD, hS⟩
          show (0 : Int) ≤ un.toInt - q77_4.toInt
          omega
        · rintro n21 ih19 ⟨q77_3, q77_4⟩ ls H locs ⟨g16, g17, g18, hl, hP, hD, hS⟩ hm20
          have hm20 : un.toInt - q77_4.toInt < (n21 : Int) + 1 := hm20
          replace hl : lv_has ls 8 [(0, .ref (md 64)), (1, .int k), (2, .int q21_2), (3, .int q77_3), (4, .int q77_4)] := hl
          replace hP : va_P D vwCl [(moC md sd (0) mst hn cn pn mq gn mln mnn ln mlt msz mcu mtk mfr mti mfa mfb an un lc td mtn), (aI cI (md 53) 60 uk), (aI cI (md 54) 60 uy), (aI cI (md 55) 60 uw), (aI cI (md 56) 60 um)] H := hP
          replace hD : va_D A [(moC md sd (0) mst hn cn pn mq gn mln mnn ln mlt msz mcu mtk mfr mti mfa mfb an un lc td mtn), (aI cI (md 53) 60 uk), (aI cI (md 54) 60 uy), (aI cI (md 55) 60 uw), (aI cI (md 56) 60 um)] := hD
          show W _ _ _ _ _ _ _ _ _ _ _ _ _ _ _ (F0 m 77 ls [])
          refine lv_iload hx hb dX11_verdict_77 (lv_at hl 4 rfl) ?_
          refine lv_aload_n hx hb dX11_verdict_79 rfl (lv_at hl 0 rfl) ?_
          refine va_get (D := D) (ci := 11) (v := .int un) (C := RX11) (T := TX11) (N := 64) hx hb hts inX11_verdict_X11 hown hK hP 0 rfl rfl 52 (by decide) (hts (Cond.fieldLink RX11 354 "PortRoomsModel" "opens" "I") (wm_t (wm_l (wm_i 3 rfl)))) (fun _ h9 => h9) rfl dX11_verdict_80 ?_
          refine lv_icmp_ge (tgt := 210) hx hb dX11_verdict_83 (by decide) (fun c22 => ?_) (fun c22 => ?_)
          · skip
            have f23 := i_le c22
            refine lv_iload_n hx hb dX11_verdict_210 rfl (lv_at hl 3 rfl) ?_
            have ce8 := i_cl (x := q77_4) (by omega)
            have ce9 := i_cl (x := un) (by omega)
            have ee9 : q77_4.toNatClampNeg = un.toNatClampNeg := by omega
            have hz9 := g18
            rw [ee9] at hz9
            have ce7 := i_cl (x := q21_3) (by omega)
            have ee7 : q21_3.toNatClampNeg = un.toNatClampNeg := by omega
            have hz7 := g10
            rw [ee7] at hz7
            have hP9 := hP
            have hD9 := hD
            exact W.iret (v := q77_3) hx hb hr (fun t ht hW => ⟨⟨q77_3, (), rfl, (by unfold sm_verdict; rw [if_pos (by omega), ← hz7]; exact hz9), by rw [ht]; exact hP9, va_K.moved hW.alike hK, hD9⟩, hS.F ht⟩) hS.2.2 dX11_verdict_211
          · skip
            have f24 := i_nle c22
            refine lv_aload_n hx hb dX11_verdict_86 rfl (lv_at hl 0 rfl) ?_
            refine va_get (D := D) (ci := 11) (v := .ref (md 53)) (C := RX11) (T := TX11) (N := 64) hx hb hts inX11_verdict_X11 hown hK hP 0 rfl rfl 53 (by decide) (hts (Cond.fieldLink RX11 111 "PortRoomsModel" "openCrate" "[I") (wm_t (wm_l (wm_i 4 rfl)))) (fun _ h9 => h9) rfl dX11_verdict_87 ?_
            refine lv_iload hx hb dX11_verdict_90 (lv_at hl 4 rfl) ?_
            refine va_iald hx hb hK hP 1 0 rfl rfl (i_in (by omega) (by omega)) dX11_verdict_92 ?_
            refine lv_topi (fun v25 ev25 => ?_)
            have tlv25 : v25.toInt = (uk q77_4.toNatClampNeg).toInt := by rw [ev25]
            refine lv_iload_n hx hb dX11_verdict_93 rfl (lv_at hl 1 rfl) ?_
            refine lv_icmp_ne (tgt := 204) hx hb dX11_verdict_94 (by decide) (fun c26 => ?_) (fun c26 => ?_)
            · skip
              have f27 := i_ne c26
              obtain ⟨v28, ev28⟩ : ∃ y : Int32, y = q77_4 + 1 := ⟨_, rfl⟩
              try have tv28 : v28.toInt = q77_4.toInt + 1 := by rw [ev28]; exact (i_add (x := q77_4) (y := (1 : Int32)) (by rw [k1]; omega) (by rw [k1]; omega)).trans (by rw [k1])
              refine lv_iinc (v := v28) (lv' := [(4, .int v28), (0, .ref (md 64)), (1, .int k), (2, .int q21_2), (3, .int q77_3)]) hx hb dX11_verdict_204 hl (k := 4) rfl (by rw [ev28]; rfl) (by decide) rfl (fun ls hl => ?_)
              refine lv_goto (tgt := 77) hx hb dX11_verdict_207 (by decide) ?_
              have clk8 := i_cl (x := q77_4) (by omega)
              have clk9 := i_cl (x := v28) (by omega)
              have ek9 : v28.toNatClampNeg = q77_4.toNatClampNeg + 1 := by omega
              exact ih19 (q77_3, v28) ls H locs ⟨(by omega), (by omega), (by rw [ek9, wmV_s, ← g18, if_neg (by omega)]), lv_sub hl [1, 2, 3, 4, 0] rfl, hP.sub [0, 1, 2, 3, 4] rfl, hD.sub [0, 1, 2, 3, 4] (by decide +kernel) rfl, hS⟩ (by show un.toInt - v28.toInt < _; omega)
            · skip
              have f29 := i_eq c26
              have hge9 : 0 ≤ q21_2.toInt := by
                rcases g8 with h8 | h8
                · exact absurd (show uk q77_4.toNatClampNeg = k by rw [← ev25]; first | assumption | exact i_of (by assumption) | (apply Decidable.byContradiction; assumption)) (g9 h8 q77_4.toNatClampNeg (by have := i_cl (x := q77_4) (by omega); omega))
                · exact h8.1
              refine lv_iload hx hb dX11_verdict_97 (lv_at hl 4 rfl) ?_
              refine lv_iload_n hx hb dX11_verdict_99 rfl (lv_at hl 2 rfl) ?_
              refine lv_icmp_eq (tgt := 204) hx hb dX11_verdict_100 (by decide) (fun c30 => ?_) (fun c30 => ?_)
              · skip
                have f31 := i_eq c30
                obtain ⟨v32, ev32⟩ : ∃ y : Int32, y = q77_4 + 1 := ⟨_, rfl⟩
                try have tv32 : v32.toInt = q77_4.toInt + 1 := by rw [ev32]; exact (i_add (x := q77_4) (y := (1 : Int32)) (by rw [k1]; omega) (by rw [k1]; omega)).trans (by rw [k1])
                refine lv_iinc (v := v32) (lv' := [(4, .int v32), (0, .ref (md 64)), (1, .int k), (2, .int q21_2), (3, .int q77_3)]) hx hb dX11_verdict_204 hl (k := 4) rfl (by rw [ev32]; rfl) (by decide) rfl (fun ls hl => ?_)
                refine lv_goto (tgt := 77) hx hb dX11_verdict_207 (by decide) ?_
                have clk8 := i_cl (x := q77_4) (by omega)
                have clk9 := i_cl (x := v32) (by omega)
                have ek9 : v32.toNatClampNeg = q77_4.toNatClampNeg + 1 := by omega
                exact ih19 (q77_3, v32) ls H locs ⟨(by omega), (by omega), (by rw [ek9, wmV_s, ← g18, if_neg (by omega)]), lv_sub hl [1, 2, 3, 4, 0] rfl, hP.sub [0, 1, 2, 3, 4] rfl, hD.sub [0, 1, 2, 3, 4] (by decide +kernel) rfl, hS⟩ (by show un.toInt - v32.toInt < _; omega)
              · skip
                have f33 := i_ne c30
                refine lv_aload_n hx hb dX11_verdict_103 rfl (lv_at hl 0 rfl) ?_
                refine va_get (D := D) (ci := 11) (v := .ref (md 55)) (C := RX11) (T := TX11) (N := 64) hx hb hts inX11_verdict_X11 hown hK hP 0 rfl rfl 55 (by decide) (hts (Cond.fieldLink RX11 117 "PortRoomsModel" "openWeight" "[I") (wm_t (wm_l (wm_i 6 rfl)))) (fun _ h9 => h9) rfl dX11_verdict_104 ?_
                refine lv_iload hx hb dX11_verdict_107 (lv_at hl 4 rfl) ?_
                refine va_iald hx hb hK hP 3 0 rfl rfl (i_in (by omega) (by omega)) dX11_verdict_109 ?_
                refine lv_topi (fun v34 ev34 => ?_)
                have tlv34 : v34.toInt = (uw q77_4.toNatClampNeg).toInt := by rw [ev34]
                refine lv_aload_n hx hb dX11_verdict_110 rfl (lv_at hl 0 rfl) ?_
                refine va_get (D := D) (ci := 11) (v := .ref (md 55)) (C := RX11) (T := TX11) (N := 64) hx hb hts inX11_verdict_X11 hown hK hP 0 rfl rfl 55 (by decide) (hts (Cond.fieldLink RX11 117 "PortRoomsModel" "openWeight" "[I") (wm_t (wm_l (wm_i 6 rfl)))) (fun _ h9 => h9) rfl dX11_verdict_111 ?_
                refine lv_iload_n hx hb dX11_verdict_114 rfl (lv_at hl 2 rfl) ?_
                refine va_iald hx hb hK hP 3 0 rfl rfl (i_in (by omega) (by omega)) dX11_verdict_115 ?_
                refine lv_topi (fun v35 ev35 => ?_)
                have tlv35 : v35.toInt = (uw q21_2.toNatClampNeg).toInt := by rw [ev35]
                refine lv_isub hx hb dX11_verdict_116 ?_
                refine lv_topi (fun v36 ev36 => ?_)
                refine lv_istore (lv' := [(5, .int v36), (0, .ref (md 64)), (1, .int k), (2, .int q21_2), (3, .int q77_3), (4, .int q77_4)]) hx hb dX11_verdict_117 hl (by decide) rfl (fun ls hl => ?_)
                refine st_join 132 (fun (sk37 : Int32) => [.int sk37]) (fun (sk37 : Int32) (ls : Array Slot) (H : Heap) (locs : List Loc) => (sk37 = absV v36) ∧ lv_has ls 8 [(0, .ref (md 64)), (1, .int k), (2, .int q21_2), (3, .int q77_3), (4, .int q77_4), (5, .int v36)] ∧ va_P D vwCl [(moC md sd (0) mst hn cn pn mq gn mln mnn ln mlt msz mcu mtk mfr mti mfa mfb an un lc td mtn), (aI cI (md 53) 60 uk), (aI cI (md 54) 60 uy), (aI cI (md 55) 60 uw), (aI cI (md 56) 60 um)] H ∧ va_D A [(moC md sd (0) mst hn cn pn mq gn mln mnn ln mlt msz mcu mtk mfr mti mfa mfb an un lc td mtn), (aI cI (md 53) 60 uk), (aI cI (md 54) 60 uy), (aI cI (md 55) 60 uw), (aI cI (md 56) 60 um)] ∧ va_S A s.heap H locs) ?_ ?_
                · rintro sk37 ls H locs ⟨g38, hl, hP, hD, hS⟩
                  replace hl : lv_has ls 8 [(0, .ref (md 64)), (1, .int k), (2, .int q21_2), (3, .int q77_3), (4, .int q77_4), (5, .int v36)] := hl
                  replace hP : va_P D vwCl [(moC md sd (0) mst hn cn pn mq gn mln mnn ln mlt msz mcu mtk mfr mti mfa mfb an un lc td mtn), (aI cI (md 53) 60 uk), (aI cI (md 54) 60 uy), (aI cI (md 55) 60 uw), (aI cI (md 56) 60 um)] H := hP
                  replace hD : va_D A [(moC md sd (0) mst hn cn pn mq gn mln mnn ln mlt msz mcu mtk mfr mti mfa mfb an un lc td mtn), (aI cI (md 53) 60 uk), (aI cI (md 54) 60 uy), (aI cI (md 55) 60 uw), (aI cI (md 56) 60 um)] := hD
                  show W _ _ _ _ _ _ _ _ _ _ _ _ _ _ _ (F0 m 132 ls [.int sk37])
                  refine lv_istore (lv' := [(5, .int sk37), (0, .ref (md 64)), (1, .int k), (2, .int q21_2), (3, .int q77_3), (4, .int q77_4)]) hx hb dX11_verdict_132 hl (by decide) rfl (fun ls hl => ?_)
                  refine lv_aload_n hx hb dX11_verdict_134 rfl (lv_at hl 1 rfl) ?_
                  refine va_get (D := D) (ci := 11) (v := .ref (md 56)) (C := RX11) (T := TX11) (N := 64) hx hb hts inX11_verdict_X11 hown hK hP 0 rfl rfl 56 (by decide) (hts (Cond.fieldLink RX11 120 "PortRoomsModel" "openMarks" "[I") (wm_t (wm_l (wm_i 7 rfl)))) (fun _ h9 => h9) rfl dX11_verdict_135 ?_
                  refine lv_iload_n hx hb dX11_verdict_138 rfl (lv_at hl 3 rfl) ?_
                  refine va_iald hx hb hK hP 4 0 rfl rfl (i_in (by omega) (by omega)) dX11_verdict_139 ?_
                  refine lv_topi (fun v40 ev40 => ?_)
                  have tlv40 : v40.toInt = (um q21_2.toNatClampNeg).toInt := by rw [ev40]
                  refine lv_aload_n hx hb dX11_verdict_140 rfl (lv_at hl 1 rfl) ?_
                  refine va_get (D := D) (ci := 11) (v := .ref (md 56)) (C := RX11) (T := TX11) (N := 64) hx hb hts inX11_verdict_X11 hown hK hP 0 rfl rfl 56 (by decide) (hts (Cond.fieldLink RX11 120 "PortRoomsModel" "openMarks" "[I") (wm_t (wm_l (wm_i 7 rfl)))) (fun _ h9 => h9) rfl dX11_verdict_141 ?_
                  refine lv_iload hx hb dX11_verdict_144 (lv_at hl 5 rfl) ?_
                  refine va_iald hx hb hK hP 4 0 rfl rfl (i_in (by omega) (by omega)) dX11_verdict_146 ?_
                  refine lv_topi (fun v41 ev41 => ?_)
                  have tlv41 : v41.toInt = (um q77_4.toNatClampNeg).toInt := by rw [ev41]
                  refine lv_iconst (v := (-1)) hx hb dX11_verdict_147 (by decide) ?_
                  refine lv_ixor hx hb dX11_verdict_148 ?_
                  refine lv_topi (fun v42 ev42 => ?_)
                  refine lv_iand hx hb dX11_verdict_149 ?_
                  refine lv_topi (fun v43 ev43 => ?_)
                  refine st_i1 (va_runS (As := [.int v43]) (rest := []) ⟨hx, hb, hml, hown, hts⟩ (ct_X11_bits l D cI cY cJ cQ _ v43) (va_cwS 1 hts gX11_verdict_X11_bits rfl rfl rfl cdX11_bits ⟨Nat.le_of_ble_eq_true rfl, Nat.le_of_ble_eq_true rfl⟩) (cPreS (hP.sub [] rfl) hK (hD.sub [] (by decide +kernel) rfl) hN) rfl rfl hl.1 rfl (lv_room (Nat.le_of_ble_eq_true rfl)) dX11_verdict_150 ⟨Nat.le_of_ble_eq_true rfl, Nat.le_of_ble_eq_true rfl⟩) hP hD hS hA [] rfl (fun _ => rfl) (fun r46 u44 H locs hw45 => ?_)
                  clear hP hS
                  intro hP hS
                  replace hw45 : r46 = bmV v43 12 := hw45
                  subst hw45
                  refine lv_istore (lv' := [(6, .int (bmV v43 12)), (5, .int sk37), (0, .ref (md 64)), (1, .int k), (2, .int q21_2), (3, .int q77_3), (4, .int q77_4)]) hx hb dX11_verdict_153 hl (by decide) rfl (fun ls hl => ?_)
                  refine st_join 189 (fun (sk47 : Int32) => [.int sk47]) (fun (sk47 : Int32) (ls : Array Slot) (H : Heap) (locs : List Loc) => (sk47 = cvF sk37 (bmV v43 12)) ∧ lv_has ls 8 [(0, .ref (md 64)), (1, .int k), (2, .int q21_2), (3, .int q77_3), (4, .int q77_4), (5, .int sk37), (6, .int (bmV v43 12))] ∧ va_P D vwCl [(moC md sd (0) mst hn cn pn mq gn mln mnn ln mlt msz mcu mtk mfr mti mfa mfb an un lc td mtn), (aI cI (md 53) 60 uk), (aI cI (md 54) 60 uy), (aI cI (md 55) 60 uw), (aI cI (md 56) 60 um)] H ∧ va_D A [(moC md sd (0) mst hn cn pn mq gn mln mnn ln mlt msz mcu mtk mfr mti mfa mfb an un lc td mtn), (aI cI (md 53) 60 uk), (aI cI (md 54) 60 uy), (aI cI (md 55) 60 uw), (aI cI (md 56) 60 um)] ∧ va_S A s.heap H locs) ?_ ?_
                  · rintro sk47 ls H locs ⟨g48, hl, hP, hD, hS⟩
                    replace hl : lv_has ls 8 [(0, .ref (md 64)), (1, .int k), (2, .int q21_2), (3, .int q77_3), (4, .int q77_4), (5, .int sk37), (6, .int (bmV v43 12))] := hl
                    replace hP : va_P D vwCl [(moC md sd (0) mst hn cn pn mq gn mln mnn ln mlt msz mcu mtk mfr mti mfa mfb an un lc td mtn), (aI cI (md 53) 60 uk), (aI cI (md 54) 60 uy), (aI cI (md 55) 60 uw), (aI cI (md 56) 60 um)] H := hP
                    replace hD : va_D A [(moC md sd (0) mst hn cn pn mq gn mln mnn ln mlt msz mcu mtk mfr mti mfa mfb an un lc td mtn), (aI cI (md 53) 60 uk), (aI cI (md 54) 60 uy), (aI cI (md 55) 60 uw), (aI cI (md 56) 60 um)] := hD
                    show W _ _ _ _ _ _ _ _ _ _ _ _ _ _ _ (F0 m 189 ls [.int sk47])
                    refine lv_istore (lv' := [(7, .int sk47), (0, .ref (md 64)), (1, .int k), (2, .int q21_2), (3, .int q77_3), (4, .int q77_4), (5, .int sk37), (6, .int (bmV v43 12))]) hx hb dX11_verdict_189 hl (by decide) rfl (fun ls hl => ?_)
                    refine lv_iload hx hb dX11_verdict_191 (lv_at hl 0 rfl) ?_
                    refine lv_iload_n hx hb dX11_verdict_193 rfl (lv_at hl 4 rfl) ?_
                    refine lv_icmp_le (tgt := 202) hx hb dX11_verdict_194 (by decide) (fun c50 => ?_) (fun c50 => ?_)
                    · skip
                      have f51 := i_le c50
                      refine lv_iload_n hx hb dX11_verdict_202 rfl (lv_at hl 4 rfl) ?_
                      refine lv_istore_n (lv' := [(3, .int q77_3), (7, .int sk47), (0, .ref (md 64)), (1, .int k), (2, .int q21_2), (4, .int q77_4), (5, .int sk37), (6, .int (bmV v43 12))]) hx hb dX11_verdict_203 rfl hl (by decide) rfl (fun ls hl => ?_)
                      obtain ⟨v52, ev52⟩ : ∃ y : Int32, y = q77_4 + 1 := ⟨_, rfl⟩
                      try have tv52 : v52.toInt = q77_4.toInt + 1 := by rw [ev52]; exact (i_add (x := q77_4) (y := (1 : Int32)) (by rw [k1]; omega) (by rw [k1]; omega)).trans (by rw [k1])
                      refine lv_iinc (v := v52) (lv' := [(4, .int v52), (3, .int q77_3), (7, .int sk47), (0, .ref (md 64)), (1, .int k), (2, .int q21_2), (5, .int sk37), (6, .int (bmV v43 12))]) hx hb dX11_verdict_204 hl (k := 5) rfl (by rw [ev52]; rfl) (by decide) rfl (fun ls hl => ?_)
                      refine lv_goto (tgt := 77) hx hb dX11_verdict_207 (by decide) ?_
                      have clk8 := i_cl (x := q77_4) (by omega)
                      have clk9 := i_cl (x := v52) (by omega)
                      have ek9 : v52.toNatClampNeg = q77_4.toNatClampNeg + 1 := by omega
                      have ev9 : cvF (absV (uw q77_4.toNatClampNeg - uw q21_2.toNatClampNeg)) (bmV (um q21_2.toNatClampNeg &&& (um q77_4.toNatClampNeg ^^^ (-1))) 12) = sk47 := by rw [g48, g38, ev36, ev34, ev35, ev43, ev42, ev40, ev41]
                      exact ih19 (q77_3, v52) ls H locs ⟨(by omega), (by omega), (by rw [ek9, wmV_s, ← g18, if_pos ⟨by omega, by omega⟩, ev9]; exact maxV_f (by omega)), lv_sub hl [3, 4, 5, 1, 0] rfl, hP.sub [0, 1, 2, 3, 4] rfl, hD.sub [0, 1, 2, 3, 4] (by decide +kernel) rfl, hS⟩ (by show un.toInt - v52.toInt < _; omega)
                    · skip
                      have f53 := i_nle c50
                      refine lv_iload hx hb dX11_verdict_197 (lv_at hl 0 rfl) ?_
                      refine lv_goto (tgt := 203) hx hb dX11_verdict_199 (by decide) ?_
                      refine lv_istore_n (lv' := [(3, .int sk47), (7, .int sk47), (0, .ref (md 64)), (1, .int k), (2, .int q21_2), (4, .int q77_4), (5, .int sk37), (6, .int (bmV v43 12))]) hx hb dX11_verdict_203 rfl hl (by decide) rfl (fun ls hl => ?_)
                      obtain ⟨v54, ev54⟩ : ∃ y : Int32, y = q77_4 + 1 := ⟨_, rfl⟩
                      try have tv54 : v54.toInt = q77_4.toInt + 1 := by rw [ev54]; exact (i_add (x := q77_4) (y := (1 : Int32)) (by rw [k1]; omega) (by rw [k1]; omega)).trans (by rw [k1])
                      refine lv_iinc (v := v54) (lv' := [(4, .int v54), (3, .int sk47), (7, .int sk47), (0, .ref (md 64)), (1, .int k), (2, .int q21_2), (5, .int sk37), (6, .int (bmV v43 12))]) hx hb dX11_verdict_204 hl (k := 5) rfl (by rw [ev54]; rfl) (by decide) rfl (fun ls hl => ?_)
                      refine lv_goto (tgt := 77) hx hb dX11_verdict_207 (by decide) ?_
                      have clk8 := i_cl (x := q77_4) (by omega)
                      have clk9 := i_cl (x := v54) (by omega)
                      have ek9 : v54.toNatClampNeg = q77_4.toNatClampNeg + 1 := by omega
                      have ev9 : cvF (absV (uw q77_4.toNatClampNeg - uw q21_2.toNatClampNeg)) (bmV (um q21_2.toNatClampNeg &&& (um q77_4.toNatClampNeg ^^^ (-1))) 12) = sk47 := by rw [g48, g38, ev36, ev34, ev35, ev43, ev42, ev40, ev41]
                      exact ih19 (sk47, v54) ls H locs ⟨(by omega), (by omega), (by rw [ek9, wmV_s, ← g18, if_pos ⟨by omega, by omega⟩, ev9]; exact maxV_t (by omega)), lv_sub hl [3, 4, 5, 1, 0] rfl, hP.sub [0, 1, 2, 3, 4] rfl, hD.sub [0, 1, 2, 3, 4] (by decide +kernel) rfl, hS⟩ (by show un.toInt - v54.toInt < _; omega)
                  · intro hj49
                    refine lv_iload hx hb dX11_verdict_155 (lv_at hl 1 rfl) ?_
                    refine lv_bipush (v := 100) hx hb dX11_verdict_157 (by decide) ?_
                    refine lv_icmp_gt (tgt := 168) hx hb dX11_verdict_159 (by decide) (fun c55 => ?_) (fun c55 => ?_)
                    · skip
                      have f56 := i_lt c55
                      refine lv_iconst (v := 2) hx hb dX11_verdict_168 (by decide) ?_
                      refine lv_goto (tgt := 189) hx hb dX11_verdict_169 (by decide) ?_
                      exact hj49 (2 : Int32) ls _ _ ⟨(by first | exact cvF_2 (by omega) | exact cvF_1 (by omega) (by omega) | exact cvF_0 (by omega) (by omega)), lv_sub hl [2, 3, 4, 5, 6, 1, 0] rfl, hP.sub [0, 1, 2, 3, 4] rfl, hD.sub [0, 1, 2, 3, 4] (by decide +kernel) rfl, hS⟩
                    · skip
                      have f57 := i_nlt c55
                      refine lv_iload hx hb dX11_verdict_162 (lv_at hl 0 rfl) ?_
                      refine lv_iconst (v := 1) hx hb dX11_verdict_164 (by decide) ?_
                      refine lv_icmp_le (tgt := 172) hx hb dX11_verdict_165 (by decide) (fun c58 => ?_) (fun c58 => ?_)
                      · skip
                        have f59 := i_le c58
                        refine lv_iload hx hb dX11_verdict_172 (lv_at hl 1 rfl) ?_
                        refine lv_bipush (v := 10) hx hb dX11_verdict_174 (by decide) ?_
                        refine lv_icmp_gt (tgt := 184) hx hb dX11_verdict_176 (by decide) (fun c60 => ?_) (fun c60 => ?_)
                        · skip
                          have f61 := i_lt c60
                          refine lv_iconst (v := 1) hx hb dX11_verdict_184 (by decide) ?_
                          refine lv_goto (tgt := 189) hx hb dX11_verdict_185 (by decide) ?_
                          exact hj49 (1 : Int32) ls _ _ ⟨(by first | exact cvF_2 (by omega) | exact cvF_1 (by omega) (by omega) | exact cvF_0 (by omega) (by omega)), lv_sub hl [2, 3, 4, 5, 6, 1, 0] rfl, hP.sub [0, 1, 2, 3, 4] rfl, hD.sub [0, 1, 2, 3, 4] (by decide +kernel) rfl, hS⟩
                        · skip
                          have f62 := i_nlt c60
                          refine lv_iload hx hb dX11_verdict_179 (lv_at hl 0 rfl) ?_
                          refine lv_if_le (tgt := 188) hx hb dX11_verdict_181 (by decide) (fun c63 => ?_) (fun c63 => ?_)
                          · skip
                            have f64 := i_le c63
                            refine lv_iconst (v := 0) hx hb dX11_verdict_188 (by decide) ?_
                            exact hj49 (0 : Int32) ls _ _ ⟨(by first | exact cvF_2 (by omega) | exact cvF_1 (by omega) (by omega) | exact cvF_0 (by omega) (by omega)), lv_sub hl [2, 3, 4, 5, 6, 1, 0] rfl, hP.sub [0, 1, 2, 3, 4] rfl, hD.sub [0, 1, 2, 3, 4] (by decide +kernel) rfl, hS⟩
                          · skip
                            have f65 := i_nle c63
                            refine lv_iconst (v := 1) hx hb dX11_verdict_184 (by decide) ?_
                            refine lv_goto (tgt := 189) hx hb dX11_verdict_185 (by decide) ?_
                            exact hj49 (1 : Int32) ls _ _ ⟨(by first | exact cvF_2 (by omega) | exact cvF_1 (by omega) (by omega) | exact cvF_0 (by omega) (by omega)), lv_sub hl [2, 3, 4, 5, 6, 1, 0] rfl, hP.sub [0, 1, 2, 3, 4] rfl, hD.sub [0, 1, 2, 3, 4] (by decide +kernel) rfl, hS⟩
                      · skip
                        have f66 := i_nle c58
                        refine lv_iconst (v := 2) hx hb dX11_verdict_168 (by decide) ?_
                        refine lv_goto (tgt := 189) hx hb dX11_verdict_169 (by decide) ?_
                        exact hj49 (2 : Int32) ls _ _ ⟨(by first | exact cvF_2 (by omega) | exact cvF_1 (by omega) (by omega) | exact cvF_0 (by omega) (by omega)), lv_sub hl [2, 3, 4, 5, 6, 1, 0] rfl, hP.sub [0, 1, 2, 3, 4] rfl, hD.sub [0, 1, 2, 3, 4] (by decide +kernel) rfl, hS⟩
                · intro hj39
                  refine lv_iload hx hb dX11_verdict_119 (lv_at hl 0 rfl) ?_
                  refine lv_if_ge (tgt := 130) hx hb dX11_verdict_121 (by decide) (fun c67 => ?_) (fun c67 => ?_)
                  · skip
                    have f68 := i_le c67
                    refine lv_iload hx hb dX11_verdict_130 (lv_at hl 0 rfl) ?_
                    exact hj39 v36 ls _ _ ⟨(by first | exact absV_p (by omega) | exact absV_n (by omega) (by assumption)), lv_sub hl [1, 2, 3, 4, 5, 0] rfl, hP.sub [0, 1, 2, 3, 4] rfl, hD.sub [0, 1, 2, 3, 4] (by decide +kernel) rfl, hS⟩
                  · skip
                    have f69 := i_nle c67
                    refine lv_iload hx hb dX11_verdict_124 (lv_at hl 0 rfl) ?_
                    refine lv_ineg hx hb dX11_verdict_126 ?_
                    refine lv_topi (fun v70 ev70 => ?_)
                    refine lv_goto (tgt := 132) hx hb dX11_verdict_127 (by decide) ?_
                    exact hj39 v70 ls _ _ ⟨(by first | exact absV_p (by omega) | exact absV_n (by omega) (by assumption)), lv_sub hl [1, 2, 3, 4, 5, 0] rfl, hP.sub [0, 1, 2, 3, 4] rfl, hD.sub [0, 1, 2, 3, 4] (by decide +kernel) rfl, hS⟩
      · skip
        have f71 := i_nle c14
        refine lv_aload_n hx hb dX11_verdict_29 rfl (lv_at hl 0 rfl) ?_
        refine va_get (D := D) (ci := 11) (v := .ref (md 53)) (C := RX11) (T := TX11) (N := 64) hx hb hts inX11_verdict_X11 hown hK hP 0 rfl rfl 53 (by decide) (hts (Cond.fieldLink RX11 111 "PortRoomsModel" "openCrate" "[I") (wm_t (wm_l (wm_i 4 rfl)))) (fun _ h9 => h9) rfl dX11_verdict_30 ?_
        refine lv_iload_n hx hb dX11_verdict_33 rfl (lv_at hl 3 rfl) ?_
        refine va_iald hx hb hK hP 1 0 rfl rfl (i_in (by omega) (by omega)) dX11_verdict_34 ?_
        refine lv_topi (fun v72 ev72 => ?_)
        have tlv72 : v72.toInt = (uk q21_3.toNatClampNeg).toInt := by rw [ev72]
        refine lv_iload_n hx hb dX11_verdict_35 rfl (lv_at hl 1 rfl) ?_
        refine lv_icmp_ne (tgt := 64) hx hb dX11_verdict_36 (by decide) (fun c73 => ?_) (fun c73 => ?_)
        · skip
          have f74 := i_ne c73
          refine lv_iload_n hx hb dX11_verdict_64 rfl (lv_at hl 2 rfl) ?_
          refine lv_istore_n (lv' := [(2, .int q21_2), (0, .ref (md 64)), (1, .int k), (3, .int q21_3)]) hx hb dX11_verdict_65 rfl hl (by decide) rfl (fun ls hl => ?_)
          obtain ⟨v75, ev75⟩ : ∃ y : Int32, y = q21_3 + 1 := ⟨_, rfl⟩
          try have tv75 : v75.toInt = q21_3.toInt + 1 := by rw [ev75]; exact (i_add (x := q21_3) (y := (1 : Int32)) (by rw [k1]; omega) (by rw [k1]; omega)).trans (by rw [k1])
          refine lv_iinc (v := v75) (lv' := [(3, .int v75), (2, .int q21_2), (0, .ref (md 64)), (1, .int k)]) hx hb dX11_verdict_66 hl (k := 3) rfl (by rw [ev75]; rfl) (by decide) rfl (fun ls hl => ?_)
          refine lv_goto (tgt := 21) hx hb dX11_verdict_69 (by decide) ?_
          have clk8 := i_cl (x := q21_3) (by omega)
          have clk9 := i_cl (x := v75) (by omega)
          have ek9 : v75.toNatClampNeg = q21_3.toNatClampNeg + 1 := by omega
          have nk9 : nI q21_3.toNatClampNeg = q21_3 := i_nI (by omega)
          exact ih11 (q21_2, v75) ls H locs ⟨(by omega), (by omega), (by omega), (by first | (intro h9; exfalso; omega) | (intro h9; exact ver_step (g9 h9) (by omega) (by omega) (by rw [← ev72]; assumption))), (by rw [ek9, onV_s, nk9, ← g10]; (repeat' split) <;> first | (exfalso; omega) | rfl), lv_sub hl [2, 3, 1, 0] rfl, hP.sub [0, 1, 2, 3, 4] rfl, hD.sub [0, 1, 2, 3, 4] (by decide +kernel) rfl, hS⟩ (by show un.toInt - v75.toInt < _; omega)
        · skip
          have f76 := i_eq c73
          refine lv_iload_n hx hb dX11_verdict_39 rfl (lv_at hl 2 rfl) ?_
          refine lv_ldc hx hb hown (hts (Cond.constant RX11 139 (-1000000)) (wm_t (wm_l (wm_i 2 rfl)))) dX11_verdict_40 ?_
          refine lv_icmp_eq (tgt := 60) hx hb dX11_verdict_42 (by decide) (fun c77 => ?_) (fun c77 => ?_)
          · skip
            have f78 := i_eq c77
            refine lv_iload_n hx hb dX11_verdict_60 rfl (lv_at hl 3 rfl) ?_
            refine lv_goto (tgt := 65) hx hb dX11_verdict_61 (by decide) ?_
            refine lv_istore_n (lv' := [(2, .int q21_3), (0, .ref (md 64)), (1, .int k), (3, .int q21_3)]) hx hb dX11_verdict_65 rfl hl (by decide) rfl (fun ls hl => ?_)
            obtain ⟨v79, ev79⟩ : ∃ y : Int32, y = q21_3 + 1 := ⟨_, rfl⟩
            try have tv79 : v79.toInt = q21_3.toInt + 1 := by rw [ev79]; exact (i_add (x := q21_3) (y := (1 : Int32)) (by rw [k1]; omega) (by rw [k1]; omega)).trans (by rw [k1])
            refine lv_iinc (v := v79) (lv' := [(3, .int v79), (2, .int q21_3), (0, .ref (md 64)), (1, .int k)]) hx hb dX11_verdict_66 hl (k := 3) rfl (by rw [ev79]; rfl) (by decide) rfl (fun ls hl => ?_)
            refine lv_goto (tgt := 21) hx hb dX11_verdict_69 (by decide) ?_
            have clk8 := i_cl (x := q21_3) (by omega)
            have clk9 := i_cl (x := v79) (by omega)
            have ek9 : v79.toNatClampNeg = q21_3.toNatClampNeg + 1 := by omega
            have nk9 : nI q21_3.toNatClampNeg = q21_3 := i_nI (by omega)
            exact ih11 (q21_3, v79) ls H locs ⟨(by omega), (by omega), (by omega), (by first | (intro h9; exfalso; omega) | (intro h9; exact ver_step (g9 h9) (by omega) (by omega) (by rw [← ev72]; assumption))), (by rw [ek9, onV_s, nk9, ← g10]; (repeat' split) <;> first | (exfalso; omega) | rfl), lv_sub hl [2, 3, 1, 0] rfl, hP.sub [0, 1, 2, 3, 4] rfl, hD.sub [0, 1, 2, 3, 4] (by decide +kernel) rfl, hS⟩ (by show un.toInt - v79.toInt < _; omega)
          · skip
            have f80 := i_ne c77
            refine lv_aload_n hx hb dX11_verdict_45 rfl (lv_at hl 0 rfl) ?_
            refine va_get (D := D) (ci := 11) (v := .ref (md 54)) (C := RX11) (T := TX11) (N := 64) hx hb hts inX11_verdict_X11 hown hK hP 0 rfl rfl 54 (by decide) (hts (Cond.fieldLink RX11 114 "PortRoomsModel" "openDay" "[I") (wm_t (wm_l (wm_i 5 rfl)))) (fun _ h9 => h9) rfl dX11_verdict_46 ?_
            refine lv_iload_n hx hb dX11_verdict_49 rfl (lv_at hl 3 rfl) ?_
            refine va_iald hx hb hK hP 2 0 rfl rfl (i_in (by omega) (by omega)) dX11_verdict_50 ?_
            refine lv_topi (fun v81 ev81 => ?_)
            have tlv81 : v81.toInt = (uy q21_3.toNatClampNeg).toInt := by rw [ev81]
            refine lv_aload_n hx hb dX11_verdict_51 rfl (lv_at hl 0 rfl) ?_
            refine va_get (D := D) (ci := 11) (v := .ref (md 54)) (C := RX11) (T := TX11) (N := 64) hx hb hts inX11_verdict_X11 hown hK hP 0 rfl rfl 54 (by decide) (hts (Cond.fieldLink RX11 114 "PortRoomsModel" "openDay" "[I") (wm_t (wm_l (wm_i 5 rfl)))) (fun _ h9 => h9) rfl dX11_verdict_52 ?_
            refine lv_iload_n hx hb dX11_verdict_55 rfl (lv_at hl 2 rfl) ?_
            refine va_iald hx hb hK hP 2 0 rfl rfl (i_in (by omega) (by omega)) dX11_verdict_56 ?_
            refine lv_topi (fun v82 ev82 => ?_)
            have tlv82 : v82.toInt = (uy q21_2.toNatClampNeg).toInt := by rw [ev82]
            refine lv_icmp_ge (tgt := 64) hx hb dX11_verdict_57 (by decide) (fun c83 => ?_) (fun c83 => ?_)
            · skip
              have f84 := i_le c83
              refine lv_iload_n hx hb dX11_verdict_64 rfl (lv_at hl 2 rfl) ?_
              refine lv_istore_n (lv' := [(2, .int q21_2), (0, .ref (md 64)), (1, .int k), (3, .int q21_3)]) hx hb dX11_verdict_65 rfl hl (by decide) rfl (fun ls hl => ?_)
              obtain ⟨v85, ev85⟩ : ∃ y : Int32, y = q21_3 + 1 := ⟨_, rfl⟩
              try have tv85 : v85.toInt = q21_3.toInt + 1 := by rw [ev85]; exact (i_add (x := q21_3) (y := (1 : Int32)) (by rw [k1]; omega) (by rw [k1]; omega)).trans (by rw [k1])
              refine lv_iinc (v := v85) (lv' := [(3, .int v85), (2, .int q21_2), (0, .ref (md 64)), (1, .int k)]) hx hb dX11_verdict_66 hl (k := 3) rfl (by rw [ev85]; rfl) (by decide) rfl (fun ls hl => ?_)
              refine lv_goto (tgt := 21) hx hb dX11_verdict_69 (by decide) ?_
              have clk8 := i_cl (x := q21_3) (by omega)
              have clk9 := i_cl (x := v85) (by omega)
              have ek9 : v85.toNatClampNeg = q21_3.toNatClampNeg + 1 := by omega
              have nk9 : nI q21_3.toNatClampNeg = q21_3 := i_nI (by omega)
              exact ih11 (q21_2, v85) ls H locs ⟨(by omega), (by omega), (by omega), (by first | (intro h9; exfalso; omega) | (intro h9; exact ver_step (g9 h9) (by omega) (by omega) (by rw [← ev72]; assumption))), (by rw [ek9, onV_s, nk9, ← g10]; (repeat' split) <;> first | (exfalso; omega) | rfl), lv_sub hl [2, 3, 1, 0] rfl, hP.sub [0, 1, 2, 3, 4] rfl, hD.sub [0, 1, 2, 3, 4] (by decide +kernel) rfl, hS⟩ (by show un.toInt - v85.toInt < _; omega)
            · skip
              have f86 := i_nle c83
              refine lv_iload_n hx hb dX11_verdict_60 rfl (lv_at hl 3 rfl) ?_
              refine lv_goto (tgt := 65) hx hb dX11_verdict_61 (by decide) ?_
              refine lv_istore_n (lv' := [(2, .int q21_3), (0, .ref (md 64)), (1, .int k), (3, .int q21_3)]) hx hb dX11_verdict_65 rfl hl (by decide) rfl (fun ls hl => ?_)
              obtain ⟨v87, ev87⟩ : ∃ y : Int32, y = q21_3 + 1 := ⟨_, rfl⟩
              try have tv87 : v87.toInt = q21_3.toInt + 1 := by rw [ev87]; exact (i_add (x := q21_3) (y := (1 : Int32)) (by rw [k1]; omega) (by rw [k1]; omega)).trans (by rw [k1])
              refine lv_iinc (v := v87) (lv' := [(3, .int v87), (2, .int q21_3), (0, .ref (md 64)), (1, .int k)]) hx hb dX11_verdict_66 hl (k := 3) rfl (by rw [ev87]; rfl) (by decide) rfl (fun ls hl => ?_)
              refine lv_goto (tgt := 21) hx hb dX11_verdict_69 (by decide) ?_
              have clk8 := i_cl (x := q21_3) (by omega)
              have clk9 := i_cl (x := v87) (by omega)
              have ek9 : v87.toNatClampNeg = q21_3.toNatClampNeg + 1 := by omega
              have nk9 : nI q21_3.toNatClampNeg = q21_3 := i_nI (by omega)
              exact ih11 (q21_3, v87) ls H locs ⟨(by omega), (by omega), (by omega), (by first | (intro h9; exfalso; omega) | (intro h9; exact ver_step (g9 h9) (by omega) (by omega) (by rw [← ev72]; assumption))), (by rw [ek9, onV_s, nk9, ← g10]; (repeat' split) <;> first | (exfalso; omega) | rfl), lv_sub hl [2, 3, 1, 0] rfl, hP.sub [0, 1, 2, 3, 4] rfl, hD.sub [0, 1, 2, 3, 4] (by decide +kernel) rfl, hS⟩ (by show un.toInt - v87.toInt < _; omega)
  · skip
    have f88 := bo_f hw2 c4
    refine lv_ldc hx hb hown (hts (Cond.constant RX11 157 (-1000001)) (wm_t (wm_l (wm_i 1 rfl)))) dX11_verdict_13 ?_
    have hP9 := hP
    have hD9 := hD
    exact W.iret (v := (-1000001)) hx hb hr (fun t ht hW => ⟨⟨(-1000001), (), rfl, (by unfold sm_verdict; rw [if_neg (by omega)]), by rw [ht]; exact hP9, va_K.moved hW.alike hK, hD9⟩, hS.F ht⟩) hS.2.2 dX11_verdict_15
end

section
theorem cdX11_isBarred : yX11_isBarred.cls ≠ "java/lang/invoke/MethodHandle" ∧ yX11_isBarred.cls ≠ "java/lang/invoke/VarHandle" ∧ (parseMethodDescriptor yX11_isBarred.desc).map (fun d => d.parameters.length) = some 2 := by decide +kernel
theorem cdX11_owes : yX11_owes.cls ≠ "java/lang/invoke/MethodHandle" ∧ yX11_owes.cls ≠ "java/lang/invoke/VarHandle" ∧ (parseMethodDescriptor yX11_owes.desc).map (fun d => d.parameters.length) = some 1 := by decide +kernel
theorem cdX11_kindOf : yX11_kindOf.cls ≠ "java/lang/invoke/MethodHandle" ∧ yX11_kindOf.cls ≠ "java/lang/invoke/VarHandle" ∧ (parseMethodDescriptor yX11_kindOf.desc).map (fun d => d.parameters.length) = some 1 := by decide +kernel
theorem cdX11_isOf : yX11_isOf.cls ≠ "java/lang/invoke/MethodHandle" ∧ yX11_isOf.cls ≠ "java/lang/invoke/VarHandle" ∧ (parseMethodDescriptor yX11_isOf.desc).map (fun d => d.parameters.length) = some 2 := by decide +kernel
theorem Gd_X11_isBarred : gdA wsX11_isBarred := gd_cons (by decide +kernel) (gd_app (gd_all (ws := wsX11_isBarred_o1) (by decide +kernel)) (gd_app (gd_app Gd_X110 Gd_X11_ownerOf) Gd_X11_shareOf))
theorem inX11_isBarred_X11 : ∀ w ∈ u_ws RX11 TX11 64, w ∈ wsX11_isBarred := fun _ h => (List.mem_cons_of_mem _ (List.mem_append_right _ (List.mem_append_left _ (List.mem_append_left _ h))))
theorem inX11_barred_X11 : ∀ w ∈ u_ws RX11 TX11 64, w ∈ wsX11_barred := fun _ h => (List.mem_cons_of_mem _ (List.mem_append_right _ (List.mem_append_left _ (List.mem_append_left _ h))))
theorem Gd_X11_owes : gdA wsX11_owes := gd_cons (by decide +kernel) (gd_app (gd_all (ws := wsX11_owes_o1) (by decide +kernel)) Gd_X110)
theorem Gd_X11_kindOf : gdA wsX11_kindOf := gd_cons (by decide +kernel) (gd_app (gd_all (ws := wsX11_kindOf_o1) (by decide +kernel)) (gd_app (gd_app Gd_X110 Gd_X11_owes) Gd_X11_isBarred))
theorem inX11_kindOf_X11 : ∀ w ∈ u_ws RX11 TX11 64, w ∈ wsX11_kindOf := fun _ h => (List.mem_cons_of_mem _ (List.mem_append_right _ (List.mem_append_left _ (List.mem_append_left _ h))))
theorem Gd_X11_isOf : gdA wsX11_isOf := gd_cons (by decide +kernel) (gd_all (ws := []) rfl)
theorem inX11_kind_X11 : ∀ w ∈ u_ws RX11 TX11 64, w ∈ wsX11_kind := fun _ h => (List.mem_cons_of_mem _ (List.mem_append_right _ (List.mem_append_left _ (List.mem_append_left _ h))))
theorem inX11_as_X11 : ∀ w ∈ u_ws RX11 TX11 64, w ∈ wsX11_as := fun _ h => (List.mem_cons_of_mem _ (List.mem_append_right _ (List.mem_append_left _ (List.mem_append_left _ (List.mem_append_left _ h)))))
theorem ggX11_isBarred_X11_ownerOf : GoodIn wsX11_isBarred wsX11_ownerOf := goodIn_s (fun _ h => wm_t (wm_r (wm_l (wm_r h)))) Gd_X11_ownerOf
theorem gX11_isBarred_X11_ownerOf : GoodIn wsX11_isBarred (wsV RX11 228 RX11 yX11_ownerOf wsX11_ownerOf) := goodIn_V (own := RX11) (idx := 228) (C := RX11) (y := yX11_ownerOf) (wm_t (wm_l (wm_i 5 rfl))) (wm_t (wm_l (wm_i 6 rfl))) (wm_t (wm_l (wm_i 7 rfl))) (wm_t (wm_l (wm_i 8 rfl))) ggX11_isBarred_X11_ownerOf
theorem ggX11_isBarred_X11_shareOf : GoodIn wsX11_isBarred wsX11_shareOf := goodIn_s (fun _ h => wm_t (wm_r (wm_r h))) Gd_X11_shareOf
theorem gX11_isBarred_X11_shareOf : GoodIn wsX11_isBarred (wsV RX11 211 RX11 yX11_shareOf wsX11_shareOf) := goodIn_V (own := RX11) (idx := 211) (C := RX11) (y := yX11_shareOf) (wm_t (wm_l (wm_i 9 rfl))) (wm_t (wm_l (wm_i 10 rfl))) (wm_t (wm_l (wm_i 11 rfl))) (wm_t (wm_l (wm_i 8 rfl))) ggX11_isBarred_X11_shareOf
theorem dX11_isBarred_all0 : decode cX11_isBarred 0 = .ok (.iconst 0, 1) ∧ decode cX11_isBarred 1 = .ok (.istore_n 3, 1) ∧ decode cX11_isBarred 2 = .ok (.iconst 0, 1) ∧ decode cX11_isBarred 3 = .ok (.istore 4, 2) ∧ decode cX11_isBarred 5 = .ok (.iload 4, 2) ∧ decode cX11_isBarred 7 = .ok (.aload_n 0, 1) ∧ decode cX11_isBarred 8 = .ok (.getfield 360, 3) ∧ decode cX11_isBarred 11 = .ok (.if_icmp .ge 47, 3) ∧ decode cX11_isBarred 14 = .ok (.iload_n 3, 1) ∧ decode cX11_isBarred 15 = .ok (.iload_n 2, 1) ∧ decode cX11_isBarred 16 = .ok (.aload_n 0, 1) ∧ decode cX11_isBarred 17 = .ok (.getfield 126, 3) := by decide +kernel
theorem dX11_isBarred_0 : decode cX11_isBarred 0 = .ok (.iconst 0, 1) := dX11_isBarred_all0.1
theorem dX11_isBarred_1 : decode cX11_isBarred 1 = .ok (.istore_n 3, 1) := dX11_isBarred_all0.2.1
theorem dX11_isBarred_2 : decode cX11_isBarred 2 = .ok (.iconst 0, 1) := dX11_isBarred_all0.2.2.1
theorem dX11_isBarred_3 : decode cX11_isBarred 3 = .ok (.istore 4, 2) := dX11_isBarred_all0.2.2.2.1
theorem dX11_isBarred_5 : decode cX11_isBarred 5 = .ok (.iload 4, 2) := dX11_isBarred_all0.2.2.2.2.1
theorem dX11_isBarred_7 : decode cX11_isBarred 7 = .ok (.aload_n 0, 1) := dX11_isBarred_all0.2.2.2.2.2.1
theorem dX11_isBarred_8 : decode cX11_isBarred 8 = .ok (.getfield 360, 3) := dX11_isBarred_all0.2.2.2.2.2.2.1
theorem dX11_isBarred_11 : decode cX11_isBarred 11 = .ok (.if_icmp .ge 47, 3) := dX11_isBarred_all0.2.2.2.2.2.2.2.1
theorem dX11_isBarred_14 : decode cX11_isBarred 14 = .ok (.iload_n 3, 1) := dX11_isBarred_all0.2.2.2.2.2.2.2.2.1
theorem dX11_isBarred_15 : decode cX11_isBarred 15 = .ok (.iload_n 2, 1) := dX11_isBarred_all0.2.2.2.2.2.2.2.2.2.1
theorem dX11_isBarred_16 : decode cX11_isBarred 16 = .ok (.aload_n 0, 1) := dX11_isBarred_all0.2.2.2.2.2.2.2.2.2.2.1
theorem dX11_isBarred_17 : decode cX11_isBarred 17 = .ok (.getfield 126, 3) := dX11_isBarred_all0.2.2.2.2.2.2.2.2.2.2.2
theorem dX11_isBarred_all1 : decode cX11_isBarred 20 = .ok (.iload 4, 2) ∧ decode cX11_isBarred 22 = .ok (.iaload, 1) ∧ decode cX11_isBarred 23 = .ok (.if_icmp .lt 26, 3) ∧ decode cX11_isBarred 26 = .ok (.iload_n 2, 1) ∧ decode cX11_isBarred 27 = .ok (.aload_n 0, 1) ∧ decode cX11_isBarred 28 = .ok (.getfield 129, 3) ∧ decode cX11_isBarred 31 = .ok (.iload 4, 2) ∧ decode cX11_isBarred 33 = .ok (.iaload, 1) ∧ decode cX11_isBarred 34 = .ok (.if_icmp .gt 15, 3) ∧ decode cX11_isBarred 37 = .ok (.iconst 1, 1) ∧ decode cX11_isBarred 38 = .ok (.aload_n 0, 1) ∧ decode cX11_isBarred 39 = .ok (.getfield 123, 3) := by decide +kernel
theorem dX11_isBarred_20 : decode cX11_isBarred 20 = .ok (.iload 4, 2) := dX11_isBarred_all1.1
theorem dX11_isBarred_22 : decode cX11_isBarred 22 = .ok (.iaload, 1) := dX11_isBarred_all1.2.1
theorem dX11_isBarred_23 : decode cX11_isBarred 23 = .ok (.if_icmp .lt 26, 3) := dX11_isBarred_all1.2.2.1
theorem dX11_isBarred_26 : decode cX11_isBarred 26 = .ok (.iload_n 2, 1) := dX11_isBarred_all1.2.2.2.1
theorem dX11_isBarred_27 : decode cX11_isBarred 27 = .ok (.aload_n 0, 1) := dX11_isBarred_all1.2.2.2.2.1
theorem dX11_isBarred_28 : decode cX11_isBarred 28 = .ok (.getfield 129, 3) := dX11_isBarred_all1.2.2.2.2.2.1
theorem dX11_isBarred_31 : decode cX11_isBarred 31 = .ok (.iload 4, 2) := dX11_isBarred_all1.2.2.2.2.2.2.1
theorem dX11_isBarred_33 : decode cX11_isBarred 33 = .ok (.iaload, 1) := dX11_isBarred_all1.2.2.2.2.2.2.2.1
theorem dX11_isBarred_34 : decode cX11_isBarred 34 = .ok (.if_icmp .gt 15, 3) := dX11_isBarred_all1.2.2.2.2.2.2.2.2.1
theorem dX11_isBarred_37 : decode cX11_isBarred 37 = .ok (.iconst 1, 1) := dX11_isBarred_all1.2.2.2.2.2.2.2.2.2.1
theorem dX11_isBarred_38 : decode cX11_isBarred 38 = .ok (.aload_n 0, 1) := dX11_isBarred_all1.2.2.2.2.2.2.2.2.2.2.1
theorem dX11_isBarred_39 : decode cX11_isBarred 39 = .ok (.getfield 123, 3) := dX11_isBarred_all1.2.2.2.2.2.2.2.2.2.2.2
theorem dX11_isBarred_all2 : decode cX11_isBarred 42 = .ok (.iload 4, 2) ∧ decode cX11_isBarred 44 = .ok (.iaload, 1) ∧ decode cX11_isBarred 45 = .ok (.ishl, 1) ∧ decode cX11_isBarred 46 = .ok (.goto 4, 3) ∧ decode cX11_isBarred 49 = .ok (.iconst 0, 1) ∧ decode cX11_isBarred 50 = .ok (.ior, 1) ∧ decode cX11_isBarred 51 = .ok (.istore_n 3, 1) ∧ decode cX11_isBarred 52 = .ok (.iinc 4 1, 3) ∧ decode cX11_isBarred 55 = .ok (.goto (-50), 3) ∧ decode cX11_isBarred 58 = .ok (.aload_n 0, 1) ∧ decode cX11_isBarred 59 = .ok (.iload_n 1, 1) ∧ decode cX11_isBarred 60 = .ok (.iload_n 2, 1) := by decide +kernel
theorem dX11_isBarred_42 : decode cX11_isBarred 42 = .ok (.iload 4, 2) := dX11_isBarred_all2.1
theorem dX11_isBarred_44 : decode cX11_isBarred 44 = .ok (.iaload, 1) := dX11_isBarred_all2.2.1
theorem dX11_isBarred_45 : decode cX11_isBarred 45 = .ok (.ishl, 1) := dX11_isBarred_all2.2.2.1
theorem dX11_isBarred_46 : decode cX11_isBarred 46 = .ok (.goto 4, 3) := dX11_isBarred_all2.2.2.2.1
theorem dX11_isBarred_49 : decode cX11_isBarred 49 = .ok (.iconst 0, 1) := dX11_isBarred_all2.2.2.2.2.1
theorem dX11_isBarred_50 : decode cX11_isBarred 50 = .ok (.ior, 1) := dX11_isBarred_all2.2.2.2.2.2.1
theorem dX11_isBarred_51 : decode cX11_isBarred 51 = .ok (.istore_n 3, 1) := dX11_isBarred_all2.2.2.2.2.2.2.1
theorem dX11_isBarred_52 : decode cX11_isBarred 52 = .ok (.iinc 4 1, 3) := dX11_isBarred_all2.2.2.2.2.2.2.2.1
theorem dX11_isBarred_55 : decode cX11_isBarred 55 = .ok (.goto (-50), 3) := dX11_isBarred_all2.2.2.2.2.2.2.2.2.1
theorem dX11_isBarred_58 : decode cX11_isBarred 58 = .ok (.aload_n 0, 1) := dX11_isBarred_all2.2.2.2.2.2.2.2.2.2.1
theorem dX11_isBarred_59 : decode cX11_isBarred 59 = .ok (.iload_n 1, 1) := dX11_isBarred_all2.2.2.2.2.2.2.2.2.2.2.1
theorem dX11_isBarred_60 : decode cX11_isBarred 60 = .ok (.iload_n 2, 1) := dX11_isBarred_all2.2.2.2.2.2.2.2.2.2.2.2
theorem dX11_isBarred_all3 : decode cX11_isBarred 61 = .ok (.iload_n 2, 1) ∧ decode cX11_isBarred 62 = .ok (.invokevirtual 228, 3) ∧ decode cX11_isBarred 65 = .ok (.istore 4, 2) ∧ decode cX11_isBarred 67 = .ok (.lconst 0, 1) ∧ decode cX11_isBarred 68 = .ok (.lstore 5, 2) ∧ decode cX11_isBarred 70 = .ok (.iconst 0, 1) ∧ decode cX11_isBarred 71 = .ok (.istore 7, 2) ∧ decode cX11_isBarred 73 = .ok (.iload 7, 2) ∧ decode cX11_isBarred 75 = .ok (.bipush 10, 2) ∧ decode cX11_isBarred 77 = .ok (.if_icmp .ge 38, 3) ∧ decode cX11_isBarred 80 = .ok (.lload 5, 2) ∧ decode cX11_isBarred 82 = .ok (.iload_n 3, 1) := by decide +kernel
theorem dX11_isBarred_61 : decode cX11_isBarred 61 = .ok (.iload_n 2, 1) := dX11_isBarred_all3.1
theorem dX11_isBarred_62 : decode cX11_isBarred 62 = .ok (.invokevirtual 228, 3) := dX11_isBarred_all3.2.1
theorem dX11_isBarred_65 : decode cX11_isBarred 65 = .ok (.istore 4, 2) := dX11_isBarred_all3.2.2.1
theorem dX11_isBarred_67 : decode cX11_isBarred 67 = .ok (.lconst 0, 1) := dX11_isBarred_all3.2.2.2.1
theorem dX11_isBarred_68 : decode cX11_isBarred 68 = .ok (.lstore 5, 2) := dX11_isBarred_all3.2.2.2.2.1
theorem dX11_isBarred_70 : decode cX11_isBarred 70 = .ok (.iconst 0, 1) := dX11_isBarred_all3.2.2.2.2.2.1
theorem dX11_isBarred_71 : decode cX11_isBarred 71 = .ok (.istore 7, 2) := dX11_isBarred_all3.2.2.2.2.2.2.1
theorem dX11_isBarred_73 : decode cX11_isBarred 73 = .ok (.iload 7, 2) := dX11_isBarred_all3.2.2.2.2.2.2.2.1
theorem dX11_isBarred_75 : decode cX11_isBarred 75 = .ok (.bipush 10, 2) := dX11_isBarred_all3.2.2.2.2.2.2.2.2.1
theorem dX11_isBarred_77 : decode cX11_isBarred 77 = .ok (.if_icmp .ge 38, 3) := dX11_isBarred_all3.2.2.2.2.2.2.2.2.2.1
theorem dX11_isBarred_80 : decode cX11_isBarred 80 = .ok (.lload 5, 2) := dX11_isBarred_all3.2.2.2.2.2.2.2.2.2.2.1
theorem dX11_isBarred_82 : decode cX11_isBarred 82 = .ok (.iload_n 3, 1) := dX11_isBarred_all3.2.2.2.2.2.2.2.2.2.2.2
theorem dX11_isBarred_all4 : decode cX11_isBarred 83 = .ok (.iload 7, 2) ∧ decode cX11_isBarred 85 = .ok (.ishr, 1) ∧ decode cX11_isBarred 86 = .ok (.iconst 1, 1) ∧ decode cX11_isBarred 87 = .ok (.iand, 1) ∧ decode cX11_isBarred 88 = .ok (.iconst 1, 1) ∧ decode cX11_isBarred 89 = .ok (.if_icmp .ne 16, 3) ∧ decode cX11_isBarred 92 = .ok (.aload_n 0, 1) ∧ decode cX11_isBarred 93 = .ok (.iload 7, 2) ∧ decode cX11_isBarred 95 = .ok (.iload 4, 2) ∧ decode cX11_isBarred 97 = .ok (.iload_n 2, 1) ∧ decode cX11_isBarred 98 = .ok (.invokevirtual 211, 3) ∧ decode cX11_isBarred 101 = .ok (.i2l, 1) := by decide +kernel
theorem dX11_isBarred_83 : decode cX11_isBarred 83 = .ok (.iload 7, 2) := dX11_isBarred_all4.1
theorem dX11_isBarred_85 : decode cX11_isBarred 85 = .ok (.ishr, 1) := dX11_isBarred_all4.2.1
theorem dX11_isBarred_86 : decode cX11_isBarred 86 = .ok (.iconst 1, 1) := dX11_isBarred_all4.2.2.1
theorem dX11_isBarred_87 : decode cX11_isBarred 87 = .ok (.iand, 1) := dX11_isBarred_all4.2.2.2.1
theorem dX11_isBarred_88 : decode cX11_isBarred 88 = .ok (.iconst 1, 1) := dX11_isBarred_all4.2.2.2.2.1
theorem dX11_isBarred_89 : decode cX11_isBarred 89 = .ok (.if_icmp .ne 16, 3) := dX11_isBarred_all4.2.2.2.2.2.1
theorem dX11_isBarred_92 : decode cX11_isBarred 92 = .ok (.aload_n 0, 1) := dX11_isBarred_all4.2.2.2.2.2.2.1
theorem dX11_isBarred_93 : decode cX11_isBarred 93 = .ok (.iload 7, 2) := dX11_isBarred_all4.2.2.2.2.2.2.2.1
theorem dX11_isBarred_95 : decode cX11_isBarred 95 = .ok (.iload 4, 2) := dX11_isBarred_all4.2.2.2.2.2.2.2.2.1
theorem dX11_isBarred_97 : decode cX11_isBarred 97 = .ok (.iload_n 2, 1) := dX11_isBarred_all4.2.2.2.2.2.2.2.2.2.1
theorem dX11_isBarred_98 : decode cX11_isBarred 98 = .ok (.invokevirtual 211, 3) := dX11_isBarred_all4.2.2.2.2.2.2.2.2.2.2.1
theorem dX11_isBarred_101 : decode cX11_isBarred 101 = .ok (.i2l, 1) := dX11_isBarred_all4.2.2.2.2.2.2.2.2.2.2.2
theorem dX11_isBarred_all5 : decode cX11_isBarred 102 = .ok (.goto 4, 3) ∧ decode cX11_isBarred 105 = .ok (.lconst 0, 1) ∧ decode cX11_isBarred 106 = .ok (.ladd, 1) ∧ decode cX11_isBarred 107 = .ok (.lstore 5, 2) ∧ decode cX11_isBarred 109 = .ok (.iinc 7 1, 3) ∧ decode cX11_isBarred 112 = .ok (.goto (-39), 3) ∧ decode cX11_isBarred 115 = .ok (.lload 5, 2) ∧ decode cX11_isBarred 117 = .ok (.ldc2_w 363, 3) ∧ decode cX11_isBarred 120 = .ok (.lcmp, 1) ∧ decode cX11_isBarred 121 = .ok (.ifCond .lt 7, 3) ∧ decode cX11_isBarred 124 = .ok (.iconst 1, 1) ∧ decode cX11_isBarred 125 = .ok (.goto 4, 3) := by decide +kernel
theorem dX11_isBarred_102 : decode cX11_isBarred 102 = .ok (.goto 4, 3) := dX11_isBarred_all5.1
theorem dX11_isBarred_105 : decode cX11_isBarred 105 = .ok (.lconst 0, 1) := dX11_isBarred_all5.2.1
theorem dX11_isBarred_106 : decode cX11_isBarred 106 = .ok (.ladd, 1) := dX11_isBarred_all5.2.2.1
theorem dX11_isBarred_107 : decode cX11_isBarred 107 = .ok (.lstore 5, 2) := dX11_isBarred_all5.2.2.2.1
theorem dX11_isBarred_109 : decode cX11_isBarred 109 = .ok (.iinc 7 1, 3) := dX11_isBarred_all5.2.2.2.2.1
theorem dX11_isBarred_112 : decode cX11_isBarred 112 = .ok (.goto (-39), 3) := dX11_isBarred_all5.2.2.2.2.2.1
theorem dX11_isBarred_115 : decode cX11_isBarred 115 = .ok (.lload 5, 2) := dX11_isBarred_all5.2.2.2.2.2.2.1
theorem dX11_isBarred_117 : decode cX11_isBarred 117 = .ok (.ldc2_w 363, 3) := dX11_isBarred_all5.2.2.2.2.2.2.2.1
theorem dX11_isBarred_120 : decode cX11_isBarred 120 = .ok (.lcmp, 1) := dX11_isBarred_all5.2.2.2.2.2.2.2.2.1
theorem dX11_isBarred_121 : decode cX11_isBarred 121 = .ok (.ifCond .lt 7, 3) := dX11_isBarred_all5.2.2.2.2.2.2.2.2.2.1
theorem dX11_isBarred_124 : decode cX11_isBarred 124 = .ok (.iconst 1, 1) := dX11_isBarred_all5.2.2.2.2.2.2.2.2.2.2.1
theorem dX11_isBarred_125 : decode cX11_isBarred 125 = .ok (.goto 4, 3) := dX11_isBarred_all5.2.2.2.2.2.2.2.2.2.2.2
theorem dX11_isBarred_all6 : decode cX11_isBarred 128 = .ok (.iconst 0, 1) ∧ decode cX11_isBarred 129 = .ok (.ireturn, 1) := by decide +kernel
theorem dX11_isBarred_128 : decode cX11_isBarred 128 = .ok (.iconst 0, 1) := dX11_isBarred_all6.1
theorem dX11_isBarred_129 : decode cX11_isBarred 129 = .ok (.ireturn, 1) := dX11_isBarred_all6.2
theorem ggX11_barred_X11_isCrate : GoodIn wsX11_barred wsX11_isCrate := goodIn_s (fun _ h => wm_t (wm_r (wm_l (wm_r h)))) Gd_X11_isCrate
theorem gX11_barred_X11_isCrate : GoodIn wsX11_barred (wsV RX11 219 RX11 yX11_isCrate wsX11_isCrate) := goodIn_V (own := RX11) (idx := 219) (C := RX11) (y := yX11_isCrate) (wm_t (wm_l (wm_i 2 rfl))) (wm_t (wm_l (wm_i 3 rfl))) (wm_t (wm_l (wm_i 4 rfl))) (wm_t (wm_l (wm_i 5 rfl))) ggX11_barred_X11_isCrate
theorem ggX11_barred_X11_isDay : GoodIn wsX11_barred wsX11_isDay := goodIn_s (fun _ h => wm_t (wm_r (wm_r (wm_l h)))) Gd_X11_isDay
theorem gX11_barred_X11_isDay : GoodIn wsX11_barred (va_wsS RX11 178 yX11_isDay wsX11_isDay) := goodIn_S (own := RX11) (idx := 178) (y := yX11_isDay) (wm_t (wm_l (wm_i 6 rfl))) (wm_t (wm_l (wm_i 7 rfl))) (wm_t (wm_l (wm_i 5 rfl))) ggX11_barred_X11_isDay
theorem ggX11_barred_X11_isBarred : GoodIn wsX11_barred wsX11_isBarred := goodIn_s (fun _ h => wm_t (wm_r (wm_r (wm_r h)))) Gd_X11_isBarred
theorem gX11_barred_X11_isBarred : GoodIn wsX11_barred (wsV RX11 365 RX11 yX11_isBarred wsX11_isBarred) := goodIn_V (own := RX11) (idx := 365) (C := RX11) (y := yX11_isBarred) (wm_t (wm_l (wm_i 8 rfl))) (wm_t (wm_l (wm_i 9 rfl))) (wm_t (wm_l (wm_i 10 rfl))) (wm_t (wm_l (wm_i 5 rfl))) ggX11_barred_X11_isBarred
theorem dX11_barred_all0 : decode cX11_barred 0 = .ok (.aload_n 0, 1) ∧ decode cX11_barred 1 = .ok (.iconst 0, 1) ∧ decode cX11_barred 2 = .ok (.putfield 1, 3) ∧ decode cX11_barred 5 = .ok (.aload_n 0, 1) ∧ decode cX11_barred 6 = .ok (.iload_n 1, 1) ∧ decode cX11_barred 7 = .ok (.invokevirtual 219, 3) ∧ decode cX11_barred 10 = .ok (.ifCond .eq 10, 3) ∧ decode cX11_barred 13 = .ok (.iload_n 2, 1) ∧ decode cX11_barred 14 = .ok (.invokestatic 178, 3) ∧ decode cX11_barred 17 = .ok (.ifCond .ne 8, 3) ∧ decode cX11_barred 20 = .ok (.ldc 157, 2) ∧ decode cX11_barred 22 = .ok (.goto 17, 3) := by decide +kernel
theorem dX11_barred_0 : decode cX11_barred 0 = .ok (.aload_n 0, 1) := dX11_barred_all0.1
theorem dX11_barred_1 : decode cX11_barred 1 = .ok (.iconst 0, 1) := dX11_barred_all0.2.1
theorem dX11_barred_2 : decode cX11_barred 2 = .ok (.putfield 1, 3) := dX11_barred_all0.2.2.1
theorem dX11_barred_5 : decode cX11_barred 5 = .ok (.aload_n 0, 1) := dX11_barred_all0.2.2.2.1
theorem dX11_barred_6 : decode cX11_barred 6 = .ok (.iload_n 1, 1) := dX11_barred_all0.2.2.2.2.1
theorem dX11_barred_7 : decode cX11_barred 7 = .ok (.invokevirtual 219, 3) := dX11_barred_all0.2.2.2.2.2.1
theorem dX11_barred_10 : decode cX11_barred 10 = .ok (.ifCond .eq 10, 3) := dX11_barred_all0.2.2.2.2.2.2.1
theorem dX11_barred_13 : decode cX11_barred 13 = .ok (.iload_n 2, 1) := dX11_barred_all0.2.2.2.2.2.2.2.1
theorem dX11_barred_14 : decode cX11_barred 14 = .ok (.invokestatic 178, 3) := dX11_barred_all0.2.2.2.2.2.2.2.2.1
theorem dX11_barred_17 : decode cX11_barred 17 = .ok (.ifCond .ne 8, 3) := dX11_barred_all0.2.2.2.2.2.2.2.2.2.1
theorem dX11_barred_20 : decode cX11_barred 20 = .ok (.ldc 157, 2) := dX11_barred_all0.2.2.2.2.2.2.2.2.2.2.1
theorem dX11_barred_22 : decode cX11_barred 22 = .ok (.goto 17, 3) := dX11_barred_all0.2.2.2.2.2.2.2.2.2.2.2
theorem dX11_barred_all1 : decode cX11_barred 25 = .ok (.aload_n 0, 1) ∧ decode cX11_barred 26 = .ok (.iload_n 1, 1) ∧ decode cX11_barred 27 = .ok (.iload_n 2, 1) ∧ decode cX11_barred 28 = .ok (.invokevirtual 365, 3) ∧ decode cX11_barred 31 = .ok (.ifCond .eq 7, 3) ∧ decode cX11_barred 34 = .ok (.iconst 1, 1) ∧ decode cX11_barred 35 = .ok (.goto 4, 3) ∧ decode cX11_barred 38 = .ok (.iconst 0, 1) ∧ decode cX11_barred 39 = .ok (.ireturn, 1) := by decide +kernel
theorem dX11_barred_25 : decode cX11_barred 25 = .ok (.aload_n 0, 1) := dX11_barred_all1.1
theorem dX11_barred_26 : decode cX11_barred 26 = .ok (.iload_n 1, 1) := dX11_barred_all1.2.1
theorem dX11_barred_27 : decode cX11_barred 27 = .ok (.iload_n 2, 1) := dX11_barred_all1.2.2.1
theorem dX11_barred_28 : decode cX11_barred 28 = .ok (.invokevirtual 365, 3) := dX11_barred_all1.2.2.2.1
theorem dX11_barred_31 : decode cX11_barred 31 = .ok (.ifCond .eq 7, 3) := dX11_barred_all1.2.2.2.2.1
theorem dX11_barred_34 : decode cX11_barred 34 = .ok (.iconst 1, 1) := dX11_barred_all1.2.2.2.2.2.1
theorem dX11_barred_35 : decode cX11_barred 35 = .ok (.goto 4, 3) := dX11_barred_all1.2.2.2.2.2.2.1
theorem dX11_barred_38 : decode cX11_barred 38 = .ok (.iconst 0, 1) := dX11_barred_all1.2.2.2.2.2.2.2.1
theorem dX11_barred_39 : decode cX11_barred 39 = .ok (.ireturn, 1) := dX11_barred_all1.2.2.2.2.2.2.2.2
theorem ggX11_kindOf_X11_owes : GoodIn wsX11_kindOf wsX11_owes := goodIn_s (fun _ h => wm_t (wm_r (wm_l (wm_r h)))) Gd_X11_owes
theorem gX11_kindOf_X11_owes : GoodIn wsX11_kindOf (wsV RX11 372 RX11 yX11_owes wsX11_owes) := goodIn_V (own := RX11) (idx := 372) (C := RX11) (y := yX11_owes) (wm_t (wm_l (wm_i 2 rfl))) (wm_t (wm_l (wm_i 3 rfl))) (wm_t (wm_l (wm_i 4 rfl))) (wm_t (wm_l (wm_i 5 rfl))) ggX11_kindOf_X11_owes
theorem ggX11_kindOf_X11_isBarred : GoodIn wsX11_kindOf wsX11_isBarred := goodIn_s (fun _ h => wm_t (wm_r (wm_r h))) Gd_X11_isBarred
theorem gX11_kindOf_X11_isBarred : GoodIn wsX11_kindOf (wsV RX11 365 RX11 yX11_isBarred wsX11_isBarred) := goodIn_V (own := RX11) (idx := 365) (C := RX11) (y := yX11_isBarred) (wm_t (wm_l (wm_i 6 rfl))) (wm_t (wm_l (wm_i 7 rfl))) (wm_t (wm_l (wm_i 8 rfl))) (wm_t (wm_l (wm_i 5 rfl))) ggX11_kindOf_X11_isBarred
theorem dX11_kindOf_all0 : decode cX11_kindOf 0 = .ok (.aload_n 0, 1) ∧ decode cX11_kindOf 1 = .ok (.iload_n 1, 1) ∧ decode cX11_kindOf 2 = .ok (.invokevirtual 372, 3) ∧ decode cX11_kindOf 5 = .ok (.istore_n 2, 1) ∧ decode cX11_kindOf 6 = .ok (.aload_n 0, 1) ∧ decode cX11_kindOf 7 = .ok (.iload_n 1, 1) ∧ decode cX11_kindOf 8 = .ok (.aload_n 0, 1) ∧ decode cX11_kindOf 9 = .ok (.getfield 369, 3) ∧ decode cX11_kindOf 12 = .ok (.invokevirtual 365, 3) ∧ decode cX11_kindOf 15 = .ok (.ifCond .eq 7, 3) ∧ decode cX11_kindOf 18 = .ok (.iconst 3, 1) ∧ decode cX11_kindOf 19 = .ok (.goto 26, 3) := by decide +kernel
theorem dX11_kindOf_0 : decode cX11_kindOf 0 = .ok (.aload_n 0, 1) := dX11_kindOf_all0.1
theorem dX11_kindOf_1 : decode cX11_kindOf 1 = .ok (.iload_n 1, 1) := dX11_kindOf_all0.2.1
theorem dX11_kindOf_2 : decode cX11_kindOf 2 = .ok (.invokevirtual 372, 3) := dX11_kindOf_all0.2.2.1
theorem dX11_kindOf_5 : decode cX11_kindOf 5 = .ok (.istore_n 2, 1) := dX11_kindOf_all0.2.2.2.1
theorem dX11_kindOf_6 : decode cX11_kindOf 6 = .ok (.aload_n 0, 1) := dX11_kindOf_all0.2.2.2.2.1
theorem dX11_kindOf_7 : decode cX11_kindOf 7 = .ok (.iload_n 1, 1) := dX11_kindOf_all0.2.2.2.2.2.1
theorem dX11_kindOf_8 : decode cX11_kindOf 8 = .ok (.aload_n 0, 1) := dX11_kindOf_all0.2.2.2.2.2.2.1
theorem dX11_kindOf_9 : decode cX11_kindOf 9 = .ok (.getfield 369, 3) := dX11_kindOf_all0.2.2.2.2.2.2.2.1
theorem dX11_kindOf_12 : decode cX11_kindOf 12 = .ok (.invokevirtual 365, 3) := dX11_kindOf_all0.2.2.2.2.2.2.2.2.1
theorem dX11_kindOf_15 : decode cX11_kindOf 15 = .ok (.ifCond .eq 7, 3) := dX11_kindOf_all0.2.2.2.2.2.2.2.2.2.1
theorem dX11_kindOf_18 : decode cX11_kindOf 18 = .ok (.iconst 3, 1) := dX11_kindOf_all0.2.2.2.2.2.2.2.2.2.2.1
theorem dX11_kindOf_19 : decode cX11_kindOf 19 = .ok (.goto 26, 3) := dX11_kindOf_all0.2.2.2.2.2.2.2.2.2.2.2
theorem dX11_kindOf_all1 : decode cX11_kindOf 22 = .ok (.iload_n 2, 1) ∧ decode cX11_kindOf 23 = .ok (.aload_n 0, 1) ∧ decode cX11_kindOf 24 = .ok (.getfield 51, 3) ∧ decode cX11_kindOf 27 = .ok (.iload_n 1, 1) ∧ decode cX11_kindOf 28 = .ok (.iaload, 1) ∧ decode cX11_kindOf 29 = .ok (.if_icmp .le 7, 3) ∧ decode cX11_kindOf 32 = .ok (.iconst 2, 1) ∧ decode cX11_kindOf 33 = .ok (.goto 12, 3) ∧ decode cX11_kindOf 36 = .ok (.iload_n 2, 1) ∧ decode cX11_kindOf 37 = .ok (.ifCond .le 7, 3) ∧ decode cX11_kindOf 40 = .ok (.iconst 1, 1) ∧ decode cX11_kindOf 41 = .ok (.goto 4, 3) := by decide +kernel
theorem dX11_kindOf_22 : decode cX11_kindOf 22 = .ok (.iload_n 2, 1) := dX11_kindOf_all1.1
theorem dX11_kindOf_23 : decode cX11_kindOf 23 = .ok (.aload_n 0, 1) := dX11_kindOf_all1.2.1
theorem dX11_kindOf_24 : decode cX11_kindOf 24 = .ok (.getfield 51, 3) := dX11_kindOf_all1.2.2.1
theorem dX11_kindOf_27 : decode cX11_kindOf 27 = .ok (.iload_n 1, 1) := dX11_kindOf_all1.2.2.2.1
theorem dX11_kindOf_28 : decode cX11_kindOf 28 = .ok (.iaload, 1) := dX11_kindOf_all1.2.2.2.2.1
theorem dX11_kindOf_29 : decode cX11_kindOf 29 = .ok (.if_icmp .le 7, 3) := dX11_kindOf_all1.2.2.2.2.2.1
theorem dX11_kindOf_32 : decode cX11_kindOf 32 = .ok (.iconst 2, 1) := dX11_kindOf_all1.2.2.2.2.2.2.1
theorem dX11_kindOf_33 : decode cX11_kindOf 33 = .ok (.goto 12, 3) := dX11_kindOf_all1.2.2.2.2.2.2.2.1
theorem dX11_kindOf_36 : decode cX11_kindOf 36 = .ok (.iload_n 2, 1) := dX11_kindOf_all1.2.2.2.2.2.2.2.2.1
theorem dX11_kindOf_37 : decode cX11_kindOf 37 = .ok (.ifCond .le 7, 3) := dX11_kindOf_all1.2.2.2.2.2.2.2.2.2.1
theorem dX11_kindOf_40 : decode cX11_kindOf 40 = .ok (.iconst 1, 1) := dX11_kindOf_all1.2.2.2.2.2.2.2.2.2.2.1
theorem dX11_kindOf_41 : decode cX11_kindOf 41 = .ok (.goto 4, 3) := dX11_kindOf_all1.2.2.2.2.2.2.2.2.2.2.2
theorem dX11_kindOf_all2 : decode cX11_kindOf 44 = .ok (.iconst 4, 1) ∧ decode cX11_kindOf 45 = .ok (.ireturn, 1) := by decide +kernel
theorem dX11_kindOf_44 : decode cX11_kindOf 44 = .ok (.iconst 4, 1) := dX11_kindOf_all2.1
theorem dX11_kindOf_45 : decode cX11_kindOf 45 = .ok (.ireturn, 1) := dX11_kindOf_all2.2
theorem ggX11_kind_X11_isCrate : GoodIn wsX11_kind wsX11_isCrate := goodIn_s (fun _ h => wm_t (wm_r (wm_l (wm_r h)))) Gd_X11_isCrate
theorem gX11_kind_X11_isCrate : GoodIn wsX11_kind (wsV RX11 219 RX11 yX11_isCrate wsX11_isCrate) := goodIn_V (own := RX11) (idx := 219) (C := RX11) (y := yX11_isCrate) (wm_t (wm_l (wm_i 2 rfl))) (wm_t (wm_l (wm_i 3 rfl))) (wm_t (wm_l (wm_i 4 rfl))) (wm_t (wm_l (wm_i 5 rfl))) ggX11_kind_X11_isCrate
theorem ggX11_kind_X11_kindOf : GoodIn wsX11_kind wsX11_kindOf := goodIn_s (fun _ h => wm_t (wm_r (wm_r h))) Gd_X11_kindOf
theorem gX11_kind_X11_kindOf : GoodIn wsX11_kind (wsV RX11 375 RX11 yX11_kindOf wsX11_kindOf) := goodIn_V (own := RX11) (idx := 375) (C := RX11) (y := yX11_kindOf) (wm_t (wm_l (wm_i 6 rfl))) (wm_t (wm_l (wm_i 7 rfl))) (wm_t (wm_l (wm_i 8 rfl))) (wm_t (wm_l (wm_i 5 rfl))) ggX11_kind_X11_kindOf
theorem dX11_kind_all0 : decode cX11_kind 0 = .ok (.aload_n 0, 1) ∧ decode cX11_kind 1 = .ok (.iconst 0, 1) ∧ decode cX11_kind 2 = .ok (.putfield 1, 3) ∧ decode cX11_kind 5 = .ok (.aload_n 0, 1) ∧ decode cX11_kind 6 = .ok (.iload_n 1, 1) ∧ decode cX11_kind 7 = .ok (.invokevirtual 219, 3) ∧ decode cX11_kind 10 = .ok (.ifCond .eq 11, 3) ∧ decode cX11_kind 13 = .ok (.aload_n 0, 1) ∧ decode cX11_kind 14 = .ok (.iload_n 1, 1) ∧ decode cX11_kind 15 = .ok (.invokevirtual 375, 3) ∧ decode cX11_kind 18 = .ok (.goto 5, 3) ∧ decode cX11_kind 21 = .ok (.ldc 157, 2) := by decide +kernel
theorem dX11_kind_0 : decode cX11_kind 0 = .ok (.aload_n 0, 1) := dX11_kind_all0.1
theorem dX11_kind_1 : decode cX11_kind 1 = .ok (.iconst 0, 1) := dX11_kind_all0.2.1
theorem dX11_kind_2 : decode cX11_kind 2 = .ok (.putfield 1, 3) := dX11_kind_all0.2.2.1
theorem dX11_kind_5 : decode cX11_kind 5 = .ok (.aload_n 0, 1) := dX11_kind_all0.2.2.2.1
theorem dX11_kind_6 : decode cX11_kind 6 = .ok (.iload_n 1, 1) := dX11_kind_all0.2.2.2.2.1
theorem dX11_kind_7 : decode cX11_kind 7 = .ok (.invokevirtual 219, 3) := dX11_kind_all0.2.2.2.2.2.1
theorem dX11_kind_10 : decode cX11_kind 10 = .ok (.ifCond .eq 11, 3) := dX11_kind_all0.2.2.2.2.2.2.1
theorem dX11_kind_13 : decode cX11_kind 13 = .ok (.aload_n 0, 1) := dX11_kind_all0.2.2.2.2.2.2.2.1
theorem dX11_kind_14 : decode cX11_kind 14 = .ok (.iload_n 1, 1) := dX11_kind_all0.2.2.2.2.2.2.2.2.1
theorem dX11_kind_15 : decode cX11_kind 15 = .ok (.invokevirtual 375, 3) := dX11_kind_all0.2.2.2.2.2.2.2.2.2.1
theorem dX11_kind_18 : decode cX11_kind 18 = .ok (.goto 5, 3) := dX11_kind_all0.2.2.2.2.2.2.2.2.2.2.1
theorem dX11_kind_21 : decode cX11_kind 21 = .ok (.ldc 157, 2) := dX11_kind_all0.2.2.2.2.2.2.2.2.2.2.2
theorem dX11_kind_23 : decode cX11_kind 23 = .ok (.ireturn, 1) := by decide +kernel
theorem ggX11_as_X11_isCrate : GoodIn wsX11_as wsX11_isCrate := goodIn_s (fun _ h => wm_t (wm_r (wm_l (wm_l (wm_r h))))) Gd_X11_isCrate
theorem gX11_as_X11_isCrate : GoodIn wsX11_as (wsV RX11 219 RX11 yX11_isCrate wsX11_isCrate) := goodIn_V (own := RX11) (idx := 219) (C := RX11) (y := yX11_isCrate) (wm_t (wm_l (wm_i 5 rfl))) (wm_t (wm_l (wm_i 6 rfl))) (wm_t (wm_l (wm_i 7 rfl))) (wm_t (wm_l (wm_i 8 rfl))) ggX11_as_X11_isCrate
theorem ggX11_as_X11_in : GoodIn wsX11_as wsX11_in := goodIn_s (fun _ h => wm_t (wm_r (wm_l (wm_r h)))) Gd_X11_in
theorem gX11_as_X11_in : GoodIn wsX11_as (va_wsS RX11 147 yX11_in wsX11_in) := goodIn_S (own := RX11) (idx := 147) (y := yX11_in) (wm_t (wm_l (wm_i 9 rfl))) (wm_t (wm_l (wm_i 10 rfl))) (wm_t (wm_l (wm_i 8 rfl))) ggX11_as_X11_in
theorem ggX11_as_X11_kindOf : GoodIn wsX11_as wsX11_kindOf := goodIn_s (fun _ h => wm_t (wm_r (wm_r (wm_l (wm_l h))))) Gd_X11_kindOf
theorem gX11_as_X11_kindOf : GoodIn wsX11_as (wsV RX11 375 RX11 yX11_kindOf wsX11_kindOf) := goodIn_V (own := RX11) (idx := 375) (C := RX11) (y := yX11_kindOf) (wm_t (wm_l (wm_i 11 rfl))) (wm_t (wm_l (wm_i 12 rfl))) (wm_t (wm_l (wm_i 13 rfl))) (wm_t (wm_l (wm_i 8 rfl))) ggX11_as_X11_kindOf
theorem ggX11_as_X11_isOf : GoodIn wsX11_as wsX11_isOf := goodIn_s (fun _ h => wm_t (wm_r (wm_r (wm_l (wm_r h))))) Gd_X11_isOf
theorem gX11_as_X11_isOf : GoodIn wsX11_as (va_wsS RX11 380 yX11_isOf wsX11_isOf) := goodIn_S (own := RX11) (idx := 380) (y := yX11_isOf) (wm_t (wm_l (wm_i 14 rfl))) (wm_t (wm_l (wm_i 15 rfl))) (wm_t (wm_l (wm_i 8 rfl))) ggX11_as_X11_isOf
theorem ggX11_as_X11_found : GoodIn wsX11_as wsX11_found := goodIn_s (fun _ h => wm_t (wm_r (wm_r (wm_r h)))) Gd_X11_found
theorem gX11_as_X11_found : GoodIn wsX11_as (wsV RX11 158 RX11 yX11_found wsX11_found) := goodIn_V (own := RX11) (idx := 158) (C := RX11) (y := yX11_found) (wm_t (wm_l (wm_i 16 rfl))) (wm_t (wm_l (wm_i 17 rfl))) (wm_t (wm_l (wm_i 18 rfl))) (wm_t (wm_l (wm_i 8 rfl))) ggX11_as_X11_found
theorem dX11_as_all0 : decode cX11_as 0 = .ok (.aload_n 0, 1) ∧ decode cX11_as 1 = .ok (.iconst 0, 1) ∧ decode cX11_as 2 = .ok (.putfield 1, 3) ∧ decode cX11_as 5 = .ok (.aload_n 0, 1) ∧ decode cX11_as 6 = .ok (.iload_n 1, 1) ∧ decode cX11_as 7 = .ok (.invokevirtual 219, 3) ∧ decode cX11_as 10 = .ok (.ifCond .eq 15, 3) ∧ decode cX11_as 13 = .ok (.iload_n 2, 1) ∧ decode cX11_as 14 = .ok (.i2l, 1) ∧ decode cX11_as 15 = .ok (.lconst 0, 1) ∧ decode cX11_as 16 = .ok (.ldc2_w 378, 3) ∧ decode cX11_as 19 = .ok (.invokestatic 147, 3) := by decide +kernel
theorem dX11_as_0 : decode cX11_as 0 = .ok (.aload_n 0, 1) := dX11_as_all0.1
theorem dX11_as_1 : decode cX11_as 1 = .ok (.iconst 0, 1) := dX11_as_all0.2.1
theorem dX11_as_2 : decode cX11_as 2 = .ok (.putfield 1, 3) := dX11_as_all0.2.2.1
theorem dX11_as_5 : decode cX11_as 5 = .ok (.aload_n 0, 1) := dX11_as_all0.2.2.2.1
theorem dX11_as_6 : decode cX11_as 6 = .ok (.iload_n 1, 1) := dX11_as_all0.2.2.2.2.1
theorem dX11_as_7 : decode cX11_as 7 = .ok (.invokevirtual 219, 3) := dX11_as_all0.2.2.2.2.2.1
theorem dX11_as_10 : decode cX11_as 10 = .ok (.ifCond .eq 15, 3) := dX11_as_all0.2.2.2.2.2.2.1
theorem dX11_as_13 : decode cX11_as 13 = .ok (.iload_n 2, 1) := dX11_as_all0.2.2.2.2.2.2.2.1
theorem dX11_as_14 : decode cX11_as 14 = .ok (.i2l, 1) := dX11_as_all0.2.2.2.2.2.2.2.2.1
theorem dX11_as_15 : decode cX11_as 15 = .ok (.lconst 0, 1) := dX11_as_all0.2.2.2.2.2.2.2.2.2.1
theorem dX11_as_16 : decode cX11_as 16 = .ok (.ldc2_w 378, 3) := dX11_as_all0.2.2.2.2.2.2.2.2.2.2.1
theorem dX11_as_19 : decode cX11_as 19 = .ok (.invokestatic 147, 3) := dX11_as_all0.2.2.2.2.2.2.2.2.2.2.2
theorem dX11_as_all1 : decode cX11_as 22 = .ok (.ifCond .ne 6, 3) ∧ decode cX11_as 25 = .ok (.ldc 157, 2) ∧ decode cX11_as 27 = .ok (.ireturn, 1) ∧ decode cX11_as 28 = .ok (.aload_n 0, 1) ∧ decode cX11_as 29 = .ok (.iconst 0, 1) ∧ decode cX11_as 30 = .ok (.putfield 141, 3) ∧ decode cX11_as 33 = .ok (.aload_n 0, 1) ∧ decode cX11_as 34 = .ok (.iload_n 1, 1) ∧ decode cX11_as 35 = .ok (.invokevirtual 375, 3) ∧ decode cX11_as 38 = .ok (.iload_n 2, 1) ∧ decode cX11_as 39 = .ok (.invokestatic 380, 3) ∧ decode cX11_as 42 = .ok (.ifCond .eq 12, 3) := by decide +kernel
theorem dX11_as_22 : decode cX11_as 22 = .ok (.ifCond .ne 6, 3) := dX11_as_all1.1
theorem dX11_as_25 : decode cX11_as 25 = .ok (.ldc 157, 2) := dX11_as_all1.2.1
theorem dX11_as_27 : decode cX11_as 27 = .ok (.ireturn, 1) := dX11_as_all1.2.2.1
theorem dX11_as_28 : decode cX11_as 28 = .ok (.aload_n 0, 1) := dX11_as_all1.2.2.2.1
theorem dX11_as_29 : decode cX11_as 29 = .ok (.iconst 0, 1) := dX11_as_all1.2.2.2.2.1
theorem dX11_as_30 : decode cX11_as 30 = .ok (.putfield 141, 3) := dX11_as_all1.2.2.2.2.2.1
theorem dX11_as_33 : decode cX11_as 33 = .ok (.aload_n 0, 1) := dX11_as_all1.2.2.2.2.2.2.1
theorem dX11_as_34 : decode cX11_as 34 = .ok (.iload_n 1, 1) := dX11_as_all1.2.2.2.2.2.2.2.1
theorem dX11_as_35 : decode cX11_as 35 = .ok (.invokevirtual 375, 3) := dX11_as_all1.2.2.2.2.2.2.2.2.1
theorem dX11_as_38 : decode cX11_as 38 = .ok (.iload_n 2, 1) := dX11_as_all1.2.2.2.2.2.2.2.2.2.1
theorem dX11_as_39 : decode cX11_as 39 = .ok (.invokestatic 380, 3) := dX11_as_all1.2.2.2.2.2.2.2.2.2.2.1
theorem dX11_as_42 : decode cX11_as 42 = .ok (.ifCond .eq 12, 3) := dX11_as_all1.2.2.2.2.2.2.2.2.2.2.2
theorem dX11_as_all2 : decode cX11_as 45 = .ok (.aload_n 0, 1) ∧ decode cX11_as 46 = .ok (.getfield 51, 3) ∧ decode cX11_as 49 = .ok (.iload_n 1, 1) ∧ decode cX11_as 50 = .ok (.iaload, 1) ∧ decode cX11_as 51 = .ok (.goto 8, 3) ∧ decode cX11_as 54 = .ok (.aload_n 0, 1) ∧ decode cX11_as 55 = .ok (.iconst 3, 1) ∧ decode cX11_as 56 = .ok (.invokevirtual 158, 3) ∧ decode cX11_as 59 = .ok (.ireturn, 1) := by decide +kernel
theorem dX11_as_45 : decode cX11_as 45 = .ok (.aload_n 0, 1) := dX11_as_all2.1
theorem dX11_as_46 : decode cX11_as 46 = .ok (.getfield 51, 3) := dX11_as_all2.2.1
theorem dX11_as_49 : decode cX11_as 49 = .ok (.iload_n 1, 1) := dX11_as_all2.2.2.1
theorem dX11_as_50 : decode cX11_as 50 = .ok (.iaload, 1) := dX11_as_all2.2.2.2.1
theorem dX11_as_51 : decode cX11_as 51 = .ok (.goto 8, 3) := dX11_as_all2.2.2.2.2.1
theorem dX11_as_54 : decode cX11_as 54 = .ok (.aload_n 0, 1) := dX11_as_all2.2.2.2.2.2.1
theorem dX11_as_55 : decode cX11_as 55 = .ok (.iconst 3, 1) := dX11_as_all2.2.2.2.2.2.2.1
theorem dX11_as_56 : decode cX11_as 56 = .ok (.invokevirtual 158, 3) := dX11_as_all2.2.2.2.2.2.2.2.1
theorem dX11_as_59 : decode cX11_as 59 = .ok (.ireturn, 1) := dX11_as_all2.2.2.2.2.2.2.2.2

theorem nxV_rng (pk pd pe : Nat → Int32) (k n : Int32) (met : Int64) (m : Nat) (hm : m ≤ 40) : (nxV pk pd pe k n met m).toInt = -1000000 ∨ (0 ≤ (nxV pk pd pe k n met m).toInt ∧ (nxV pk pd pe k n met m).toInt < m) := by
  induction m with
  | zero => exact Or.inl rfl
  | succ m ih =>
    have ih := ih (by omega)
    have c := nI_toInt (n := m) (by omega)
    rw [nxV_s]
    split <;> omega
theorem ooV_rng {pk pf po pd pe : Nat → Int32} {pn : Nat} {k d n : Int32} (hp : pn ≤ 40) (hg : ∀ j, j < pn → 0 ≤ (po j).toInt ∧ (po j).toInt < 20) (f : Nat) : ∀ (met : Int64) (w t q : Int32), 0 ≤ t.toInt → t.toInt < 20 → 0 ≤ (ooV pk pf po pd pe pn k d n f met w t q).1.toInt ∧ (ooV pk pf po pd pe pn k d n f met w t q).1.toInt < 20 := by
  induction f with
  | zero => exact fun _ _ _ _ h0 h1 => ⟨h0, h1⟩
  | succ f ih =>
    intro met w t q h0 h1
    rw [ooV_s]
    have r := nxV_rng pk pd pe k n met pn hp
    split
    · exact ⟨h0, h1⟩
    · rename_i g
      have r2 : 0 ≤ (nxV pk pd pe k n met pn).toInt ∧ (nxV pk pd pe k n met pn).toInt < pn := by
        rcases r with r | r
        · exact absurd r g
        · exact r
      have c := i_cl r2.1
      have hp9 := hg (nxV pk pd pe k n met pn).toNatClampNeg (by omega)
      split
      · apply ih
        · split
          · exact hp9.1
          · exact h0
        · split
          · exact hp9.2
          · exact h1
      · exact ih _ _ _ _ h0 h1

set_option maxHeartbeats 4000000 in
set_option maxRecDepth 100000 in
theorem ct_X11_isBarred (l : Launch) (D : va_G) (cI cY cJ cQ : ClassId) (sz : Nat) (md : Nat → Nat) (sd : Int32) (mth mst hn cn pn mq gn mln mnn ln mlt msz mcu mtk mfr mti mfa mfb an un lc td mtn : Int32) (fo pk pf po pd pe lp la lb ho hc hp hs mh mp mt : Nat → Int32) (mf : Nat → Int64) (k : Int32) (d : Int32)  (h1 : cn.toInt ≤ 12) (h2 : 0 ≤ k.toInt) (h3 : k.toInt < cn.toInt) (h4 : 0 ≤ pn.toInt) (h5 : pn.toInt ≤ 40) (h6 : 0 ≤ lc.toInt) (h7 : lc.toInt ≤ 20) (h8 : 0 ≤ hn.toInt) (h9 : hn.toInt ≤ 40) (h10 : okV hn hp) (h11 : okF cn fo) (h12 : okG pn po)  : Met l yX11_isBarred wsX11_isBarred ({ frames := 3, cells := 0, slots := 0, locals := 71 }) (cPre D (ty4 cI cY cJ cQ) [(moC md sd mth mst hn cn pn mq gn mln mnn ln mlt msz mcu mtk mfr mti mfa mfb an un lc td mtn), (aI cI (md 16) 12 fo), (aI cI (md 19) 40 pk), (aI cI (md 20) 40 pf), (aI cI (md 21) 40 po), (aI cI (md 22) 40 pd), (aI cI (md 23) 40 pe), (aI cI (md 58) 20 lp), (aI cI (md 59) 20 la), (aI cI (md 60) 20 lb), (aI cI (md 7) 40 ho), (aI cI (md 8) 40 hc), (aI cI (md 9) 40 hp), (aI cI (md 10) 40 hs), (aI cI (md 11) 200 mh), (aI cI (md 12) 12 mp), (aI cI (md 13) 12 mt), (aJ cJ (md 14) 12 mf)] sz [.ref (md 64), .int k, .int d]) (va_Qi (fun (r : Int32) (u : Int32 × (Nat → Int32) × (Nat → Int32) × (Nat → Int32) × (Nat → Int64)) => r = if 500000 ≤ brV (pmF ho hc hp hs d hn.toNatClampNeg) (poV lp la lb d lc.toNatClampNeg) (ooV pk pf po pd pe pn.toNatClampNeg k d d 41 0 (fo k.toNatClampNeg) (fo k.toNatClampNeg) 0).1.toNatClampNeg 10 then 1 else 0) (cB D (ty4 cI cY cJ cQ) (fun (u : Int32 × (Nat → Int32) × (Nat → Int32) × (Nat → Int32) × (Nat → Int64)) => [(moC md sd mth mst hn cn pn u.1 gn mln mnn ln mlt msz mcu mtk mfr mti mfa mfb an un lc td mtn), (aI cI (md 16) 12 fo), (aI cI (md 19) 40 pk), (aI cI (md 20) 40 pf), (aI cI (md 21) 40 po), (aI cI (md 22) 40 pd), (aI cI (md 23) 40 pe), (aI cI (md 58) 20 lp), (aI cI (md 59) 20 la), (aI cI (md 60) 20 lb), (aI cI (md 7) 40 ho), (aI cI (md 8) 40 hc), (aI cI (md 9) 40 hp), (aI cI (md 10) 40 hs), (aI cI (md 11) 200 u.2.1), (aI cI (md 12) 12 u.2.2.1), (aI cI (md 13) 12 u.2.2.2.1), (aJ cJ (md 14) 12 u.2.2.2.2)]) (va_A [(moC md sd mth mst hn cn pn mq gn mln mnn ln mlt msz mcu mtk mfr mti mfa mfb an un lc td mtn), (aI cI (md 16) 12 fo), (aI cI (md 19) 40 pk), (aI cI (md 20) 40 pf), (aI cI (md 21) 40 po), (aI cI (md 22) 40 pd), (aI cI (md 23) 40 pe), (aI cI (md 58) 20 lp), (aI cI (md 59) 20 la), (aI cI (md 60) 20 lb), (aI cI (md 7) 40 ho), (aI cI (md 8) 40 hc), (aI cI (md 9) 40 hp), (aI cI (md 10) 40 hs), (aI cI (md 11) 200 mh), (aI cI (md 12) 12 mp), (aI cI (md 13) 12 mt), (aJ cJ (md 14) 12 mf)] sz)) (va_A [(moC md sd mth mst hn cn pn mq gn mln mnn ln mlt msz mcu mtk mfr mti mfa mfb an un lc td mtn), (aI cI (md 16) 12 fo), (aI cI (md 19) 40 pk), (aI cI (md 20) 40 pf), (aI cI (md 21) 40 po), (aI cI (md 22) 40 pd), (aI cI (md 23) 40 pe), (aI cI (md 58) 20 lp), (aI cI (md 59) 20 la), (aI cI (md 60) 20 lb), (aI cI (md 7) 40 ho), (aI cI (md 8) 40 hc), (aI cI (md 9) 40 hp), (aI cI (md 10) 40 hs), (aI cI (md 11) 200 mh), (aI cI (md 12) 12 mp), (aI cI (md 13) 12 mt), (aJ cJ (md 14) 12 mf)] sz)) 0 0 (va_A [(moC md sd mth mst hn cn pn mq gn mln mnn ln mlt msz mcu mtk mfr mti mfa mfb an un lc td mtn), (aI cI (md 16) 12 fo), (aI cI (md 19) 40 pk), (aI cI (md 20) 40 pf), (aI cI (md 21) 40 po), (aI cI (md 22) 40 pd), (aI cI (md 23) 40 pe), (aI cI (md 58) 20 lp), (aI cI (md 59) 20 la), (aI cI (md 60) 20 lb), (aI cI (md 7) 40 ho), (aI cI (md 8) 40 hc), (aI cI (md 9) 40 hp), (aI cI (md 10) 40 hs), (aI cI (md 11) 200 mh), (aI cI (md 12) 12 mp), (aI cI (md 13) 12 mt), (aJ cJ (md 14) 12 mf)] sz) := by
  refine Met.ofW (cc := cX11_isBarred) (maxL := 8) (ret := (some .boolean)) (by decide) rfl ?_
  intro p e s m args below meth c s₁ B hml hv
  obtain ⟨rfl, hsz, hP, hK, hD0, hN⟩ := hv
  have hx := B.exec
  have hb := B.bytes
  have hr := B.returns
  have hts := atoms_spec (ws := wsX11_isBarred) B.pre
  have hown : s.vm.findClass RX11 = some m.cls := findClass_of_methodNamed B.named
  have hlocks := B.notSynchronized
  subst hsz
  have hD := hD0.self (sz := s.heap.size)
  generalize hAe : va_A [(moC md sd mth mst hn cn pn mq gn mln mnn ln mlt msz mcu mtk mfr mti mfa mfb an un lc td mtn), (aI cI (md 16) 12 fo), (aI cI (md 19) 40 pk), (aI cI (md 20) 40 pf), (aI cI (md 21) 40 po), (aI cI (md 22) 40 pd), (aI cI (md 23) 40 pe), (aI cI (md 58) 20 lp), (aI cI (md 59) 20 la), (aI cI (md 60) 20 lb), (aI cI (md 7) 40 ho), (aI cI (md 8) 40 hc), (aI cI (md 9) 40 hp), (aI cI (md 10) 40 hs), (aI cI (md 11) 200 mh), (aI cI (md 12) 12 mp), (aI cI (md 13) 12 mt), (aJ cJ (md 14) 12 mf)] s.heap.size = A at hD ⊢
  have hA : ∀ q : Nat, s.heap.size ≤ q → A q := fun q h => by rw [← hAe]; exact Or.inr h
  have hS : va_S A s.heap s.heap [] := va_S.rf
  have hP : va_P D vwCl [(moC md sd mth mst hn cn pn mq gn mln mnn ln mlt msz mcu mtk mfr mti mfa mfb an un lc td mtn), (aI cI (md 16) 12 fo), (aI cI (md 19) 40 pk), (aI cI (md 20) 40 pf), (aI cI (md 21) 40 po), (aI cI (md 22) 40 pd), (aI cI (md 23) 40 pe), (aI cI (md 58) 20 lp), (aI cI (md 59) 20 la), (aI cI (md 60) 20 lb), (aI cI (md 7) 40 ho), (aI cI (md 8) 40 hc), (aI cI (md 9) 40 hp), (aI cI (md 10) 40 hs), (aI cI (md 11) 200 mh), (aI cI (md 12) 12 mp), (aI cI (md 13) 12 mt), (aJ cJ (md 14) 12 mf)] s.heap := hP
  have hl := lv_entry ([.ref (md 64), .int k, .int d]) (n := 8) (Nat.le_of_ble_eq_true rfl)
  rw [lg_entry_eq]
  generalize (lg_sl ([.ref (md 64), .int k, .int d]) ++ List.replicate (8 - (lg_sl ([.ref (md 64), .int k, .int d])).length) Slot.unset).toArray = ls at hl ⊢
  have hl : lv_has ls 8 [(0, .ref (md 64)), (1, .int k), (2, .int d)] := hl
  have k0 : (0 : Int32).toInt = 0 := by decide
  have k1 : (1 : Int32).toInt = 1 := by decide
  have k10 : (10 : Int32).toInt = 10 := by decide
  have kl0 : (0 : Int64).toInt = 0 := by decide
  have kl500000 : (500000 : Int64).toInt = 500000 := by decide
  have hv9 := h10
  have hgo9 := h12
  have hfo9 := h11 k.toNatClampNeg (by have := i_cl (x := k) (by omega); omega)
  refine lv_iconst (v := 0) hx hb dX11_isBarred_0 (by decide) ?_
  refine lv_istore_n (lv' := [(3, .int 0), (0, .ref (md 64)), (1, .int k), (2, .int d)]) hx hb dX11_isBarred_1 rfl hl (by decide) rfl (fun ls hl => ?_)
  refine lv_iconst (v := 0) hx hb dX11_isBarred_2 (by decide) ?_
  refine lv_istore (lv' := [(4, .int 0), (3, .int 0), (0, .ref (md 64)), (1, .int k), (2, .int d)]) hx hb dX11_isBarred_3 hl (by decide) rfl (fun ls hl => ?_)
  refine st_loop 5 (fun _ => []) (fun (z : Int32 × Int32) (ls : Array Slot) (H : Heap) (locs : List Loc) => match z with | (q5_3, q5_4) => (0 ≤ q5_4.toInt) ∧ (q5_4.toInt ≤ lc.toInt) ∧ (q5_3 = poV lp la lb d q5_4.toNatClampNeg) ∧ lv_has ls 8 [(0, .ref (md 64)), (1, .int k), (2, .int d), (3, .int q5_3), (4, .int q5_4)] ∧ va_P D vwCl [(moC md sd mth mst hn cn pn mq gn mln mnn ln mlt msz mcu mtk mfr mti mfa mfb an un lc td mtn), (aI cI (md 16) 12 fo), (aI cI (md 19) 40 pk), (aI cI (md 20) 40 pf), (aI cI (md 21) 40 po), (aI cI (md 22) 40 pd), (aI cI (md 23) 40 pe), (aI cI (md 58) 20 lp), (aI cI (md 59) 20 la), (aI cI (md 60) 20 lb), (aI cI (md 7) 40 ho), (aI cI (md 8) 40 hc), (aI cI (md 9) 40 hp), (aI cI (md 10) 40 hs), (aI cI (md 11) 200 mh), (aI cI (md 12) 12 mp), (aI cI (md 13) 12 mt), (aJ cJ (md 14) 12 mf)] H ∧ va_D A [(moC md sd mth mst hn cn pn mq gn mln mnn ln mlt msz mcu mtk mfr mti mfa mfb an un lc td mtn), (aI cI (md 16) 12 fo), (aI cI (md 19) 40 pk), (aI cI (md 20) 40 pf), (aI cI (md 21) 40 po), (aI cI (md 22) 40 pd), (aI cI (md 23) 40 pe), (aI cI (md 58) 20 lp), (aI cI (md 59) 20 la), (aI cI (md 60) 20 lb), (aI cI (md 7) 40 ho), (aI cI (md 8) 40 hc), (aI cI (md 9) 40 hp), (aI cI (md 10) 40 hs), (aI cI (md 11) 200 mh), (aI cI (md 12) 12 mp), (aI cI (md 13) 12 mt), (aJ cJ (md 14) 12 mf)] ∧ va_S A s.heap H locs) (fun (z : Int32 × Int32) => match z with | (q5_3, q5_4) => lc.toInt - q5_4.toInt) ?_ ?_ ((0 : Int32), (0 : Int32)) ⟨(by omega), (by omega), (by rfl), lv_sub hl [2, 3, 4, 1, 0] rfl, hP, hD, hS⟩
  · rintro ⟨q5_3, q5_4⟩ ls H locs ⟨g1, g2, g3, hl, hP, hD, hS⟩
    show (0 : Int) ≤ lc.toInt - q5_4.toInt
    omega
  · rintro n6 ih4 ⟨q5_3, q5_4⟩ ls H locs ⟨g1, g2, g3, hl, hP, hD, hS⟩ hm5
    have hm5 : lc.toInt - q5_4.toInt < (n6 : Int) + 1 := hm5
    replace hl : lv_has ls 8 [(0, .ref (md 64)), (1, .int k), (2, .int d), (3, .int q5_3), (4, .int q5_4)] := hl
    replace hP : va_P D vwCl [(moC md sd mth mst hn cn pn mq gn mln mnn ln mlt msz mcu mtk mfr mti mfa mfb an un lc td mtn), (aI cI (md 16) 12 fo), (aI cI (md 19) 40 pk), (aI cI (md 20) 40 pf), (aI cI (md 21) 40 po), (aI cI (md 22) 40 pd), (aI cI (md 23) 40 pe), (aI cI (md 58) 20 lp), (aI cI (md 59) 20 la), (aI cI (md 60) 20 lb), (aI cI (md 7) 40 ho), (aI cI (md 8) 40 hc), (aI cI (md 9) 40 hp), (aI cI (md 10) 40 hs), (aI cI (md 11) 200 mh), (aI cI (md 12) 12 mp), (aI cI (md 13) 12 mt), (aJ cJ (md 14) 12 mf)] H := hP
    replace hD : va_D A [(moC md sd mth mst hn cn pn mq gn mln mnn ln mlt msz mcu mtk mfr mti mfa mfb an un lc td mtn), (aI cI (md 16) 12 fo), (aI cI (md 19) 40 pk), (aI cI (md 20) 40 pf), (aI cI (md 21) 40 po), (aI cI (md 22) 40 pd), (aI cI (md 23) 40 pe), (aI cI (md 58) 20 lp), (aI cI (md 59) 20 la), (aI cI (md 60) 20 lb), (aI cI (md 7) 40 ho), (aI cI (md 8) 40 hc), (aI cI (md 9) 40 hp), (aI cI (md 10) 40 hs), (aI cI (md 11) 200 mh), (aI cI (md 12) 12 mp), (aI cI (md 13) 12 mt), (aJ cJ (md 14) 12 mf)] := hD
    show W _ _ _ _ _ _ _ _ _ _ _ _ _ _ _ (F0 m 5 ls [])
    refine lv_iload hx hb dX11_isBarred_5 (lv_at hl 4 rfl) ?_
    refine lv_aload_n hx hb dX11_isBarred_7 rfl (lv_at hl 0 rfl) ?_
    refine va_get (D := D) (ci := 11) (v := .int lc) (C := RX11) (T := TX11) (N := 64) hx hb hts inX11_isBarred_X11 hown hK hP 0 rfl rfl 57 (by decide) (hts (Cond.fieldLink RX11 360 "PortRoomsModel" "lists" "I") (wm_t (wm_l (wm_i 0 rfl)))) (fun _ h9 => h9) rfl dX11_isBarred_8 ?_
    refine lv_icmp_ge (tgt := 58) hx hb dX11_isBarred_11 (by decide) (fun c7 => ?_) (fun c7 => ?_)
    · skip
      have f8 := i_le c7
      refine lv_aload_n hx hb dX11_isBarred_58 rfl (lv_at hl 0 rfl) ?_
      refine lv_iload_n hx hb dX11_isBarred_59 rfl (lv_at hl 1 rfl) ?_
      refine lv_iload_n hx hb dX11_isBarred_60 rfl (lv_at hl 2 rfl) ?_
      refine lv_iload_n hx hb dX11_isBarred_61 rfl (lv_at hl 2 rfl) ?_
      refine st_i (wr := [(aI cI (md 58) 20 lp), (aI cI (md 59) 20 la), (aI cI (md 60) 20 lb), (aI cI (md 7) 40 ho), (aI cI (md 8) 40 hc), (aI cI (md 9) 40 hp), (aI cI (md 10) 40 hs), (aI cI (md 11) 200 mh), (aI cI (md 12) 12 mp), (aI cI (md 13) 12 mt), (aJ cJ (md 14) 12 mf)]) (va_runV (C := RX11) (As := [.int k, .int d, .int d]) (rest := []) ⟨hx, hb, hml, hown, hts⟩ (ct_X11_ownerOf l D cI cY cJ cQ _ md sd mth mst hn cn pn mq gn mln mnn ln mlt msz mcu mtk mfr mti mfa mfb an un lc td mtn fo pk pf po pd pe k d d h2 (by omega) h4 h5) (cwV 3 hts gX11_isBarred_X11_ownerOf rfl rfl rfl ⟨rfl, cdX11_ownerOf⟩ ⟨Nat.le_of_ble_eq_true rfl, Nat.le_of_ble_eq_true rfl⟩) (cPreV (hP.sub [0, 1, 2, 3, 4, 5, 6] rfl) hK (hD.sub [0, 1, 2, 3, 4, 5, 6] (by decide +kernel) rfl) hN (ci := 11) (q0 := 0) rfl rfl) rfl rfl hl.1 rfl (lv_room (Nat.le_of_ble_eq_true rfl)) dX11_isBarred_62 ⟨Nat.le_of_ble_eq_true rfl, Nat.le_of_ble_eq_true rfl⟩) hP hD hS hA [0, 1, 2, 3, 4, 5, 6] [7, 8, 9, 10, 11, 12, 13, 14, 15, 16, 17] rfl rfl (by decide +kernel) (by decide +kernel) (fun r11 u9 H locs hw10 => ?_)
      clear hP hD hS
      intro hP hD hS
      replace hw10 : (r11, u9) = ooV pk pf po pd pe pn.toNatClampNeg k d d 41 0 (fo k.toNatClampNeg) (fo k.toNatClampNeg) 0 := hw10
      replace hP : va_P D vwCl [(aI cI (md 58) 20 lp), (aI cI (md 59) 20 la), (aI cI (md 60) 20 lb), (aI cI (md 7) 40 ho), (aI cI (md 8) 40 hc), (aI cI (md 9) 40 hp), (aI cI (md 10) 40 hs), (aI cI (md 11) 200 mh), (aI cI (md 12) 12 mp), (aI cI (md 13) 12 mt), (aJ cJ (md 14) 12 mf), (moC md sd mth mst hn cn pn u9 gn mln mnn ln mlt msz mcu mtk mfr mti mfa mfb an un lc td mtn), (aI cI (md 16) 12 fo), (aI cI (md 19) 40 pk), (aI cI (md 20) 40 pf), (aI cI (md 21) 40 po), (aI cI (md 22) 40 pd), (aI cI (md 23) 40 pe)] H := hP
      replace hD : va_D A [(aI cI (md 58) 20 lp), (aI cI (md 59) 20 la), (aI cI (md 60) 20 lb), (aI cI (md 7) 40 ho), (aI cI (md 8) 40 hc), (aI cI (md 9) 40 hp), (aI cI (md 10) 40 hs), (aI cI (md 11) 200 mh), (aI cI (md 12) 12 mp), (aI cI (md 13) 12 mt), (aJ cJ (md 14) 12 mf), (moC md sd mth mst hn cn pn u9 gn mln mnn ln mlt msz mcu mtk mfr mti mfa mfb an un lc td mtn), (aI cI (md 16) 12 fo), (aI cI (md 19) 40 pk), (aI cI (md 20) 40 pf), (aI cI (md 21) 40 po), (aI cI (md 22) 40 pd), (aI cI (md 23) 40 pe)] := hD
      have hro9 : (ooV pk pf po pd pe pn.toNatClampNeg k d d 41 0 (fo k.toNatClampNeg) (fo k.toNatClampNeg) 0).1 = r11 := by rw [← hw10]
      have hrr9 := ooV_rng (pk := pk) (pf := pf) (pd := pd) (pe := pe) (k := k) (d := d) (n := d) (pn := pn.toNatClampNeg) (by have := i_cl (x := pn) (by omega); omega) (fun j hj => hgo9 j (by have := i_cl (x := pn) (by omega); omega)) 41 0 (fo k.toNatClampNeg) (fo k.toNatClampNeg) 0 hfo9.1 hfo9.2
      rw [hro9] at hrr9
      refine lv_istore (lv' := [(4, .int r11), (0, .ref (md 64)), (1, .int k), (2, .int d), (3, .int q5_3)]) hx hb dX11_isBarred_65 hl (by decide) rfl (fun ls hl => ?_)
      refine lv_lconst (v := 0) hx hb dX11_isBarred_67 (by decide) ?_
      refine lv_lstore (lv' := [(5, .long 0), (4, .int r11), (0, .ref (md 64)), (1, .int k), (2, .int d), (3, .int q5_3)]) hx hb dX11_isBarred_68 hl (by decide) rfl (fun ls hl => ?_)
      refine lv_iconst (v := 0) hx hb dX11_isBarred_70 (by decide) ?_
      refine lv_istore (lv' := [(7, .int 0), (5, .long 0), (4, .int r11), (0, .ref (md 64)), (1, .int k), (2, .int d), (3, .int q5_3)]) hx hb dX11_isBarred_71 hl (by decide) rfl (fun ls hl => ?_)
      refine st_loop 73 (fun _ => []) (fun (z : Int64 × Int32 × (Nat → Int32) × (Nat → Int32) × (Nat → Int32) × (Nat → Int64)) (ls : Array Slot) (H : Heap) (locs : List Loc) => match z with | (q73_5, q73_7, mhq, mpq, mtq, mfq) => (0 ≤ q73_7.toInt) ∧ (q73_7.toInt ≤ 10) ∧ (q73_5.toInt = brV (pmF ho hc hp hs d hn.toNatClampNeg) q5_3 r11.toNatClampNeg q73_7.toNatClampNeg) ∧ (0 ≤ q73_5.toInt) ∧ (q73_5.toInt ≤ 2000000000 * q73_7.toInt) ∧ lv_has ls 8 [(0, .ref (md 64)), (1, .int k), (2, .int d), (3, .int q5_3), (4, .int r11), (5, .long q73_5), (7, .int q73_7)] ∧ va_P D vwCl [(aI cI (md 58) 20 lp), (aI cI (md 59) 20 la), (aI cI (md 60) 20 lb), (aI cI (md 7) 40 ho), (aI cI (md 8) 40 hc), (aI cI (md 9) 40 hp), (aI cI (md 10) 40 hs), (aI cI (md 11) 200 mhq), (aI cI (md 12) 12 mpq), (aI cI (md 13) 12 mtq), (aJ cJ (md 14) 12 mfq), (moC md sd mth mst hn cn pn u9 gn mln mnn ln mlt msz mcu mtk mfr mti mfa mfb an un lc td mtn), (aI cI (md 16) 12 fo), (aI cI (md 19) 40 pk), (aI cI (md 20) 40 pf), (aI cI (md 21) 40 po), (aI cI (md 22) 40 pd), (aI cI (md 23) 40 pe)] H ∧ va_D A [(aI cI (md 58) 20 lp), (aI cI (md 59) 20 la), (aI cI (md 60) 20 lb), (aI cI (md 7) 40 ho), (aI cI (md 8) 40 hc), (aI cI (md 9) 40 hp), (aI cI (md 10) 40 hs), (aI cI (md 11) 200 mhq), (aI cI (md 12) 12 mpq), (aI cI (md 13) 12 mtq), (aJ cJ (md 14) 12 mfq), (moC md sd mth mst hn cn pn u9 gn mln mnn ln mlt msz mcu mtk mfr mti mfa mfb an un lc td mtn), (aI cI (md 16) 12 fo), (aI cI (md 19) 40 pk), (aI cI (md 20) 40 pf), (aI cI (md 21) 40 po), (aI cI (md 22) 40 pd), (aI cI (md 23) 40 pe)] ∧ va_S A s.heap H locs) (fun (z : Int64 × Int32 × (Nat → Int32) × (Nat → Int32) × (Nat → Int32) × (Nat → Int64)) => match z with | (q73_5, q73_7, mhq, mpq, mtq, mfq) => 10 - q73_7.toInt) ?_ ?_ ((0 : Int64), (0 : Int32), mh, mp, mt, mf) ⟨(by omega), (by omega), (by rfl), (by omega), (by omega), lv_sub hl [3, 4, 5, 6, 2, 1, 0] rfl, hP, hD, hS⟩
      · rintro ⟨q73_5, q73_7, mhq, mpq, mtq, mfq⟩ ls H locs ⟨g12, g13, g14, g15, g16, hl, hP, hD, hS⟩
        show (0 : Int) ≤ 10 - q73_7.toInt
        omega
      · rintro n19 ih17 ⟨q73_5, q73_7, mhq, mpq, mtq, mfq⟩ ls H locs ⟨g12, g13, g14, g15, g16, hl, hP, hD, hS⟩ hm18
        have hm18 : 10 - q73_7.toInt < (n19 : Int) + 1 := hm18
        replace hl : lv_has ls 8 [(0, .ref (md 64)), (1, .int k), (2, .int d), (3, .int q5_3), (4, .int r11), (5, .long q73_5), (7, .int q73_7)] := hl
        replace hP : va_P D vwCl [(aI cI (md 58) 20 lp), (aI cI (md 59) 20 la), (aI cI (md 60) 20 lb), (aI cI (md 7) 40 ho), (aI cI (md 8) 40 hc), (aI cI (md 9) 40 hp), (aI cI (md 10) 40 hs), (aI cI (md 11) 200 mhq), (aI cI (md 12) 12 mpq), (aI cI (md 13) 12 mtq), (aJ cJ (md 14) 12 mfq), (moC md sd mth mst hn cn pn u9 gn mln mnn ln mlt msz mcu mtk mfr mti mfa mfb an un lc td mtn), (aI cI (md 16) 12 fo), (aI cI (md 19) 40 pk), (aI cI (md 20) 40 pf), (aI cI (md 21) 40 po), (aI cI (md 22) 40 pd), (aI cI (md 23) 40 pe)] H := hP
        replace hD : va_D A [(aI cI (md 58) 20 lp), (aI cI (md 59) 20 la), (aI cI (md 60) 20 lb), (aI cI (md 7) 40 ho), (aI cI (md 8) 40 hc), (aI cI (md 9) 40 hp), (aI cI (md 10) 40 hs), (aI cI (md 11) 200 mhq), (aI cI (md 12) 12 mpq), (aI cI (md 13) 12 mtq), (aJ cJ (md 14) 12 mfq), (moC md sd mth mst hn cn pn u9 gn mln mnn ln mlt msz mcu mtk mfr mti mfa mfb an un lc td mtn), (aI cI (md 16) 12 fo), (aI cI (md 19) 40 pk), (aI cI (md 20) 40 pf), (aI cI (md 21) 40 po), (aI cI (md 22) 40 pd), (aI cI (md 23) 40 pe)] := hD
        show W _ _ _ _ _ _ _ _ _ _ _ _ _ _ _ (F0 m 73 ls [])
        refine lv_iload hx hb dX11_isBarred_73 (lv_at hl 6 rfl) ?_
        refine lv_bipush (v := 10) hx hb dX11_isBarred_75 (by decide) ?_
        refine lv_icmp_ge (tgt := 115) hx hb dX11_isBarred_77 (by decide) (fun c20 => ?_) (fun c20 => ?_)
        · skip
          have f21 := i_le c20
          refine lv_lload hx hb dX11_isBarred_115 (lv_at hl 5 rfl) ?_
          refine lv_ldc2 hx hb hown (hts (Cond.constantLong RX11 363 (500000)) (wm_t (wm_l (wm_i 4 rfl)))) dX11_isBarred_117 ?_
          refine W.lcmp hx hb dX11_isBarred_120 ?_
          refine lv_topi (fun v22 ev22 => ?_)
          refine lv_if_lt (tgt := 128) hx hb dX11_isBarred_121 (by decide) (fun c23 => ?_) (fun c23 => ?_)
          · skip
            have f24 := lc_lt ev22 c23
            refine lv_iconst (v := 0) hx hb dX11_isBarred_128 (by decide) ?_
            have ce8 := i_cl (x := q5_4) (by omega)
            have ce9 := i_cl (x := lc) (by omega)
            have ee9 : q5_4.toNatClampNeg = lc.toNatClampNeg := by omega
            have hz9 := g3
            rw [ee9] at hz9
            have ce7 := i_cl (x := q73_7) (by omega)
            have hz7 := g14
            rw [show q73_7.toNatClampNeg = 10 by omega, hz9] at hz7
            have hP9 := hP.sub (ws' := [(moC md sd mth mst hn cn pn u9 gn mln mnn ln mlt msz mcu mtk mfr mti mfa mfb an un lc td mtn), (aI cI (md 16) 12 fo), (aI cI (md 19) 40 pk), (aI cI (md 20) 40 pf), (aI cI (md 21) 40 po), (aI cI (md 22) 40 pd), (aI cI (md 23) 40 pe), (aI cI (md 58) 20 lp), (aI cI (md 59) 20 la), (aI cI (md 60) 20 lb), (aI cI (md 7) 40 ho), (aI cI (md 8) 40 hc), (aI cI (md 9) 40 hp), (aI cI (md 10) 40 hs), (aI cI (md 11) 200 mhq), (aI cI (md 12) 12 mpq), (aI cI (md 13) 12 mtq), (aJ cJ (md 14) 12 mfq)]) [11, 12, 13, 14, 15, 16, 17, 0, 1, 2, 3, 4, 5, 6, 7, 8, 9, 10] rfl
            have hD9 := hD.sub (ws' := [(moC md sd mth mst hn cn pn u9 gn mln mnn ln mlt msz mcu mtk mfr mti mfa mfb an un lc td mtn), (aI cI (md 16) 12 fo), (aI cI (md 19) 40 pk), (aI cI (md 20) 40 pf), (aI cI (md 21) 40 po), (aI cI (md 22) 40 pd), (aI cI (md 23) 40 pe), (aI cI (md 58) 20 lp), (aI cI (md 59) 20 la), (aI cI (md 60) 20 lb), (aI cI (md 7) 40 ho), (aI cI (md 8) 40 hc), (aI cI (md 9) 40 hp), (aI cI (md 10) 40 hs), (aI cI (md 11) 200 mhq), (aI cI (md 12) 12 mpq), (aI cI (md 13) 12 mtq), (aJ cJ (md 14) 12 mfq)]) [11, 12, 13, 14, 15, 16, 17, 0, 1, 2, 3, 4, 5, 6, 7, 8, 9, 10] (by decide +kernel) rfl
            exact W.zret (v := 0) hx hb hr rfl (fun t ht hW => ⟨⟨0, (u9, mhq, mpq, mtq, mfq), rfl, (by show (0 : Int32) = if 500000 ≤ brV (pmF ho hc hp hs d hn.toNatClampNeg) (poV lp la lb d lc.toNatClampNeg) (ooV pk pf po pd pe pn.toNatClampNeg k d d 41 0 (fo k.toNatClampNeg) (fo k.toNatClampNeg) 0).1.toNatClampNeg 10 then 1 else 0; rw [hro9]; rw [if_neg (by omega)]), by rw [ht]; exact hP9, va_K.moved hW.alike hK, hD9⟩, hS.F ht⟩) hS.2.2 dX11_isBarred_129
          · skip
            have f25 := lc_ltN ev22 c23
            refine lv_iconst (v := 1) hx hb dX11_isBarred_124 (by decide) ?_
            refine lv_goto (tgt := 129) hx hb dX11_isBarred_125 (by decide) ?_
            have ce8 := i_cl (x := q5_4) (by omega)
            have ce9 := i_cl (x := lc) (by omega)
            have ee9 : q5_4.toNatClampNeg = lc.toNatClampNeg := by omega
            have hz9 := g3
            rw [ee9] at hz9
            have ce7 := i_cl (x := q73_7) (by omega)
            have hz7 := g14
            rw [show q73_7.toNatClampNeg = 10 by omega, hz9] at hz7
            have hP9 := hP.sub (ws' := [(moC md sd mth mst hn cn pn u9 gn mln mnn ln mlt msz mcu mtk mfr mti mfa mfb an un lc td mtn), (aI cI (md 16) 12 fo), (aI cI (md 19) 40 pk), (aI cI (md 20) 40 pf), (aI cI (md 21) 40 po), (aI cI (md 22) 40 pd), (aI cI (md 23) 40 pe), (aI cI (md 58) 20 lp), (aI cI (md 59) 20 la), (aI cI (md 60) 20 lb), (aI cI (md 7) 40 ho), (aI cI (md 8) 40 hc), (aI cI (md 9) 40 hp), (aI cI (md 10) 40 hs), (aI cI (md 11) 200 mhq), (aI cI (md 12) 12 mpq), (aI cI (md 13) 12 mtq), (aJ cJ (md 14) 12 mfq)]) [11, 12, 13, 14, 15, 16, 17, 0, 1, 2, 3, 4, 5, 6, 7, 8, 9, 10] rfl
            have hD9 := hD.sub (ws' := [(moC md sd mth mst hn cn pn u9 gn mln mnn ln mlt msz mcu mtk mfr mti mfa mfb an un lc td mtn), (aI cI (md 16) 12 fo), (aI cI (md 19) 40 pk), (aI cI (md 20) 40 pf), (aI cI (md 21) 40 po), (aI cI (md 22) 40 pd), (aI cI (md 23) 40 pe), (aI cI (md 58) 20 lp), (aI cI (md 59) 20 la), (aI cI (md 60) 20 lb), (aI cI (md 7) 40 ho), (aI cI (md 8) 40 hc), (aI cI (md 9) 40 hp), (aI cI (md 10) 40 hs), (aI cI (md 11) 200 mhq), (aI cI (md 12) 12 mpq), (aI cI (md 13) 12 mtq), (aJ cJ (md 14) 12 mfq)]) [11, 12, 13, 14, 15, 16, 17, 0, 1, 2, 3, 4, 5, 6, 7, 8, 9, 10] (by decide +kernel) rfl
            exact W.zret (v := 1) hx hb hr rfl (fun t ht hW => ⟨⟨1, (u9, mhq, mpq, mtq, mfq), rfl, (by show (1 : Int32) = if 500000 ≤ brV (pmF ho hc hp hs d hn.toNatClampNeg) (poV lp la lb d lc.toNatClampNeg) (ooV pk pf po pd pe pn.toNatClampNeg k d d 41 0 (fo k.toNatClampNeg) (fo k.toNatClampNeg) 0).1.toNatClampNeg 10 then 1 else 0; rw [hro9]; rw [if_pos (by omega)]), by rw [ht]; exact hP9, va_K.moved hW.alike hK, hD9⟩, hS.F ht⟩) hS.2.2 dX11_isBarred_129
        · skip
          have f26 := i_nle c20
          refine lv_lload hx hb dX11_isBarred_80 (lv_at hl 5 rfl) ?_
          refine lv_iload_n hx hb dX11_isBarred_82 rfl (lv_at hl 3 rfl) ?_
          refine lv_iload hx hb dX11_isBarred_83 (lv_at hl 6 rfl) ?_
          refine lv_ishr hx hb dX11_isBarred_85 ?_
          refine lv_topi (fun v27 ev27 => ?_)
          refine lv_iconst (v := 1) hx hb dX11_isBarred_86 (by decide) ?_
          refine lv_iand hx hb dX11_isBarred_87 ?_
          refine lv_topi (fun v28 ev28 => ?_)
          refine lv_iconst (v := 1) hx hb dX11_isBarred_88 (by decide) ?_
          refine lv_icmp_ne (tgt := 105) hx hb dX11_isBarred_89 (by decide) (fun c29 => ?_) (fun c29 => ?_)
          · skip
            have f30 := i_ne c29
            refine lv_lconst (v := 0) hx hb dX11_isBarred_105 (by decide) ?_
            refine lv_ladd hx hb dX11_isBarred_106 ?_
            refine lv_topl (fun z31 ez31 => ?_)
            have tz31 : z31.toInt = q73_5.toInt + (0 : Int64).toInt := by rw [ez31]; exact l_add (by omega) (by omega)
            refine lv_lstore (lv' := [(5, .long z31), (0, .ref (md 64)), (1, .int k), (2, .int d), (3, .int q5_3), (4, .int r11), (7, .int q73_7)]) hx hb dX11_isBarred_107 hl (by decide) rfl (fun ls hl => ?_)
            obtain ⟨v32, ev32⟩ : ∃ y : Int32, y = q73_7 + 1 := ⟨_, rfl⟩
            try have tv32 : v32.toInt = q73_7.toInt + 1 := by rw [ev32]; exact (i_add (x := q73_7) (y := (1 : Int32)) (by rw [k1]; omega) (by rw [k1]; omega)).trans (by rw [k1])
            refine lv_iinc (v := v32) (lv' := [(7, .int v32), (5, .long z31), (0, .ref (md 64)), (1, .int k), (2, .int d), (3, .int q5_3), (4, .int r11)]) hx hb dX11_isBarred_109 hl (k := 6) rfl (by rw [ev32]; rfl) (by decide) rfl (fun ls hl => ?_)
            refine lv_goto (tgt := 73) hx hb dX11_isBarred_112 (by decide) ?_
            have clk8 := i_cl (x := q73_7) (by omega)
            have clk9 := i_cl (x := v32) (by omega)
            have ek9 : v32.toNatClampNeg = q73_7.toNatClampNeg + 1 := by omega
            have hb19 := bit19 (x := q5_3) (c := q73_7) (by omega) (by omega)
            rw [← ev27, ← ev28] at hb19
            exact ih17 (z31, v32, mhq, mpq, mtq, mfq) ls H locs ⟨(by omega), (by omega), (by rw [ek9, brV_s, ← g14, if_neg (by rw [hb19.2 (by omega)]; decide)]; omega), (by omega), (by omega), lv_sub hl [2, 3, 4, 5, 6, 1, 0] rfl, hP.sub [0, 1, 2, 3, 4, 5, 6, 7, 8, 9, 10, 11, 12, 13, 14, 15, 16, 17] rfl, hD.sub [0, 1, 2, 3, 4, 5, 6, 7, 8, 9, 10, 11, 12, 13, 14, 15, 16, 17] (by decide +kernel) rfl, hS⟩ (by show 10 - v32.toInt < _; omega)
          · skip
            have f33 := i_eq c29
            refine lv_aload_n hx hb dX11_isBarred_92 rfl (lv_at hl 0 rfl) ?_
            refine lv_iload hx hb dX11_isBarred_93 (lv_at hl 6 rfl) ?_
            refine lv_iload hx hb dX11_isBarred_95 (lv_at hl 4 rfl) ?_
            refine lv_iload_n hx hb dX11_isBarred_97 rfl (lv_at hl 2 rfl) ?_
            refine st_i (wr := [(aI cI (md 58) 20 lp), (aI cI (md 59) 20 la), (aI cI (md 60) 20 lb), (aI cI (md 16) 12 fo), (aI cI (md 19) 40 pk), (aI cI (md 20) 40 pf), (aI cI (md 21) 40 po), (aI cI (md 22) 40 pd), (aI cI (md 23) 40 pe)]) (va_runV (C := RX11) (As := [.int q73_7, .int r11, .int d]) (rest := [.long q73_5]) ⟨hx, hb, hml, hown, hts⟩ (ct_X11_shareOf l D cI cY cJ cQ _ md sd mth mst hn cn pn u9 gn mln mnn ln mlt msz mcu mtk mfr mti mfa mfb an un lc td mtn ho hc hp hs mhq mpq mtq mfq q73_7 r11 d h8 h9 h10 (by omega) (by omega) (by omega) (by omega)) (cwV 3 hts gX11_isBarred_X11_shareOf rfl rfl rfl ⟨rfl, cdX11_shareOf⟩ ⟨Nat.le_of_ble_eq_true rfl, Nat.le_of_ble_eq_true rfl⟩) (cPreV (hP.sub [11, 3, 4, 5, 6, 7, 8, 9, 10] rfl) hK (hD.sub [11, 3, 4, 5, 6, 7, 8, 9, 10] (by decide +kernel) rfl) hN (ci := 11) (q0 := 0) rfl rfl) rfl rfl hl.1 rfl (lv_room (Nat.le_of_ble_eq_true rfl)) dX11_isBarred_98 ⟨Nat.le_of_ble_eq_true rfl, Nat.le_of_ble_eq_true rfl⟩) hP hD hS hA [11, 3, 4, 5, 6, 7, 8, 9, 10] [0, 1, 2, 12, 13, 14, 15, 16, 17] rfl rfl (by decide +kernel) (by decide +kernel) (fun r36 u34 H locs hw35 => ?_)
            clear hP hD hS
            intro hP hD hS
            obtain ⟨mh_37, mp_38, mt_39, mf_40⟩ := u34
            replace hw35 : r36.toInt = shF (pmF ho hc hp hs d hn.toNatClampNeg) q73_7.toNatClampNeg r11.toNatClampNeg := hw35
            replace hP : va_P D vwCl [(aI cI (md 58) 20 lp), (aI cI (md 59) 20 la), (aI cI (md 60) 20 lb), (aI cI (md 16) 12 fo), (aI cI (md 19) 40 pk), (aI cI (md 20) 40 pf), (aI cI (md 21) 40 po), (aI cI (md 22) 40 pd), (aI cI (md 23) 40 pe), (moC md sd mth mst hn cn pn u9 gn mln mnn ln mlt msz mcu mtk mfr mti mfa mfb an un lc td mtn), (aI cI (md 7) 40 ho), (aI cI (md 8) 40 hc), (aI cI (md 9) 40 hp), (aI cI (md 10) 40 hs), (aI cI (md 11) 200 mh_37), (aI cI (md 12) 12 mp_38), (aI cI (md 13) 12 mt_39), (aJ cJ (md 14) 12 mf_40)] H := hP
            replace hD : va_D A [(aI cI (md 58) 20 lp), (aI cI (md 59) 20 la), (aI cI (md 60) 20 lb), (aI cI (md 16) 12 fo), (aI cI (md 19) 40 pk), (aI cI (md 20) 40 pf), (aI cI (md 21) 40 po), (aI cI (md 22) 40 pd), (aI cI (md 23) 40 pe), (moC md sd mth mst hn cn pn u9 gn mln mnn ln mlt msz mcu mtk mfr mti mfa mfb an un lc td mtn), (aI cI (md 7) 40 ho), (aI cI (md 8) 40 hc), (aI cI (md 9) 40 hp), (aI cI (md 10) 40 hs), (aI cI (md 11) 200 mh_37), (aI cI (md 12) 12 mp_38), (aI cI (md 13) 12 mt_39), (aJ cJ (md 14) 12 mf_40)] := hD
            have clc41 := i_cl (x := q73_7) (by omega)
            have hsb9 := shF_bd (pmF_bd (ho := ho) (hc := hc) (hs := hs) (d := d) hv9 (by omega) (by omega)) (q := q73_7.toNatClampNeg) (by omega) r11.toNatClampNeg
            rw [← hw35] at hsb9
            refine lv_i2l hx hb dX11_isBarred_101 rfl ?_
            have w42 := i_w r36
            have w43 := i_rng r36
            refine lv_goto (tgt := 106) hx hb dX11_isBarred_102 (by decide) ?_
            refine lv_ladd hx hb dX11_isBarred_106 ?_
            refine lv_topl (fun z44 ez44 => ?_)
            have tz44 : z44.toInt = q73_5.toInt + r36.toInt64.toInt := by rw [ez44]; exact l_add (by omega) (by omega)
            refine lv_lstore (lv' := [(5, .long z44), (0, .ref (md 64)), (1, .int k), (2, .int d), (3, .int q5_3), (4, .int r11), (7, .int q73_7)]) hx hb dX11_isBarred_107 hl (by decide) rfl (fun ls hl => ?_)
            obtain ⟨v45, ev45⟩ : ∃ y : Int32, y = q73_7 + 1 := ⟨_, rfl⟩
            try have tv45 : v45.toInt = q73_7.toInt + 1 := by rw [ev45]; exact (i_add (x := q73_7) (y := (1 : Int32)) (by rw [k1]; omega) (by rw [k1]; omega)).trans (by rw [k1])
            refine lv_iinc (v := v45) (lv' := [(7, .int v45), (5, .long z44), (0, .ref (md 64)), (1, .int k), (2, .int d), (3, .int q5_3), (4, .int r11)]) hx hb dX11_isBarred_109 hl (k := 6) rfl (by rw [ev45]; rfl) (by decide) rfl (fun ls hl => ?_)
            refine lv_goto (tgt := 73) hx hb dX11_isBarred_112 (by decide) ?_
            have clk8 := i_cl (x := q73_7) (by omega)
            have clk9 := i_cl (x := v45) (by omega)
            have ek9 : v45.toNatClampNeg = q73_7.toNatClampNeg + 1 := by omega
            have hb19 := bit19 (x := q5_3) (c := q73_7) (by omega) (by omega)
            rw [← ev27, ← ev28] at hb19
            exact ih17 (z44, v45, mh_37, mp_38, mt_39, mf_40) ls H locs ⟨(by omega), (by omega), (by rw [ek9, brV_s, ← g14, if_pos (hb19.1 (by omega)), ← hw35]; omega), (by omega), (by omega), lv_sub hl [2, 3, 4, 5, 6, 1, 0] rfl, hP.sub [0, 1, 2, 10, 11, 12, 13, 14, 15, 16, 17, 9, 3, 4, 5, 6, 7, 8] rfl, hD.sub [0, 1, 2, 10, 11, 12, 13, 14, 15, 16, 17, 9, 3, 4, 5, 6, 7, 8] (by decide +kernel) rfl, hS⟩ (by show 10 - v45.toInt < _; omega)
    · skip
      have f46 := i_nle c7
      refine lv_iload_n hx hb dX11_isBarred_14 rfl (lv_at hl 3 rfl) ?_
      refine lv_iload_n hx hb dX11_isBarred_15 rfl (lv_at hl 2 rfl) ?_
      refine lv_aload_n hx hb dX11_isBarred_16 rfl (lv_at hl 0 rfl) ?_
      refine va_get (D := D) (ci := 11) (v := .ref (md 59)) (C := RX11) (T := TX11) (N := 64) hx hb hts inX11_isBarred_X11 hown hK hP 0 rfl rfl 59 (by decide) (hts (Cond.fieldLink RX11 126 "PortRoomsModel" "listFrom" "[I") (wm_t (wm_l (wm_i 1 rfl)))) (fun _ h9 => h9) rfl dX11_isBarred_17 ?_
      refine lv_iload hx hb dX11_isBarred_20 (lv_at hl 4 rfl) ?_
      refine va_iald hx hb hK hP 8 0 rfl rfl (i_in (by omega) (by omega)) dX11_isBarred_22 ?_
      refine lv_topi (fun v47 ev47 => ?_)
      have tlv47 : v47.toInt = (la q5_4.toNatClampNeg).toInt := by rw [ev47]
      refine lv_icmp_lt (tgt := 49) hx hb dX11_isBarred_23 (by decide) (fun c48 => ?_) (fun c48 => ?_)
      · skip
        have f49 := i_lt c48
        refine lv_iconst (v := 0) hx hb dX11_isBarred_49 (by decide) ?_
        refine lv_ior hx hb dX11_isBarred_50 ?_
        refine lv_topi (fun v50 ev50 => ?_)
        refine lv_istore_n (lv' := [(3, .int v50), (0, .ref (md 64)), (1, .int k), (2, .int d), (4, .int q5_4)]) hx hb dX11_isBarred_51 rfl hl (by decide) rfl (fun ls hl => ?_)
        obtain ⟨v51, ev51⟩ : ∃ y : Int32, y = q5_4 + 1 := ⟨_, rfl⟩
        try have tv51 : v51.toInt = q5_4.toInt + 1 := by rw [ev51]; exact (i_add (x := q5_4) (y := (1 : Int32)) (by rw [k1]; omega) (by rw [k1]; omega)).trans (by rw [k1])
        refine lv_iinc (v := v51) (lv' := [(4, .int v51), (3, .int v50), (0, .ref (md 64)), (1, .int k), (2, .int d)]) hx hb dX11_isBarred_52 hl (k := 4) rfl (by rw [ev51]; rfl) (by decide) rfl (fun ls hl => ?_)
        refine lv_goto (tgt := 5) hx hb dX11_isBarred_55 (by decide) ?_
        have clk8 := i_cl (x := q5_4) (by omega)
        have clk9 := i_cl (x := v51) (by omega)
        have ek9 : v51.toNatClampNeg = q5_4.toNatClampNeg + 1 := by omega
        exact ih4 (v50, v51) ls H locs ⟨(by omega), (by omega), (by rw [ek9, poV_s, ← g3]; first | (rw [if_neg (by omega), ev50]; exact or_z9 _) | (rw [if_pos (by omega), ev50, eNone, eNone])), lv_sub hl [2, 3, 4, 1, 0] rfl, hP.sub [0, 1, 2, 3, 4, 5, 6, 7, 8, 9, 10, 11, 12, 13, 14, 15, 16, 17] rfl, hD.sub [0, 1, 2, 3, 4, 5, 6, 7, 8, 9, 10, 11, 12, 13, 14, 15, 16, 17] (by decide +kernel) rfl, hS⟩ (by show lc.toInt - v51.toInt < _; omega)
      · skip
        have f52 := i_nlt c48
        refine lv_iload_n hx hb dX11_isBarred_26 rfl (lv_at hl 2 rfl) ?_
        refine lv_aload_n hx hb dX11_isBarred_27 rfl (lv_at hl 0 rfl) ?_
        refine va_get (D := D) (ci := 11) (v := .ref (md 60)) (C := RX11) (T := TX11) (N := 64) hx hb hts inX11_isBarred_X11 hown hK hP 0 rfl rfl 60 (by decide) (hts (Cond.fieldLink RX11 129 "PortRoomsModel" "listTo" "[I") (wm_t (wm_l (wm_i 2 rfl)))) (fun _ h9 => h9) rfl dX11_isBarred_28 ?_
        refine lv_iload hx hb dX11_isBarred_31 (lv_at hl 4 rfl) ?_
        refine va_iald hx hb hK hP 9 0 rfl rfl (i_in (by omega) (by omega)) dX11_isBarred_33 ?_
        refine lv_topi (fun v53 ev53 => ?_)
        have tlv53 : v53.toInt = (lb q5_4.toNatClampNeg).toInt := by rw [ev53]
        refine lv_icmp_gt (tgt := 49) hx hb dX11_isBarred_34 (by decide) (fun c54 => ?_) (fun c54 => ?_)
        · skip
          have f55 := i_lt c54
          refine lv_iconst (v := 0) hx hb dX11_isBarred_49 (by decide) ?_
          refine lv_ior hx hb dX11_isBarred_50 ?_
          refine lv_topi (fun v56 ev56 => ?_)
          refine lv_istore_n (lv' := [(3, .int v56), (0, .ref (md 64)), (1, .int k), (2, .int d), (4, .int q5_4)]) hx hb dX11_isBarred_51 rfl hl (by decide) rfl (fun ls hl => ?_)
          obtain ⟨v57, ev57⟩ : ∃ y : Int32, y = q5_4 + 1 := ⟨_, rfl⟩
          try have tv57 : v57.toInt = q5_4.toInt + 1 := by rw [ev57]; exact (i_add (x := q5_4) (y := (1 : Int32)) (by rw [k1]; omega) (by rw [k1]; omega)).trans (by rw [k1])
          refine lv_iinc (v := v57) (lv' := [(4, .int v57), (3, .int v56), (0, .ref (md 64)), (1, .int k), (2, .int d)]) hx hb dX11_isBarred_52 hl (k := 4) rfl (by rw [ev57]; rfl) (by decide) rfl (fun ls hl => ?_)
          refine lv_goto (tgt := 5) hx hb dX11_isBarred_55 (by decide) ?_
          have clk8 := i_cl (x := q5_4) (by omega)
          have clk9 := i_cl (x := v57) (by omega)
          have ek9 : v57.toNatClampNeg = q5_4.toNatClampNeg + 1 := by omega
          exact ih4 (v56, v57) ls H locs ⟨(by omega), (by omega), (by rw [ek9, poV_s, ← g3]; first | (rw [if_neg (by omega), ev56]; exact or_z9 _) | (rw [if_pos (by omega), ev56, eNone, eNone])), lv_sub hl [2, 3, 4, 1, 0] rfl, hP.sub [0, 1, 2, 3, 4, 5, 6, 7, 8, 9, 10, 11, 12, 13, 14, 15, 16, 17] rfl, hD.sub [0, 1, 2, 3, 4, 5, 6, 7, 8, 9, 10, 11, 12, 13, 14, 15, 16, 17] (by decide +kernel) rfl, hS⟩ (by show lc.toInt - v57.toInt < _; omega)
        · skip
          have f58 := i_nlt c54
          refine lv_iconst (v := 1) hx hb dX11_isBarred_37 (by decide) ?_
          refine lv_aload_n hx hb dX11_isBarred_38 rfl (lv_at hl 0 rfl) ?_
          refine va_get (D := D) (ci := 11) (v := .ref (md 58)) (C := RX11) (T := TX11) (N := 64) hx hb hts inX11_isBarred_X11 hown hK hP 0 rfl rfl 58 (by decide) (hts (Cond.fieldLink RX11 123 "PortRoomsModel" "listed" "[I") (wm_t (wm_l (wm_i 3 rfl)))) (fun _ h9 => h9) rfl dX11_isBarred_39 ?_
          refine lv_iload hx hb dX11_isBarred_42 (lv_at hl 4 rfl) ?_
          refine va_iald hx hb hK hP 7 0 rfl rfl (i_in (by omega) (by omega)) dX11_isBarred_44 ?_
          refine lv_topi (fun v59 ev59 => ?_)
          have tlv59 : v59.toInt = (lp q5_4.toNatClampNeg).toInt := by rw [ev59]
          refine lv_ishl hx hb dX11_isBarred_45 ?_
          refine lv_topi (fun v60 ev60 => ?_)
          refine lv_goto (tgt := 50) hx hb dX11_isBarred_46 (by decide) ?_
          refine lv_ior hx hb dX11_isBarred_50 ?_
          refine lv_topi (fun v61 ev61 => ?_)
          refine lv_istore_n (lv' := [(3, .int v61), (0, .ref (md 64)), (1, .int k), (2, .int d), (4, .int q5_4)]) hx hb dX11_isBarred_51 rfl hl (by decide) rfl (fun ls hl => ?_)
          obtain ⟨v62, ev62⟩ : ∃ y : Int32, y = q5_4 + 1 := ⟨_, rfl⟩
          try have tv62 : v62.toInt = q5_4.toInt + 1 := by rw [ev62]; exact (i_add (x := q5_4) (y := (1 : Int32)) (by rw [k1]; omega) (by rw [k1]; omega)).trans (by rw [k1])
          refine lv_iinc (v := v62) (lv' := [(4, .int v62), (3, .int v61), (0, .ref (md 64)), (1, .int k), (2, .int d)]) hx hb dX11_isBarred_52 hl (k := 4) rfl (by rw [ev62]; rfl) (by decide) rfl (fun ls hl => ?_)
          refine lv_goto (tgt := 5) hx hb dX11_isBarred_55 (by decide) ?_
          have clk8 := i_cl (x := q5_4) (by omega)
          have clk9 := i_cl (x := v62) (by omega)
          have ek9 : v62.toNatClampNeg = q5_4.toNatClampNeg + 1 := by omega
          exact ih4 (v61, v62) ls H locs ⟨(by omega), (by omega), (by rw [ek9, poV_s, ← g3]; first | (rw [if_neg (by omega), ev61]; exact or_z9 _) | (rw [if_pos (by omega), ev61, ev60, ev59])), lv_sub hl [2, 3, 4, 1, 0] rfl, hP.sub [0, 1, 2, 3, 4, 5, 6, 7, 8, 9, 10, 11, 12, 13, 14, 15, 16, 17] rfl, hD.sub [0, 1, 2, 3, 4, 5, 6, 7, 8, 9, 10, 11, 12, 13, 14, 15, 16, 17] (by decide +kernel) rfl, hS⟩ (by show lc.toInt - v62.toInt < _; omega)

def sm_barred (cn pn hn lc : Int32) (fo pk pf po pd pe ho hc hp hs lp la lb : Nat → Int32) (k d : Int32) : Int32 := if 0 ≤ k.toInt ∧ k.toInt < cn.toInt ∧ 0 ≤ d.toInt ∧ d.toInt < 10000 then (if 500000 ≤ brV (pmF ho hc hp hs d hn.toNatClampNeg) (poV lp la lb d lc.toNatClampNeg) (ooV pk pf po pd pe pn.toNatClampNeg k d d 41 0 (fo k.toNatClampNeg) (fo k.toNatClampNeg) 0).1.toNatClampNeg 10 then 1 else 0) else -1000001

set_option maxHeartbeats 4000000 in
set_option maxRecDepth 100000 in
theorem ct_X11_barred (l : Launch) (D : va_G) (cI cY cJ cQ : ClassId) (sz : Nat) (md : Nat → Nat) (sd : Int32) (mth mst hn cn pn mq gn mln mnn ln mlt msz mcu mtk mfr mti mfa mfb an un lc td mtn : Int32) (fo pk pf po pd pe lp la lb ho hc hp hs mh mp mt : Nat → Int32) (mf : Nat → Int64) (k : Int32) (d : Int32)  (h1 : 0 ≤ cn.toInt) (h2 : cn.toInt ≤ 12) (h3 : 0 ≤ pn.toInt) (h4 : pn.toInt ≤ 40) (h5 : 0 ≤ lc.toInt) (h6 : lc.toInt ≤ 20) (h7 : 0 ≤ hn.toInt) (h8 : hn.toInt ≤ 40) (h9 : okV hn hp) (h10 : okF cn fo) (h11 : okG pn po)  : Met l yX11_barred wsX11_barred ({ frames := 4, cells := 0, slots := 0, locals := 98 }) (cPre D (ty4 cI cY cJ cQ) [(moC md sd mth mst hn cn pn mq gn mln mnn ln mlt msz mcu mtk mfr mti mfa mfb an un lc td mtn), (aI cI (md 16) 12 fo), (aI cI (md 19) 40 pk), (aI cI (md 20) 40 pf), (aI cI (md 21) 40 po), (aI cI (md 22) 40 pd), (aI cI (md 23) 40 pe), (aI cI (md 58) 20 lp), (aI cI (md 59) 20 la), (aI cI (md 60) 20 lb), (aI cI (md 7) 40 ho), (aI cI (md 8) 40 hc), (aI cI (md 9) 40 hp), (aI cI (md 10) 40 hs), (aI cI (md 11) 200 mh), (aI cI (md 12) 12 mp), (aI cI (md 13) 12 mt), (aJ cJ (md 14) 12 mf)] sz [.ref (md 64), .int k, .int d]) (va_Qi (fun (r : Int32) (u : Int32 × (Nat → Int32) × (Nat → Int32) × (Nat → Int32) × (Nat → Int64)) => r = sm_barred cn pn hn lc fo pk pf po pd pe ho hc hp hs lp la lb k d) (cB D (ty4 cI cY cJ cQ) (fun (u : Int32 × (Nat → Int32) × (Nat → Int32) × (Nat → Int32) × (Nat → Int64)) => [(moC md sd 0 mst hn cn pn u.1 gn mln mnn ln mlt msz mcu mtk mfr mti mfa mfb an un lc td mtn), (aI cI (md 16) 12 fo), (aI cI (md 19) 40 pk), (aI cI (md 20) 40 pf), (aI cI (md 21) 40 po), (aI cI (md 22) 40 pd), (aI cI (md 23) 40 pe), (aI cI (md 58) 20 lp), (aI cI (md 59) 20 la), (aI cI (md 60) 20 lb), (aI cI (md 7) 40 ho), (aI cI (md 8) 40 hc), (aI cI (md 9) 40 hp), (aI cI (md 10) 40 hs), (aI cI (md 11) 200 u.2.1), (aI cI (md 12) 12 u.2.2.1), (aI cI (md 13) 12 u.2.2.2.1), (aJ cJ (md 14) 12 u.2.2.2.2)]) (va_A [(moC md sd mth mst hn cn pn mq gn mln mnn ln mlt msz mcu mtk mfr mti mfa mfb an un lc td mtn), (aI cI (md 16) 12 fo), (aI cI (md 19) 40 pk), (aI cI (md 20) 40 pf), (aI cI (md 21) 40 po), (aI cI (md 22) 40 pd), (aI cI (md 23) 40 pe), (aI cI (md 58) 20 lp), (aI cI (md 59) 20 la), (aI cI (md 60) 20 lb), (aI cI (md 7) 40 ho), (aI cI (md 8) 40 hc), (aI cI (md 9) 40 hp), (aI cI (md 10) 40 hs), (aI cI (md 11) 200 mh), (aI cI (md 12) 12 mp), (aI cI (md 13) 12 mt), (aJ cJ (md 14) 12 mf)] sz)) (va_A [(moC md sd mth mst hn cn pn mq gn mln mnn ln mlt msz mcu mtk mfr mti mfa mfb an un lc td mtn), (aI cI (md 16) 12 fo), (aI cI (md 19) 40 pk), (aI cI (md 20) 40 pf), (aI cI (md 21) 40 po), (aI cI (md 22) 40 pd), (aI cI (md 23) 40 pe), (aI cI (md 58) 20 lp), (aI cI (md 59) 20 la), (aI cI (md 60) 20 lb), (aI cI (md 7) 40 ho), (aI cI (md 8) 40 hc), (aI cI (md 9) 40 hp), (aI cI (md 10) 40 hs), (aI cI (md 11) 200 mh), (aI cI (md 12) 12 mp), (aI cI (md 13) 12 mt), (aJ cJ (md 14) 12 mf)] sz)) 0 0 (va_A [(moC md sd mth mst hn cn pn mq gn mln mnn ln mlt msz mcu mtk mfr mti mfa mfb an un lc td mtn), (aI cI (md 16) 12 fo), (aI cI (md 19) 40 pk), (aI cI (md 20) 40 pf), (aI cI (md 21) 40 po), (aI cI (md 22) 40 pd), (aI cI (md 23) 40 pe), (aI cI (md 58) 20 lp), (aI cI (md 59) 20 la), (aI cI (md 60) 20 lb), (aI cI (md 7) 40 ho), (aI cI (md 8) 40 hc), (aI cI (md 9) 40 hp), (aI cI (md 10) 40 hs), (aI cI (md 11) 200 mh), (aI cI (md 12) 12 mp), (aI cI (md 13) 12 mt), (aJ cJ (md 14) 12 mf)] sz) := by
  refine Met.ofW (cc := cX11_barred) (maxL := 3) (ret := (some .int)) (by decide) rfl ?_
  intro p e s m args below meth c s₁ B hml hv
  obtain ⟨rfl, hsz, hP, hK, hD0, hN⟩ := hv
  have hx := B.exec
  have hb := B.bytes
  have hr := B.returns
  have hts := atoms_spec (ws := wsX11_barred) B.pre
  have hown : s.vm.findClass RX11 = some m.cls := findClass_of_methodNamed B.named
  have hlocks := B.notSynchronized
  subst hsz
  have hD := hD0.self (sz := s.heap.size)
  generalize hAe : va_A [(moC md sd mth mst hn cn pn mq gn mln mnn ln mlt msz mcu mtk mfr mti mfa mfb an un lc td mtn), (aI cI (md 16) 12 fo), (aI cI (md 19) 40 pk), (aI cI (md 20) 40 pf), (aI cI (md 21) 40 po), (aI cI (md 22) 40 pd), (aI cI (md 23) 40 pe), (aI cI (md 58) 20 lp), (aI cI (md 59) 20 la), (aI cI (md 60) 20 lb), (aI cI (md 7) 40 ho), (aI cI (md 8) 40 hc), (aI cI (md 9) 40 hp), (aI cI (md 10) 40 hs), (aI cI (md 11) 200 mh), (aI cI (md 12) 12 mp), (aI cI (md 13) 12 mt), (aJ cJ (md 14) 12 mf)] s.heap.size = A at hD ⊢
  have hA : ∀ q : Nat, s.heap.size ≤ q → A q := fun q h => by rw [← hAe]; exact Or.inr h
  have hS : va_S A s.heap s.heap [] := va_S.rf
  have hP : va_P D vwCl [(moC md sd mth mst hn cn pn mq gn mln mnn ln mlt msz mcu mtk mfr mti mfa mfb an un lc td mtn), (aI cI (md 16) 12 fo), (aI cI (md 19) 40 pk), (aI cI (md 20) 40 pf), (aI cI (md 21) 40 po), (aI cI (md 22) 40 pd), (aI cI (md 23) 40 pe), (aI cI (md 58) 20 lp), (aI cI (md 59) 20 la), (aI cI (md 60) 20 lb), (aI cI (md 7) 40 ho), (aI cI (md 8) 40 hc), (aI cI (md 9) 40 hp), (aI cI (md 10) 40 hs), (aI cI (md 11) 200 mh), (aI cI (md 12) 12 mp), (aI cI (md 13) 12 mt), (aJ cJ (md 14) 12 mf)] s.heap := hP
  have hl := lv_entry ([.ref (md 64), .int k, .int d]) (n := 3) (Nat.le_of_ble_eq_true rfl)
  rw [lg_entry_eq]
  generalize (lg_sl ([.ref (md 64), .int k, .int d]) ++ List.replicate (3 - (lg_sl ([.ref (md 64), .int k, .int d])).length) Slot.unset).toArray = ls at hl ⊢
  have hl : lv_has ls 3 [(0, .ref (md 64)), (1, .int k), (2, .int d)] := hl
  have km1000001 : (-1000001 : Int32).toInt = -1000001 := by decide
  have k0 : (0 : Int32).toInt = 0 := by decide
  have k1 : (1 : Int32).toInt = 1 := by decide
  refine lv_aload_n hx hb dX11_barred_0 rfl (lv_at hl 0 rfl) ?_
  refine lv_iconst (v := 0) hx hb dX11_barred_1 (by decide) ?_
  refine va_put (D := D) (ci := 11) (v := .int 0) (ty := .int) (C := RX11) (T := TX11) (N := 64) hx hb hts inX11_barred_X11 tyX11 tyX11_ok nmX11 hown hK hP hD hS 0 rfl rfl 0 (by decide) (hts (Cond.fieldLink RX11 1 "PortRoomsModel" "thrown" "I") (wm_t (wm_l (wm_i 0 rfl)))) (fun _ h9 => h9) rfl (tyX11_ok 0 (by decide)) rfl rfl (Nat.le_of_ble_eq_true rfl) dX11_barred_2 (fun H locs => ?_)
  clear hP hD hS
  intro hP hD hS
  replace hP : va_P D vwCl [(moC md sd (0) mst hn cn pn mq gn mln mnn ln mlt msz mcu mtk mfr mti mfa mfb an un lc td mtn), (aI cI (md 16) 12 fo), (aI cI (md 19) 40 pk), (aI cI (md 20) 40 pf), (aI cI (md 21) 40 po), (aI cI (md 22) 40 pd), (aI cI (md 23) 40 pe), (aI cI (md 58) 20 lp), (aI cI (md 59) 20 la), (aI cI (md 60) 20 lb), (aI cI (md 7) 40 ho), (aI cI (md 8) 40 hc), (aI cI (md 9) 40 hp), (aI cI (md 10) 40 hs), (aI cI (md 11) 200 mh), (aI cI (md 12) 12 mp), (aI cI (md 13) 12 mt), (aJ cJ (md 14) 12 mf)] H := hP
  replace hD : va_D A [(moC md sd (0) mst hn cn pn mq gn mln mnn ln mlt msz mcu mtk mfr mti mfa mfb an un lc td mtn), (aI cI (md 16) 12 fo), (aI cI (md 19) 40 pk), (aI cI (md 20) 40 pf), (aI cI (md 21) 40 po), (aI cI (md 22) 40 pd), (aI cI (md 23) 40 pe), (aI cI (md 58) 20 lp), (aI cI (md 59) 20 la), (aI cI (md 60) 20 lb), (aI cI (md 7) 40 ho), (aI cI (md 8) 40 hc), (aI cI (md 9) 40 hp), (aI cI (md 10) 40 hs), (aI cI (md 11) 200 mh), (aI cI (md 12) 12 mp), (aI cI (md 13) 12 mt), (aJ cJ (md 14) 12 mf)] := hD
  refine lv_aload_n hx hb dX11_barred_5 rfl (lv_at hl 0 rfl) ?_
  refine lv_iload_n hx hb dX11_barred_6 rfl (lv_at hl 1 rfl) ?_
  refine st_i1 (va_runV (C := RX11) (As := [.int k]) (rest := []) ⟨hx, hb, hml, hown, hts⟩ (ct_X11_isCrate l D cI cY cJ cQ _ md sd 0 mst hn cn pn mq gn mln mnn ln mlt msz mcu mtk mfr mti mfa mfb an un lc td mtn k h1 h2) (cwV 1 hts gX11_barred_X11_isCrate rfl rfl rfl ⟨rfl, cdX11_isCrate⟩ ⟨Nat.le_of_ble_eq_true rfl, Nat.le_of_ble_eq_true rfl⟩) (cPreV (hP.sub [0] rfl) hK (hD.sub [0] (by decide +kernel) rfl) hN (ci := 11) (q0 := 0) rfl rfl) rfl rfl hl.1 rfl (lv_room (Nat.le_of_ble_eq_true rfl)) dX11_barred_7 ⟨Nat.le_of_ble_eq_true rfl, Nat.le_of_ble_eq_true rfl⟩) hP hD hS hA [0] rfl (fun _ => rfl) (fun r3 u1 H locs hw2 => ?_)
  clear hP hS
  intro hP hS
  replace hw2 : r3 = if 0 ≤ k.toInt ∧ k.toInt < cn.toInt then 1 else 0 := hw2
  refine lv_if_eq (tgt := 20) hx hb dX11_barred_10 (by decide) (fun c4 => ?_) (fun c4 => ?_)
  · skip
    have f5 := bo_f hw2 c4
    refine lv_ldc hx hb hown (hts (Cond.constant RX11 157 (-1000001)) (wm_t (wm_l (wm_i 1 rfl)))) dX11_barred_20 ?_
    refine lv_goto (tgt := 39) hx hb dX11_barred_22 (by decide) ?_
    have hP9 := hP
    have hD9 := hD
    exact W.iret (v := (-1000001)) hx hb hr (fun t ht hW => ⟨⟨(-1000001), (mq, mh, mp, mt, mf), rfl, (by show ((-1000001) : Int32) = sm_barred cn pn hn lc fo pk pf po pd pe ho hc hp hs lp la lb k d; unfold sm_barred; (repeat' split) <;> first | rfl | (exfalso; omega)), by rw [ht]; exact hP9, va_K.moved hW.alike hK, hD9⟩, hS.F ht⟩) hS.2.2 dX11_barred_39
  · skip
    have f6 := bo_t hw2 c4
    refine lv_iload_n hx hb dX11_barred_13 rfl (lv_at hl 2 rfl) ?_
    refine st_i1 (va_runS (As := [.int d]) (rest := []) ⟨hx, hb, hml, hown, hts⟩ (ct_X11_isDay l D cI cY cJ cQ _ d) (va_cwS 1 hts gX11_barred_X11_isDay rfl rfl rfl cdX11_isDay ⟨Nat.le_of_ble_eq_true rfl, Nat.le_of_ble_eq_true rfl⟩) (cPreS (hP.sub [] rfl) hK (hD.sub [] (by decide +kernel) rfl) hN) rfl rfl hl.1 rfl (lv_room (Nat.le_of_ble_eq_true rfl)) dX11_barred_14 ⟨Nat.le_of_ble_eq_true rfl, Nat.le_of_ble_eq_true rfl⟩) hP hD hS hA [] rfl (fun _ => rfl) (fun r9 u7 H locs hw8 => ?_)
    clear hP hS
    intro hP hS
    replace hw8 : r9 = if 0 ≤ d.toInt ∧ d.toInt ≤ 9999 then 1 else 0 := hw8
    refine lv_if_ne (tgt := 25) hx hb dX11_barred_17 (by decide) (fun c10 => ?_) (fun c10 => ?_)
    · skip
      have f11 := bo_t hw8 c10
      refine lv_aload_n hx hb dX11_barred_25 rfl (lv_at hl 0 rfl) ?_
      refine lv_iload_n hx hb dX11_barred_26 rfl (lv_at hl 1 rfl) ?_
      refine lv_iload_n hx hb dX11_barred_27 rfl (lv_at hl 2 rfl) ?_
      refine st_i (wr := []) (va_runV (C := RX11) (As := [.int k, .int d]) (rest := []) ⟨hx, hb, hml, hown, hts⟩ (ct_X11_isBarred l D cI cY cJ cQ _ md sd 0 mst hn cn pn mq gn mln mnn ln mlt msz mcu mtk mfr mti mfa mfb an un lc td mtn fo pk pf po pd pe lp la lb ho hc hp hs mh mp mt mf k d h2 (by omega) (by omega) h3 h4 h5 h6 h7 h8 h9 h10 h11) (cwV 2 hts gX11_barred_X11_isBarred rfl rfl rfl ⟨rfl, cdX11_isBarred⟩ ⟨Nat.le_of_ble_eq_true rfl, Nat.le_of_ble_eq_true rfl⟩) (cPreV (hP.sub [0, 1, 2, 3, 4, 5, 6, 7, 8, 9, 10, 11, 12, 13, 14, 15, 16, 17] rfl) hK (hD.sub [0, 1, 2, 3, 4, 5, 6, 7, 8, 9, 10, 11, 12, 13, 14, 15, 16, 17] (by decide +kernel) rfl) hN (ci := 11) (q0 := 0) rfl rfl) rfl rfl hl.1 rfl (lv_room (Nat.le_of_ble_eq_true rfl)) dX11_barred_28 ⟨Nat.le_of_ble_eq_true rfl, Nat.le_of_ble_eq_true rfl⟩) hP hD hS hA [0, 1, 2, 3, 4, 5, 6, 7, 8, 9, 10, 11, 12, 13, 14, 15, 16, 17] [] rfl rfl (by decide +kernel) (by decide +kernel) (fun r14 u12 H locs hw13 => ?_)
      clear hP hD hS
      intro hP hD hS
      obtain ⟨mq_15, mh_16, mp_17, mt_18, mf_19⟩ := u12
      replace hw13 : r14 = if 500000 ≤ brV (pmF ho hc hp hs d hn.toNatClampNeg) (poV lp la lb d lc.toNatClampNeg) (ooV pk pf po pd pe pn.toNatClampNeg k d d 41 0 (fo k.toNatClampNeg) (fo k.toNatClampNeg) 0).1.toNatClampNeg 10 then 1 else 0 := hw13
      replace hP : va_P D vwCl [(moC md sd (0) mst hn cn pn mq_15 gn mln mnn ln mlt msz mcu mtk mfr mti mfa mfb an un lc td mtn), (aI cI (md 16) 12 fo), (aI cI (md 19) 40 pk), (aI cI (md 20) 40 pf), (aI cI (md 21) 40 po), (aI cI (md 22) 40 pd), (aI cI (md 23) 40 pe), (aI cI (md 58) 20 lp), (aI cI (md 59) 20 la), (aI cI (md 60) 20 lb), (aI cI (md 7) 40 ho), (aI cI (md 8) 40 hc), (aI cI (md 9) 40 hp), (aI cI (md 10) 40 hs), (aI cI (md 11) 200 mh_16), (aI cI (md 12) 12 mp_17), (aI cI (md 13) 12 mt_18), (aJ cJ (md 14) 12 mf_19)] H := hP
      replace hD : va_D A [(moC md sd (0) mst hn cn pn mq_15 gn mln mnn ln mlt msz mcu mtk mfr mti mfa mfb an un lc td mtn), (aI cI (md 16) 12 fo), (aI cI (md 19) 40 pk), (aI cI (md 20) 40 pf), (aI cI (md 21) 40 po), (aI cI (md 22) 40 pd), (aI cI (md 23) 40 pe), (aI cI (md 58) 20 lp), (aI cI (md 59) 20 la), (aI cI (md 60) 20 lb), (aI cI (md 7) 40 ho), (aI cI (md 8) 40 hc), (aI cI (md 9) 40 hp), (aI cI (md 10) 40 hs), (aI cI (md 11) 200 mh_16), (aI cI (md 12) 12 mp_17), (aI cI (md 13) 12 mt_18), (aJ cJ (md 14) 12 mf_19)] := hD
      refine lv_if_eq (tgt := 38) hx hb dX11_barred_31 (by decide) (fun c20 => ?_) (fun c20 => ?_)
      · skip
        have f21 := bo_f hw13 c20
        refine lv_iconst (v := 0) hx hb dX11_barred_38 (by decide) ?_
        have hP9 := hP
        have hD9 := hD
        exact W.iret (v := 0) hx hb hr (fun t ht hW => ⟨⟨0, (mq_15, mh_16, mp_17, mt_18, mf_19), rfl, (by show (0 : Int32) = sm_barred cn pn hn lc fo pk pf po pd pe ho hc hp hs lp la lb k d; unfold sm_barred; (repeat' split) <;> first | rfl | (exfalso; omega)), by rw [ht]; exact hP9, va_K.moved hW.alike hK, hD9⟩, hS.F ht⟩) hS.2.2 dX11_barred_39
      · skip
        have f22 := bo_t hw13 c20
        refine lv_iconst (v := 1) hx hb dX11_barred_34 (by decide) ?_
        refine lv_goto (tgt := 39) hx hb dX11_barred_35 (by decide) ?_
        have hP9 := hP
        have hD9 := hD
        exact W.iret (v := 1) hx hb hr (fun t ht hW => ⟨⟨1, (mq_15, mh_16, mp_17, mt_18, mf_19), rfl, (by show (1 : Int32) = sm_barred cn pn hn lc fo pk pf po pd pe ho hc hp hs lp la lb k d; unfold sm_barred; (repeat' split) <;> first | rfl | (exfalso; omega)), by rw [ht]; exact hP9, va_K.moved hW.alike hK, hD9⟩, hS.F ht⟩) hS.2.2 dX11_barred_39
    · skip
      have f23 := bo_f hw8 c10
      refine lv_ldc hx hb hown (hts (Cond.constant RX11 157 (-1000001)) (wm_t (wm_l (wm_i 1 rfl)))) dX11_barred_20 ?_
      refine lv_goto (tgt := 39) hx hb dX11_barred_22 (by decide) ?_
      have hP9 := hP
      have hD9 := hD
      exact W.iret (v := (-1000001)) hx hb hr (fun t ht hW => ⟨⟨(-1000001), (mq, mh, mp, mt, mf), rfl, (by show ((-1000001) : Int32) = sm_barred cn pn hn lc fo pk pf po pd pe ho hc hp hs lp la lb k d; unfold sm_barred; (repeat' split) <;> first | rfl | (exfalso; omega)), by rw [ht]; exact hP9, va_K.moved hW.alike hK, hD9⟩, hS.F ht⟩) hS.2.2 dX11_barred_39

set_option maxHeartbeats 4000000 in
set_option maxRecDepth 100000 in
theorem ct_X11_kindOf (l : Launch) (D : va_G) (cI cY cJ cQ : ClassId) (sz : Nat) (md : Nat → Nat) (sd : Int32) (mth mst hn cn pn mq gn mln mnn ln mlt msz mcu mtk mfr mti mfa mfb an un lc td mtn : Int32) (fo pk pf po pd pe lp la lb ho hc hp hs mh mp mt wo gk gs gd ge : Nat → Int32) (mf : Nat → Int64) (k : Int32)  (h1 : cn.toInt ≤ 12) (h2 : 0 ≤ k.toInt) (h3 : k.toInt < cn.toInt) (h4 : 0 ≤ pn.toInt) (h5 : pn.toInt ≤ 40) (h6 : 0 ≤ lc.toInt) (h7 : lc.toInt ≤ 20) (h8 : 0 ≤ hn.toInt) (h9 : hn.toInt ≤ 40) (h10 : okV hn hp) (h11 : okF cn fo) (h12 : okG pn po) (h13 : 0 ≤ gn.toInt) (h14 : gn.toInt ≤ 40)  : Met l yX11_kindOf wsX11_kindOf ({ frames := 4, cells := 0, slots := 0, locals := 98 }) (cPre D (ty4 cI cY cJ cQ) [(moC md sd mth mst hn cn pn mq gn mln mnn ln mlt msz mcu mtk mfr mti mfa mfb an un lc td mtn), (aI cI (md 16) 12 fo), (aI cI (md 19) 40 pk), (aI cI (md 20) 40 pf), (aI cI (md 21) 40 po), (aI cI (md 22) 40 pd), (aI cI (md 23) 40 pe), (aI cI (md 58) 20 lp), (aI cI (md 59) 20 la), (aI cI (md 60) 20 lb), (aI cI (md 7) 40 ho), (aI cI (md 8) 40 hc), (aI cI (md 9) 40 hp), (aI cI (md 10) 40 hs), (aI cI (md 11) 200 mh), (aI cI (md 12) 12 mp), (aI cI (md 13) 12 mt), (aJ cJ (md 14) 12 mf), (aI cI (md 17) 12 wo), (aI cI (md 26) 40 gk), (aI cI (md 27) 40 gs), (aI cI (md 28) 40 gd), (aI cI (md 29) 40 ge)] sz [.ref (md 64), .int k]) (va_Qi (fun (r : Int32) (u : Int32 × (Nat → Int32) × (Nat → Int32) × (Nat → Int32) × (Nat → Int64)) => r = kdF (brV (pmF ho hc hp hs td hn.toNatClampNeg) (poV lp la lb td lc.toNatClampNeg) (ooV pk pf po pd pe pn.toNatClampNeg k td td 41 0 (fo k.toNatClampNeg) (fo k.toNatClampNeg) 0).1.toNatClampNeg 10) (suV gk gs ge k td gn.toNatClampNeg) (wo k.toNatClampNeg)) (cB D (ty4 cI cY cJ cQ) (fun (u : Int32 × (Nat → Int32) × (Nat → Int32) × (Nat → Int32) × (Nat → Int64)) => [(moC md sd mth mst hn cn pn u.1 gn mln mnn ln mlt msz mcu mtk mfr mti mfa mfb an un lc td mtn), (aI cI (md 16) 12 fo), (aI cI (md 19) 40 pk), (aI cI (md 20) 40 pf), (aI cI (md 21) 40 po), (aI cI (md 22) 40 pd), (aI cI (md 23) 40 pe), (aI cI (md 58) 20 lp), (aI cI (md 59) 20 la), (aI cI (md 60) 20 lb), (aI cI (md 7) 40 ho), (aI cI (md 8) 40 hc), (aI cI (md 9) 40 hp), (aI cI (md 10) 40 hs), (aI cI (md 11) 200 u.2.1), (aI cI (md 12) 12 u.2.2.1), (aI cI (md 13) 12 u.2.2.2.1), (aJ cJ (md 14) 12 u.2.2.2.2), (aI cI (md 17) 12 wo), (aI cI (md 26) 40 gk), (aI cI (md 27) 40 gs), (aI cI (md 28) 40 gd), (aI cI (md 29) 40 ge)]) (va_A [(moC md sd mth mst hn cn pn mq gn mln mnn ln mlt msz mcu mtk mfr mti mfa mfb an un lc td mtn), (aI cI (md 16) 12 fo), (aI cI (md 19) 40 pk), (aI cI (md 20) 40 pf), (aI cI (md 21) 40 po), (aI cI (md 22) 40 pd), (aI cI (md 23) 40 pe), (aI cI (md 58) 20 lp), (aI cI (md 59) 20 la), (aI cI (md 60) 20 lb), (aI cI (md 7) 40 ho), (aI cI (md 8) 40 hc), (aI cI (md 9) 40 hp), (aI cI (md 10) 40 hs), (aI cI (md 11) 200 mh), (aI cI (md 12) 12 mp), (aI cI (md 13) 12 mt), (aJ cJ (md 14) 12 mf), (aI cI (md 17) 12 wo), (aI cI (md 26) 40 gk), (aI cI (md 27) 40 gs), (aI cI (md 28) 40 gd), (aI cI (md 29) 40 ge)] sz)) (va_A [(moC md sd mth mst hn cn pn mq gn mln mnn ln mlt msz mcu mtk mfr mti mfa mfb an un lc td mtn), (aI cI (md 16) 12 fo), (aI cI (md 19) 40 pk), (aI cI (md 20) 40 pf), (aI cI (md 21) 40 po), (aI cI (md 22) 40 pd), (aI cI (md 23) 40 pe), (aI cI (md 58) 20 lp), (aI cI (md 59) 20 la), (aI cI (md 60) 20 lb), (aI cI (md 7) 40 ho), (aI cI (md 8) 40 hc), (aI cI (md 9) 40 hp), (aI cI (md 10) 40 hs), (aI cI (md 11) 200 mh), (aI cI (md 12) 12 mp), (aI cI (md 13) 12 mt), (aJ cJ (md 14) 12 mf), (aI cI (md 17) 12 wo), (aI cI (md 26) 40 gk), (aI cI (md 27) 40 gs), (aI cI (md 28) 40 gd), (aI cI (md 29) 40 ge)] sz)) 0 0 (va_A [(moC md sd mth mst hn cn pn mq gn mln mnn ln mlt msz mcu mtk mfr mti mfa mfb an un lc td mtn), (aI cI (md 16) 12 fo), (aI cI (md 19) 40 pk), (aI cI (md 20) 40 pf), (aI cI (md 21) 40 po), (aI cI (md 22) 40 pd), (aI cI (md 23) 40 pe), (aI cI (md 58) 20 lp), (aI cI (md 59) 20 la), (aI cI (md 60) 20 lb), (aI cI (md 7) 40 ho), (aI cI (md 8) 40 hc), (aI cI (md 9) 40 hp), (aI cI (md 10) 40 hs), (aI cI (md 11) 200 mh), (aI cI (md 12) 12 mp), (aI cI (md 13) 12 mt), (aJ cJ (md 14) 12 mf), (aI cI (md 17) 12 wo), (aI cI (md 26) 40 gk), (aI cI (md 27) 40 gs), (aI cI (md 28) 40 gd), (aI cI (md 29) 40 ge)] sz) := by
  refine Met.ofW (cc := cX11_kindOf) (maxL := 3) (ret := (some .int)) (by decide) rfl ?_
  intro p e s m args below meth c s₁ B hml hv
  obtain ⟨rfl, hsz, hP, hK, hD0, hN⟩ := hv
  have hx := B.exec
  have hb := B.bytes
  have hr := B.returns
  have hts := atoms_spec (ws := wsX11_kindOf) B.pre
  have hown : s.vm.findClass RX11 = some m.cls := findClass_of_methodNamed B.named
  have hlocks := B.notSynchronized
  subst hsz
  have hD := hD0.self (sz := s.heap.size)
  generalize hAe : va_A [(moC md sd mth mst hn cn pn mq gn mln mnn ln mlt msz mcu mtk mfr mti mfa mfb an un lc td mtn), (aI cI (md 16) 12 fo), (aI cI (md 19) 40 pk), (aI cI (md 20) 40 pf), (aI cI (md 21) 40 po), (aI cI (md 22) 40 pd), (aI cI (md 23) 40 pe), (aI cI (md 58) 20 lp), (aI cI (md 59) 20 la), (aI cI (md 60) 20 lb), (aI cI (md 7) 40 ho), (aI cI (md 8) 40 hc), (aI cI (md 9) 40 hp), (aI cI (md 10) 40 hs), (aI cI (md 11) 200 mh), (aI cI (md 12) 12 mp), (aI cI (md 13) 12 mt), (aJ cJ (md 14) 12 mf), (aI cI (md 17) 12 wo), (aI cI (md 26) 40 gk), (aI cI (md 27) 40 gs), (aI cI (md 28) 40 gd), (aI cI (md 29) 40 ge)] s.heap.size = A at hD ⊢
  have hA : ∀ q : Nat, s.heap.size ≤ q → A q := fun q h => by rw [← hAe]; exact Or.inr h
  have hS : va_S A s.heap s.heap [] := va_S.rf
  have hP : va_P D vwCl [(moC md sd mth mst hn cn pn mq gn mln mnn ln mlt msz mcu mtk mfr mti mfa mfb an un lc td mtn), (aI cI (md 16) 12 fo), (aI cI (md 19) 40 pk), (aI cI (md 20) 40 pf), (aI cI (md 21) 40 po), (aI cI (md 22) 40 pd), (aI cI (md 23) 40 pe), (aI cI (md 58) 20 lp), (aI cI (md 59) 20 la), (aI cI (md 60) 20 lb), (aI cI (md 7) 40 ho), (aI cI (md 8) 40 hc), (aI cI (md 9) 40 hp), (aI cI (md 10) 40 hs), (aI cI (md 11) 200 mh), (aI cI (md 12) 12 mp), (aI cI (md 13) 12 mt), (aJ cJ (md 14) 12 mf), (aI cI (md 17) 12 wo), (aI cI (md 26) 40 gk), (aI cI (md 27) 40 gs), (aI cI (md 28) 40 gd), (aI cI (md 29) 40 ge)] s.heap := hP
  have hl := lv_entry ([.ref (md 64), .int k]) (n := 3) (Nat.le_of_ble_eq_true rfl)
  rw [lg_entry_eq]
  generalize (lg_sl ([.ref (md 64), .int k]) ++ List.replicate (3 - (lg_sl ([.ref (md 64), .int k])).length) Slot.unset).toArray = ls at hl ⊢
  have hl : lv_has ls 3 [(0, .ref (md 64)), (1, .int k)] := hl
  have k0 : (0 : Int32).toInt = 0 := by decide
  have k1 : (1 : Int32).toInt = 1 := by decide
  have k2 : (2 : Int32).toInt = 2 := by decide
  have k3 : (3 : Int32).toInt = 3 := by decide
  have k4 : (4 : Int32).toInt = 4 := by decide
  refine lv_aload_n hx hb dX11_kindOf_0 rfl (lv_at hl 0 rfl) ?_
  refine lv_iload_n hx hb dX11_kindOf_1 rfl (lv_at hl 1 rfl) ?_
  refine st_i1 (va_runV (C := RX11) (As := [.int k]) (rest := []) ⟨hx, hb, hml, hown, hts⟩ (ct_X11_owes l D cI cY cJ cQ _ md sd mth mst hn cn pn mq gn mln mnn ln mlt msz mcu mtk mfr mti mfa mfb an un lc td mtn gk gs gd ge k h13 h14) (cwV 1 hts gX11_kindOf_X11_owes rfl rfl rfl ⟨rfl, cdX11_owes⟩ ⟨Nat.le_of_ble_eq_true rfl, Nat.le_of_ble_eq_true rfl⟩) (cPreV (hP.sub [0, 19, 20, 21, 22] rfl) hK (hD.sub [0, 19, 20, 21, 22] (by decide +kernel) rfl) hN (ci := 11) (q0 := 0) rfl rfl) rfl rfl hl.1 rfl (lv_room (Nat.le_of_ble_eq_true rfl)) dX11_kindOf_2 ⟨Nat.le_of_ble_eq_true rfl, Nat.le_of_ble_eq_true rfl⟩) hP hD hS hA [0, 19, 20, 21, 22] rfl (fun _ => rfl) (fun r3 u1 H locs hw2 => ?_)
  clear hP hS
  intro hP hS
  replace hw2 : r3 = suV gk gs ge k td gn.toNatClampNeg := hw2
  subst hw2
  refine lv_istore_n (lv' := [(2, .int (suV gk gs ge k td gn.toNatClampNeg)), (0, .ref (md 64)), (1, .int k)]) hx hb dX11_kindOf_5 rfl hl (by decide) rfl (fun ls hl => ?_)
  refine lv_aload_n hx hb dX11_kindOf_6 rfl (lv_at hl 1 rfl) ?_
  refine lv_iload_n hx hb dX11_kindOf_7 rfl (lv_at hl 2 rfl) ?_
  refine lv_aload_n hx hb dX11_kindOf_8 rfl (lv_at hl 1 rfl) ?_
  refine va_get (D := D) (ci := 11) (v := .int td) (C := RX11) (T := TX11) (N := 64) hx hb hts inX11_kindOf_X11 hown hK hP 0 rfl rfl 61 (by decide) (hts (Cond.fieldLink RX11 369 "PortRoomsModel" "theDay" "I") (wm_t (wm_l (wm_i 0 rfl)))) (fun _ h9 => h9) rfl dX11_kindOf_9 ?_
  refine st_i (wr := [(aI cI (md 17) 12 wo), (aI cI (md 26) 40 gk), (aI cI (md 27) 40 gs), (aI cI (md 28) 40 gd), (aI cI (md 29) 40 ge)]) (va_runV (C := RX11) (As := [.int k, .int td]) (rest := []) ⟨hx, hb, hml, hown, hts⟩ (ct_X11_isBarred l D cI cY cJ cQ _ md sd mth mst hn cn pn mq gn mln mnn ln mlt msz mcu mtk mfr mti mfa mfb an un lc td mtn fo pk pf po pd pe lp la lb ho hc hp hs mh mp mt mf k td h1 h2 h3 h4 h5 h6 h7 h8 h9 h10 h11 h12) (cwV 2 hts gX11_kindOf_X11_isBarred rfl rfl rfl ⟨rfl, cdX11_isBarred⟩ ⟨Nat.le_of_ble_eq_true rfl, Nat.le_of_ble_eq_true rfl⟩) (cPreV (hP.sub [0, 1, 2, 3, 4, 5, 6, 7, 8, 9, 10, 11, 12, 13, 14, 15, 16, 17] rfl) hK (hD.sub [0, 1, 2, 3, 4, 5, 6, 7, 8, 9, 10, 11, 12, 13, 14, 15, 16, 17] (by decide +kernel) rfl) hN (ci := 11) (q0 := 0) rfl rfl) rfl rfl hl.1 rfl (lv_room (Nat.le_of_ble_eq_true rfl)) dX11_kindOf_12 ⟨Nat.le_of_ble_eq_true rfl, Nat.le_of_ble_eq_true rfl⟩) hP hD hS hA [0, 1, 2, 3, 4, 5, 6, 7, 8, 9, 10, 11, 12, 13, 14, 15, 16, 17] [18, 19, 20, 21, 22] rfl rfl (by decide +kernel) (by decide +kernel) (fun r6 u4 H locs hw5 => ?_)
  clear hP hD hS
  intro hP hD hS
  obtain ⟨mq_7, mh_8, mp_9, mt_10, mf_11⟩ := u4
  replace hw5 : r6 = if 500000 ≤ brV (pmF ho hc hp hs td hn.toNatClampNeg) (poV lp la lb td lc.toNatClampNeg) (ooV pk pf po pd pe pn.toNatClampNeg k td td 41 0 (fo k.toNatClampNeg) (fo k.toNatClampNeg) 0).1.toNatClampNeg 10 then 1 else 0 := hw5
  replace hP : va_P D vwCl [(aI cI (md 17) 12 wo), (aI cI (md 26) 40 gk), (aI cI (md 27) 40 gs), (aI cI (md 28) 40 gd), (aI cI (md 29) 40 ge), (moC md sd mth mst hn cn pn mq_7 gn mln mnn ln mlt msz mcu mtk mfr mti mfa mfb an un lc td mtn), (aI cI (md 16) 12 fo), (aI cI (md 19) 40 pk), (aI cI (md 20) 40 pf), (aI cI (md 21) 40 po), (aI cI (md 22) 40 pd), (aI cI (md 23) 40 pe), (aI cI (md 58) 20 lp), (aI cI (md 59) 20 la), (aI cI (md 60) 20 lb), (aI cI (md 7) 40 ho), (aI cI (md 8) 40 hc), (aI cI (md 9) 40 hp), (aI cI (md 10) 40 hs), (aI cI (md 11) 200 mh_8), (aI cI (md 12) 12 mp_9), (aI cI (md 13) 12 mt_10), (aJ cJ (md 14) 12 mf_11)] H := hP
  replace hD : va_D A [(aI cI (md 17) 12 wo), (aI cI (md 26) 40 gk), (aI cI (md 27) 40 gs), (aI cI (md 28) 40 gd), (aI cI (md 29) 40 ge), (moC md sd mth mst hn cn pn mq_7 gn mln mnn ln mlt msz mcu mtk mfr mti mfa mfb an un lc td mtn), (aI cI (md 16) 12 fo), (aI cI (md 19) 40 pk), (aI cI (md 20) 40 pf), (aI cI (md 21) 40 po), (aI cI (md 22) 40 pd), (aI cI (md 23) 40 pe), (aI cI (md 58) 20 lp), (aI cI (md 59) 20 la), (aI cI (md 60) 20 lb), (aI cI (md 7) 40 ho), (aI cI (md 8) 40 hc), (aI cI (md 9) 40 hp), (aI cI (md 10) 40 hs), (aI cI (md 11) 200 mh_8), (aI cI (md 12) 12 mp_9), (aI cI (md 13) 12 mt_10), (aJ cJ (md 14) 12 mf_11)] := hD
  refine lv_if_eq (tgt := 22) hx hb dX11_kindOf_15 (by decide) (fun c12 => ?_) (fun c12 => ?_)
  · skip
    have f13 := bo_f hw5 c12
    refine lv_iload_n hx hb dX11_kindOf_22 rfl (lv_at hl 0 rfl) ?_
    refine lv_aload_n hx hb dX11_kindOf_23 rfl (lv_at hl 1 rfl) ?_
    refine va_get (D := D) (ci := 11) (v := .ref (md 17)) (C := RX11) (T := TX11) (N := 64) hx hb hts inX11_kindOf_X11 hown hK hP 5 rfl rfl 17 (by decide) (hts (Cond.fieldLink RX11 51 "PortRoomsModel" "worth" "[I") (wm_t (wm_l (wm_i 1 rfl)))) (fun _ h9 => h9) rfl dX11_kindOf_24 ?_
    refine lv_iload_n hx hb dX11_kindOf_27 rfl (lv_at hl 2 rfl) ?_
    refine va_iald hx hb hK hP 0 0 rfl rfl (i_in (by omega) (by omega)) dX11_kindOf_28 ?_
    refine lv_topi (fun v14 ev14 => ?_)
    have tlv14 : v14.toInt = (wo k.toNatClampNeg).toInt := by rw [ev14]
    refine lv_icmp_le (tgt := 36) hx hb dX11_kindOf_29 (by decide) (fun c15 => ?_) (fun c15 => ?_)
    · skip
      have f16 := i_le c15
      refine lv_iload_n hx hb dX11_kindOf_36 rfl (lv_at hl 0 rfl) ?_
      refine lv_if_le (tgt := 44) hx hb dX11_kindOf_37 (by decide) (fun c17 => ?_) (fun c17 => ?_)
      · skip
        have f18 := i_le c17
        refine lv_iconst (v := 4) hx hb dX11_kindOf_44 (by decide) ?_
        have hP9 := hP.sub (ws' := [(moC md sd mth mst hn cn pn mq_7 gn mln mnn ln mlt msz mcu mtk mfr mti mfa mfb an un lc td mtn), (aI cI (md 16) 12 fo), (aI cI (md 19) 40 pk), (aI cI (md 20) 40 pf), (aI cI (md 21) 40 po), (aI cI (md 22) 40 pd), (aI cI (md 23) 40 pe), (aI cI (md 58) 20 lp), (aI cI (md 59) 20 la), (aI cI (md 60) 20 lb), (aI cI (md 7) 40 ho), (aI cI (md 8) 40 hc), (aI cI (md 9) 40 hp), (aI cI (md 10) 40 hs), (aI cI (md 11) 200 mh_8), (aI cI (md 12) 12 mp_9), (aI cI (md 13) 12 mt_10), (aJ cJ (md 14) 12 mf_11), (aI cI (md 17) 12 wo), (aI cI (md 26) 40 gk), (aI cI (md 27) 40 gs), (aI cI (md 28) 40 gd), (aI cI (md 29) 40 ge)]) [5, 6, 7, 8, 9, 10, 11, 12, 13, 14, 15, 16, 17, 18, 19, 20, 21, 22, 0, 1, 2, 3, 4] rfl
        have hD9 := hD.sub (ws' := [(moC md sd mth mst hn cn pn mq_7 gn mln mnn ln mlt msz mcu mtk mfr mti mfa mfb an un lc td mtn), (aI cI (md 16) 12 fo), (aI cI (md 19) 40 pk), (aI cI (md 20) 40 pf), (aI cI (md 21) 40 po), (aI cI (md 22) 40 pd), (aI cI (md 23) 40 pe), (aI cI (md 58) 20 lp), (aI cI (md 59) 20 la), (aI cI (md 60) 20 lb), (aI cI (md 7) 40 ho), (aI cI (md 8) 40 hc), (aI cI (md 9) 40 hp), (aI cI (md 10) 40 hs), (aI cI (md 11) 200 mh_8), (aI cI (md 12) 12 mp_9), (aI cI (md 13) 12 mt_10), (aJ cJ (md 14) 12 mf_11), (aI cI (md 17) 12 wo), (aI cI (md 26) 40 gk), (aI cI (md 27) 40 gs), (aI cI (md 28) 40 gd), (aI cI (md 29) 40 ge)]) [5, 6, 7, 8, 9, 10, 11, 12, 13, 14, 15, 16, 17, 18, 19, 20, 21, 22, 0, 1, 2, 3, 4] (by decide +kernel) rfl
        exact W.iret (v := 4) hx hb hr (fun t ht hW => ⟨⟨4, (mq_7, mh_8, mp_9, mt_10, mf_11), rfl, (by show (4 : Int32) = kdF (brV (pmF ho hc hp hs td hn.toNatClampNeg) (poV lp la lb td lc.toNatClampNeg) (ooV pk pf po pd pe pn.toNatClampNeg k td td 41 0 (fo k.toNatClampNeg) (fo k.toNatClampNeg) 0).1.toNatClampNeg 10) (suV gk gs ge k td gn.toNatClampNeg) (wo k.toNatClampNeg); unfold kdF; (repeat' split) <;> first | rfl | (exfalso; omega)), by rw [ht]; exact hP9, va_K.moved hW.alike hK, hD9⟩, hS.F ht⟩) hS.2.2 dX11_kindOf_45
      · skip
        have f19 := i_nle c17
        refine lv_iconst (v := 1) hx hb dX11_kindOf_40 (by decide) ?_
        refine lv_goto (tgt := 45) hx hb dX11_kindOf_41 (by decide) ?_
        have hP9 := hP.sub (ws' := [(moC md sd mth mst hn cn pn mq_7 gn mln mnn ln mlt msz mcu mtk mfr mti mfa mfb an un lc td mtn), (aI cI (md 16) 12 fo), (aI cI (md 19) 40 pk), (aI cI (md 20) 40 pf), (aI cI (md 21) 40 po), (aI cI (md 22) 40 pd), (aI cI (md 23) 40 pe), (aI cI (md 58) 20 lp), (aI cI (md 59) 20 la), (aI cI (md 60) 20 lb), (aI cI (md 7) 40 ho), (aI cI (md 8) 40 hc), (aI cI (md 9) 40 hp), (aI cI (md 10) 40 hs), (aI cI (md 11) 200 mh_8), (aI cI (md 12) 12 mp_9), (aI cI (md 13) 12 mt_10), (aJ cJ (md 14) 12 mf_11), (aI cI (md 17) 12 wo), (aI cI (md 26) 40 gk), (aI cI (md 27) 40 gs), (aI cI (md 28) 40 gd), (aI cI (md 29) 40 ge)]) [5, 6, 7, 8, 9, 10, 11, 12, 13, 14, 15, 16, 17, 18, 19, 20, 21, 22, 0, 1, 2, 3, 4] rfl
        have hD9 := hD.sub (ws' := [(moC md sd mth mst hn cn pn mq_7 gn mln mnn ln mlt msz mcu mtk mfr mti mfa mfb an un lc td mtn), (aI cI (md 16) 12 fo), (aI cI (md 19) 40 pk), (aI cI (md 20) 40 pf), (aI cI (md 21) 40 po), (aI cI (md 22) 40 pd), (aI cI (md 23) 40 pe), (aI cI (md 58) 20 lp), (aI cI (md 59) 20 la), (aI cI (md 60) 20 lb), (aI cI (md 7) 40 ho), (aI cI (md 8) 40 hc), (aI cI (md 9) 40 hp), (aI cI (md 10) 40 hs), (aI cI (md 11) 200 mh_8), (aI cI (md 12) 12 mp_9), (aI cI (md 13) 12 mt_10), (aJ cJ (md 14) 12 mf_11), (aI cI (md 17) 12 wo), (aI cI (md 26) 40 gk), (aI cI (md 27) 40 gs), (aI cI (md 28) 40 gd), (aI cI (md 29) 40 ge)]) [5, 6, 7, 8, 9, 10, 11, 12, 13, 14, 15, 16, 17, 18, 19, 20, 21, 22, 0, 1, 2, 3, 4] (by decide +kernel) rfl
        exact W.iret (v := 1) hx hb hr (fun t ht hW => ⟨⟨1, (mq_7, mh_8, mp_9, mt_10, mf_11), rfl, (by show (1 : Int32) = kdF (brV (pmF ho hc hp hs td hn.toNatClampNeg) (poV lp la lb td lc.toNatClampNeg) (ooV pk pf po pd pe pn.toNatClampNeg k td td 41 0 (fo k.toNatClampNeg) (fo k.toNatClampNeg) 0).1.toNatClampNeg 10) (suV gk gs ge k td gn.toNatClampNeg) (wo k.toNatClampNeg); unfold kdF; (repeat' split) <;> first | rfl | (exfalso; omega)), by rw [ht]; exact hP9, va_K.moved hW.alike hK, hD9⟩, hS.F ht⟩) hS.2.2 dX11_kindOf_45
    · skip
      have f20 := i_nle c15
      refine lv_iconst (v := 2) hx hb dX11_kindOf_32 (by decide) ?_
      refine lv_goto (tgt := 45) hx hb dX11_kindOf_33 (by decide) ?_
      have hP9 := hP.sub (ws' := [(moC md sd mth mst hn cn pn mq_7 gn mln mnn ln mlt msz mcu mtk mfr mti mfa mfb an un lc td mtn), (aI cI (md 16) 12 fo), (aI cI (md 19) 40 pk), (aI cI (md 20) 40 pf), (aI cI (md 21) 40 po), (aI cI (md 22) 40 pd), (aI cI (md 23) 40 pe), (aI cI (md 58) 20 lp), (aI cI (md 59) 20 la), (aI cI (md 60) 20 lb), (aI cI (md 7) 40 ho), (aI cI (md 8) 40 hc), (aI cI (md 9) 40 hp), (aI cI (md 10) 40 hs), (aI cI (md 11) 200 mh_8), (aI cI (md 12) 12 mp_9), (aI cI (md 13) 12 mt_10), (aJ cJ (md 14) 12 mf_11), (aI cI (md 17) 12 wo), (aI cI (md 26) 40 gk), (aI cI (md 27) 40 gs), (aI cI (md 28) 40 gd), (aI cI (md 29) 40 ge)]) [5, 6, 7, 8, 9, 10, 11, 12, 13, 14, 15, 16, 17, 18, 19, 20, 21, 22, 0, 1, 2, 3, 4] rfl
      have hD9 := hD.sub (ws' := [(moC md sd mth mst hn cn pn mq_7 gn mln mnn ln mlt msz mcu mtk mfr mti mfa mfb an un lc td mtn), (aI cI (md 16) 12 fo), (aI cI (md 19) 40 pk), (aI cI (md 20) 40 pf), (aI cI (md 21) 40 po), (aI cI (md 22) 40 pd), (aI cI (md 23) 40 pe), (aI cI (md 58) 20 lp), (aI cI (md 59) 20 la), (aI cI (md 60) 20 lb), (aI cI (md 7) 40 ho), (aI cI (md 8) 40 hc), (aI cI (md 9) 40 hp), (aI cI (md 10) 40 hs), (aI cI (md 11) 200 mh_8), (aI cI (md 12) 12 mp_9), (aI cI (md 13) 12 mt_10), (aJ cJ (md 14) 12 mf_11), (aI cI (md 17) 12 wo), (aI cI (md 26) 40 gk), (aI cI (md 27) 40 gs), (aI cI (md 28) 40 gd), (aI cI (md 29) 40 ge)]) [5, 6, 7, 8, 9, 10, 11, 12, 13, 14, 15, 16, 17, 18, 19, 20, 21, 22, 0, 1, 2, 3, 4] (by decide +kernel) rfl
      exact W.iret (v := 2) hx hb hr (fun t ht hW => ⟨⟨2, (mq_7, mh_8, mp_9, mt_10, mf_11), rfl, (by show (2 : Int32) = kdF (brV (pmF ho hc hp hs td hn.toNatClampNeg) (poV lp la lb td lc.toNatClampNeg) (ooV pk pf po pd pe pn.toNatClampNeg k td td 41 0 (fo k.toNatClampNeg) (fo k.toNatClampNeg) 0).1.toNatClampNeg 10) (suV gk gs ge k td gn.toNatClampNeg) (wo k.toNatClampNeg); unfold kdF; (repeat' split) <;> first | rfl | (exfalso; omega)), by rw [ht]; exact hP9, va_K.moved hW.alike hK, hD9⟩, hS.F ht⟩) hS.2.2 dX11_kindOf_45
  · skip
    have f21 := bo_t hw5 c12
    refine lv_iconst (v := 3) hx hb dX11_kindOf_18 (by decide) ?_
    refine lv_goto (tgt := 45) hx hb dX11_kindOf_19 (by decide) ?_
    have hP9 := hP.sub (ws' := [(moC md sd mth mst hn cn pn mq_7 gn mln mnn ln mlt msz mcu mtk mfr mti mfa mfb an un lc td mtn), (aI cI (md 16) 12 fo), (aI cI (md 19) 40 pk), (aI cI (md 20) 40 pf), (aI cI (md 21) 40 po), (aI cI (md 22) 40 pd), (aI cI (md 23) 40 pe), (aI cI (md 58) 20 lp), (aI cI (md 59) 20 la), (aI cI (md 60) 20 lb), (aI cI (md 7) 40 ho), (aI cI (md 8) 40 hc), (aI cI (md 9) 40 hp), (aI cI (md 10) 40 hs), (aI cI (md 11) 200 mh_8), (aI cI (md 12) 12 mp_9), (aI cI (md 13) 12 mt_10), (aJ cJ (md 14) 12 mf_11), (aI cI (md 17) 12 wo), (aI cI (md 26) 40 gk), (aI cI (md 27) 40 gs), (aI cI (md 28) 40 gd), (aI cI (md 29) 40 ge)]) [5, 6, 7, 8, 9, 10, 11, 12, 13, 14, 15, 16, 17, 18, 19, 20, 21, 22, 0, 1, 2, 3, 4] rfl
    have hD9 := hD.sub (ws' := [(moC md sd mth mst hn cn pn mq_7 gn mln mnn ln mlt msz mcu mtk mfr mti mfa mfb an un lc td mtn), (aI cI (md 16) 12 fo), (aI cI (md 19) 40 pk), (aI cI (md 20) 40 pf), (aI cI (md 21) 40 po), (aI cI (md 22) 40 pd), (aI cI (md 23) 40 pe), (aI cI (md 58) 20 lp), (aI cI (md 59) 20 la), (aI cI (md 60) 20 lb), (aI cI (md 7) 40 ho), (aI cI (md 8) 40 hc), (aI cI (md 9) 40 hp), (aI cI (md 10) 40 hs), (aI cI (md 11) 200 mh_8), (aI cI (md 12) 12 mp_9), (aI cI (md 13) 12 mt_10), (aJ cJ (md 14) 12 mf_11), (aI cI (md 17) 12 wo), (aI cI (md 26) 40 gk), (aI cI (md 27) 40 gs), (aI cI (md 28) 40 gd), (aI cI (md 29) 40 ge)]) [5, 6, 7, 8, 9, 10, 11, 12, 13, 14, 15, 16, 17, 18, 19, 20, 21, 22, 0, 1, 2, 3, 4] (by decide +kernel) rfl
    exact W.iret (v := 3) hx hb hr (fun t ht hW => ⟨⟨3, (mq_7, mh_8, mp_9, mt_10, mf_11), rfl, (by show (3 : Int32) = kdF (brV (pmF ho hc hp hs td hn.toNatClampNeg) (poV lp la lb td lc.toNatClampNeg) (ooV pk pf po pd pe pn.toNatClampNeg k td td 41 0 (fo k.toNatClampNeg) (fo k.toNatClampNeg) 0).1.toNatClampNeg 10) (suV gk gs ge k td gn.toNatClampNeg) (wo k.toNatClampNeg); unfold kdF; (repeat' split) <;> first | rfl | (exfalso; omega)), by rw [ht]; exact hP9, va_K.moved hW.alike hK, hD9⟩, hS.F ht⟩) hS.2.2 dX11_kindOf_45

def km_day (pn hn lc gn td : Int32) (fo wo pk pf po pd pe ho hc hp hs lp la lb gk gs ge : Nat → Int32) (k : Int32) : Int32 := kdF (brV (pmF ho hc hp hs td hn.toNatClampNeg) (poV lp la lb td lc.toNatClampNeg) (ooV pk pf po pd pe pn.toNatClampNeg k td td 41 0 (fo k.toNatClampNeg) (fo k.toNatClampNeg) 0).1.toNatClampNeg 10) (suV gk gs ge k td gn.toNatClampNeg) (wo k.toNatClampNeg)
def sm_kind (cn pn hn lc gn td : Int32) (fo wo pk pf po pd pe ho hc hp hs lp la lb gk gs ge : Nat → Int32) (k : Int32) : Int32 := if 0 ≤ k.toInt ∧ k.toInt < cn.toInt then km_day pn hn lc gn td fo wo pk pf po pd pe ho hc hp hs lp la lb gk gs ge k else -1000001
def sm_as (lf cn pn hn lc gn td : Int32) (fo wo pk pf po pd pe ho hc hp hs lp la lb gk gs ge : Nat → Int32) (k w r lf' : Int32) : Prop := if 0 ≤ k.toInt ∧ k.toInt < cn.toInt ∧ 0 ≤ w.toInt ∧ w.toInt < 5 then ((isK (km_day pn hn lc gn td fo wo pk pf po pd pe ho hc hp hs lp la lb gk gs ge k) w ∧ r = wo k.toNatClampNeg ∧ lf' = 0) ∨ (¬ isK (km_day pn hn lc gn td fo wo pk pf po pd pe ho hc hp hs lp la lb gk gs ge k) w ∧ r = -1000013 ∧ lf' = 3)) else (r = -1000001 ∧ lf' = lf)

set_option maxHeartbeats 4000000 in
set_option maxRecDepth 100000 in
theorem ct_X11_kind (l : Launch) (D : va_G) (cI cY cJ cQ : ClassId) (sz : Nat) (md : Nat → Nat) (sd : Int32) (mth mst hn cn pn mq gn mln mnn ln mlt msz mcu mtk mfr mti mfa mfb an un lc td mtn : Int32) (fo pk pf po pd pe lp la lb ho hc hp hs mh mp mt wo gk gs gd ge : Nat → Int32) (mf : Nat → Int64) (k : Int32)  (h1 : 0 ≤ cn.toInt) (h2 : cn.toInt ≤ 12) (h3 : 0 ≤ pn.toInt) (h4 : pn.toInt ≤ 40) (h5 : 0 ≤ lc.toInt) (h6 : lc.toInt ≤ 20) (h7 : 0 ≤ hn.toInt) (h8 : hn.toInt ≤ 40) (h9 : okV hn hp) (h10 : okF cn fo) (h11 : okG pn po) (h12 : 0 ≤ gn.toInt) (h13 : gn.toInt ≤ 40)  : Met l yX11_kind wsX11_kind ({ frames := 5, cells := 0, slots := 0, locals := 120 }) (cPre D (ty4 cI cY cJ cQ) [(moC md sd mth mst hn cn pn mq gn mln mnn ln mlt msz mcu mtk mfr mti mfa mfb an un lc td mtn), (aI cI (md 16) 12 fo), (aI cI (md 19) 40 pk), (aI cI (md 20) 40 pf), (aI cI (md 21) 40 po), (aI cI (md 22) 40 pd), (aI cI (md 23) 40 pe), (aI cI (md 58) 20 lp), (aI cI (md 59) 20 la), (aI cI (md 60) 20 lb), (aI cI (md 7) 40 ho), (aI cI (md 8) 40 hc), (aI cI (md 9) 40 hp), (aI cI (md 10) 40 hs), (aI cI (md 11) 200 mh), (aI cI (md 12) 12 mp), (aI cI (md 13) 12 mt), (aJ cJ (md 14) 12 mf), (aI cI (md 17) 12 wo), (aI cI (md 26) 40 gk), (aI cI (md 27) 40 gs), (aI cI (md 28) 40 gd), (aI cI (md 29) 40 ge)] sz [.ref (md 64), .int k]) (va_Qi (fun (r : Int32) (u : Int32 × (Nat → Int32) × (Nat → Int32) × (Nat → Int32) × (Nat → Int64)) => r = sm_kind cn pn hn lc gn td fo wo pk pf po pd pe ho hc hp hs lp la lb gk gs ge k) (cB D (ty4 cI cY cJ cQ) (fun (u : Int32 × (Nat → Int32) × (Nat → Int32) × (Nat → Int32) × (Nat → Int64)) => [(moC md sd 0 mst hn cn pn u.1 gn mln mnn ln mlt msz mcu mtk mfr mti mfa mfb an un lc td mtn), (aI cI (md 16) 12 fo), (aI cI (md 19) 40 pk), (aI cI (md 20) 40 pf), (aI cI (md 21) 40 po), (aI cI (md 22) 40 pd), (aI cI (md 23) 40 pe), (aI cI (md 58) 20 lp), (aI cI (md 59) 20 la), (aI cI (md 60) 20 lb), (aI cI (md 7) 40 ho), (aI cI (md 8) 40 hc), (aI cI (md 9) 40 hp), (aI cI (md 10) 40 hs), (aI cI (md 11) 200 u.2.1), (aI cI (md 12) 12 u.2.2.1), (aI cI (md 13) 12 u.2.2.2.1), (aJ cJ (md 14) 12 u.2.2.2.2), (aI cI (md 17) 12 wo), (aI cI (md 26) 40 gk), (aI cI (md 27) 40 gs), (aI cI (md 28) 40 gd), (aI cI (md 29) 40 ge)]) (va_A [(moC md sd mth mst hn cn pn mq gn mln mnn ln mlt msz mcu mtk mfr mti mfa mfb an un lc td mtn), (aI cI (md 16) 12 fo), (aI cI (md 19) 40 pk), (aI cI (md 20) 40 pf), (aI cI (md 21) 40 po), (aI cI (md 22) 40 pd), (aI cI (md 23) 40 pe), (aI cI (md 58) 20 lp), (aI cI (md 59) 20 la), (aI cI (md 60) 20 lb), (aI cI (md 7) 40 ho), (aI cI (md 8) 40 hc), (aI cI (md 9) 40 hp), (aI cI (md 10) 40 hs), (aI cI (md 11) 200 mh), (aI cI (md 12) 12 mp), (aI cI (md 13) 12 mt), (aJ cJ (md 14) 12 mf), (aI cI (md 17) 12 wo), (aI cI (md 26) 40 gk), (aI cI (md 27) 40 gs), (aI cI (md 28) 40 gd), (aI cI (md 29) 40 ge)] sz)) (va_A [(moC md sd mth mst hn cn pn mq gn mln mnn ln mlt msz mcu mtk mfr mti mfa mfb an un lc td mtn), (aI cI (md 16) 12 fo), (aI cI (md 19) 40 pk), (aI cI (md 20) 40 pf), (aI cI (md 21) 40 po), (aI cI (md 22) 40 pd), (aI cI (md 23) 40 pe), (aI cI (md 58) 20 lp), (aI cI (md 59) 20 la), (aI cI (md 60) 20 lb), (aI cI (md 7) 40 ho), (aI cI (md 8) 40 hc), (aI cI (md 9) 40 hp), (aI cI (md 10) 40 hs), (aI cI (md 11) 200 mh), (aI cI (md 12) 12 mp), (aI cI (md 13) 12 mt), (aJ cJ (md 14) 12 mf), (aI cI (md 17) 12 wo), (aI cI (md 26) 40 gk), (aI cI (md 27) 40 gs), (aI cI (md 28) 40 gd), (aI cI (md 29) 40 ge)] sz)) 0 0 (va_A [(moC md sd mth mst hn cn pn mq gn mln mnn ln mlt msz mcu mtk mfr mti mfa mfb an un lc td mtn), (aI cI (md 16) 12 fo), (aI cI (md 19) 40 pk), (aI cI (md 20) 40 pf), (aI cI (md 21) 40 po), (aI cI (md 22) 40 pd), (aI cI (md 23) 40 pe), (aI cI (md 58) 20 lp), (aI cI (md 59) 20 la), (aI cI (md 60) 20 lb), (aI cI (md 7) 40 ho), (aI cI (md 8) 40 hc), (aI cI (md 9) 40 hp), (aI cI (md 10) 40 hs), (aI cI (md 11) 200 mh), (aI cI (md 12) 12 mp), (aI cI (md 13) 12 mt), (aJ cJ (md 14) 12 mf), (aI cI (md 17) 12 wo), (aI cI (md 26) 40 gk), (aI cI (md 27) 40 gs), (aI cI (md 28) 40 gd), (aI cI (md 29) 40 ge)] sz) := by
  refine Met.ofW (cc := cX11_kind) (maxL := 2) (ret := (some .int)) (by decide) rfl ?_
  intro p e s m args below meth c s₁ B hml hv
  obtain ⟨rfl, hsz, hP, hK, hD0, hN⟩ := hv
  have hx := B.exec
  have hb := B.bytes
  have hr := B.returns
  have hts := atoms_spec (ws := wsX11_kind) B.pre
  have hown : s.vm.findClass RX11 = some m.cls := findClass_of_methodNamed B.named
  have hlocks := B.notSynchronized
  subst hsz
  have hD := hD0.self (sz := s.heap.size)
  generalize hAe : va_A [(moC md sd mth mst hn cn pn mq gn mln mnn ln mlt msz mcu mtk mfr mti mfa mfb an un lc td mtn), (aI cI (md 16) 12 fo), (aI cI (md 19) 40 pk), (aI cI (md 20) 40 pf), (aI cI (md 21) 40 po), (aI cI (md 22) 40 pd), (aI cI (md 23) 40 pe), (aI cI (md 58) 20 lp), (aI cI (md 59) 20 la), (aI cI (md 60) 20 lb), (aI cI (md 7) 40 ho), (aI cI (md 8) 40 hc), (aI cI (md 9) 40 hp), (aI cI (md 10) 40 hs), (aI cI (md 11) 200 mh), (aI cI (md 12) 12 mp), (aI cI (md 13) 12 mt), (aJ cJ (md 14) 12 mf), (aI cI (md 17) 12 wo), (aI cI (md 26) 40 gk), (aI cI (md 27) 40 gs), (aI cI (md 28) 40 gd), (aI cI (md 29) 40 ge)] s.heap.size = A at hD ⊢
  have hA : ∀ q : Nat, s.heap.size ≤ q → A q := fun q h => by rw [← hAe]; exact Or.inr h
  have hS : va_S A s.heap s.heap [] := va_S.rf
  have hP : va_P D vwCl [(moC md sd mth mst hn cn pn mq gn mln mnn ln mlt msz mcu mtk mfr mti mfa mfb an un lc td mtn), (aI cI (md 16) 12 fo), (aI cI (md 19) 40 pk), (aI cI (md 20) 40 pf), (aI cI (md 21) 40 po), (aI cI (md 22) 40 pd), (aI cI (md 23) 40 pe), (aI cI (md 58) 20 lp), (aI cI (md 59) 20 la), (aI cI (md 60) 20 lb), (aI cI (md 7) 40 ho), (aI cI (md 8) 40 hc), (aI cI (md 9) 40 hp), (aI cI (md 10) 40 hs), (aI cI (md 11) 200 mh), (aI cI (md 12) 12 mp), (aI cI (md 13) 12 mt), (aJ cJ (md 14) 12 mf), (aI cI (md 17) 12 wo), (aI cI (md 26) 40 gk), (aI cI (md 27) 40 gs), (aI cI (md 28) 40 gd), (aI cI (md 29) 40 ge)] s.heap := hP
  have hl := lv_entry ([.ref (md 64), .int k]) (n := 2) (Nat.le_of_ble_eq_true rfl)
  rw [lg_entry_eq]
  generalize (lg_sl ([.ref (md 64), .int k]) ++ List.replicate (2 - (lg_sl ([.ref (md 64), .int k])).length) Slot.unset).toArray = ls at hl ⊢
  have hl : lv_has ls 2 [(0, .ref (md 64)), (1, .int k)] := hl
  have km1000001 : (-1000001 : Int32).toInt = -1000001 := by decide
  have k0 : (0 : Int32).toInt = 0 := by decide
  refine lv_aload_n hx hb dX11_kind_0 rfl (lv_at hl 0 rfl) ?_
  refine lv_iconst (v := 0) hx hb dX11_kind_1 (by decide) ?_
  refine va_put (D := D) (ci := 11) (v := .int 0) (ty := .int) (C := RX11) (T := TX11) (N := 64) hx hb hts inX11_kind_X11 tyX11 tyX11_ok nmX11 hown hK hP hD hS 0 rfl rfl 0 (by decide) (hts (Cond.fieldLink RX11 1 "PortRoomsModel" "thrown" "I") (wm_t (wm_l (wm_i 0 rfl)))) (fun _ h9 => h9) rfl (tyX11_ok 0 (by decide)) rfl rfl (Nat.le_of_ble_eq_true rfl) dX11_kind_2 (fun H locs => ?_)
  clear hP hD hS
  intro hP hD hS
  replace hP : va_P D vwCl [(moC md sd (0) mst hn cn pn mq gn mln mnn ln mlt msz mcu mtk mfr mti mfa mfb an un lc td mtn), (aI cI (md 16) 12 fo), (aI cI (md 19) 40 pk), (aI cI (md 20) 40 pf), (aI cI (md 21) 40 po), (aI cI (md 22) 40 pd), (aI cI (md 23) 40 pe), (aI cI (md 58) 20 lp), (aI cI (md 59) 20 la), (aI cI (md 60) 20 lb), (aI cI (md 7) 40 ho), (aI cI (md 8) 40 hc), (aI cI (md 9) 40 hp), (aI cI (md 10) 40 hs), (aI cI (md 11) 200 mh), (aI cI (md 12) 12 mp), (aI cI (md 13) 12 mt), (aJ cJ (md 14) 12 mf), (aI cI (md 17) 12 wo), (aI cI (md 26) 40 gk), (aI cI (md 27) 40 gs), (aI cI (md 28) 40 gd), (aI cI (md 29) 40 ge)] H := hP
  replace hD : va_D A [(moC md sd (0) mst hn cn pn mq gn mln mnn ln mlt msz mcu mtk mfr mti mfa mfb an un lc td mtn), (aI cI (md 16) 12 fo), (aI cI (md 19) 40 pk), (aI cI (md 20) 40 pf), (aI cI (md 21) 40 po), (aI cI (md 22) 40 pd), (aI cI (md 23) 40 pe), (aI cI (md 58) 20 lp), (aI cI (md 59) 20 la), (aI cI (md 60) 20 lb), (aI cI (md 7) 40 ho), (aI cI (md 8) 40 hc), (aI cI (md 9) 40 hp), (aI cI (md 10) 40 hs), (aI cI (md 11) 200 mh), (aI cI (md 12) 12 mp), (aI cI (md 13) 12 mt), (aJ cJ (md 14) 12 mf), (aI cI (md 17) 12 wo), (aI cI (md 26) 40 gk), (aI cI (md 27) 40 gs), (aI cI (md 28) 40 gd), (aI cI (md 29) 40 ge)] := hD
  refine lv_aload_n hx hb dX11_kind_5 rfl (lv_at hl 0 rfl) ?_
  refine lv_iload_n hx hb dX11_kind_6 rfl (lv_at hl 1 rfl) ?_
  refine st_i1 (va_runV (C := RX11) (As := [.int k]) (rest := []) ⟨hx, hb, hml, hown, hts⟩ (ct_X11_isCrate l D cI cY cJ cQ _ md sd 0 mst hn cn pn mq gn mln mnn ln mlt msz mcu mtk mfr mti mfa mfb an un lc td mtn k h1 h2) (cwV 1 hts gX11_kind_X11_isCrate rfl rfl rfl ⟨rfl, cdX11_isCrate⟩ ⟨Nat.le_of_ble_eq_true rfl, Nat.le_of_ble_eq_true rfl⟩) (cPreV (hP.sub [0] rfl) hK (hD.sub [0] (by decide +kernel) rfl) hN (ci := 11) (q0 := 0) rfl rfl) rfl rfl hl.1 rfl (lv_room (Nat.le_of_ble_eq_true rfl)) dX11_kind_7 ⟨Nat.le_of_ble_eq_true rfl, Nat.le_of_ble_eq_true rfl⟩) hP hD hS hA [0] rfl (fun _ => rfl) (fun r3 u1 H locs hw2 => ?_)
  clear hP hS
  intro hP hS
  replace hw2 : r3 = if 0 ≤ k.toInt ∧ k.toInt < cn.toInt then 1 else 0 := hw2
  refine lv_if_eq (tgt := 21) hx hb dX11_kind_10 (by decide) (fun c4 => ?_) (fun c4 => ?_)
  · skip
    have f5 := bo_f hw2 c4
    refine lv_ldc hx hb hown (hts (Cond.constant RX11 157 (-1000001)) (wm_t (wm_l (wm_i 1 rfl)))) dX11_kind_21 ?_
    have hP9 := hP
    have hD9 := hD
    exact W.iret (v := (-1000001)) hx hb hr (fun t ht hW => ⟨⟨(-1000001), (mq, mh, mp, mt, mf), rfl, (by show ((-1000001) : Int32) = sm_kind cn pn hn lc gn td fo wo pk pf po pd pe ho hc hp hs lp la lb gk gs ge k; unfold sm_kind; first | (rw [if_pos (by omega)]; rfl) | (rw [if_neg (by omega)])), by rw [ht]; exact hP9, va_K.moved hW.alike hK, hD9⟩, hS.F ht⟩) hS.2.2 dX11_kind_23
  · skip
    have f6 := bo_t hw2 c4
    refine lv_aload_n hx hb dX11_kind_13 rfl (lv_at hl 0 rfl) ?_
    refine lv_iload_n hx hb dX11_kind_14 rfl (lv_at hl 1 rfl) ?_
    refine st_i (wr := []) (va_runV (C := RX11) (As := [.int k]) (rest := []) ⟨hx, hb, hml, hown, hts⟩ (ct_X11_kindOf l D cI cY cJ cQ _ md sd 0 mst hn cn pn mq gn mln mnn ln mlt msz mcu mtk mfr mti mfa mfb an un lc td mtn fo pk pf po pd pe lp la lb ho hc hp hs mh mp mt wo gk gs gd ge mf k h2 (by omega) (by omega) h3 h4 h5 h6 h7 h8 h9 h10 h11 h12 h13) (cwV 1 hts gX11_kind_X11_kindOf rfl rfl rfl ⟨rfl, cdX11_kindOf⟩ ⟨Nat.le_of_ble_eq_true rfl, Nat.le_of_ble_eq_true rfl⟩) (cPreV (hP.sub [0, 1, 2, 3, 4, 5, 6, 7, 8, 9, 10, 11, 12, 13, 14, 15, 16, 17, 18, 19, 20, 21, 22] rfl) hK (hD.sub [0, 1, 2, 3, 4, 5, 6, 7, 8, 9, 10, 11, 12, 13, 14, 15, 16, 17, 18, 19, 20, 21, 22] (by decide +kernel) rfl) hN (ci := 11) (q0 := 0) rfl rfl) rfl rfl hl.1 rfl (lv_room (Nat.le_of_ble_eq_true rfl)) dX11_kind_15 ⟨Nat.le_of_ble_eq_true rfl, Nat.le_of_ble_eq_true rfl⟩) hP hD hS hA [0, 1, 2, 3, 4, 5, 6, 7, 8, 9, 10, 11, 12, 13, 14, 15, 16, 17, 18, 19, 20, 21, 22] [] rfl rfl (by decide +kernel) (by decide +kernel) (fun r9 u7 H locs hw8 => ?_)
    clear hP hD hS
    intro hP hD hS
    obtain ⟨mq_10, mh_11, mp_12, mt_13, mf_14⟩ := u7
    replace hw8 : r9 = kdF (brV (pmF ho hc hp hs td hn.toNatClampNeg) (poV lp la lb td lc.toNatClampNeg) (ooV pk pf po pd pe pn.toNatClampNeg k td td 41 0 (fo k.toNatClampNeg) (fo k.toNatClampNeg) 0).1.toNatClampNeg 10) (suV gk gs ge k td gn.toNatClampNeg) (wo k.toNatClampNeg) := hw8
    replace hP : va_P D vwCl [(moC md sd (0) mst hn cn pn mq_10 gn mln mnn ln mlt msz mcu mtk mfr mti mfa mfb an un lc td mtn), (aI cI (md 16) 12 fo), (aI cI (md 19) 40 pk), (aI cI (md 20) 40 pf), (aI cI (md 21) 40 po), (aI cI (md 22) 40 pd), (aI cI (md 23) 40 pe), (aI cI (md 58) 20 lp), (aI cI (md 59) 20 la), (aI cI (md 60) 20 lb), (aI cI (md 7) 40 ho), (aI cI (md 8) 40 hc), (aI cI (md 9) 40 hp), (aI cI (md 10) 40 hs), (aI cI (md 11) 200 mh_11), (aI cI (md 12) 12 mp_12), (aI cI (md 13) 12 mt_13), (aJ cJ (md 14) 12 mf_14), (aI cI (md 17) 12 wo), (aI cI (md 26) 40 gk), (aI cI (md 27) 40 gs), (aI cI (md 28) 40 gd), (aI cI (md 29) 40 ge)] H := hP
    replace hD : va_D A [(moC md sd (0) mst hn cn pn mq_10 gn mln mnn ln mlt msz mcu mtk mfr mti mfa mfb an un lc td mtn), (aI cI (md 16) 12 fo), (aI cI (md 19) 40 pk), (aI cI (md 20) 40 pf), (aI cI (md 21) 40 po), (aI cI (md 22) 40 pd), (aI cI (md 23) 40 pe), (aI cI (md 58) 20 lp), (aI cI (md 59) 20 la), (aI cI (md 60) 20 lb), (aI cI (md 7) 40 ho), (aI cI (md 8) 40 hc), (aI cI (md 9) 40 hp), (aI cI (md 10) 40 hs), (aI cI (md 11) 200 mh_11), (aI cI (md 12) 12 mp_12), (aI cI (md 13) 12 mt_13), (aJ cJ (md 14) 12 mf_14), (aI cI (md 17) 12 wo), (aI cI (md 26) 40 gk), (aI cI (md 27) 40 gs), (aI cI (md 28) 40 gd), (aI cI (md 29) 40 ge)] := hD
    subst hw8
    refine lv_goto (tgt := 23) hx hb dX11_kind_18 (by decide) ?_
    have hP9 := hP
    have hD9 := hD
    exact W.iret (v := kdF (brV (pmF ho hc hp hs td hn.toNatClampNeg) (poV lp la lb td lc.toNatClampNeg) (ooV pk pf po pd pe pn.toNatClampNeg k td td 41 0 (fo k.toNatClampNeg) (fo k.toNatClampNeg) 0).1.toNatClampNeg 10) (suV gk gs ge k td gn.toNatClampNeg) (wo k.toNatClampNeg)) hx hb hr (fun t ht hW => ⟨⟨kdF (brV (pmF ho hc hp hs td hn.toNatClampNeg) (poV lp la lb td lc.toNatClampNeg) (ooV pk pf po pd pe pn.toNatClampNeg k td td 41 0 (fo k.toNatClampNeg) (fo k.toNatClampNeg) 0).1.toNatClampNeg 10) (suV gk gs ge k td gn.toNatClampNeg) (wo k.toNatClampNeg), (mq_10, mh_11, mp_12, mt_13, mf_14), rfl, (by show (kdF (brV (pmF ho hc hp hs td hn.toNatClampNeg) (poV lp la lb td lc.toNatClampNeg) (ooV pk pf po pd pe pn.toNatClampNeg k td td 41 0 (fo k.toNatClampNeg) (fo k.toNatClampNeg) 0).1.toNatClampNeg 10) (suV gk gs ge k td gn.toNatClampNeg) (wo k.toNatClampNeg)) = sm_kind cn pn hn lc gn td fo wo pk pf po pd pe ho hc hp hs lp la lb gk gs ge k; unfold sm_kind; first | (rw [if_pos (by omega)]; rfl) | (rw [if_neg (by omega)])), by rw [ht]; exact hP9, va_K.moved hW.alike hK, hD9⟩, hS.F ht⟩) hS.2.2 dX11_kind_23

set_option maxHeartbeats 4000000 in
set_option maxRecDepth 100000 in
theorem ct_X11_as (l : Launch) (D : va_G) (cI cY cJ cQ : ClassId) (sz : Nat) (md : Nat → Nat) (sd : Int32) (mth mst hn cn pn mq gn mln mnn ln mlt msz mcu mtk mfr mti mfa mfb an un lc td mtn : Int32) (fo pk pf po pd pe lp la lb ho hc hp hs mh mp mt wo gk gs gd ge : Nat → Int32) (mf : Nat → Int64) (k : Int32) (w : Int32)  (h1 : 0 ≤ cn.toInt) (h2 : cn.toInt ≤ 12) (h3 : 0 ≤ pn.toInt) (h4 : pn.toInt ≤ 40) (h5 : 0 ≤ lc.toInt) (h6 : lc.toInt ≤ 20) (h7 : 0 ≤ hn.toInt) (h8 : hn.toInt ≤ 40) (h9 : okV hn hp) (h10 : okF cn fo) (h11 : okG pn po) (h12 : 0 ≤ gn.toInt) (h13 : gn.toInt ≤ 40)  : Met l yX11_as wsX11_as ({ frames := 5, cells := 0, slots := 0, locals := 120 }) (cPre D (ty4 cI cY cJ cQ) [(moC md sd mth mst hn cn pn mq gn mln mnn ln mlt msz mcu mtk mfr mti mfa mfb an un lc td mtn), (aI cI (md 16) 12 fo), (aI cI (md 19) 40 pk), (aI cI (md 20) 40 pf), (aI cI (md 21) 40 po), (aI cI (md 22) 40 pd), (aI cI (md 23) 40 pe), (aI cI (md 58) 20 lp), (aI cI (md 59) 20 la), (aI cI (md 60) 20 lb), (aI cI (md 7) 40 ho), (aI cI (md 8) 40 hc), (aI cI (md 9) 40 hp), (aI cI (md 10) 40 hs), (aI cI (md 11) 200 mh), (aI cI (md 12) 12 mp), (aI cI (md 13) 12 mt), (aJ cJ (md 14) 12 mf), (aI cI (md 17) 12 wo), (aI cI (md 26) 40 gk), (aI cI (md 27) 40 gs), (aI cI (md 28) 40 gd), (aI cI (md 29) 40 ge)] sz [.ref (md 64), .int k, .int w]) (va_Qi (fun (r : Int32) (u : Int32 × Int32 × (Nat → Int32) × (Nat → Int32) × (Nat → Int32) × (Nat → Int64)) => sm_as mst cn pn hn lc gn td fo wo pk pf po pd pe ho hc hp hs lp la lb gk gs ge k w r u.1) (cB D (ty4 cI cY cJ cQ) (fun (u : Int32 × Int32 × (Nat → Int32) × (Nat → Int32) × (Nat → Int32) × (Nat → Int64)) => [(moC md sd 0 u.1 hn cn pn u.2.1 gn mln mnn ln mlt msz mcu mtk mfr mti mfa mfb an un lc td mtn), (aI cI (md 16) 12 fo), (aI cI (md 19) 40 pk), (aI cI (md 20) 40 pf), (aI cI (md 21) 40 po), (aI cI (md 22) 40 pd), (aI cI (md 23) 40 pe), (aI cI (md 58) 20 lp), (aI cI (md 59) 20 la), (aI cI (md 60) 20 lb), (aI cI (md 7) 40 ho), (aI cI (md 8) 40 hc), (aI cI (md 9) 40 hp), (aI cI (md 10) 40 hs), (aI cI (md 11) 200 u.2.2.1), (aI cI (md 12) 12 u.2.2.2.1), (aI cI (md 13) 12 u.2.2.2.2.1), (aJ cJ (md 14) 12 u.2.2.2.2.2), (aI cI (md 17) 12 wo), (aI cI (md 26) 40 gk), (aI cI (md 27) 40 gs), (aI cI (md 28) 40 gd), (aI cI (md 29) 40 ge)]) (va_A [(moC md sd mth mst hn cn pn mq gn mln mnn ln mlt msz mcu mtk mfr mti mfa mfb an un lc td mtn), (aI cI (md 16) 12 fo), (aI cI (md 19) 40 pk), (aI cI (md 20) 40 pf), (aI cI (md 21) 40 po), (aI cI (md 22) 40 pd), (aI cI (md 23) 40 pe), (aI cI (md 58) 20 lp), (aI cI (md 59) 20 la), (aI cI (md 60) 20 lb), (aI cI (md 7) 40 ho), (aI cI (md 8) 40 hc), (aI cI (md 9) 40 hp), (aI cI (md 10) 40 hs), (aI cI (md 11) 200 mh), (aI cI (md 12) 12 mp), (aI cI (md 13) 12 mt), (aJ cJ (md 14) 12 mf), (aI cI (md 17) 12 wo), (aI cI (md 26) 40 gk), (aI cI (md 27) 40 gs), (aI cI (md 28) 40 gd), (aI cI (md 29) 40 ge)] sz)) (va_A [(moC md sd mth mst hn cn pn mq gn mln mnn ln mlt msz mcu mtk mfr mti mfa mfb an un lc td mtn), (aI cI (md 16) 12 fo), (aI cI (md 19) 40 pk), (aI cI (md 20) 40 pf), (aI cI (md 21) 40 po), (aI cI (md 22) 40 pd), (aI cI (md 23) 40 pe), (aI cI (md 58) 20 lp), (aI cI (md 59) 20 la), (aI cI (md 60) 20 lb), (aI cI (md 7) 40 ho), (aI cI (md 8) 40 hc), (aI cI (md 9) 40 hp), (aI cI (md 10) 40 hs), (aI cI (md 11) 200 mh), (aI cI (md 12) 12 mp), (aI cI (md 13) 12 mt), (aJ cJ (md 14) 12 mf), (aI cI (md 17) 12 wo), (aI cI (md 26) 40 gk), (aI cI (md 27) 40 gs), (aI cI (md 28) 40 gd), (aI cI (md 29) 40 ge)] sz)) 0 0 (va_A [(moC md sd mth mst hn cn pn mq gn mln mnn ln mlt msz mcu mtk mfr mti mfa mfb an un lc td mtn), (aI cI (md 16) 12 fo), (aI cI (md 19) 40 pk), (aI cI (md 20) 40 pf), (aI cI (md 21) 40 po), (aI cI (md 22) 40 pd), (aI cI (md 23) 40 pe), (aI cI (md 58) 20 lp), (aI cI (md 59) 20 la), (aI cI (md 60) 20 lb), (aI cI (md 7) 40 ho), (aI cI (md 8) 40 hc), (aI cI (md 9) 40 hp), (aI cI (md 10) 40 hs), (aI cI (md 11) 200 mh), (aI cI (md 12) 12 mp), (aI cI (md 13) 12 mt), (aJ cJ (md 14) 12 mf), (aI cI (md 17) 12 wo), (aI cI (md 26) 40 gk), (aI cI (md 27) 40 gs), (aI cI (md 28) 40 gd), (aI cI (md 29) 40 ge)] sz) := by
  refine Met.ofW (cc := cX11_as) (maxL := 3) (ret := (some .int)) (by decide) rfl ?_
  intro p e s m args below meth c s₁ B hml hv
  obtain ⟨rfl, hsz, hP, hK, hD0, hN⟩ := hv
  have hx := B.exec
  have hb := B.bytes
  have hr := B.returns
  have hts := atoms_spec (ws := wsX11_as) B.pre
  have hown : s.vm.findClass RX11 = some m.cls := findClass_of_methodNamed B.named
  have hlocks := B.notSynchronized
  subst hsz
  have hD := hD0.self (sz := s.heap.size)
  generalize hAe : va_A [(moC md sd mth mst hn cn pn mq gn mln mnn ln mlt msz mcu mtk mfr mti mfa mfb an un lc td mtn), (aI cI (md 16) 12 fo), (aI cI (md 19) 40 pk), (aI cI (md 20) 40 pf), (aI cI (md 21) 40 po), (aI cI (md 22) 40 pd), (aI cI (md 23) 40 pe), (aI cI (md 58) 20 lp), (aI cI (md 59) 20 la), (aI cI (md 60) 20 lb), (aI cI (md 7) 40 ho), (aI cI (md 8) 40 hc), (aI cI (md 9) 40 hp), (aI cI (md 10) 40 hs), (aI cI (md 11) 200 mh), (aI cI (md 12) 12 mp), (aI cI (md 13) 12 mt), (aJ cJ (md 14) 12 mf), (aI cI (md 17) 12 wo), (aI cI (md 26) 40 gk), (aI cI (md 27) 40 gs), (aI cI (md 28) 40 gd), (aI cI (md 29) 40 ge)] s.heap.size = A at hD ⊢
  have hA : ∀ q : Nat, s.heap.size ≤ q → A q := fun q h => by rw [← hAe]; exact Or.inr h
  have hS : va_S A s.heap s.heap [] := va_S.rf
  have hP : va_P D vwCl [(moC md sd mth mst hn cn pn mq gn mln mnn ln mlt msz mcu mtk mfr mti mfa mfb an un lc td mtn), (aI cI (md 16) 12 fo), (aI cI (md 19) 40 pk), (aI cI (md 20) 40 pf), (aI cI (md 21) 40 po), (aI cI (md 22) 40 pd), (aI cI (md 23) 40 pe), (aI cI (md 58) 20 lp), (aI cI (md 59) 20 la), (aI cI (md 60) 20 lb), (aI cI (md 7) 40 ho), (aI cI (md 8) 40 hc), (aI cI (md 9) 40 hp), (aI cI (md 10) 40 hs), (aI cI (md 11) 200 mh), (aI cI (md 12) 12 mp), (aI cI (md 13) 12 mt), (aJ cJ (md 14) 12 mf), (aI cI (md 17) 12 wo), (aI cI (md 26) 40 gk), (aI cI (md 27) 40 gs), (aI cI (md 28) 40 gd), (aI cI (md 29) 40 ge)] s.heap := hP
  have hl := lv_entry ([.ref (md 64), .int k, .int w]) (n := 3) (Nat.le_of_ble_eq_true rfl)
  rw [lg_entry_eq]
  generalize (lg_sl ([.ref (md 64), .int k, .int w]) ++ List.replicate (3 - (lg_sl ([.ref (md 64), .int k, .int w])).length) Slot.unset).toArray = ls at hl ⊢
  have hl : lv_has ls 3 [(0, .ref (md 64)), (1, .int k), (2, .int w)] := hl
  have km1000001 : (-1000001 : Int32).toInt = -1000001 := by decide
  have k0 : (0 : Int32).toInt = 0 := by decide
  have k3 : (3 : Int32).toInt = 3 := by decide
  have kl0 : (0 : Int64).toInt = 0 := by decide
  have kl4 : (4 : Int64).toInt = 4 := by decide
  refine lv_aload_n hx hb dX11_as_0 rfl (lv_at hl 0 rfl) ?_
  refine lv_iconst (v := 0) hx hb dX11_as_1 (by decide) ?_
  refine va_put (D := D) (ci := 11) (v := .int 0) (ty := .int) (C := RX11) (T := TX11) (N := 64) hx hb hts inX11_as_X11 tyX11 tyX11_ok nmX11 hown hK hP hD hS 0 rfl rfl 0 (by decide) (hts (Cond.fieldLink RX11 1 "PortRoomsModel" "thrown" "I") (wm_t (wm_l (wm_i 0 rfl)))) (fun _ h9 => h9) rfl (tyX11_ok 0 (by decide)) rfl rfl (Nat.le_of_ble_eq_true rfl) dX11_as_2 (fun H locs => ?_)
  clear hP hD hS
  intro hP hD hS
  replace hP : va_P D vwCl [(moC md sd (0) mst hn cn pn mq gn mln mnn ln mlt msz mcu mtk mfr mti mfa mfb an un lc td mtn), (aI cI (md 16) 12 fo), (aI cI (md 19) 40 pk), (aI cI (md 20) 40 pf), (aI cI (md 21) 40 po), (aI cI (md 22) 40 pd), (aI cI (md 23) 40 pe), (aI cI (md 58) 20 lp), (aI cI (md 59) 20 la), (aI cI (md 60) 20 lb), (aI cI (md 7) 40 ho), (aI cI (md 8) 40 hc), (aI cI (md 9) 40 hp), (aI cI (md 10) 40 hs), (aI cI (md 11) 200 mh), (aI cI (md 12) 12 mp), (aI cI (md 13) 12 mt), (aJ cJ (md 14) 12 mf), (aI cI (md 17) 12 wo), (aI cI (md 26) 40 gk), (aI cI (md 27) 40 gs), (aI cI (md 28) 40 gd), (aI cI (md 29) 40 ge)] H := hP
  replace hD : va_D A [(moC md sd (0) mst hn cn pn mq gn mln mnn ln mlt msz mcu mtk mfr mti mfa mfb an un lc td mtn), (aI cI (md 16) 12 fo), (aI cI (md 19) 40 pk), (aI cI (md 20) 40 pf), (aI cI (md 21) 40 po), (aI cI (md 22) 40 pd), (aI cI (md 23) 40 pe), (aI cI (md 58) 20 lp), (aI cI (md 59) 20 la), (aI cI (md 60) 20 lb), (aI cI (md 7) 40 ho), (aI cI (md 8) 40 hc), (aI cI (md 9) 40 hp), (aI cI (md 10) 40 hs), (aI cI (md 11) 200 mh), (aI cI (md 12) 12 mp), (aI cI (md 13) 12 mt), (aJ cJ (md 14) 12 mf), (aI cI (md 17) 12 wo), (aI cI (md 26) 40 gk), (aI cI (md 27) 40 gs), (aI cI (md 28) 40 gd), (aI cI (md 29) 40 ge)] := hD
  refine lv_aload_n hx hb dX11_as_5 rfl (lv_at hl 0 rfl) ?_
  refine lv_iload_n hx hb dX11_as_6 rfl (lv_at hl 1 rfl) ?_
  refine st_i1 (va_runV (C := RX11) (As := [.int k]) (rest := []) ⟨hx, hb, hml, hown, hts⟩ (ct_X11_isCrate l D cI cY cJ cQ _ md sd 0 mst hn cn pn mq gn mln mnn ln mlt msz mcu mtk mfr mti mfa mfb an un lc td mtn k h1 h2) (cwV 1 hts gX11_as_X11_isCrate rfl rfl rfl ⟨rfl, cdX11_isCrate⟩ ⟨Nat.le_of_ble_eq_true rfl, Nat.le_of_ble_eq_true rfl⟩) (cPreV (hP.sub [0] rfl) hK (hD.sub [0] (by decide +kernel) rfl) hN (ci := 11) (q0 := 0) rfl rfl) rfl rfl hl.1 rfl (lv_room (Nat.le_of_ble_eq_true rfl)) dX11_as_7 ⟨Nat.le_of_ble_eq_true rfl, Nat.le_of_ble_eq_true rfl⟩) hP hD hS hA [0] rfl (fun _ => rfl) (fun r3 u1 H locs hw2 => ?_)
  clear hP hS
  intro hP hS
  replace hw2 : r3 = if 0 ≤ k.toInt ∧ k.toInt < cn.toInt then 1 else 0 := hw2
  refine lv_if_eq (tgt := 25) hx hb dX11_as_10 (by decide) (fun c4 => ?_) (fun c4 => ?_)
  · skip
    have f5 := bo_f hw2 c4
    refine lv_ldc hx hb hown (hts (Cond.constant RX11 157 (-1000001)) (wm_t (wm_l (wm_i 2 rfl)))) dX11_as_25 ?_
    have hP9 := hP
    have hD9 := hD
    exact W.iret (v := (-1000001)) hx hb hr (fun t ht hW => ⟨⟨(-1000001), (mst, mq, mh, mp, mt, mf), rfl, (by show sm_as mst cn pn hn lc gn td fo wo pk pf po pd pe ho hc hp hs lp la lb gk gs ge k w ((-1000001) : Int32) mst; unfold sm_as; rw [if_neg (by omega)]; exact ⟨rfl, rfl⟩), by rw [ht]; exact hP9, va_K.moved hW.alike hK, hD9⟩, hS.F ht⟩) hS.2.2 dX11_as_27
  · skip
    have f6 := bo_t hw2 c4
    refine lv_iload_n hx hb dX11_as_13 rfl (lv_at hl 2 rfl) ?_
    refine lv_i2l hx hb dX11_as_14 rfl ?_
    have w7 := i_w w
    have w8 := i_rng w
    refine lv_lconst (v := 0) hx hb dX11_as_15 (by decide) ?_
    refine lv_ldc2 hx hb hown (hts (Cond.constantLong RX11 378 (4)) (wm_t (wm_l (wm_i 1 rfl)))) dX11_as_16 ?_
    refine st_i1 (va_runS (As := [.long (w.toInt64), .long 0, .long 4]) (rest := []) ⟨hx, hb, hml, hown, hts⟩ (ct_X11_in l D cI cY cJ cQ _ w.toInt64 (0 : Int64) (4 : Int64)) (va_cwS 3 hts gX11_as_X11_in rfl rfl rfl cdX11_in ⟨Nat.le_of_ble_eq_true rfl, Nat.le_of_ble_eq_true rfl⟩) (cPreS (hP.sub [] rfl) hK (hD.sub [] (by decide +kernel) rfl) hN) rfl rfl hl.1 rfl (lv_room (Nat.le_of_ble_eq_true rfl)) dX11_as_19 ⟨Nat.le_of_ble_eq_true rfl, Nat.le_of_ble_eq_true rfl⟩) hP hD hS hA [] rfl (fun _ => rfl) (fun r11 u9 H locs hw10 => ?_)
    clear hP hS
    intro hP hS
    replace hw10 : r11 = if (0 : Int64).toInt ≤ w.toInt64.toInt ∧ w.toInt64.toInt ≤ (4 : Int64).toInt then 1 else 0 := hw10
    refine lv_if_ne (tgt := 28) hx hb dX11_as_22 (by decide) (fun c12 => ?_) (fun c12 => ?_)
    · skip
      have f13 := bo_t hw10 c12
      refine lv_aload_n hx hb dX11_as_28 rfl (lv_at hl 0 rfl) ?_
      refine lv_iconst (v := 0) hx hb dX11_as_29 (by decide) ?_
      refine va_put (D := D) (ci := 11) (v := .int 0) (ty := .int) (C := RX11) (T := TX11) (N := 64) hx hb hts inX11_as_X11 tyX11 tyX11_ok nmX11 hown hK hP hD hS 0 rfl rfl 2 (by decide) (hts (Cond.fieldLink RX11 141 "PortRoomsModel" "status" "I") (wm_t (wm_l (wm_i 3 rfl)))) (fun _ h9 => h9) rfl (tyX11_ok 2 (by decide)) rfl rfl (Nat.le_of_ble_eq_true rfl) dX11_as_30 (fun H locs => ?_)
      clear hP hD hS
      intro hP hD hS
      replace hP : va_P D vwCl [(moC md sd (0) (0) hn cn pn mq gn mln mnn ln mlt msz mcu mtk mfr mti mfa mfb an un lc td mtn), (aI cI (md 16) 12 fo), (aI cI (md 19) 40 pk), (aI cI (md 20) 40 pf), (aI cI (md 21) 40 po), (aI cI (md 22) 40 pd), (aI cI (md 23) 40 pe), (aI cI (md 58) 20 lp), (aI cI (md 59) 20 la), (aI cI (md 60) 20 lb), (aI cI (md 7) 40 ho), (aI cI (md 8) 40 hc), (aI cI (md 9) 40 hp), (aI cI (md 10) 40 hs), (aI cI (md 11) 200 mh), (aI cI (md 12) 12 mp), (aI cI (md 13) 12 mt), (aJ cJ (md 14) 12 mf), (aI cI (md 17) 12 wo), (aI cI (md 26) 40 gk), (aI cI (md 27) 40 gs), (aI cI (md 28) 40 gd), (aI cI (md 29) 40 ge)] H := hP
      replace hD : va_D A [(moC md sd (0) (0) hn cn pn mq gn mln mnn ln mlt msz mcu mtk mfr mti mfa mfb an un lc td mtn), (aI cI (md 16) 12 fo), (aI cI (md 19) 40 pk), (aI cI (md 20) 40 pf), (aI cI (md 21) 40 po), (aI cI (md 22) 40 pd), (aI cI (md 23) 40 pe), (aI cI (md 58) 20 lp), (aI cI (md 59) 20 la), (aI cI (md 60) 20 lb), (aI cI (md 7) 40 ho), (aI cI (md 8) 40 hc), (aI cI (md 9) 40 hp), (aI cI (md 10) 40 hs), (aI cI (md 11) 200 mh), (aI cI (md 12) 12 mp), (aI cI (md 13) 12 mt), (aJ cJ (md 14) 12 mf), (aI cI (md 17) 12 wo), (aI cI (md 26) 40 gk), (aI cI (md 27) 40 gs), (aI cI (md 28) 40 gd), (aI cI (md 29) 40 ge)] := hD
      refine lv_aload_n hx hb dX11_as_33 rfl (lv_at hl 0 rfl) ?_
      refine lv_iload_n hx hb dX11_as_34 rfl (lv_at hl 1 rfl) ?_
      refine st_i (wr := []) (va_runV (C := RX11) (As := [.int k]) (rest := []) ⟨hx, hb, hml, hown, hts⟩ (ct_X11_kindOf l D cI cY cJ cQ _ md sd 0 0 hn cn pn mq gn mln mnn ln mlt msz mcu mtk mfr mti mfa mfb an un lc td mtn fo pk pf po pd pe lp la lb ho hc hp hs mh mp mt wo gk gs gd ge mf k h2 (by omega) (by omega) h3 h4 h5 h6 h7 h8 h9 h10 h11 h12 h13) (cwV 1 hts gX11_as_X11_kindOf rfl rfl rfl ⟨rfl, cdX11_kindOf⟩ ⟨Nat.le_of_ble_eq_true rfl, Nat.le_of_ble_eq_true rfl⟩) (cPreV (hP.sub [0, 1, 2, 3, 4, 5, 6, 7, 8, 9, 10, 11, 12, 13, 14, 15, 16, 17, 18, 19, 20, 21, 22] rfl) hK (hD.sub [0, 1, 2, 3, 4, 5, 6, 7, 8, 9, 10, 11, 12, 13, 14, 15, 16, 17, 18, 19, 20, 21, 22] (by decide +kernel) rfl) hN (ci := 11) (q0 := 0) rfl rfl) rfl rfl hl.1 rfl (lv_room (Nat.le_of_ble_eq_true rfl)) dX11_as_35 ⟨Nat.le_of_ble_eq_true rfl, Nat.le_of_ble_eq_true rfl⟩) hP hD hS hA [0, 1, 2, 3, 4, 5, 6, 7, 8, 9, 10, 11, 12, 13, 14, 15, 16, 17, 18, 19, 20, 21, 22] [] rfl rfl (by decide +kernel) (by decide +kernel) (fun r16 u14 H locs hw15 => ?_)
      clear hP hD hS
      intro hP hD hS
      obtain ⟨mq_17, mh_18, mp_19, mt_20, mf_21⟩ := u14
      replace hw15 : r16 = kdF (brV (pmF ho hc hp hs td hn.toNatClampNeg) (poV lp la lb td lc.toNatClampNeg) (ooV pk pf po pd pe pn.toNatClampNeg k td td 41 0 (fo k.toNatClampNeg) (fo k.toNatClampNeg) 0).1.toNatClampNeg 10) (suV gk gs ge k td gn.toNatClampNeg) (wo k.toNatClampNeg) := hw15
      replace hP : va_P D vwCl [(moC md sd (0) (0) hn cn pn mq_17 gn mln mnn ln mlt msz mcu mtk mfr mti mfa mfb an un lc td mtn), (aI cI (md 16) 12 fo), (aI cI (md 19) 40 pk), (aI cI (md 20) 40 pf), (aI cI (md 21) 40 po), (aI cI (md 22) 40 pd), (aI cI (md 23) 40 pe), (aI cI (md 58) 20 lp), (aI cI (md 59) 20 la), (aI cI (md 60) 20 lb), (aI cI (md 7) 40 ho), (aI cI (md 8) 40 hc), (aI cI (md 9) 40 hp), (aI cI (md 10) 40 hs), (aI cI (md 11) 200 mh_18), (aI cI (md 12) 12 mp_19), (aI cI (md 13) 12 mt_20), (aJ cJ (md 14) 12 mf_21), (aI cI (md 17) 12 wo), (aI cI (md 26) 40 gk), (aI cI (md 27) 40 gs), (aI cI (md 28) 40 gd), (aI cI (md 29) 40 ge)] H := hP
      replace hD : va_D A [(moC md sd (0) (0) hn cn pn mq_17 gn mln mnn ln mlt msz mcu mtk mfr mti mfa mfb an un lc td mtn), (aI cI (md 16) 12 fo), (aI cI (md 19) 40 pk), (aI cI (md 20) 40 pf), (aI cI (md 21) 40 po), (aI cI (md 22) 40 pd), (aI cI (md 23) 40 pe), (aI cI (md 58) 20 lp), (aI cI (md 59) 20 la), (aI cI (md 60) 20 lb), (aI cI (md 7) 40 ho), (aI cI (md 8) 40 hc), (aI cI (md 9) 40 hp), (aI cI (md 10) 40 hs), (aI cI (md 11) 200 mh_18), (aI cI (md 12) 12 mp_19), (aI cI (md 13) 12 mt_20), (aJ cJ (md 14) 12 mf_21), (aI cI (md 17) 12 wo), (aI cI (md 26) 40 gk), (aI cI (md 27) 40 gs), (aI cI (md 28) 40 gd), (aI cI (md 29) 40 ge)] := hD
      subst hw15
      refine lv_iload_n hx hb dX11_as_38 rfl (lv_at hl 2 rfl) ?_
      refine st_i1 (va_runS (As := [.int (kdF (brV (pmF ho hc hp hs td hn.toNatClampNeg) (poV lp la lb td lc.toNatClampNeg) (ooV pk pf po pd pe pn.toNatClampNeg k td td 41 0 (fo k.toNatClampNeg) (fo k.toNatClampNeg) 0).1.toNatClampNeg 10) (suV gk gs ge k td gn.toNatClampNeg) (wo k.toNatClampNeg)), .int w]) (rest := []) ⟨hx, hb, hml, hown, hts⟩ (ct_X11_isOf l D cI cY cJ cQ _ (kdF (brV (pmF ho hc hp hs td hn.toNatClampNeg) (poV lp la lb td lc.toNatClampNeg) (ooV pk pf po pd pe pn.toNatClampNeg k td td 41 0 (fo k.toNatClampNeg) (fo k.toNatClampNeg) 0).1.toNatClampNeg 10) (suV gk gs ge k td gn.toNatClampNeg) (wo k.toNatClampNeg)) w) (va_cwS 2 hts gX11_as_X11_isOf rfl rfl rfl cdX11_isOf ⟨Nat.le_of_ble_eq_true rfl, Nat.le_of_ble_eq_true rfl⟩) (cPreS (hP.sub [] rfl) hK (hD.sub [] (by decide +kernel) rfl) hN) rfl rfl hl.1 rfl (lv_room (Nat.le_of_ble_eq_true rfl)) dX11_as_39 ⟨Nat.le_of_ble_eq_true rfl, Nat.le_of_ble_eq_true rfl⟩) hP hD hS hA [] rfl (fun _ => rfl) (fun r24 u22 H locs hw23 => ?_)
      clear hP hS
      intro hP hS
      replace hw23 : r24 = if w.toInt = 0 ∨ w.toInt = (kdF (brV (pmF ho hc hp hs td hn.toNatClampNeg) (poV lp la lb td lc.toNatClampNeg) (ooV pk pf po pd pe pn.toNatClampNeg k td td 41 0 (fo k.toNatClampNeg) (fo k.toNatClampNeg) 0).1.toNatClampNeg 10) (suV gk gs ge k td gn.toNatClampNeg) (wo k.toNatClampNeg)).toInt ∨ (w.toInt = 1 ∧ (kdF (brV (pmF ho hc hp hs td hn.toNatClampNeg) (poV lp la lb td lc.toNatClampNeg) (ooV pk pf po pd pe pn.toNatClampNeg k td td 41 0 (fo k.toNatClampNeg) (fo k.toNatClampNeg) 0).1.toNatClampNeg 10) (suV gk gs ge k td gn.toNatClampNeg) (wo k.toNatClampNeg)).toInt = 2) then 1 else 0 := hw23
      refine lv_if_eq (tgt := 54) hx hb dX11_as_42 (by decide) (fun c25 => ?_) (fun c25 => ?_)
      · skip
        have f26 := bo_f hw23 c25
        refine lv_aload_n hx hb dX11_as_54 rfl (lv_at hl 0 rfl) ?_
        refine lv_iconst (v := 3) hx hb dX11_as_55 (by decide) ?_
        refine st_i (wr := [(aI cI (md 16) 12 fo), (aI cI (md 19) 40 pk), (aI cI (md 20) 40 pf), (aI cI (md 21) 40 po), (aI cI (md 22) 40 pd), (aI cI (md 23) 40 pe), (aI cI (md 58) 20 lp), (aI cI (md 59) 20 la), (aI cI (md 60) 20 lb), (aI cI (md 7) 40 ho), (aI cI (md 8) 40 hc), (aI cI (md 9) 40 hp), (aI cI (md 10) 40 hs), (aI cI (md 11) 200 mh_18), (aI cI (md 12) 12 mp_19), (aI cI (md 13) 12 mt_20), (aJ cJ (md 14) 12 mf_21), (aI cI (md 17) 12 wo), (aI cI (md 26) 40 gk), (aI cI (md 27) 40 gs), (aI cI (md 28) 40 gd), (aI cI (md 29) 40 ge)]) (va_runV (C := RX11) (As := [.int 3]) (rest := []) ⟨hx, hb, hml, hown, hts⟩ (ct_X11_found l D cI cY cJ cQ _ md sd 0 0 hn cn pn mq_17 gn mln mnn ln mlt msz mcu mtk mfr mti mfa mfb an un lc td mtn (3 : Int32)) (cwV 1 hts gX11_as_X11_found rfl rfl rfl ⟨rfl, cdX11_found⟩ ⟨Nat.le_of_ble_eq_true rfl, Nat.le_of_ble_eq_true rfl⟩) (cPreV (hP.sub [0] rfl) hK (hD.sub [0] (by decide +kernel) rfl) hN (ci := 11) (q0 := 0) rfl rfl) rfl rfl hl.1 rfl (lv_room (Nat.le_of_ble_eq_true rfl)) dX11_as_56 ⟨Nat.le_of_ble_eq_true rfl, Nat.le_of_ble_eq_true rfl⟩) hP hD hS hA [0] [1, 2, 3, 4, 5, 6, 7, 8, 9, 10, 11, 12, 13, 14, 15, 16, 17, 18, 19, 20, 21, 22] rfl rfl (by decide +kernel) (by decide +kernel) (fun r29 u27 H locs hw28 => ?_)
        clear hP hD hS
        intro hP hD hS
        replace hw28 : r29 = (-1000010) - (3 : Int32) := hw28
        replace hP : va_P D vwCl [(aI cI (md 16) 12 fo), (aI cI (md 19) 40 pk), (aI cI (md 20) 40 pf), (aI cI (md 21) 40 po), (aI cI (md 22) 40 pd), (aI cI (md 23) 40 pe), (aI cI (md 58) 20 lp), (aI cI (md 59) 20 la), (aI cI (md 60) 20 lb), (aI cI (md 7) 40 ho), (aI cI (md 8) 40 hc), (aI cI (md 9) 40 hp), (aI cI (md 10) 40 hs), (aI cI (md 11) 200 mh_18), (aI cI (md 12) 12 mp_19), (aI cI (md 13) 12 mt_20), (aJ cJ (md 14) 12 mf_21), (aI cI (md 17) 12 wo), (aI cI (md 26) 40 gk), (aI cI (md 27) 40 gs), (aI cI (md 28) 40 gd), (aI cI (md 29) 40 ge), (moC md sd (0) (3 : Int32) hn cn pn mq_17 gn mln mnn ln mlt msz mcu mtk mfr mti mfa mfb an un lc td mtn)] H := hP
        replace hD : va_D A [(aI cI (md 16) 12 fo), (aI cI (md 19) 40 pk), (aI cI (md 20) 40 pf), (aI cI (md 21) 40 po), (aI cI (md 22) 40 pd), (aI cI (md 23) 40 pe), (aI cI (md 58) 20 lp), (aI cI (md 59) 20 la), (aI cI (md 60) 20 lb), (aI cI (md 7) 40 ho), (aI cI (md 8) 40 hc), (aI cI (md 9) 40 hp), (aI cI (md 10) 40 hs), (aI cI (md 11) 200 mh_18), (aI cI (md 12) 12 mp_19), (aI cI (md 13) 12 mt_20), (aJ cJ (md 14) 12 mf_21), (aI cI (md 17) 12 wo), (aI cI (md 26) 40 gk), (aI cI (md 27) 40 gs), (aI cI (md 28) 40 gd), (aI cI (md 29) 40 ge), (moC md sd (0) (3 : Int32) hn cn pn mq_17 gn mln mnn ln mlt msz mcu mtk mfr mti mfa mfb an un lc td mtn)] := hD
        subst hw28
        have hP9 := hP.sub (ws' := [(moC md sd (0) (3 : Int32) hn cn pn mq_17 gn mln mnn ln mlt msz mcu mtk mfr mti mfa mfb an un lc td mtn), (aI cI (md 16) 12 fo), (aI cI (md 19) 40 pk), (aI cI (md 20) 40 pf), (aI cI (md 21) 40 po), (aI cI (md 22) 40 pd), (aI cI (md 23) 40 pe), (aI cI (md 58) 20 lp), (aI cI (md 59) 20 la), (aI cI (md 60) 20 lb), (aI cI (md 7) 40 ho), (aI cI (md 8) 40 hc), (aI cI (md 9) 40 hp), (aI cI (md 10) 40 hs), (aI cI (md 11) 200 mh_18), (aI cI (md 12) 12 mp_19), (aI cI (md 13) 12 mt_20), (aJ cJ (md 14) 12 mf_21), (aI cI (md 17) 12 wo), (aI cI (md 26) 40 gk), (aI cI (md 27) 40 gs), (aI cI (md 28) 40 gd), (aI cI (md 29) 40 ge)]) [22, 0, 1, 2, 3, 4, 5, 6, 7, 8, 9, 10, 11, 12, 13, 14, 15, 16, 17, 18, 19, 20, 21] rfl
        have hD9 := hD.sub (ws' := [(moC md sd (0) (3 : Int32) hn cn pn mq_17 gn mln mnn ln mlt msz mcu mtk mfr mti mfa mfb an un lc td mtn), (aI cI (md 16) 12 fo), (aI cI (md 19) 40 pk), (aI cI (md 20) 40 pf), (aI cI (md 21) 40 po), (aI cI (md 22) 40 pd), (aI cI (md 23) 40 pe), (aI cI (md 58) 20 lp), (aI cI (md 59) 20 la), (aI cI (md 60) 20 lb), (aI cI (md 7) 40 ho), (aI cI (md 8) 40 hc), (aI cI (md 9) 40 hp), (aI cI (md 10) 40 hs), (aI cI (md 11) 200 mh_18), (aI cI (md 12) 12 mp_19), (aI cI (md 13) 12 mt_20), (aJ cJ (md 14) 12 mf_21), (aI cI (md 17) 12 wo), (aI cI (md 26) 40 gk), (aI cI (md 27) 40 gs), (aI cI (md 28) 40 gd), (aI cI (md 29) 40 ge)]) [22, 0, 1, 2, 3, 4, 5, 6, 7, 8, 9, 10, 11, 12, 13, 14, 15, 16, 17, 18, 19, 20, 21] (by decide +kernel) rfl
        exact W.iret (v := (-1000010) - (3 : Int32)) hx hb hr (fun t ht hW => ⟨⟨(-1000010) - (3 : Int32), ((3 : Int32), mq_17, mh_18, mp_19, mt_20, mf_21), rfl, (by show sm_as mst cn pn hn lc gn td fo wo pk pf po pd pe ho hc hp hs lp la lb gk gs ge k w ((-1000010) - (3 : Int32) : Int32) (3 : Int32); unfold sm_as; rw [if_pos (by omega)]; exact Or.inr ⟨f26, by decide, rfl⟩), by rw [ht]; exact hP9, va_K.moved hW.alike hK, hD9⟩, hS.F ht⟩) hS.2.2 dX11_as_59
      · skip
        have f30 := bo_t hw23 c25
        refine lv_aload_n hx hb dX11_as_45 rfl (lv_at hl 0 rfl) ?_
        refine va_get (D := D) (ci := 11) (v := .ref (md 17)) (C := RX11) (T := TX11) (N := 64) hx hb hts inX11_as_X11 hown hK hP 0 rfl rfl 17 (by decide) (hts (Cond.fieldLink RX11 51 "PortRoomsModel" "worth" "[I") (wm_t (wm_l (wm_i 4 rfl)))) (fun _ h9 => h9) rfl dX11_as_46 ?_
        refine lv_iload_n hx hb dX11_as_49 rfl (lv_at hl 1 rfl) ?_
        refine va_iald hx hb hK hP 18 0 rfl rfl (i_in (by omega) (by omega)) dX11_as_50 ?_
        refine lv_topi (fun v31 ev31 => ?_)
        refine lv_goto (tgt := 59) hx hb dX11_as_51 (by decide) ?_
        have hP9 := hP
        have hD9 := hD
        exact W.iret (v := v31) hx hb hr (fun t ht hW => ⟨⟨v31, (0, mq_17, mh_18, mp_19, mt_20, mf_21), rfl, (by show sm_as mst cn pn hn lc gn td fo wo pk pf po pd pe ho hc hp hs lp la lb gk gs ge k w v31 (0 : Int32); unfold sm_as; rw [if_pos (by omega)]; exact Or.inl ⟨f30, by first | rfl | assumption, rfl⟩), by rw [ht]; exact hP9, va_K.moved hW.alike hK, hD9⟩, hS.F ht⟩) hS.2.2 dX11_as_59
    · skip
      have f32 := bo_f hw10 c12
      refine lv_ldc hx hb hown (hts (Cond.constant RX11 157 (-1000001)) (wm_t (wm_l (wm_i 2 rfl)))) dX11_as_25 ?_
      have hP9 := hP
      have hD9 := hD
      exact W.iret (v := (-1000001)) hx hb hr (fun t ht hW => ⟨⟨(-1000001), (mst, mq, mh, mp, mt, mf), rfl, (by show sm_as mst cn pn hn lc gn td fo wo pk pf po pd pe ho hc hp hs lp la lb gk gs ge k w ((-1000001) : Int32) mst; unfold sm_as; rw [if_neg (by omega)]; exact ⟨rfl, rfl⟩), by rw [ht]; exact hP9, va_K.moved hW.alike hK, hD9⟩, hS.F ht⟩) hS.2.2 dX11_as_27
end
