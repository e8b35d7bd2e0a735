theorem cdX11_bits : yX11_bits.cls ≠ "java/lang/invoke/MethodHandle" ∧ yX11_bits.cls ≠ "java/lang/invoke/VarHandle" ∧ (parseMethodDescriptor yX11_bits.desc).map (fun d => d.parameters.length) = some 1 := by decide +kernel
theorem Gd_X11_bits : gdA wsX11_bits := gd_cons (by decide +kernel) (gd_all (ws := []) rfl)
theorem inX11_verdict_X11 : ∀ w ∈ u_ws RX11 TX11 64, w ∈ wsX11_verdict := fun _ h => (List.mem_cons_of_mem _ (List.mem_append_right _ (List.mem_append_left _ (List.mem_append_left _ h))))
theorem ggX11_verdict_X11_isCrate : GoodIn wsX11_verdict wsX11_isCrate := goodIn_s (fun _ h => wm_t (wm_r (wm_l (wm_r h)))) Gd_X11_isCrate
theorem gX11_verdict_X11_isCrate : GoodIn wsX11_verdict (wsV RX11 219 RX11 yX11_isCrate wsX11_isCrate) := goodIn_V (own := RX11) (idx := 219) (C := RX11) (y := yX11_isCrate) (wm_t (wm_l (wm_i 8 rfl))) (wm_t (wm_l (wm_i 9 rfl))) (wm_t (wm_l (wm_i 10 rfl))) (wm_t (wm_l (wm_i 11 rfl))) ggX11_verdict_X11_isCrate
theorem ggX11_verdict_X11_bits : GoodIn wsX11_verdict wsX11_bits := goodIn_s (fun _ h => wm_t (wm_r (wm_r h))) Gd_X11_bits
theorem gX11_verdict_X11_bits : GoodIn wsX11_verdict (va_wsS RX11 357 yX11_bits wsX11_bits) := goodIn_S (own := RX11) (idx := 357) (y := yX11_bits) (wm_t (wm_l (wm_i 12 rfl))) (wm_t (wm_l (wm_i 13 rfl))) (wm_t (wm_l (wm_i 11 rfl))) ggX11_verdict_X11_bits
theorem dX11_verdict_all0 : decode cX11_verdict 0 = .ok (.aload_n 0, 1) ∧ decode cX11_verdict 1 = .ok (.iconst 0, 1) ∧ decode cX11_verdict 2 = .ok (.putfield 1, 3) ∧ decode cX11_verdict 5 = .ok (.aload_n 0, 1) ∧ decode cX11_verdict 6 = .ok (.iload_n 1, 1) ∧ decode cX11_verdict 7 = .ok (.invokevirtual 219, 3) ∧ decode cX11_verdict 10 = .ok (.ifCond .ne 6, 3) ∧ decode cX11_verdict 13 = .ok (.ldc 157, 2) ∧ decode cX11_verdict 15 = .ok (.ireturn, 1) ∧ decode cX11_verdict 16 = .ok (.ldc 139, 2) ∧ decode cX11_verdict 18 = .ok (.istore_n 2, 1) ∧ decode cX11_verdict 19 = .ok (.iconst 0, 1) := by decide +kernel
theorem dX11_verdict_0 : decode cX11_verdict 0 = .ok (.aload_n 0, 1) := dX11_verdict_all0.1
theorem dX11_verdict_1 : decode cX11_verdict 1 = .ok (.iconst 0, 1) := dX11_verdict_all0.2.1
theorem dX11_verdict_2 : decode cX11_verdict 2 = .ok (.putfield 1, 3) := dX11_verdict_all0.2.2.1
theorem dX11_verdict_5 : decode cX11_verdict 5 = .ok (.aload_n 0, 1) := dX11_verdict_all0.2.2.2.1
theorem dX11_verdict_6 : decode cX11_verdict 6 = .ok (.iload_n 1, 1) := dX11_verdict_all0.2.2.2.2.1
theorem dX11_verdict_7 : decode cX11_verdict 7 = .ok (.invokevirtual 219, 3) := dX11_verdict_all0.2.2.2.2.2.1
theorem dX11_verdict_10 : decode cX11_verdict 10 = .ok (.ifCond .ne 6, 3) := dX11_verdict_all0.2.2.2.2.2.2.1
theorem dX11_verdict_13 : decode cX11_verdict 13 = .ok (.ldc 157, 2) := dX11_verdict_all0.2.2.2.2.2.2.2.1
theorem dX11_verdict_15 : decode cX11_verdict 15 = .ok (.ireturn, 1) := dX11_verdict_all0.2.2.2.2.2.2.2.2.1
theorem dX11_verdict_16 : decode cX11_verdict 16 = .ok (.ldc 139, 2) := dX11_verdict_all0.2.2.2.2.2.2.2.2.2.1
theorem dX11_verdict_18 : decode cX11_verdict 18 = .ok (.istore_n 2, 1) := dX11_verdict_all0.2.2.2.2.2.2.2.2.2.2.1
theorem dX11_verdict_19 : decode cX11_verdict 19 = .ok (.iconst 0, 1) := dX11_verdict_all0.2.2.2.2.2.2.2.2.2.2.2
theorem dX11_verdict_all1 : decode cX11_verdict 20 = .ok (.istore_n 3, 1) ∧ decode cX11_verdict 21 = .ok (.iload_n 3, 1) ∧ decode cX11_verdict 22 = .ok (.aload_n 0, 1) ∧ decode cX11_verdict 23 = .ok (.getfield 354, 3) ∧ decode cX11_verdict 26 = .ok (.if_icmp .ge 46, 3) ∧ decode cX11_verdict 29 = .ok (.aload_n 0, 1) ∧ decode cX11_verdict 30 = .ok (.getfield 111, 3) ∧ decode cX11_verdict 33 = .ok (.iload_n 3, 1) ∧ decode cX11_verdict 34 = .ok (.iaload, 1) ∧ decode cX11_verdict 35 = .ok (.iload_n 1, 1) ∧ decode cX11_verdict 36 = .ok (.if_icmp .ne 28, 3) ∧ decode cX11_verdict 39 = .ok (.iload_n 2, 1) := by decide +kernel
theorem dX11_verdict_20 : decode cX11_verdict 20 = .ok (.istore_n 3, 1) := dX11_verdict_all1.1
theorem dX11_verdict_21 : decode cX11_verdict 21 = .ok (.iload_n 3, 1) := dX11_verdict_all1.2.1
theorem dX11_verdict_22 : decode cX11_verdict 22 = .ok (.aload_n 0, 1) := dX11_verdict_all1.2.2.1
theorem dX11_verdict_23 : decode cX11_verdict 23 = .ok (.getfield 354, 3) := dX11_verdict_all1.2.2.2.1
theorem dX11_verdict_26 : decode cX11_verdict 26 = .ok (.if_icmp .ge 46, 3) := dX11_verdict_all1.2.2.2.2.1
theorem dX11_verdict_29 : decode cX11_verdict 29 = .ok (.aload_n 0, 1) := dX11_verdict_all1.2.2.2.2.2.1
theorem dX11_verdict_30 : decode cX11_verdict 30 = .ok (.getfield 111, 3) := dX11_verdict_all1.2.2.2.2.2.2.1
theorem dX11_verdict_33 : decode cX11_verdict 33 = .ok (.iload_n 3, 1) := dX11_verdict_all1.2.2.2.2.2.2.2.1
theorem dX11_verdict_34 : decode cX11_verdict 34 = .ok (.iaload, 1) := dX11_verdict_all1.2.2.2.2.2.2.2.2.1
theorem dX11_verdict_35 : decode cX11_verdict 35 = .ok (.iload_n 1, 1) := dX11_verdict_all1.2.2.2.2.2.2.2.2.2.1
theorem dX11_verdict_36 : decode cX11_verdict 36 = .ok (.if_icmp .ne 28, 3) := dX11_verdict_all1.2.2.2.2.2.2.2.2.2.2.1
theorem dX11_verdict_39 : decode cX11_verdict 39 = .ok (.iload_n 2, 1) := dX11_verdict_all1.2.2.2.2.2.2.2.2.2.2.2
theorem dX11_verdict_all2 : decode cX11_verdict 40 = .ok (.ldc 139, 2) ∧ decode cX11_verdict 42 = .ok (.if_icmp .eq 18, 3) ∧ decode cX11_verdict 45 = .ok (.aload_n 0, 1) ∧ decode cX11_verdict 46 = .ok (.getfield 114, 3) ∧ decode cX11_verdict 49 = .ok (.iload_n 3, 1) ∧ decode cX11_verdict 50 = .ok (.iaload, 1) ∧ decode cX11_verdict 51 = .ok (.aload_n 0, 1) ∧ decode cX11_verdict 52 = .ok (.getfield 114, 3) ∧ decode cX11_verdict 55 = .ok (.iload_n 2, 1) ∧ decode cX11_verdict 56 = .ok (.iaload, 1) ∧ decode cX11_verdict 57 = .ok (.if_icmp .ge 7, 3) ∧ decode cX11_verdict 60 = .ok (.iload_n 3, 1) := by decide +kernel
theorem dX11_verdict_40 : decode cX11_verdict 40 = .ok (.ldc 139, 2) := dX11_verdict_all2.1
theorem dX11_verdict_42 : decode cX11_verdict 42 = .ok (.if_icmp .eq 18, 3) := dX11_verdict_all2.2.1
theorem dX11_verdict_45 : decode cX11_verdict 45 = .ok (.aload_n 0, 1) := dX11_verdict_all2.2.2.1
theorem dX11_verdict_46 : decode cX11_verdict 46 = .ok (.getfield 114, 3) := dX11_verdict_all2.2.2.2.1
theorem dX11_verdict_49 : decode cX11_verdict 49 = .ok (.iload_n 3, 1) := dX11_verdict_all2.2.2.2.2.1
theorem dX11_verdict_50 : decode cX11_verdict 50 = .ok (.iaload, 1) := dX11_verdict_all2.2.2.2.2.2.1
theorem dX11_verdict_51 : decode cX11_verdict 51 = .ok (.aload_n 0, 1) := dX11_verdict_all2.2.2.2.2.2.2.1
theorem dX11_verdict_52 : decode cX11_verdict 52 = .ok (.getfield 114, 3) := dX11_verdict_all2.2.2.2.2.2.2.2.1
theorem dX11_verdict_55 : decode cX11_verdict 55 = .ok (.iload_n 2, 1) := dX11_verdict_all2.2.2.2.2.2.2.2.2.1
theorem dX11_verdict_56 : decode cX11_verdict 56 = .ok (.iaload, 1) := dX11_verdict_all2.2.2.2.2.2.2.2.2.2.1
theorem dX11_verdict_57 : decode cX11_verdict 57 = .ok (.if_icmp .ge 7, 3) := dX11_verdict_all2.2.2.2.2.2.2.2.2.2.2.1
theorem dX11_verdict_60 : decode cX11_verdict 60 = .ok (.iload_n 3, 1) := dX11_verdict_all2.2.2.2.2.2.2.2.2.2.2.2
theorem dX11_verdict_all3 : decode cX11_verdict 61 = .ok (.goto 4, 3) ∧ decode cX11_verdict 64 = .ok (.iload_n 2, 1) ∧ decode cX11_verdict 65 = .ok (.istore_n 2, 1) ∧ decode cX11_verdict 66 = .ok (.iinc 3 1, 3) ∧ decode cX11_verdict 69 = .ok (.goto (-48), 3) ∧ decode cX11_verdict 72 = .ok (.iconst 0, 1) ∧ decode cX11_verdict 73 = .ok (.istore_n 3, 1) ∧ decode cX11_verdict 74 = .ok (.iconst 0, 1) ∧ decode cX11_verdict 75 = .ok (.istore 4, 2) ∧ decode cX11_verdict 77 = .ok (.iload 4, 2) ∧ decode cX11_verdict 79 = .ok (.aload_n 0, 1) ∧ decode cX11_verdict 80 = .ok (.getfield 354, 3) := by decide +kernel
theorem dX11_verdict_61 : decode cX11_verdict 61 = .ok (.goto 4, 3) := dX11_verdict_all3.1
theorem dX11_verdict_64 : decode cX11_verdict 64 = .ok (.iload_n 2, 1) := dX11_verdict_all3.2.1
theorem dX11_verdict_65 : decode cX11_verdict 65 = .ok (.istore_n 2, 1) := dX11_verdict_all3.2.2.1
theorem dX11_verdict_66 : decode cX11_verdict 66 = .ok (.iinc 3 1, 3) := dX11_verdict_all3.2.2.2.1
theorem dX11_verdict_69 : decode cX11_verdict 69 = .ok (.goto (-48), 3) := dX11_verdict_all3.2.2.2.2.1
theorem dX11_verdict_72 : decode cX11_verdict 72 = .ok (.iconst 0, 1) := dX11_verdict_all3.2.2.2.2.2.1
theorem dX11_verdict_73 : decode cX11_verdict 73 = .ok (.istore_n 3, 1) := dX11_verdict_all3.2.2.2.2.2.2.1
theorem dX11_verdict_74 : decode cX11_verdict 74 = .ok (.iconst 0, 1) := dX11_verdict_all3.2.2.2.2.2.2.2.1
theorem dX11_verdict_75 : decode cX11_verdict 75 = .ok (.istore 4, 2) := dX11_verdict_all3.2.2.2.2.2.2.2.2.1
theorem dX11_verdict_77 : decode cX11_verdict 77 = .ok (.iload 4, 2) := dX11_verdict_all3.2.2.2.2.2.2.2.2.2.1
theorem dX11_verdict_79 : decode cX11_verdict 79 = .ok (.aload_n 0, 1) := dX11_verdict_all3.2.2.2.2.2.2.2.2.2.2.1
theorem dX11_verdict_80 : decode cX11_verdict 80 = .ok (.getfield 354, 3) := dX11_verdict_all3.2.2.2.2.2.2.2.2.2.2.2
theorem dX11_verdict_all4 : decode cX11_verdict 83 = .ok (.if_icmp .ge 127, 3) ∧ decode cX11_verdict 86 = .ok (.aload_n 0, 1) ∧ decode cX11_verdict 87 = .ok (.getfield 111, 3) ∧ decode cX11_verdict 90 = .ok (.iload 4, 2) ∧ decode cX11_verdict 92 = .ok (.iaload, 1) ∧ decode cX11_verdict 93 = .ok (.iload_n 1, 1) ∧ decode cX11_verdict 94 = .ok (.if_icmp .ne 110, 3) ∧ decode cX11_verdict 97 = .ok (.iload 4, 2) ∧ decode cX11_verdict 99 = .ok (.iload_n 2, 1) ∧ decode cX11_verdict 100 = .ok (.if_icmp .eq 104, 3) ∧ decode cX11_verdict 103 = .ok (.aload_n 0, 1) ∧ decode cX11_verdict 104 = .ok (.getfield 117, 3) := by decide +kernel
theorem dX11_verdict_83 : decode cX11_verdict 83 = .ok (.if_icmp .ge 127, 3) := dX11_verdict_all4.1
theorem dX11_verdict_86 : decode cX11_verdict 86 = .ok (.aload_n 0, 1) := dX11_verdict_all4.2.1
theorem dX11_verdict_87 : decode cX11_verdict 87 = .ok (.getfield 111, 3) := dX11_verdict_all4.2.2.1
theorem dX11_verdict_90 : decode cX11_verdict 90 = .ok (.iload 4, 2) := dX11_verdict_all4.2.2.2.1
theorem dX11_verdict_92 : decode cX11_verdict 92 = .ok (.iaload, 1) := dX11_verdict_all4.2.2.2.2.1
theorem dX11_verdict_93 : decode cX11_verdict 93 = .ok (.iload_n 1, 1) := dX11_verdict_all4.2.2.2.2.2.1
theorem dX11_verdict_94 : decode cX11_verdict 94 = .ok (.if_icmp .ne 110, 3) := dX11_verdict_all4.2.2.2.2.2.2.1
theorem dX11_verdict_97 : decode cX11_verdict 97 = .ok (.iload 4, 2) := dX11_verdict_all4.2.2.2.2.2.2.2.1
theorem dX11_verdict_99 : decode cX11_verdict 99 = .ok (.iload_n 2, 1) := dX11_verdict_all4.2.2.2.2.2.2.2.2.1
theorem dX11_verdict_100 : decode cX11_verdict 100 = .ok (.if_icmp .eq 104, 3) := dX11_verdict_all4.2.2.2.2.2.2.2.2.2.1
theorem dX11_verdict_103 : decode cX11_verdict 103 = .ok (.aload_n 0, 1) := dX11_verdict_all4.2.2.2.2.2.2.2.2.2.2.1
theorem dX11_verdict_104 : decode cX11_verdict 104 = .ok (.getfield 117, 3) := dX11_verdict_all4.2.2.2.2.2.2.2.2.2.2.2
theorem dX11_verdict_all5 : decode cX11_verdict 107 = .ok (.iload 4, 2) ∧ decode cX11_verdict 109 = .ok (.iaload, 1) ∧ decode cX11_verdict 110 = .ok (.aload_n 0, 1) ∧ decode cX11_verdict 111 = .ok (.getfield 117, 3) ∧ decode cX11_verdict 114 = .ok (.iload_n 2, 1) ∧ decode cX11_verdict 115 = .ok (.iaload, 1) ∧ decode cX11_verdict 116 = .ok (.isub, 1) ∧ decode cX11_verdict 117 = .ok (.istore 5, 2) ∧ decode cX11_verdict 119 = .ok (.iload 5, 2) ∧ decode cX11_verdict 121 = .ok (.ifCond .ge 9, 3) ∧ decode cX11_verdict 124 = .ok (.iload 5, 2) ∧ decode cX11_verdict 126 = .ok (.ineg, 1) := by decide +kernel
theorem dX11_verdict_107 : decode cX11_verdict 107 = .ok (.iload 4, 2) := dX11_verdict_all5.1
theorem dX11_verdict_109 : decode cX11_verdict 109 = .ok (.iaload, 1) := dX11_verdict_all5.2.1
theorem dX11_verdict_110 : decode cX11_verdict 110 = .ok (.aload_n 0, 1) := dX11_verdict_all5.2.2.1
theorem dX11_verdict_111 : decode cX11_verdict 111 = .ok (.getfield 117, 3) := dX11_verdict_all5.2.2.2.1
theorem dX11_verdict_114 : decode cX11_verdict 114 = .ok (.iload_n 2, 1) := dX11_verdict_all5.2.2.2.2.1
theorem dX11_verdict_115 : decode cX11_verdict 115 = .ok (.iaload, 1) := dX11_verdict_all5.2.2.2.2.2.1
theorem dX11_verdict_116 : decode cX11_verdict 116 = .ok (.isub, 1) := dX11_verdict_all5.2.2.2.2.2.2.1
theorem dX11_verdict_117 : decode cX11_verdict 117 = .ok (.istore 5, 2) := dX11_verdict_all5.2.2.2.2.2.2.2.1
theorem dX11_verdict_119 : decode cX11_verdict 119 = .ok (.iload 5, 2) := dX11_verdict_all5.2.2.2.2.2.2.2.2.1
theorem dX11_verdict_121 : decode cX11_verdict 121 = .ok (.ifCond .ge 9, 3) := dX11_verdict_all5.2.2.2.2.2.2.2.2.2.1
theorem dX11_verdict_124 : decode cX11_verdict 124 = .ok (.iload 5, 2) := dX11_verdict_all5.2.2.2.2.2.2.2.2.2.2.1
theorem dX11_verdict_126 : decode cX11_verdict 126 = .ok (.ineg, 1) := dX11_verdict_all5.2.2.2.2.2.2.2.2.2.2.2
theorem dX11_verdict_all6 : decode cX11_verdict 127 = .ok (.goto 5, 3) ∧ decode cX11_verdict 130 = .ok (.iload 5, 2) ∧ decode cX11_verdict 132 = .ok (.istore 5, 2) ∧ decode cX11_verdict 134 = .ok (.aload_n 0, 1) ∧ decode cX11_verdict 135 = .ok (.getfield 120, 3) ∧ decode cX11_verdict 138 = .ok (.iload_n 2, 1) ∧ decode cX11_verdict 139 = .ok (.iaload, 1) ∧ decode cX11_verdict 140 = .ok (.aload_n 0, 1) ∧ decode cX11_verdict 141 = .ok (.getfield 120, 3) ∧ decode cX11_verdict 144 = .ok (.iload 4, 2) ∧ decode cX11_verdict 146 = .ok (.iaload, 1) ∧ decode cX11_verdict 147 = .ok (.iconst (-1), 1) := by decide +kernel
theorem dX11_verdict_127 : decode cX11_verdict 127 = .ok (.goto 5, 3) := dX11_verdict_all6.1
theorem dX11_verdict_130 : decode cX11_verdict 130 = .ok (.iload 5, 2) := dX11_verdict_all6.2.1
theorem dX11_verdict_132 : decode cX11_verdict 132 = .ok (.istore 5, 2) := dX11_verdict_all6.2.2.1
theorem dX11_verdict_134 : decode cX11_verdict 134 = .ok (.aload_n 0, 1) := dX11_verdict_all6.2.2.2.1
theorem dX11_verdict_135 : decode cX11_verdict 135 = .ok (.getfield 120, 3) := dX11_verdict_all6.2.2.2.2.1
theorem dX11_verdict_138 : decode cX11_verdict 138 = .ok (.iload_n 2, 1) := dX11_verdict_all6.2.2.2.2.2.1
theorem dX11_verdict_139 : decode cX11_verdict 139 = .ok (.iaload, 1) := dX11_verdict_all6.2.2.2.2.2.2.1
theorem dX11_verdict_140 : decode cX11_verdict 140 = .ok (.aload_n 0, 1) := dX11_verdict_all6.2.2.2.2.2.2.2.1
theorem dX11_verdict_141 : decode cX11_verdict 141 = .ok (.getfield 120, 3) := dX11_verdict_all6.2.2.2.2.2.2.2.2.1
theorem dX11_verdict_144 : decode cX11_verdict 144 = .ok (.iload 4, 2) := dX11_verdict_all6.2.2.2.2.2.2.2.2.2.1
theorem dX11_verdict_146 : decode cX11_verdict 146 = .ok (.iaload, 1) := dX11_verdict_all6.2.2.2.2.2.2.2.2.2.2.1
theorem dX11_verdict_147 : decode cX11_verdict 147 = .ok (.iconst (-1), 1) := dX11_verdict_all6.2.2.2.2.2.2.2.2.2.2.2
theorem dX11_verdict_all7 : decode cX11_verdict 148 = .ok (.ixor, 1) ∧ decode cX11_verdict 149 = .ok (.iand, 1) ∧ decode cX11_verdict 150 = .ok (.invokestatic 357, 3) ∧ decode cX11_verdict 153 = .ok (.istore 6, 2) ∧ decode cX11_verdict 155 = .ok (.iload 5, 2) ∧ decode cX11_verdict 157 = .ok (.bipush 100, 2) ∧ decode cX11_verdict 159 = .ok (.if_icmp .gt 9, 3) ∧ decode cX11_verdict 162 = .ok (.iload 6, 2) ∧ decode cX11_verdict 164 = .ok (.iconst 1, 1) ∧ decode cX11_verdict 165 = .ok (.if_icmp .le 7, 3) ∧ decode cX11_verdict 168 = .ok (.iconst 2, 1) ∧ decode cX11_verdict 169 = .ok (.goto 20, 3) := by decide +kernel
theorem dX11_verdict_148 : decode cX11_verdict 148 = .ok (.ixor, 1) := dX11_verdict_all7.1
theorem dX11_verdict_149 : decode cX11_verdict 149 = .ok (.iand, 1) := dX11_verdict_all7.2.1
theorem dX11_verdict_150 : decode cX11_verdict 150 = .ok (.invokestatic 357, 3) := dX11_verdict_all7.2.2.1
theorem dX11_verdict_153 : decode cX11_verdict 153 = .ok (.istore 6, 2) := dX11_verdict_all7.2.2.2.1
theorem dX11_verdict_155 : decode cX11_verdict 155 = .ok (.iload 5, 2) := dX11_verdict_all7.2.2.2.2.1
theorem dX11_verdict_157 : decode cX11_verdict 157 = .ok (.bipush 100, 2) := dX11_verdict_all7.2.2.2.2.2.1
theorem dX11_verdict_159 : decode cX11_verdict 159 = .ok (.if_icmp .gt 9, 3) := dX11_verdict_all7.2.2.2.2.2.2.1
theorem dX11_verdict_162 : decode cX11_verdict 162 = .ok (.iload 6, 2) := dX11_verdict_all7.2.2.2.2.2.2.2.1
theorem dX11_verdict_164 : decode cX11_verdict 164 = .ok (.iconst 1, 1) := dX11_verdict_all7.2.2.2.2.2.2.2.2.1
theorem dX11_verdict_165 : decode cX11_verdict 165 = .ok (.if_icmp .le 7, 3) := dX11_verdict_all7.2.2.2.2.2.2.2.2.2.1
theorem dX11_verdict_168 : decode cX11_verdict 168 = .ok (.iconst 2, 1) := dX11_verdict_all7.2.2.2.2.2.2.2.2.2.2.1
theorem dX11_verdict_169 : decode cX11_verdict 169 = .ok (.goto 20, 3) := dX11_verdict_all7.2.2.2.2.2.2.2.2.2.2.2
theorem dX11_verdict_all8 : decode cX11_verdict 172 = .ok (.iload 5, 2) ∧ decode cX11_verdict 174 = .ok (.bipush 10, 2) ∧ decode cX11_verdict 176 = .ok (.if_icmp .gt 8, 3) ∧ decode cX11_verdict 179 = .ok (.iload 6, 2) ∧ decode cX11_verdict 181 = .ok (.ifCond .le 7, 3) ∧ decode cX11_verdict 184 = .ok (.iconst 1, 1) ∧ decode cX11_verdict 185 = .ok (.goto 4, 3) ∧ decode cX11_verdict 188 = .ok (.iconst 0, 1) ∧ decode cX11_verdict 189 = .ok (.istore 7, 2) ∧ decode cX11_verdict 191 = .ok (.iload 7, 2) ∧ decode cX11_verdict 193 = .ok (.iload_n 3, 1) ∧ decode cX11_verdict 194 = .ok (.if_icmp .le 8, 3) := by decide +kernel
theorem dX11_verdict_172 : decode cX11_verdict 172 = .ok (.iload 5, 2) := dX11_verdict_all8.1
theorem dX11_verdict_174 : decode cX11_verdict 174 = .ok (.bipush 10, 2) := dX11_verdict_all8.2.1
theorem dX11_verdict_176 : decode cX11_verdict 176 = .ok (.if_icmp .gt 8, 3) := dX11_verdict_all8.2.2.1
theorem dX11_verdict_179 : decode cX11_verdict 179 = .ok (.iload 6, 2) := dX11_verdict_all8.2.2.2.1
theorem dX11_verdict_181 : decode cX11_verdict 181 = .ok (.ifCond .le 7, 3) := dX11_verdict_all8.2.2.2.2.1
theorem dX11_verdict_184 : decode cX11_verdict 184 = .ok (.iconst 1, 1) := dX11_verdict_all8.2.2.2.2.2.1
theorem dX11_verdict_185 : decode cX11_verdict 185 = .ok (.goto 4, 3) := dX11_verdict_all8.2.2.2.2.2.2.1
theorem dX11_verdict_188 : decode cX11_verdict 188 = .ok (.iconst 0, 1) := dX11_verdict_all8.2.2.2.2.2.2.2.1
theorem dX11_verdict_189 : decode cX11_verdict 189 = .ok (.istore 7, 2) := dX11_verdict_all8.2.2.2.2.2.2.2.2.1
theorem dX11_verdict_191 : decode cX11_verdict 191 = .ok (.iload 7, 2) := dX11_verdict_all8.2.2.2.2.2.2.2.2.2.1
theorem dX11_verdict_193 : decode cX11_verdict 193 = .ok (.iload_n 3, 1) := dX11_verdict_all8.2.2.2.2.2.2.2.2.2.2.1
theorem dX11_verdict_194 : decode cX11_verdict 194 = .ok (.if_icmp .le 8, 3) := dX11_verdict_all8.2.2.2.2.2.2.2.2.2.2.2
theorem dX11_verdict_all9 : decode cX11_verdict 197 = .ok (.iload 7, 2) ∧ decode cX11_verdict 199 = .ok (.goto 4, 3) ∧ decode cX11_verdict 202 = .ok (.iload_n 3, 1) ∧ decode cX11_verdict 203 = .ok (.istore_n 3, 1) ∧ decode cX11_verdict 204 = .ok (.iinc 4 1, 3) ∧ decode cX11_verdict 207 = .ok (.goto (-130), 3) ∧ decode cX11_verdict 210 = .ok (.iload_n 3, 1) ∧ decode cX11_verdict 211 = .ok (.ireturn, 1) := by decide +kernel
theorem dX11_verdict_197 : decode cX11_verdict 197 = .ok (.iload 7, 2) := dX11_verdict_all9.1
theorem dX11_verdict_199 : decode cX11_verdict 199 = .ok (.goto 4, 3) := dX11_verdict_all9.2.1
theorem dX11_verdict_202 : decode cX11_verdict 202 = .ok (.iload_n 3, 1) := dX11_verdict_all9.2.2.1
theorem dX11_verdict_203 : decode cX11_verdict 203 = .ok (.istore_n 3, 1) := dX11_verdict_all9.2.2.2.1
theorem dX11_verdict_204 : decode cX11_verdict 204 = .ok (.iinc 4 1, 3) := dX11_verdict_all9.2.2.2.2.1
theorem dX11_verdict_207 : decode cX11_verdict 207 = .ok (.goto (-130), 3) := dX11_verdict_all9.2.2.2.2.2.1
theorem dX11_verdict_210 : decode cX11_verdict 210 = .ok (.iload_n 3, 1) := dX11_verdict_all9.2.2.2.2.2.2.1
theorem dX11_verdict_211 : decode cX11_verdict 211 = .ok (.ireturn, 1) := dX11_verdict_all9.2.2.2.2.2.2.2

theorem ver_step {uk : Nat → Int32} {k i b : Int32} (h : ∀ j : Nat, (j : Int) < i.toInt → ¬ uk j = k) (h0 : 0 ≤ i.toInt) (hb : b.toInt = i.toInt + 1) (hv : ¬ uk i.toNatClampNeg = k) : ∀ j : Nat, (j : Int) < b.toInt → ¬ uk j = k := by
  intro j hj
  have := i_cl h0
  by_cases e : (j : Int) < i.toInt
  · exact h j e
  · have e8 : j = i.toNatClampNeg := by omega
    subst e8; exact hv


def onV (uk uy : Nat → Int32) (k : Int32) : Nat → Int32
  | 0 => -1000000
  | n + 1 => if (uk n).toInt = k.toInt ∧ ((onV uk uy k n).toInt = -1000000 ∨ (uy n).toInt < (uy (onV uk uy k n).toNatClampNeg).toInt) then nI n else onV uk uy k n
theorem onV_s (uk uy : Nat → Int32) (k : Int32) (n : Nat) : onV uk uy k (n + 1) = if (uk n).toInt = k.toInt ∧ ((onV uk uy k n).toInt = -1000000 ∨ (uy n).toInt < (uy (onV uk uy k n).toNatClampNeg).toInt) then nI n else onV uk uy k n := rfl
def cvF (far mis : Int32) : Int32 := if 100 < far.toInt ∨ 1 < mis.toInt then 2 else if 10 < far.toInt ∨ 0 < mis.toInt then 1 else 0
theorem cvF_2 {far mis : Int32} (h : 100 < far.toInt ∨ 1 < mis.toInt) : 2 = cvF far mis := by unfold cvF; rw [if_pos h]
theorem cvF_1 {far mis : Int32} (h : ¬ (100 < far.toInt ∨ 1 < mis.toInt)) (h1 : 10 < far.toInt ∨ 0 < mis.toInt) : 1 = cvF far mis := by unfold cvF; rw [if_neg h, if_pos h1]
theorem cvF_0 {far mis : Int32} (h : ¬ (100 < far.toInt ∨ 1 < mis.toInt)) (h1 : ¬ (10 < far.toInt ∨ 0 < mis.toInt)) : 0 = cvF far mis := by unfold cvF; rw [if_neg h, if_neg h1]
def wmV (uk uw um : Nat → Int32) (k o : Int32) : Nat → Int32
  | 0 => 0
  | n + 1 => if (uk n).toInt = k.toInt ∧ ¬ (n : Int) = o.toInt then maxV (wmV uk uw um k o n) (cvF (absV (uw n - uw o.toNatClampNeg)) (bmV (um o.toNatClampNeg &&& (um n ^^^ (-1))) 12)) else wmV uk uw um k o n
theorem wmV_s (uk uw um : Nat → Int32) (k o : Int32) (n : Nat) : wmV uk uw um k o (n + 1) = if (uk n).toInt = k.toInt ∧ ¬ (n : Int) = o.toInt then maxV (wmV uk uw um k o n) (cvF (absV (uw n - uw o.toNatClampNeg)) (bmV (um o.toNatClampNeg &&& (um n ^^^ (-1))) 12)) else wmV uk uw um k o n := rfl
def sm_verdict (cn un : Int32) (uk uy uw um : Nat → Int32) (k : Int32) : Int32 := if 0 ≤ k.toInt ∧ k.toInt < cn.toInt then wmV uk uw um k (onV uk uy k un.toNatClampNeg) un.toNatClampNeg else -1000001

set_option maxHeartbeats 4000000 in
set_option maxRecDepth 100000 in
theorem ct_X11_verdict (l : Launch) (D : va_G) (cI cY cJ cQ : ClassId) (sz : Nat) (md : Nat → Nat) (sd : Int32) (mth mst hn cn pn mq gn mln mnn ln mlt msz mcu mtk mfr mti mfa mfb an un lc td mtn : Int32) (uk uy uw um : Nat → Int32) (k : Int32)  (h1 : 0 ≤ cn.toInt) (h2 : cn.toInt ≤ 12) (h3 : 0 ≤ un.toInt) (h4 : un.toInt ≤ 60)  : Met l yX11_verdict wsX11_verdict ({ frames := 2, cells := 0, slots := 0, locals := 46 }) (cPre D (ty4 cI cY cJ cQ) [(moC md sd mth mst hn cn pn mq gn mln mnn ln mlt msz mcu mtk mfr mti mfa mfb an un lc td mtn), (aI cI (md 53) 60 uk), (aI cI (md 54) 60 uy), (aI cI (md 55) 60 uw), (aI cI (md 56) 60 um)] sz [.ref (md 64), .int k]) (va_Qi (fun (r : Int32) (u : Unit) => r = sm_verdict cn un uk uy uw um k) (cB D (ty4 cI cY cJ cQ) (fun (u : Unit) => [(moC md sd 0 mst hn cn pn mq gn mln mnn ln mlt msz mcu mtk mfr mti mfa mfb an un lc td mtn), (aI cI (md 53) 60 uk), (aI cI (md 54) 60 uy), (aI cI (md 55) 60 uw), (aI cI (md 56) 60 um)]) (va_A [(moC md sd mth mst hn cn pn mq gn mln mnn ln mlt msz mcu mtk mfr mti mfa mfb an un lc td mtn), (aI cI (md 53) 60 uk), (aI cI (md 54) 60 uy), (aI cI (md 55) 60 uw), (aI cI (md 56) 60 um)] sz)) (va_A [(moC md sd mth mst hn cn pn mq gn mln mnn ln mlt msz mcu mtk mfr mti mfa mfb an un lc td mtn), (aI cI (md 53) 60 uk), (aI cI (md 54) 60 uy), (aI cI (md 55) 60 uw), (aI cI (md 56) 60 um)] sz)) 0 0 (va_A [(moC md sd mth mst hn cn pn mq gn mln mnn ln mlt msz mcu mtk mfr mti mfa mfb an un lc td mtn), (aI cI (md 53) 60 uk), (aI cI (md 54) 60 uy), (aI cI (md 55) 60 uw), (aI cI (md 56) 60 um)] sz) := by
  refine Met.ofW (cc := cX11_verdict) (maxL := 8) (ret := (some .int)) (by decide) rfl ?_
  intro p e s m args below meth c s₁ B hml hv
  obtain ⟨rfl, hsz, hP, hK, hD0, hN⟩ := hv
  have hx := B.exec
  have hb := B.bytes
  have hr := B.returns
  have hts := atoms_spec (ws := wsX11_verdict) B.pre
  have hown : s.vm.findClass RX11 = some m.cls := findClass_of_methodNamed B.named
  have hlocks := B.notSynchronized
  subst hsz
  have hD := hD0.self (sz := s.heap.size)
  generalize hAe : va_A [(moC md sd mth mst hn cn pn mq gn mln mnn ln mlt msz mcu mtk mfr mti mfa mfb an un lc td mtn), (aI cI (md 53) 60 uk), (aI cI (md 54) 60 uy), (aI cI (md 55) 60 uw), (aI cI (md 56) 60 um)] s.heap.size = A at hD ⊢
  have hA : ∀ q : Nat, s.heap.size ≤ q → A q := fun q h => by rw [← hAe]; exact Or.inr h
  have hS : va_S A s.heap s.heap [] := va_S.rf
  have hP : va_P D vwCl [(moC md sd mth mst hn cn pn mq gn mln mnn ln mlt msz mcu mtk mfr mti mfa mfb an un lc td mtn), (aI cI (md 53) 60 uk), (aI cI (md 54) 60 uy), (aI cI (md 55) 60 uw), (aI cI (md 56) 60 um)] s.heap := hP
  have hl := lv_entry ([.ref (md 64), .int k]) (n := 8) (Nat.le_of_ble_eq_true rfl)
  rw [lg_entry_eq]
  generalize (lg_sl ([.ref (md 64), .int k]) ++ List.replicate (8 - (lg_sl ([.ref (md 64), .int k])).length) Slot.unset).toArray = ls at hl ⊢
  have hl : lv_has ls 8 [(0, .ref (md 64)), (1, .int k)] := hl
  have km1000000 : (-1000000 : Int32).toInt = -1000000 := by decide
  have km1 : (-1 : Int32).toInt = -1 := by decide
  have k0 : (0 : Int32).toInt = 0 := by decide
  have k1 : (1 : Int32).toInt = 1 := by decide
  have k2 : (2 : Int32).toInt = 2 := by decide
  have k10 : (10 : Int32).toInt = 10 := by decide
  have k100 : (100 : Int32).toInt = 100 := by decide
  refine lv_aload_n hx hb dX11_verdict_0 rfl (lv_at hl 0 rfl) ?_
  refine lv_iconst (v := 0) hx hb dX11_verdict_1 (by decide) ?_
  refine va_put (D := D) (ci := 11) (v := .int 0) (ty := .int) (C := RX11) (T := TX11) (N := 64) hx hb hts inX11_verdict_X11 tyX11 tyX11_ok nmX11 hown hK hP hD hS 0 rfl rfl 0 (by decide) (hts (Cond.fieldLink RX11 1 "PortRoomsModel" "thrown" "I") (wm_t (wm_l (wm_i 0 rfl)))) (fun _ h9 => h9) rfl (tyX11_ok 0 (by decide)) rfl rfl (Nat.le_of_ble_eq_true rfl) dX11_verdict_2 (fun H locs => ?_)
  clear hP hD hS
  intro hP hD hS
  replace hP : va_P D vwCl [(moC md sd (0) mst hn cn pn mq gn mln mnn ln mlt msz mcu mtk mfr mti mfa mfb an un lc td mtn), (aI cI (md 53) 60 uk), (aI cI (md 54) 60 uy), (aI cI (md 55) 60 uw), (aI cI (md 56) 60 um)] H := hP
  replace hD : va_D A [(moC md sd (0) mst hn cn pn mq gn mln mnn ln mlt msz mcu mtk mfr mti mfa mfb an un lc td mtn), (aI cI (md 53) 60 uk), (aI cI (md 54) 60 uy), (aI cI (md 55) 60 uw), (aI cI (md 56) 60 um)] := hD
  refine lv_aload_n hx hb dX11_verdict_5 rfl (lv_at hl 0 rfl) ?_
  refine lv_iload_n hx hb dX11_verdict_6 rfl (lv_at hl 1 rfl) ?_
  refine st_i1 (va_runV (C := RX11) (As := [.int k]) (rest := []) ⟨hx, hb, hml, hown, hts⟩ (ct_X11_isCrate l D cI cY cJ cQ _ md sd 0 mst hn cn pn mq gn mln mnn ln mlt msz mcu mtk mfr mti mfa mfb an un lc td mtn k h1 h2) (cwV 1 hts gX11_verdict_X11_isCrate rfl rfl rfl ⟨rfl, cdX11_isCrate⟩ ⟨Nat.le_of_ble_eq_true rfl, Nat.le_of_ble_eq_true rfl⟩) (cPreV (hP.sub [0] rfl) hK (hD.sub [0] (by decide +kernel) rfl) hN (ci := 11) (q0 := 0) rfl rfl) rfl rfl hl.1 rfl (lv_room (Nat.le_of_ble_eq_true rfl)) dX11_verdict_7 ⟨Nat.le_of_ble_eq_true rfl, Nat.le_of_ble_eq_true rfl⟩) hP hD hS hA [0] rfl (fun _ => rfl) (fun r3 u1 H locs hw2 => ?_)
  clear hP hS
  intro hP hS
  replace hw2 : r3 = if 0 ≤ k.toInt ∧ k.toInt < cn.toInt then 1 else 0 := hw2
  refine lv_if_ne (tgt := 16) hx hb dX11_verdict_10 (by decide) (fun c4 => ?_) (fun c4 => ?_)
  · skip
    have f5 := bo_t hw2 c4
    refine lv_ldc hx hb hown (hts (Cond.constant RX11 139 (-1000000)) (wm_t (wm_l (wm_i 2 rfl)))) dX11_verdict_16 ?_
    refine lv_istore_n (lv' := [(2, .int (-1000000)), (0, .ref (md 64)), (1, .int k)]) hx hb dX11_verdict_18 rfl hl (by decide) rfl (fun ls hl => ?_)
    refine lv_iconst (v := 0) hx hb dX11_verdict_19 (by decide) ?_
    refine lv_istore_n (lv' := [(3, .int 0), (2, .int (-1000000)), (0, .ref (md 64)), (1, .int k)]) hx hb dX11_verdict_20 rfl hl (by decide) rfl (fun ls hl => ?_)
    refine st_loop 21 (fun _ => []) (fun (z : Int32 × Int32) (ls : Array Slot) (H : Heap) (locs : List Loc) => match z with | (q21_2, q21_3) => (0 ≤ q21_3.toInt) ∧ (q21_3.toInt ≤ un.toInt) ∧ (q21_2.toInt = -1000000 ∨ (0 ≤ q21_2.toInt ∧ q21_2.toInt < un.toInt)) ∧ (q21_2.toInt = -1000000 → ∀ j : Nat, (j : Int) < q21_3.toInt → ¬ uk j = k) ∧ (q21_2 = onV uk uy k q21_3.toNatClampNeg) ∧ lv_has ls 8 [(0, .ref (md 64)), (1, .int k), (2, .int q21_2), (3, .int q21_3)] ∧ va_P D vwCl [(moC md sd (0) mst hn cn pn mq gn mln mnn ln mlt msz mcu mtk mfr mti mfa mfb an un lc td mtn), (aI cI (md 53) 60 uk), (aI cI (md 54) 60 uy), (aI cI (md 55) 60 uw), (aI cI (md 56) 60 um)] H ∧ va_D A [(moC md sd (0) mst hn cn pn mq gn mln mnn ln mlt msz mcu mtk mfr mti mfa mfb an un lc td mtn), (aI cI (md 53) 60 uk), (aI cI (md 54) 60 uy), (aI cI (md 55) 60 uw), (aI cI (md 56) 60 um)] ∧ va_S A s.heap H locs) (fun (z : Int32 × Int32) => match z with | (q21_2, q21_3) => un.toInt - q21_3.toInt) ?_ ?_ (((-1000000) : Int32), (0 : Int32)) ⟨(by omega), (by omega), (by omega), (by intro h9 j hj; exfalso; omega), (by rfl), lv_sub hl [2, 3, 1, 0] rfl, hP, hD, hS⟩
    · rintro ⟨q21_2, q21_3⟩ ls H locs ⟨g6, g7, g8, g9, g10, hl, hP, hD, hS⟩
      show (0 : Int) ≤ un.toInt - q21_3.toInt
      omega
    · rintro n13 ih11 ⟨q21_2, q21_3⟩ ls H locs ⟨g6, g7, g8, g9, g10, hl, hP, hD, hS⟩ hm12
      have hm12 : un.toInt - q21_3.toInt < (n13 : Int) + 1 := hm12
      replace hl : lv_has ls 8 [(0, .ref (md 64)), (1, .int k), (2, .int q21_2), (3, .int q21_3)] := hl
      replace hP : va_P D vwCl [(moC md sd (0) mst hn cn pn mq gn mln mnn ln mlt msz mcu mtk mfr mti mfa mfb an un lc td mtn), (aI cI (md 53) 60 uk), (aI cI (md 54) 60 uy), (aI cI (md 55) 60 uw), (aI cI (md 56) 60 um)] H := hP
      replace hD : va_D A [(moC md sd (0) mst hn cn pn mq gn mln mnn ln mlt msz mcu mtk mfr mti mfa mfb an un lc td mtn), (aI cI (md 53) 60 uk), (aI cI (md 54) 60 uy), (aI cI (md 55) 60 uw), (aI cI (md 56) 60 um)] := hD
      show W _ _ _ _ _ _ _ _ _ _ _ _ _ _ _ (F0 m 21 ls [])
      refine lv_iload_n hx hb dX11_verdict_21 rfl (lv_at hl 3 rfl) ?_
      refine lv_aload_n hx hb dX11_verdict_22 rfl (lv_at hl 0 rfl) ?_
      refine va_get (D := D) (ci := 11) (v := .int un) (C := RX11) (T := TX11) (N := 64) hx hb hts inX11_verdict_X11 hown hK hP 0 rfl rfl 52 (by decide) (hts (Cond.fieldLink RX11 354 "PortRoomsModel" "opens" "I") (wm_t (wm_l (wm_i 3 rfl)))) (fun _ h9 => h9) rfl dX11_verdict_23 ?_
      refine lv_icmp_ge (tgt := 72) hx hb dX11_verdict_26 (by decide) (fun c14 => ?_) (fun c14 => ?_)
      · skip
        have f15 := i_le c14
        refine lv_iconst (v := 0) hx hb dX11_verdict_72 (by decide) ?_
        refine lv_istore_n (lv' := [(3, .int 0), (0, .ref (md 64)), (1, .int k), (2, .int q21_2)]) hx hb dX11_verdict_73 rfl hl (by decide) rfl (fun ls hl => ?_)
        refine lv_iconst (v := 0) hx hb dX11_verdict_74 (by decide) ?_
        refine lv_istore (lv' := [(4, .int 0), (3, .int 0), (0, .ref (md 64)), (1, .int k), (2, .int q21_2)]) hx hb dX11_verdict_75 hl (by decide) rfl (fun ls hl => ?_)
        refine st_loop 77 (fun _ => []) (fun (z : Int32 × Int32) (ls : Array Slot) (H : Heap) (locs : List Loc) => match z with | (q77_3, q77_4) => (0 ≤ q77_4.toInt) ∧ (q77_4.toInt ≤ un.toInt) ∧ (q77_3 = wmV uk uw um k q21_2 q77_4.toNatClampNeg) ∧ lv_has ls 8 [(0, .ref (md 64)), (1, .int k), (2, .int q21_2), (3, .int q77_3), (4, .int q77_4)] ∧ va_P D vwCl [(moC md sd (0) mst hn cn pn mq gn mln mnn ln mlt msz mcu mtk mfr mti mfa mfb an un lc td mtn), (aI cI (md 53) 60 uk), (aI cI (md 54) 60 uy), (aI cI (md 55) 60 uw), (aI cI (md 56) 60 um)] H ∧ va_D A [(moC md sd (0) mst hn cn pn mq gn mln mnn ln mlt msz mcu mtk mfr mti mfa mfb an un lc td mtn), (aI cI (md 53) 60 uk), (aI cI (md 54) 60 uy), (aI cI (md 55) 60 uw), (aI cI (md 56) 60 um)] ∧ va_S A s.heap H locs) (fun (z : Int32 × Int32) => match z with | (q77_3, q77_4) => un.toInt - q77_4.toInt) ?_ ?_ ((0 : Int32), (0 : Int32)) ⟨(by omega), (by omega), (by rfl), lv_sub hl [2, 3, 4, 1, 0] rfl, hP, hD, hS⟩
        · rintro ⟨q77_3, q77_4⟩ ls H locs ⟨g16, g17, g18, hl, hP, hD, hS⟩
          show (0 : Int) ≤ un.toInt - q77_4.toInt
          omega
        · rintro n21 ih19 ⟨q77_3, q77_4⟩ ls H locs ⟨g16, g17, g18, hl, hP, hD, hS⟩ hm20
          have hm20 : un.toInt - q77_4.toInt < (n21 : Int) + 1 := hm20
          replace hl : lv_has ls 8 [(0, .ref (md 64)), (1, .int k), (2, .int q21_2), (3, .int q77_3), (4, .int q77_4)] := hl
          replace hP : va_P D vwCl [(moC md sd (0) mst hn cn pn mq gn mln mnn ln mlt msz mcu mtk mfr mti mfa mfb an un lc td mtn), (aI cI (md 53) 60 uk), (aI cI (md 54) 60 uy), (aI cI (md 55) 60 uw), (aI cI (md 56) 60 um)] H := hP
          replace hD : va_D A [(moC md sd (0) mst hn cn pn mq gn mln mnn ln mlt msz mcu mtk mfr mti mfa mfb an un lc td mtn), (aI cI (md 53) 60 uk), (aI cI (md 54) 60 uy), (aI cI (md 55) 60 uw), (aI cI (md 56) 60 um)] := hD
          show W _ _ _ _ _ _ _ _ _ _ _ _ _ _ _ (F0 m 77 ls [])
          refine lv_iload hx hb dX11_verdict_77 (lv_at hl 4 rfl) ?_
          refine lv_aload_n hx hb dX11_verdict_79 rfl (lv_at hl 0 rfl) ?_
          refine va_get (D := D) (ci := 11) (v := .int un) (C := RX11) (T := TX11) (N := 64) hx hb hts inX11_verdict_X11 hown hK hP 0 rfl rfl 52 (by decide) (hts (Cond.fieldLink RX11 354 "PortRoomsModel" "opens" "I") (wm_t (wm_l (wm_i 3 rfl)))) (fun _ h9 => h9) rfl dX11_verdict_80 ?_
          refine lv_icmp_ge (tgt := 210) hx hb dX11_verdict_83 (by decide) (fun c22 => ?_) (fun c22 => ?_)
          · skip
            have f23 := i_le c22
            refine lv_iload_n hx hb dX11_verdict_210 rfl (lv_at hl 3 rfl) ?_
            have ce8 := i_cl (x := q77_4) (by omega)
            have ce9 := i_cl (x := un) (by omega)
            have ee9 : q77_4.toNatClampNeg = un.toNatClampNeg := by omega
            have hz9 := g18
            rw [ee9] at hz9
            have ce7 := i_cl (x := q21_3) (by omega)
            have ee7 : q21_3.toNatClampNeg = un.toNatClampNeg := by omega
            have hz7 := g10
            rw [ee7] at hz7
            have hP9 := hP
            have hD9 := hD
            exact W.iret (v := q77_3) hx hb hr (fun t ht hW => ⟨⟨q77_3, (), rfl, (by unfold sm_verdict; rw [if_pos (by omega), ← hz7]; exact hz9), by rw [ht]; exact hP9, va_K.moved hW.alike hK, hD9⟩, hS.F ht⟩) hS.2.2 dX11_verdict_211
          · skip
            have f24 := i_nle c22
            refine lv_aload_n hx hb dX11_verdict_86 rfl (lv_at hl 0 rfl) ?_
            refine va_get (D := D) (ci := 11) (v := .ref (md 53)) (C := RX11) (T := TX11) (N := 64) hx hb hts inX11_verdict_X11 hown hK hP 0 rfl rfl 53 (by decide) (hts (Cond.fieldLink RX11 111 "PortRoomsModel" "openCrate" "[I") (wm_t (wm_l (wm_i 4 rfl)))) (fun _ h9 => h9) rfl dX11_verdict_87 ?_
            refine lv_iload hx hb dX11_verdict_90 (lv_at hl 4 rfl) ?_
            refine va_iald hx hb hK hP 1 0 rfl rfl (i_in (by omega) (by omega)) dX11_verdict_92 ?_
            refine lv_topi (fun v25 ev25 => ?_)
            have tlv25 : v25.toInt = (uk q77_4.toNatClampNeg).toInt := by rw [ev25]
            refine lv_iload_n hx hb dX11_verdict_93 rfl (lv_at hl 1 rfl) ?_
            refine lv_icmp_ne (tgt := 204) hx hb dX11_verdict_94 (by decide) (fun c26 => ?_) (fun c26 => ?_)
            · skip
              have f27 := i_ne c26
              obtain ⟨v28, ev28⟩ : ∃ y : Int32, y = q77_4 + 1 := ⟨_, rfl⟩
              try have tv28 : v28.toInt = q77_4.toInt + 1 := by rw [ev28]; exact (i_add (x := q77_4) (y := (1 : Int32)) (by rw [k1]; omega) (by rw [k1]; omega)).trans (by rw [k1])
              refine lv_iinc (v := v28) (lv' := [(4, .int v28), (0, .ref (md 64)), (1, .int k), (2, .int q21_2), (3, .int q77_3)]) hx hb dX11_verdict_204 hl (k := 4) rfl (by rw [ev28]; rfl) (by decide) rfl (fun ls hl => ?_)
              refine lv_goto (tgt := 77) hx hb dX11_verdict_207 (by decide) ?_
              have clk8 := i_cl (x := q77_4) (by omega)
              have clk9 := i_cl (x := v28) (by omega)
              have ek9 : v28.toNatClampNeg = q77_4.toNatClampNeg + 1 := by omega
              exact ih19 (q77_3, v28) ls H locs ⟨(by omega), (by omega), (by rw [ek9, wmV_s, ← g18, if_neg (by omega)]), lv_sub hl [1, 2, 3, 4, 0] rfl, hP.sub [0, 1, 2, 3, 4] rfl, hD.sub [0, 1, 2, 3, 4] (by decide +kernel) rfl, hS⟩ (by show un.toInt - v28.toInt < _; omega)
            · skip
              have f29 := i_eq c26
              have hge9 : 0 ≤ q21_2.toInt := by
                rcases g8 with h8 | h8
                · exact absurd (show uk q77_4.toNatClampNeg = k by rw [← ev25]; first | assumption | exact i_of (by assumption) | (apply Decidable.byContradiction; assumption)) (g9 h8 q77_4.toNatClampNeg (by have := i_cl (x := q77_4) (by omega); omega))
                · exact h8.1
              refine lv_iload hx hb dX11_verdict_97 (lv_at hl 4 rfl) ?_
              refine lv_iload_n hx hb dX11_verdict_99 rfl (lv_at hl 2 rfl) ?_
              refine lv_icmp_eq (tgt := 204) hx hb dX11_verdict_100 (by decide) (fun c30 => ?_) (fun c30 => ?_)
              · skip
                have f31 := i_eq c30
                obtain ⟨v32, ev32⟩ : ∃ y : Int32, y = q77_4 + 1 := ⟨_, rfl⟩
                try have tv32 : v32.toInt = q77_4.toInt + 1 := by rw [ev32]; exact (i_add (x := q77_4) (y := (1 : Int32)) (by rw [k1]; omega) (by rw [k1]; omega)).trans (by rw [k1])
                refine lv_iinc (v := v32) (lv' := [(4, .int v32), (0, .ref (md 64)), (1, .int k), (2, .int q21_2), (3, .int q77_3)]) hx hb dX11_verdict_204 hl (k := 4) rfl (by rw [ev32]; rfl) (by decide) rfl (fun ls hl => ?_)
                refine lv_goto (tgt := 77) hx hb dX11_verdict_207 (by decide) ?_
                have clk8 := i_cl (x := q77_4) (by omega)
                have clk9 := i_cl (x := v32) (by omega)
                have ek9 : v32.toNatClampNeg = q77_4.toNatClampNeg + 1 := by omega
                exact ih19 (q77_3, v32) ls H locs ⟨(by omega), (by omega), (by rw [ek9, wmV_s, ← g18, if_neg (by omega)]), lv_sub hl [1, 2, 3, 4, 0] rfl, hP.sub [0, 1, 2, 3, 4] rfl, hD.sub [0, 1, 2, 3, 4] (by decide +kernel) rfl, hS⟩ (by show un.toInt - v32.toInt < _; omega)
              · skip
                have f33 := i_ne c30
                refine lv_aload_n hx hb dX11_verdict_103 rfl (lv_at hl 0 rfl) ?_
                refine va_get (D := D) (ci := 11) (v := .ref (md 55)) (C := RX11) (T := TX11) (N := 64) hx hb hts inX11_verdict_X11 hown hK hP 0 rfl rfl 55 (by decide) (hts (Cond.fieldLink RX11 117 "PortRoomsModel" "openWeight" "[I") (wm_t (wm_l (wm_i 6 rfl)))) (fun _ h9 => h9) rfl dX11_verdict_104 ?_
                refine lv_iload hx hb dX11_verdict_107 (lv_at hl 4 rfl) ?_
                refine va_iald hx hb hK hP 3 0 rfl rfl (i_in (by omega) (by omega)) dX11_verdict_109 ?_
                refine lv_topi (fun v34 ev34 => ?_)
                have tlv34 : v34.toInt = (uw q77_4.toNatClampNeg).toInt := by rw [ev34]
                refine lv_aload_n hx hb dX11_verdict_110 rfl (lv_at hl 0 rfl) ?_
                refine va_get (D := D) (ci := 11) (v := .ref (md 55)) (C := RX11) (T := TX11) (N := 64) hx hb hts inX11_verdict_X11 hown hK hP 0 rfl rfl 55 (by decide) (hts (Cond.fieldLink RX11 117 "PortRoomsModel" "openWeight" "[I") (wm_t (wm_l (wm_i 6 rfl)))) (fun _ h9 => h9) rfl dX11_verdict_111 ?_
                refine lv_iload_n hx hb dX11_verdict_114 rfl (lv_at hl 2 rfl) ?_
                refine va_iald hx hb hK hP 3 0 rfl rfl (i_in (by omega) (by omega)) dX11_verdict_115 ?_
                refine lv_topi (fun v35 ev35 => ?_)
                have tlv35 : v35.toInt = (uw q21_2.toNatClampNeg).toInt := by rw [ev35]
                refine lv_isub hx hb dX11_verdict_116 ?_
                refine lv_topi (fun v36 ev36 => ?_)
                refine lv_istore (lv' := [(5, .int v36), (0, .ref (md 64)), (1, .int k), (2, .int q21_2), (3, .int q77_3), (4, .int q77_4)]) hx hb dX11_verdict_117 hl (by decide) rfl (fun ls hl => ?_)
                refine st_join 132 (fun (sk37 : Int32) => [.int sk37]) (fun (sk37 : Int32) (ls : Array Slot) (H : Heap) (locs : List Loc) => (sk37 = absV v36) ∧ lv_has ls 8 [(0, .ref (md 64)), (1, .int k), (2, .int q21_2), (3, .int q77_3), (4, .int q77_4), (5, .int v36)] ∧ va_P D vwCl [(moC md sd (0) mst hn cn pn mq gn mln mnn ln mlt msz mcu mtk mfr mti mfa mfb an un lc td mtn), (aI cI (md 53) 60 uk), (aI cI (md 54) 60 uy), (aI cI (md 55) 60 uw), (aI cI (md 56) 60 um)] H ∧ va_D A [(moC md sd (0) mst hn cn pn mq gn mln mnn ln mlt msz mcu mtk mfr mti mfa mfb an un lc td mtn), (aI cI (md 53) 60 uk), (aI cI (md 54) 60 uy), (aI cI (md 55) 60 uw), (aI cI (md 56) 60 um)] ∧ va_S A s.heap H locs) ?_ ?_
                · rintro sk37 ls H locs ⟨g38, hl, hP, hD, hS⟩
                  replace hl : lv_has ls 8 [(0, .ref (md 64)), (1, .int k), (2, .int q21_2), (3, .int q77_3), (4, .int q77_4), (5, .int v36)] := hl
                  replace hP : va_P D vwCl [(moC md sd (0) mst hn cn pn mq gn mln mnn ln mlt msz mcu mtk mfr mti mfa mfb an un lc td mtn), (aI cI (md 53) 60 uk), (aI cI (md 54) 60 uy), (aI cI (md 55) 60 uw), (aI cI (md 56) 60 um)] H := hP
                  replace hD : va_D A [(moC md sd (0) mst hn cn pn mq gn mln mnn ln mlt msz mcu mtk mfr mti mfa mfb an un lc td mtn), (aI cI (md 53) 60 uk), (aI cI (md 54) 60 uy), (aI cI (md 55) 60 uw), (aI cI (md 56) 60 um)] := hD
                  show W _ _ _ _ _ _ _ _ _ _ _ _ _ _ _ (F0 m 132 ls [.int sk37])
                  refine lv_istore (lv' := [(5, .int sk37), (0, .ref (md 64)), (1, .int k), (2, .int q21_2), (3, .int q77_3), (4, .int q77_4)]) hx hb dX11_verdict_132 hl (by decide) rfl (fun ls hl => ?_)
                  refine lv_aload_n hx hb dX11_verdict_134 rfl (lv_at hl 1 rfl) ?_
                  refine va_get (D := D) (ci := 11) (v := .ref (md 56)) (C := RX11) (T := TX11) (N := 64) hx hb hts inX11_verdict_X11 hown hK hP 0 rfl rfl 56 (by decide) (hts (Cond.fieldLink RX11 120 "PortRoomsModel" "openMarks" "[I") (wm_t (wm_l (wm_i 7 rfl)))) (fun _ h9 => h9) rfl dX11_verdict_135 ?_
                  refine lv_iload_n hx hb dX11_verdict_138 rfl (lv_at hl 3 rfl) ?_
                  refine va_iald hx hb hK hP 4 0 rfl rfl (i_in (by omega) (by omega)) dX11_verdict_139 ?_
                  refine lv_topi (fun v40 ev40 => ?_)
                  have tlv40 : v40.toInt = (um q21_2.toNatClampNeg).toInt := by rw [ev40]
                  refine lv_aload_n hx hb dX11_verdict_140 rfl (lv_at hl 1 rfl) ?_
                  refine va_get (D := D) (ci := 11) (v := .ref (md 56)) (C := RX11) (T := TX11) (N := 64) hx hb hts inX11_verdict_X11 hown hK hP 0 rfl rfl 56 (by decide) (hts (Cond.fieldLink RX11 120 "PortRoomsModel" "openMarks" "[I") (wm_t (wm_l (wm_i 7 rfl)))) (fun _ h9 => h9) rfl dX11_verdict_141 ?_
                  refine lv_iload hx hb dX11_verdict_144 (lv_at hl 5 rfl) ?_
                  refine va_iald hx hb hK hP 4 0 rfl rfl (i_in (by omega) (by omega)) dX11_verdict_146 ?_
                  refine lv_topi (fun v41 ev41 => ?_)
                  have tlv41 : v41.toInt = (um q77_4.toNatClampNeg).toInt := by rw [ev41]
                  refine lv_iconst (v := (-1)) hx hb dX11_verdict_147 (by decide) ?_
                  refine lv_ixor hx hb dX11_verdict_148 ?_
                  refine lv_topi (fun v42 ev42 => ?_)
                  refine lv_iand hx hb dX11_verdict_149 ?_
                  refine lv_topi (fun v43 ev43 => ?_)
                  refine st_i1 (va_runS (As := [.int v43]) (rest := []) ⟨hx, hb, hml, hown, hts⟩ (ct_X11_bits l D cI cY cJ cQ _ v43) (va_cwS 1 hts gX11_verdict_X11_bits rfl rfl rfl cdX11_bits ⟨Nat.le_of_ble_eq_true rfl, Nat.le_of_ble_eq_true rfl⟩) (cPreS (hP.sub [] rfl) hK (hD.sub [] (by decide +kernel) rfl) hN) rfl rfl hl.1 rfl (lv_room (Nat.le_of_ble_eq_true rfl)) dX11_verdict_150 ⟨Nat.le_of_ble_eq_true rfl, Nat.le_of_ble_eq_true rfl⟩) hP hD hS hA [] rfl (fun _ => rfl) (fun r46 u44 H locs hw45 => ?_)
                  clear hP hS
                  intro hP hS
                  replace hw45 : r46 = bmV v43 12 := hw45
                  subst hw45
                  refine lv_istore (lv' := [(6, .int (bmV v43 12)), (5, .int sk37), (0, .ref (md 64)), (1, .int k), (2, .int q21_2), (3, .int q77_3), (4, .int q77_4)]) hx hb dX11_verdict_153 hl (by decide) rfl (fun ls hl => ?_)
                  refine st_join 189 (fun (sk47 : Int32) => [.int sk47]) (fun (sk47 : Int32) (ls : Array Slot) (H : Heap) (locs : List Loc) => (sk47 = cvF sk37 (bmV v43 12)) ∧ lv_has ls 8 [(0, .ref (md 64)), (1, .int k), (2, .int q21_2), (3, .int q77_3), (4, .int q77_4), (5, .int sk37), (6, .int (bmV v43 12))] ∧ va_P D vwCl [(moC md sd (0) mst hn cn pn mq gn mln mnn ln mlt msz mcu mtk mfr mti mfa mfb an un lc td mtn), (aI cI (md 53) 60 uk), (aI cI (md 54) 60 uy), (aI cI (md 55) 60 uw), (aI cI (md 56) 60 um)] H ∧ va_D A [(moC md sd (0) mst hn cn pn mq gn mln mnn ln mlt msz mcu mtk mfr mti mfa mfb an un lc td mtn), (aI cI (md 53) 60 uk), (aI cI (md 54) 60 uy), (aI cI (md 55) 60 uw), (aI cI (md 56) 60 um)] ∧ va_S A s.heap H locs) ?_ ?_
                  · rintro sk47 ls H locs ⟨g48, hl, hP, hD, hS⟩
                    replace hl : lv_has ls 8 [(0, .ref (md 64)), (1, .int k), (2, .int q21_2), (3, .int q77_3), (4, .int q77_4), (5, .int sk37), (6, .int (bmV v43 12))] := hl
                    replace hP : va_P D vwCl [(moC md sd (0) mst hn cn pn mq gn mln mnn ln mlt msz mcu mtk mfr mti mfa mfb an un lc td mtn), (aI cI (md 53) 60 uk), (aI cI (md 54) 60 uy), (aI cI (md 55) 60 uw), (aI cI (md 56) 60 um)] H := hP
                    replace hD : va_D A [(moC md sd (0) mst hn cn pn mq gn mln mnn ln mlt msz mcu mtk mfr mti mfa mfb an un lc td mtn), (aI cI (md 53) 60 uk), (aI cI (md 54) 60 uy), (aI cI (md 55) 60 uw), (aI cI (md 56) 60 um)] := hD
                    show W _ _ _ _ _ _ _ _ _ _ _ _ _ _ _ (F0 m 189 ls [.int sk47])
                    refine lv_istore (lv' := [(7, .int sk47), (0, .ref (md 64)), (1, .int k), (2, .int q21_2), (3, .int q77_3), (4, .int q77_4), (5, .int sk37), (6, .int (bmV v43 12))]) hx hb dX11_verdict_189 hl (by decide) rfl (fun ls hl => ?_)
                    refine lv_iload hx hb dX11_verdict_191 (lv_at hl 0 rfl) ?_
                    refine lv_iload_n hx hb dX11_verdict_193 rfl (lv_at hl 4 rfl) ?_
                    refine lv_icmp_le (tgt := 202) hx hb dX11_verdict_194 (by decide) (fun c50 => ?_) (fun c50 => ?_)
                    · skip
                      have f51 := i_le c50
                      refine lv_iload_n hx hb dX11_verdict_202 rfl (lv_at hl 4 rfl) ?_
                      refine lv_istore_n (lv' := [(3, .int q77_3), (7, .int sk47), (0, .ref (md 64)), (1, .int k), (2, .int q21_2), (4, .int q77_4), (5, .int sk37), (6, .int (bmV v43 12))]) hx hb dX11_verdict_203 rfl hl (by decide) rfl (fun ls hl => ?_)
                      obtain ⟨v52, ev52⟩ : ∃ y : Int32, y = q77_4 + 1 := ⟨_, rfl⟩
                      try have tv52 : v52.toInt = q77_4.toInt + 1 := by rw [ev52]; exact (i_add (x := q77_4) (y := (1 : Int32)) (by rw [k1]; omega) (by rw [k1]; omega)).trans (by rw [k1])
                      refine lv_iinc (v := v52) (lv' := [(4, .int v52), (3, .int q77_3), (7, .int sk47), (0, .ref (md 64)), (1, .int k), (2, .int q21_2), (5, .int sk37), (6, .int (bmV v43 12))]) hx hb dX11_verdict_204 hl (k := 5) rfl (by rw [ev52]; rfl) (by decide) rfl (fun ls hl => ?_)
                      refine lv_goto (tgt := 77) hx hb dX11_verdict_207 (by decide) ?_
                      have clk8 := i_cl (x := q77_4) (by omega)
                      have clk9 := i_cl (x := v52) (by omega)
                      have ek9 : v52.toNatClampNeg = q77_4.toNatClampNeg + 1 := by omega
                      have ev9 : cvF (absV (uw q77_4.toNatClampNeg - uw q21_2.toNatClampNeg)) (bmV (um q21_2.toNatClampNeg &&& (um q77_4.toNatClampNeg ^^^ (-1))) 12) = sk47 := by rw [g48, g38, ev36, ev34, ev35, ev43, ev42, ev40, ev41]
                      exact ih19 (q77_3, v52) ls H locs ⟨(by omega), (by omega), (by rw [ek9, wmV_s, ← g18, if_pos ⟨by omega, by omega⟩, ev9]; exact maxV_f (by omega)), lv_sub hl [3, 4, 5, 1, 0] rfl, hP.sub [0, 1, 2, 3, 4] rfl, hD.sub [0, 1, 2, 3, 4] (by decide +kernel) rfl, hS⟩ (by show un.toInt - v52.toInt < _; omega)
                    · skip
                      have f53 := i_nle c50
                      refine lv_iload hx hb dX11_verdict_197 (lv_at hl 0 rfl) ?_
                      refine lv_goto (tgt := 203) hx hb dX11_verdict_199 (by decide) ?_
                      refine lv_istore_n (lv' := [(3, .int sk47), (7, .int sk47), (0, .ref (md 64)), (1, .int k), (2, .int q21_2), (4, .int q77_4), (5, .int sk37), (6, .int (bmV v43 12))]) hx hb dX11_verdict_203 rfl hl (by decide) rfl (fun ls hl => ?_)
                      obtain ⟨v54, ev54⟩ : ∃ y : Int32, y = q77_4 + 1 := ⟨_, rfl⟩
                      try have tv54 : v54.toInt = q77_4.toInt + 1 := by rw [ev54]; exact (i_add (x := q77_4) (y := (1 : Int32)) (by rw [k1]; omega) (by rw [k1]; omega)).trans (by rw [k1])
                      refine lv_iinc (v := v54) (lv' := [(4, .int v54), (3, .int sk47), (7, .int sk47), (0, .ref (md 64)), (1, .int k), (2, .int q21_2), (5, .int sk37), (6, .int (bmV v43 12))]) hx hb dX11_verdict_204 hl (k := 5) rfl (by rw [ev54]; rfl) (by decide) rfl (fun ls hl => ?_)
                      refine lv_goto (tgt := 77) hx hb dX11_verdict_207 (by decide) ?_
                      have clk8 := i_cl (x := q77_4) (by omega)
                      have clk9 := i_cl (x := v54) (by omega)
                      have ek9 : v54.toNatClampNeg = q77_4.toNatClampNeg + 1 := by omega
                      have ev9 : cvF (absV (uw q77_4.toNatClampNeg - uw q21_2.toNatClampNeg)) (bmV (um q21_2.toNatClampNeg &&& (um q77_4.toNatClampNeg ^^^ (-1))) 12) = sk47 := by rw [g48, g38, ev36, ev34, ev35, ev43, ev42, ev40, ev41]
                      exact ih19 (sk47, v54) ls H locs ⟨(by omega), (by omega), (by rw [ek9, wmV_s, ← g18, if_pos ⟨by omega, by omega⟩, ev9]; exact maxV_t (by omega)), lv_sub hl [3, 4, 5, 1, 0] rfl, hP.sub [0, 1, 2, 3, 4] rfl, hD.sub [0, 1, 2, 3, 4] (by decide +kernel) rfl, hS⟩ (by show un.toInt - v54.toInt < _; omega)
                  · intro hj49
                    refine lv_iload hx hb dX11_verdict_155 (lv_at hl 1 rfl) ?_
                    refine lv_bipush (v := 100) hx hb dX11_verdict_157 (by decide) ?_
                    refine lv_icmp_gt (tgt := 168) hx hb dX11_verdict_159 (by decide) (fun c55 => ?_) (fun c55 => ?_)
                    · skip
                      have f56 := i_lt c55
                      refine lv_iconst (v := 2) hx hb dX11_verdict_168 (by decide) ?_
                      refine lv_goto (tgt := 189) hx hb dX11_verdict_169 (by decide) ?_
                      exact hj49 (2 : Int32) ls _ _ ⟨(by first | exact cvF_2 (by omega) | exact cvF_1 (by omega) (by omega) | exact cvF_0 (by omega) (by omega)), lv_sub hl [2, 3, 4, 5, 6, 1, 0] rfl, hP.sub [0, 1, 2, 3, 4] rfl, hD.sub [0, 1, 2, 3, 4] (by decide +kernel) rfl, hS⟩
                    · skip
                      have f57 := i_nlt c55
                      refine lv_iload hx hb dX11_verdict_162 (lv_at hl 0 rfl) ?_
                      refine lv_iconst (v := 1) hx hb dX11_verdict_164 (by decide) ?_
                      refine lv_icmp_le (tgt := 172) hx hb dX11_verdict_165 (by decide) (fun c58 => ?_) (fun c58 => ?_)
                      · skip
                        have f59 := i_le c58
                        refine lv_iload hx hb dX11_verdict_172 (lv_at hl 1 rfl) ?_
                        refine lv_bipush (v := 10) hx hb dX11_verdict_174 (by decide) ?_
                        refine lv_icmp_gt (tgt := 184) hx hb dX11_verdict_176 (by decide) (fun c60 => ?_) (fun c60 => ?_)
                        · skip
                          have f61 := i_lt c60
                          refine lv_iconst (v := 1) hx hb dX11_verdict_184 (by decide) ?_
                          refine lv_goto (tgt := 189) hx hb dX11_verdict_185 (by decide) ?_
                          exact hj49 (1 : Int32) ls _ _ ⟨(by first | exact cvF_2 (by omega) | exact cvF_1 (by omega) (by omega) | exact cvF_0 (by omega) (by omega)), lv_sub hl [2, 3, 4, 5, 6, 1, 0] rfl, hP.sub [0, 1, 2, 3, 4] rfl, hD.sub [0, 1, 2, 3, 4] (by decide +kernel) rfl, hS⟩
                        · skip
                          have f62 := i_nlt c60
                          refine lv_iload hx hb dX11_verdict_179 (lv_at hl 0 rfl) ?_
                          refine lv_if_le (tgt := 188) hx hb dX11_verdict_181 (by decide) (fun c63 => ?_) (fun c63 => ?_)
                          · skip
                            have f64 := i_le c63
                            refine lv_iconst (v := 0) hx hb dX11_verdict_188 (by decide) ?_
                            exact hj49 (0 : Int32) ls _ _ ⟨(by first | exact cvF_2 (by omega) | exact cvF_1 (by omega) (by omega) | exact cvF_0 (by omega) (by omega)), lv_sub hl [2, 3, 4, 5, 6, 1, 0] rfl, hP.sub [0, 1, 2, 3, 4] rfl, hD.sub [0, 1, 2, 3, 4] (by decide +kernel) rfl, hS⟩
                          · skip
                            have f65 := i_nle c63
                            refine lv_iconst (v := 1) hx hb dX11_verdict_184 (by decide) ?_
                            refine lv_goto (tgt := 189) hx hb dX11_verdict_185 (by decide) ?_
                            exact hj49 (1 : Int32) ls _ _ ⟨(by first | exact cvF_2 (by omega) | exact cvF_1 (by omega) (by omega) | exact cvF_0 (by omega) (by omega)), lv_sub hl [2, 3, 4, 5, 6, 1, 0] rfl, hP.sub [0, 1, 2, 3, 4] rfl, hD.sub [0, 1, 2, 3, 4] (by decide +kernel) rfl, hS⟩
                      · skip
                        have f66 := i_nle c58
                        refine lv_iconst (v := 2) hx hb dX11_verdict_168 (by decide) ?_
                        refine lv_goto (tgt := 189) hx hb dX11_verdict_169 (by decide) ?_
                        exact hj49 (2 : Int32) ls _ _ ⟨(by first | exact cvF_2 (by omega) | exact cvF_1 (by omega) (by omega) | exact cvF_0 (by omega) (by omega)), lv_sub hl [2, 3, 4, 5, 6, 1, 0] rfl, hP.sub [0, 1, 2, 3, 4] rfl, hD.sub [0, 1, 2, 3, 4] (by decide +kernel) rfl, hS⟩
                · intro hj39
                  refine lv_iload hx hb dX11_verdict_119 (lv_at hl 0 rfl) ?_
                  refine lv_if_ge (tgt := 130) hx hb dX11_verdict_121 (by decide) (fun c67 => ?_) (fun c67 => ?_)
                  · skip
                    have f68 := i_le c67
                    refine lv_iload hx hb dX11_verdict_130 (lv_at hl 0 rfl) ?_
                    exact hj39 v36 ls _ _ ⟨(by first | exact absV_p (by omega) | exact absV_n (by omega) (by assumption)), lv_sub hl [1, 2, 3, 4, 5, 0] rfl, hP.sub [0, 1, 2, 3, 4] rfl, hD.sub [0, 1, 2, 3, 4] (by decide +kernel) rfl, hS⟩
                  · skip
                    have f69 := i_nle c67
                    refine lv_iload hx hb dX11_verdict_124 (lv_at hl 0 rfl) ?_
                    refine lv_ineg hx hb dX11_verdict_126 ?_
                    refine lv_topi (fun v70 ev70 => ?_)
                    refine lv_goto (tgt := 132) hx hb dX11_verdict_127 (by decide) ?_
                    exact hj39 v70 ls _ _ ⟨(by first | exact absV_p (by omega) | exact absV_n (by omega) (by assumption)), lv_sub hl [1, 2, 3, 4, 5, 0] rfl, hP.sub [0, 1, 2, 3, 4] rfl, hD.sub [0, 1, 2, 3, 4] (by decide +kernel) rfl, hS⟩
      · skip
        have f71 := i_nle c14
        refine lv_aload_n hx hb dX11_verdict_29 rfl (lv_at hl 0 rfl) ?_
        refine va_get (D := D) (ci := 11) (v := .ref (md 53)) (C := RX11) (T := TX11) (N := 64) hx hb hts inX11_verdict_X11 hown hK hP 0 rfl rfl 53 (by decide) (hts (Cond.fieldLink RX11 111 "PortRoomsModel" "openCrate" "[I") (wm_t (wm_l (wm_i 4 rfl)))) (fun _ h9 => h9) rfl dX11_verdict_30 ?_
        refine lv_iload_n hx hb dX11_verdict_33 rfl (lv_at hl 3 rfl) ?_
        refine va_iald hx hb hK hP 1 0 rfl rfl (i_in (by omega) (by omega)) dX11_verdict_34 ?_
        refine lv_topi (fun v72 ev72 => ?_)
        have tlv72 : v72.toInt = (uk q21_3.toNatClampNeg).toInt := by rw [ev72]
        refine lv_iload_n hx hb dX11_verdict_35 rfl (lv_at hl 1 rfl) ?_
        refine lv_icmp_ne (tgt := 64) hx hb dX11_verdict_36 (by decide) (fun c73 => ?_) (fun c73 => ?_)
        · skip
          have f74 := i_ne c73
          refine lv_iload_n hx hb dX11_verdict_64 rfl (lv_at hl 2 rfl) ?_
          refine lv_istore_n (lv' := [(2, .int q21_2), (0, .ref (md 64)), (1, .int k), (3, .int q21_3)]) hx hb dX11_verdict_65 rfl hl (by decide) rfl (fun ls hl => ?_)
          obtain ⟨v75, ev75⟩ : ∃ y : Int32, y = q21_3 + 1 := ⟨_, rfl⟩
          try have tv75 : v75.toInt = q21_3.toInt + 1 := by rw [ev75]; exact (i_add (x := q21_3) (y := (1 : Int32)) (by rw [k1]; omega) (by rw [k1]; omega)).trans (by rw [k1])
          refine lv_iinc (v := v75) (lv' := [(3, .int v75), (2, .int q21_2), (0, .ref (md 64)), (1, .int k)]) hx hb dX11_verdict_66 hl (k := 3) rfl (by rw [ev75]; rfl) (by decide) rfl (fun ls hl => ?_)
          refine lv_goto (tgt := 21) hx hb dX11_verdict_69 (by decide) ?_
          have clk8 := i_cl (x := q21_3) (by omega)
          have clk9 := i_cl (x := v75) (by omega)
          have ek9 : v75.toNatClampNeg = q21_3.toNatClampNeg + 1 := by omega
          have nk9 : nI q21_3.toNatClampNeg = q21_3 := i_nI (by omega)
          exact ih11 (q21_2, v75) ls H locs ⟨(by omega), (by omega), (by omega), (by first | (intro h9; exfalso; omega) | (intro h9; exact ver_step (g9 h9) (by omega) (by omega) (by rw [← ev72]; assumption))), (by rw [ek9, onV_s, nk9, ← g10]; (repeat' split) <;> first | (exfalso; omega) | rfl), lv_sub hl [2, 3, 1, 0] rfl, hP.sub [0, 1, 2, 3, 4] rfl, hD.sub [0, 1, 2, 3, 4] (by decide +kernel) rfl, hS⟩ (by show un.toInt - v75.toInt < _; omega)
        · skip
          have f76 := i_eq c73
          refine lv_iload_n hx hb dX11_verdict_39 rfl (lv_at hl 2 rfl) ?_
          refine lv_ldc hx hb hown (hts (Cond.constant RX11 139 (-1000000)) (wm_t (wm_l (wm_i 2 rfl)))) dX11_verdict_40 ?_
          refine lv_icmp_eq (tgt := 60) hx hb dX11_verdict_42 (by decide) (fun c77 => ?_) (fun c77 => ?_)
          · skip
            have f78 := i_eq c77
            refine lv_iload_n hx hb dX11_verdict_60 rfl (lv_at hl 3 rfl) ?_
            refine lv_goto (tgt := 65) hx hb dX11_verdict_61 (by decide) ?_
            refine lv_istore_n (lv' := [(2, .int q21_3), (0, .ref (md 64)), (1, .int k), (3, .int q21_3)]) hx hb dX11_verdict_65 rfl hl (by decide) rfl (fun ls hl => ?_)
            obtain ⟨v79, ev79⟩ : ∃ y : Int32, y = q21_3 + 1 := ⟨_, rfl⟩
            try have tv79 : v79.toInt = q21_3.toInt + 1 := by rw [ev79]; exact (i_add (x := q21_3) (y := (1 : Int32)) (by rw [k1]; omega) (by rw [k1]; omega)).trans (by rw [k1])
            refine lv_iinc (v := v79) (lv' := [(3, .int v79), (2, .int q21_3), (0, .ref (md 64)), (1, .int k)]) hx hb dX11_verdict_66 hl (k := 3) rfl (by rw [ev79]; rfl) (by decide) rfl (fun ls hl => ?_)
            refine lv_goto (tgt := 21) hx hb dX11_verdict_69 (by decide) ?_
            have clk8 := i_cl (x := q21_3) (by omega)
            have clk9 := i_cl (x := v79) (by omega)
            have ek9 : v79.toNatClampNeg = q21_3.toNatClampNeg + 1 := by omega
            have nk9 : nI q21_3.toNatClampNeg = q21_3 := i_nI (by omega)
            exact ih11 (q21_3, v79) ls H locs ⟨(by omega), (by omega), (by omega), (by first | (intro h9; exfalso; omega) | (intro h9; exact ver_step (g9 h9) (by omega) (by omega) (by rw [← ev72]; assumption))), (by rw [ek9, onV_s, nk9, ← g10]; (repeat' split) <;> first | (exfalso; omega) | rfl), lv_sub hl [2, 3, 1, 0] rfl, hP.sub [0, 1, 2, 3, 4] rfl, hD.sub [0, 1, 2, 3, 4] (by decide +kernel) rfl, hS⟩ (by show un.toInt - v79.toInt < _; omega)
          · skip
            have f80 := i_ne c77
            refine lv_aload_n hx hb dX11_verdict_45 rfl (lv_at hl 0 rfl) ?_
            refine va_get (D := D) (ci := 11) (v := .ref (md 54)) (C := RX11) (T := TX11) (N := 64) hx hb hts inX11_verdict_X11 hown hK hP 0 rfl rfl 54 (by decide) (hts (Cond.fieldLink RX11 114 "PortRoomsModel" "openDay" "[I") (wm_t (wm_l (wm_i 5 rfl)))) (fun _ h9 => h9) rfl dX11_verdict_46 ?_
            refine lv_iload_n hx hb dX11_verdict_49 rfl (lv_at hl 3 rfl) ?_
            refine va_iald hx hb hK hP 2 0 rfl rfl (i_in (by omega) (by omega)) dX11_verdict_50 ?_
            refine lv_topi (fun v81 ev81 => ?_)
            have tlv81 : v81.toInt = (uy q21_3.toNatClampNeg).toInt := by rw [ev81]
            refine lv_aload_n hx hb dX11_verdict_51 rfl (lv_at hl 0 rfl) ?_
            refine va_get (D := D) (ci := 11) (v := .ref (md 54)) (C := RX11) (T := TX11) (N := 64) hx hb hts inX11_verdict_X11 hown hK hP 0 rfl rfl 54 (by decide) (hts (Cond.fieldLink RX11 114 "PortRoomsModel" "openDay" "[I") (wm_t (wm_l (wm_i 5 rfl)))) (fun _ h9 => h9) rfl dX11_verdict_52 ?_
            refine lv_iload_n hx hb dX11_verdict_55 rfl (lv_at hl 2 rfl) ?_
            refine va_iald hx hb hK hP 2 0 rfl rfl (i_in (by omega) (by omega)) dX11_verdict_56 ?_
            refine lv_topi (fun v82 ev82 => ?_)
            have tlv82 : v82.toInt = (uy q21_2.toNatClampNeg).toInt := by rw [ev82]
            refine lv_icmp_ge (tgt := 64) hx hb dX11_verdict_57 (by decide) (fun c83 => ?_) (fun c83 => ?_)
            · skip
              have f84 := i_le c83
              refine lv_iload_n hx hb dX11_verdict_64 rfl (lv_at hl 2 rfl) ?_
              refine lv_istore_n (lv' := [(2, .int q21_2), (0, .ref (md 64)), (1, .int k), (3, .int q21_3)]) hx hb dX11_verdict_65 rfl hl (by decide) rfl (fun ls hl => ?_)
              obtain ⟨v85, ev85⟩ : ∃ y : Int32, y = q21_3 + 1 := ⟨_, rfl⟩
              try have tv85 : v85.toInt = q21_3.toInt + 1 := by rw [ev85]; exact (i_add (x := q21_3) (y := (1 : Int32)) (by rw [k1]; omega) (by rw [k1]; omega)).trans (by rw [k1])
              refine lv_iinc (v := v85) (lv' := [(3, .int v85), (2, .int q21_2), (0, .ref (md 64)), (1, .int k)]) hx hb dX11_verdict_66 hl (k := 3) rfl (by rw [ev85]; rfl) (by decide) rfl (fun ls hl => ?_)
              refine lv_goto (tgt := 21) hx hb dX11_verdict_69 (by decide) ?_
              have clk8 := i_cl (x := q21_3) (by omega)
              have clk9 := i_cl (x := v85) (by omega)
              have ek9 : v85.toNatClampNeg = q21_3.toNatClampNeg + 1 := by omega
              have nk9 : nI q21_3.toNatClampNeg = q21_3 := i_nI (by omega)
              exact ih11 (q21_2, v85) ls H locs ⟨(by omega), (by omega), (by omega), (by first | (intro h9; exfalso; omega) | (intro h9; exact ver_step (g9 h9) (by omega) (by omega) (by rw [← ev72]; assumption))), (by rw [ek9, onV_s, nk9, ← g10]; (repeat' split) <;> first | (exfalso; omega) | rfl), lv_sub hl [2, 3, 1, 0] rfl, hP.sub [0, 1, 2, 3, 4] rfl, hD.sub [0, 1, 2, 3, 4] (by decide +kernel) rfl, hS⟩ (by show un.toInt - v85.toInt < _; omega)
            · skip
              have f86 := i_nle c83
              refine lv_iload_n hx hb dX11_verdict_60 rfl (lv_at hl 3 rfl) ?_
              refine lv_goto (tgt := 65) hx hb dX11_verdict_61 (by decide) ?_
              refine lv_istore_n (lv' := [(2, .int q21_3), (0, .ref (md 64)), (1, .int k), (3, .int q21_3)]) hx hb dX11_verdict_65 rfl hl (by decide) rfl (fun ls hl => ?_)
              obtain ⟨v87, ev87⟩ : ∃ y : Int32, y = q21_3 + 1 := ⟨_, rfl⟩
              try have tv87 : v87.toInt = q21_3.toInt + 1 := by rw [ev87]; exact (i_add (x := q21_3) (y := (1 : Int32)) (by rw [k1]; omega) (by rw [k1]; omega)).trans (by rw [k1])
              refine lv_iinc (v := v87) (lv' := [(3, .int v87), (2, .int q21_3), (0, .ref (md 64)), (1, .int k)]) hx hb dX11_verdict_66 hl (k := 3) rfl (by rw [ev87]; rfl) (by decide) rfl (fun ls hl => ?_)
              refine lv_goto (tgt := 21) hx hb dX11_verdict_69 (by decide) ?_
              have clk8 := i_cl (x := q21_3) (by omega)
              have clk9 := i_cl (x := v87) (by omega)
              have ek9 : v87.toNatClampNeg = q21_3.toNatClampNeg + 1 := by omega
              have nk9 : nI q21_3.toNatClampNeg = q21_3 := i_nI (by omega)
              exact ih11 (q21_3, v87) ls H locs ⟨(by omega), (by omega), (by omega), (by first | (intro h9; exfalso; omega) | (intro h9; exact ver_step (g9 h9) (by omega) (by omega) (by rw [← ev72]; assumption))), (by rw [ek9, onV_s, nk9, ← g10]; (repeat' split) <;> first | (exfalso; omega) | rfl), lv_sub hl [2, 3, 1, 0] rfl, hP.sub [0, 1, 2, 3, 4] rfl, hD.sub [0, 1, 2, 3, 4] (by decide +kernel) rfl, hS⟩ (by show un.toInt - v87.toInt < _; omega)
  · skip
    have f88 := bo_f hw2 c4
    refine lv_ldc hx hb hown (hts (Cond.constant RX11 157 (-1000001)) (wm_t (wm_l (wm_i 1 rfl)))) dX11_verdict_13 ?_
    have hP9 := hP
    have hD9 := hD
    exact W.iret (v := (-1000001)) hx hb hr (fun t ht hW => ⟨⟨(-1000001), (), rfl, (by unfold sm_verdict; rw [if_neg (by omega)]), by rw [ht]; exact hP9, va_K.moved hW.alike hK, hD9⟩, hS.F ht⟩) hS.2.2 dX11_verdict_15
