theorem inX11_rings_X11 : ∀ w ∈ u_ws RX11 TX11 64, w ∈ wsX11_rings := fun _ h => (List.mem_cons_of_mem _ (List.mem_append_right _ (List.mem_append_left _ (List.mem_append_left _ h))))
theorem ggX11_rings_X11_isDay : GoodIn wsX11_rings wsX11_isDay := goodIn_s (fun _ h => wm_t (wm_r (wm_l (wm_r h)))) Gd_X11_isDay
theorem gX11_rings_X11_isDay : GoodIn wsX11_rings (va_wsS RX11 178 yX11_isDay wsX11_isDay) := goodIn_S (own := RX11) (idx := 178) (y := yX11_isDay) (wm_t (wm_l (wm_i 3 rfl))) (wm_t (wm_l (wm_i 4 rfl))) (wm_t (wm_l (wm_i 5 rfl))) ggX11_rings_X11_isDay
theorem ggX11_rings_X11_findHas : GoodIn wsX11_rings wsX11_findHas := goodIn_s (fun _ h => wm_t (wm_r (wm_r h))) Gd_X11_findHas
theorem gX11_rings_X11_findHas : GoodIn wsX11_rings (wsV RX11 200 RX11 yX11_findHas wsX11_findHas) := goodIn_V (own := RX11) (idx := 200) (C := RX11) (y := yX11_findHas) (wm_t (wm_l (wm_i 6 rfl))) (wm_t (wm_l (wm_i 7 rfl))) (wm_t (wm_l (wm_i 8 rfl))) (wm_t (wm_l (wm_i 5 rfl))) ggX11_rings_X11_findHas
theorem dX11_rings_all0 : decode cX11_rings 0 = .ok (.aload_n 0, 1) ∧ decode cX11_rings 1 = .ok (.iconst 0, 1) ∧ decode cX11_rings 2 = .ok (.putfield 1, 3) ∧ decode cX11_rings 5 = .ok (.iload_n 1, 1) ∧ decode cX11_rings 6 = .ok (.invokestatic 178, 3) ∧ decode cX11_rings 9 = .ok (.ifCond .ne 6, 3) ∧ decode cX11_rings 12 = .ok (.ldc 157, 2) ∧ decode cX11_rings 14 = .ok (.ireturn, 1) ∧ decode cX11_rings 15 = .ok (.aload_n 0, 1) ∧ decode cX11_rings 16 = .ok (.iload_n 1, 1) ∧ decode cX11_rings 17 = .ok (.invokevirtual 200, 3) ∧ decode cX11_rings 20 = .ok (.iconst 0, 1) := by decide +kernel
theorem dX11_rings_0 : decode cX11_rings 0 = .ok (.aload_n 0, 1) := dX11_rings_all0.1
theorem dX11_rings_1 : decode cX11_rings 1 = .ok (.iconst 0, 1) := dX11_rings_all0.2.1
theorem dX11_rings_2 : decode cX11_rings 2 = .ok (.putfield 1, 3) := dX11_rings_all0.2.2.1
theorem dX11_rings_5 : decode cX11_rings 5 = .ok (.iload_n 1, 1) := dX11_rings_all0.2.2.2.1
theorem dX11_rings_6 : decode cX11_rings 6 = .ok (.invokestatic 178, 3) := dX11_rings_all0.2.2.2.2.1
theorem dX11_rings_9 : decode cX11_rings 9 = .ok (.ifCond .ne 6, 3) := dX11_rings_all0.2.2.2.2.2.1
theorem dX11_rings_12 : decode cX11_rings 12 = .ok (.ldc 157, 2) := dX11_rings_all0.2.2.2.2.2.2.1
theorem dX11_rings_14 : decode cX11_rings 14 = .ok (.ireturn, 1) := dX11_rings_all0.2.2.2.2.2.2.2.1
theorem dX11_rings_15 : decode cX11_rings 15 = .ok (.aload_n 0, 1) := dX11_rings_all0.2.2.2.2.2.2.2.2.1
theorem dX11_rings_16 : decode cX11_rings 16 = .ok (.iload_n 1, 1) := dX11_rings_all0.2.2.2.2.2.2.2.2.2.1
theorem dX11_rings_17 : decode cX11_rings 17 = .ok (.invokevirtual 200, 3) := dX11_rings_all0.2.2.2.2.2.2.2.2.2.2.1
theorem dX11_rings_20 : decode cX11_rings 20 = .ok (.iconst 0, 1) := dX11_rings_all0.2.2.2.2.2.2.2.2.2.2.2
theorem dX11_rings_all1 : decode cX11_rings 21 = .ok (.istore_n 2, 1) ∧ decode cX11_rings 22 = .ok (.iconst 0, 1) ∧ decode cX11_rings 23 = .ok (.istore_n 3, 1) ∧ decode cX11_rings 24 = .ok (.iload_n 3, 1) ∧ decode cX11_rings 25 = .ok (.bipush 10, 2) ∧ decode cX11_rings 27 = .ok (.if_icmp .ge 139, 3) ∧ decode cX11_rings 30 = .ok (.iconst 0, 1) ∧ decode cX11_rings 31 = .ok (.istore 4, 2) ∧ decode cX11_rings 33 = .ok (.iconst 1, 1) ∧ decode cX11_rings 34 = .ok (.iload_n 3, 1) ∧ decode cX11_rings 35 = .ok (.ishl, 1) ∧ decode cX11_rings 36 = .ok (.istore 5, 2) := by decide +kernel
theorem dX11_rings_21 : decode cX11_rings 21 = .ok (.istore_n 2, 1) := dX11_rings_all1.1
theorem dX11_rings_22 : decode cX11_rings 22 = .ok (.iconst 0, 1) := dX11_rings_all1.2.1
theorem dX11_rings_23 : decode cX11_rings 23 = .ok (.istore_n 3, 1) := dX11_rings_all1.2.2.1
theorem dX11_rings_24 : decode cX11_rings 24 = .ok (.iload_n 3, 1) := dX11_rings_all1.2.2.2.1
theorem dX11_rings_25 : decode cX11_rings 25 = .ok (.bipush 10, 2) := dX11_rings_all1.2.2.2.2.1
theorem dX11_rings_27 : decode cX11_rings 27 = .ok (.if_icmp .ge 139, 3) := dX11_rings_all1.2.2.2.2.2.1
theorem dX11_rings_30 : decode cX11_rings 30 = .ok (.iconst 0, 1) := dX11_rings_all1.2.2.2.2.2.2.1
theorem dX11_rings_31 : decode cX11_rings 31 = .ok (.istore 4, 2) := dX11_rings_all1.2.2.2.2.2.2.2.1
theorem dX11_rings_33 : decode cX11_rings 33 = .ok (.iconst 1, 1) := dX11_rings_all1.2.2.2.2.2.2.2.2.1
theorem dX11_rings_34 : decode cX11_rings 34 = .ok (.iload_n 3, 1) := dX11_rings_all1.2.2.2.2.2.2.2.2.2.1
theorem dX11_rings_35 : decode cX11_rings 35 = .ok (.ishl, 1) := dX11_rings_all1.2.2.2.2.2.2.2.2.2.2.1
theorem dX11_rings_36 : decode cX11_rings 36 = .ok (.istore 5, 2) := dX11_rings_all1.2.2.2.2.2.2.2.2.2.2.2
theorem dX11_rings_all2 : decode cX11_rings 38 = .ok (.iconst 0, 1) ∧ decode cX11_rings 39 = .ok (.istore 6, 2) ∧ decode cX11_rings 41 = .ok (.iload 6, 2) ∧ decode cX11_rings 43 = .ok (.bipush 11, 2) ∧ decode cX11_rings 45 = .ok (.if_icmp .ge 95, 3) ∧ decode cX11_rings 48 = .ok (.iload 4, 2) ∧ decode cX11_rings 50 = .ok (.istore 7, 2) ∧ decode cX11_rings 52 = .ok (.iconst 0, 1) ∧ decode cX11_rings 53 = .ok (.istore 8, 2) ∧ decode cX11_rings 55 = .ok (.iload 8, 2) ∧ decode cX11_rings 57 = .ok (.bipush 10, 2) ∧ decode cX11_rings 59 = .ok (.if_icmp .ge 71, 3) := by decide +kernel
theorem dX11_rings_38 : decode cX11_rings 38 = .ok (.iconst 0, 1) := dX11_rings_all2.1
theorem dX11_rings_39 : decode cX11_rings 39 = .ok (.istore 6, 2) := dX11_rings_all2.2.1
theorem dX11_rings_41 : decode cX11_rings 41 = .ok (.iload 6, 2) := dX11_rings_all2.2.2.1
theorem dX11_rings_43 : decode cX11_rings 43 = .ok (.bipush 11, 2) := dX11_rings_all2.2.2.2.1
theorem dX11_rings_45 : decode cX11_rings 45 = .ok (.if_icmp .ge 95, 3) := dX11_rings_all2.2.2.2.2.1
theorem dX11_rings_48 : decode cX11_rings 48 = .ok (.iload 4, 2) := dX11_rings_all2.2.2.2.2.2.1
theorem dX11_rings_50 : decode cX11_rings 50 = .ok (.istore 7, 2) := dX11_rings_all2.2.2.2.2.2.2.1
theorem dX11_rings_52 : decode cX11_rings 52 = .ok (.iconst 0, 1) := dX11_rings_all2.2.2.2.2.2.2.2.1
theorem dX11_rings_53 : decode cX11_rings 53 = .ok (.istore 8, 2) := dX11_rings_all2.2.2.2.2.2.2.2.2.1
theorem dX11_rings_55 : decode cX11_rings 55 = .ok (.iload 8, 2) := dX11_rings_all2.2.2.2.2.2.2.2.2.2.1
theorem dX11_rings_57 : decode cX11_rings 57 = .ok (.bipush 10, 2) := dX11_rings_all2.2.2.2.2.2.2.2.2.2.2.1
theorem dX11_rings_59 : decode cX11_rings 59 = .ok (.if_icmp .ge 71, 3) := dX11_rings_all2.2.2.2.2.2.2.2.2.2.2.2
theorem dX11_rings_all3 : decode cX11_rings 62 = .ok (.iconst 0, 1) ∧ decode cX11_rings 63 = .ok (.istore 9, 2) ∧ decode cX11_rings 65 = .ok (.iload 9, 2) ∧ decode cX11_rings 67 = .ok (.bipush 10, 2) ∧ decode cX11_rings 69 = .ok (.if_icmp .ge 55, 3) ∧ decode cX11_rings 72 = .ok (.iload 4, 2) ∧ decode cX11_rings 74 = .ok (.iload 5, 2) ∧ decode cX11_rings 76 = .ok (.ior, 1) ∧ decode cX11_rings 77 = .ok (.iload 8, 2) ∧ decode cX11_rings 79 = .ok (.ishr, 1) ∧ decode cX11_rings 80 = .ok (.iconst 1, 1) ∧ decode cX11_rings 81 = .ok (.iand, 1) := by decide +kernel
theorem dX11_rings_62 : decode cX11_rings 62 = .ok (.iconst 0, 1) := dX11_rings_all3.1
theorem dX11_rings_63 : decode cX11_rings 63 = .ok (.istore 9, 2) := dX11_rings_all3.2.1
theorem dX11_rings_65 : decode cX11_rings 65 = .ok (.iload 9, 2) := dX11_rings_all3.2.2.1
theorem dX11_rings_67 : decode cX11_rings 67 = .ok (.bipush 10, 2) := dX11_rings_all3.2.2.2.1
theorem dX11_rings_69 : decode cX11_rings 69 = .ok (.if_icmp .ge 55, 3) := dX11_rings_all3.2.2.2.2.1
theorem dX11_rings_72 : decode cX11_rings 72 = .ok (.iload 4, 2) := dX11_rings_all3.2.2.2.2.2.1
theorem dX11_rings_74 : decode cX11_rings 74 = .ok (.iload 5, 2) := dX11_rings_all3.2.2.2.2.2.2.1
theorem dX11_rings_76 : decode cX11_rings 76 = .ok (.ior, 1) := dX11_rings_all3.2.2.2.2.2.2.2.1
theorem dX11_rings_77 : decode cX11_rings 77 = .ok (.iload 8, 2) := dX11_rings_all3.2.2.2.2.2.2.2.2.1
theorem dX11_rings_79 : decode cX11_rings 79 = .ok (.ishr, 1) := dX11_rings_all3.2.2.2.2.2.2.2.2.2.1
theorem dX11_rings_80 : decode cX11_rings 80 = .ok (.iconst 1, 1) := dX11_rings_all3.2.2.2.2.2.2.2.2.2.2.1
theorem dX11_rings_81 : decode cX11_rings 81 = .ok (.iand, 1) := dX11_rings_all3.2.2.2.2.2.2.2.2.2.2.2
theorem dX11_rings_all4 : decode cX11_rings 82 = .ok (.iconst 1, 1) ∧ decode cX11_rings 83 = .ok (.if_icmp .ne 41, 3) ∧ decode cX11_rings 86 = .ok (.iload 7, 2) ∧ decode cX11_rings 88 = .ok (.aload_n 0, 1) ∧ decode cX11_rings 89 = .ok (.getfield 35, 3) ∧ decode cX11_rings 92 = .ok (.bipush 10, 2) ∧ decode cX11_rings 94 = .ok (.iload 8, 2) ∧ decode cX11_rings 96 = .ok (.bipush 10, 2) ∧ decode cX11_rings 98 = .ok (.iadd, 1) ∧ decode cX11_rings 99 = .ok (.imul, 1) ∧ decode cX11_rings 100 = .ok (.iload 9, 2) ∧ decode cX11_rings 102 = .ok (.iadd, 1) := by decide +kernel
theorem dX11_rings_82 : decode cX11_rings 82 = .ok (.iconst 1, 1) := dX11_rings_all4.1
theorem dX11_rings_83 : decode cX11_rings 83 = .ok (.if_icmp .ne 41, 3) := dX11_rings_all4.2.1
theorem dX11_rings_86 : decode cX11_rings 86 = .ok (.iload 7, 2) := dX11_rings_all4.2.2.1
theorem dX11_rings_88 : decode cX11_rings 88 = .ok (.aload_n 0, 1) := dX11_rings_all4.2.2.2.1
theorem dX11_rings_89 : decode cX11_rings 89 = .ok (.getfield 35, 3) := dX11_rings_all4.2.2.2.2.1
theorem dX11_rings_92 : decode cX11_rings 92 = .ok (.bipush 10, 2) := dX11_rings_all4.2.2.2.2.2.1
theorem dX11_rings_94 : decode cX11_rings 94 = .ok (.iload 8, 2) := dX11_rings_all4.2.2.2.2.2.2.1
theorem dX11_rings_96 : decode cX11_rings 96 = .ok (.bipush 10, 2) := dX11_rings_all4.2.2.2.2.2.2.2.1
theorem dX11_rings_98 : decode cX11_rings 98 = .ok (.iadd, 1) := dX11_rings_all4.2.2.2.2.2.2.2.2.1
theorem dX11_rings_99 : decode cX11_rings 99 = .ok (.imul, 1) := dX11_rings_all4.2.2.2.2.2.2.2.2.2.1
theorem dX11_rings_100 : decode cX11_rings 100 = .ok (.iload 9, 2) := dX11_rings_all4.2.2.2.2.2.2.2.2.2.2.1
theorem dX11_rings_102 : decode cX11_rings 102 = .ok (.iadd, 1) := dX11_rings_all4.2.2.2.2.2.2.2.2.2.2.2
theorem dX11_rings_all5 : decode cX11_rings 103 = .ok (.iaload, 1) ∧ decode cX11_rings 104 = .ok (.ifCond .le 10, 3) ∧ decode cX11_rings 107 = .ok (.iconst 1, 1) ∧ decode cX11_rings 108 = .ok (.iload 9, 2) ∧ decode cX11_rings 110 = .ok (.ishl, 1) ∧ decode cX11_rings 111 = .ok (.goto 4, 3) ∧ decode cX11_rings 114 = .ok (.iconst 0, 1) ∧ decode cX11_rings 115 = .ok (.ior, 1) ∧ decode cX11_rings 116 = .ok (.istore 7, 2) ∧ decode cX11_rings 118 = .ok (.iinc 9 1, 3) ∧ decode cX11_rings 121 = .ok (.goto (-56), 3) ∧ decode cX11_rings 124 = .ok (.iinc 8 1, 3) := by decide +kernel
theorem dX11_rings_103 : decode cX11_rings 103 = .ok (.iaload, 1) := dX11_rings_all5.1
theorem dX11_rings_104 : decode cX11_rings 104 = .ok (.ifCond .le 10, 3) := dX11_rings_all5.2.1
theorem dX11_rings_107 : decode cX11_rings 107 = .ok (.iconst 1, 1) := dX11_rings_all5.2.2.1
theorem dX11_rings_108 : decode cX11_rings 108 = .ok (.iload 9, 2) := dX11_rings_all5.2.2.2.1
theorem dX11_rings_110 : decode cX11_rings 110 = .ok (.ishl, 1) := dX11_rings_all5.2.2.2.2.1
theorem dX11_rings_111 : decode cX11_rings 111 = .ok (.goto 4, 3) := dX11_rings_all5.2.2.2.2.2.1
theorem dX11_rings_114 : decode cX11_rings 114 = .ok (.iconst 0, 1) := dX11_rings_all5.2.2.2.2.2.2.1
theorem dX11_rings_115 : decode cX11_rings 115 = .ok (.ior, 1) := dX11_rings_all5.2.2.2.2.2.2.2.1
theorem dX11_rings_116 : decode cX11_rings 116 = .ok (.istore 7, 2) := dX11_rings_all5.2.2.2.2.2.2.2.2.1
theorem dX11_rings_118 : decode cX11_rings 118 = .ok (.iinc 9 1, 3) := dX11_rings_all5.2.2.2.2.2.2.2.2.2.1
theorem dX11_rings_121 : decode cX11_rings 121 = .ok (.goto (-56), 3) := dX11_rings_all5.2.2.2.2.2.2.2.2.2.2.1
theorem dX11_rings_124 : decode cX11_rings 124 = .ok (.iinc 8 1, 3) := dX11_rings_all5.2.2.2.2.2.2.2.2.2.2.2
theorem dX11_rings_all6 : decode cX11_rings 127 = .ok (.goto (-72), 3) ∧ decode cX11_rings 130 = .ok (.iload 7, 2) ∧ decode cX11_rings 132 = .ok (.istore 4, 2) ∧ decode cX11_rings 134 = .ok (.iinc 6 1, 3) ∧ decode cX11_rings 137 = .ok (.goto (-96), 3) ∧ decode cX11_rings 140 = .ok (.iload 4, 2) ∧ decode cX11_rings 142 = .ok (.iload_n 3, 1) ∧ decode cX11_rings 143 = .ok (.ishr, 1) ∧ decode cX11_rings 144 = .ok (.iconst 1, 1) ∧ decode cX11_rings 145 = .ok (.iand, 1) ∧ decode cX11_rings 146 = .ok (.iconst 1, 1) ∧ decode cX11_rings 147 = .ok (.if_icmp .ne 11, 3) := by decide +kernel
theorem dX11_rings_127 : decode cX11_rings 127 = .ok (.goto (-72), 3) := dX11_rings_all6.1
theorem dX11_rings_130 : decode cX11_rings 130 = .ok (.iload 7, 2) := dX11_rings_all6.2.1
theorem dX11_rings_132 : decode cX11_rings 132 = .ok (.istore 4, 2) := dX11_rings_all6.2.2.1
theorem dX11_rings_134 : decode cX11_rings 134 = .ok (.iinc 6 1, 3) := dX11_rings_all6.2.2.2.1
theorem dX11_rings_137 : decode cX11_rings 137 = .ok (.goto (-96), 3) := dX11_rings_all6.2.2.2.2.1
theorem dX11_rings_140 : decode cX11_rings 140 = .ok (.iload 4, 2) := dX11_rings_all6.2.2.2.2.2.1
theorem dX11_rings_142 : decode cX11_rings 142 = .ok (.iload_n 3, 1) := dX11_rings_all6.2.2.2.2.2.2.1
theorem dX11_rings_143 : decode cX11_rings 143 = .ok (.ishr, 1) := dX11_rings_all6.2.2.2.2.2.2.2.1
theorem dX11_rings_144 : decode cX11_rings 144 = .ok (.iconst 1, 1) := dX11_rings_all6.2.2.2.2.2.2.2.2.1
theorem dX11_rings_145 : decode cX11_rings 145 = .ok (.iand, 1) := dX11_rings_all6.2.2.2.2.2.2.2.2.2.1
theorem dX11_rings_146 : decode cX11_rings 146 = .ok (.iconst 1, 1) := dX11_rings_all6.2.2.2.2.2.2.2.2.2.2.1
theorem dX11_rings_147 : decode cX11_rings 147 = .ok (.if_icmp .ne 11, 3) := dX11_rings_all6.2.2.2.2.2.2.2.2.2.2.2
theorem dX11_rings_all7 : decode cX11_rings 150 = .ok (.iload_n 2, 1) ∧ decode cX11_rings 151 = .ok (.iconst 1, 1) ∧ decode cX11_rings 152 = .ok (.iload_n 3, 1) ∧ decode cX11_rings 153 = .ok (.ishl, 1) ∧ decode cX11_rings 154 = .ok (.ior, 1) ∧ decode cX11_rings 155 = .ok (.goto 4, 3) ∧ decode cX11_rings 158 = .ok (.iload_n 2, 1) ∧ decode cX11_rings 159 = .ok (.istore_n 2, 1) ∧ decode cX11_rings 160 = .ok (.iinc 3 1, 3) ∧ decode cX11_rings 163 = .ok (.goto (-139), 3) ∧ decode cX11_rings 166 = .ok (.iload_n 2, 1) ∧ decode cX11_rings 167 = .ok (.ireturn, 1) := by decide +kernel
theorem dX11_rings_150 : decode cX11_rings 150 = .ok (.iload_n 2, 1) := dX11_rings_all7.1
theorem dX11_rings_151 : decode cX11_rings 151 = .ok (.iconst 1, 1) := dX11_rings_all7.2.1
theorem dX11_rings_152 : decode cX11_rings 152 = .ok (.iload_n 3, 1) := dX11_rings_all7.2.2.1
theorem dX11_rings_153 : decode cX11_rings 153 = .ok (.ishl, 1) := dX11_rings_all7.2.2.2.1
theorem dX11_rings_154 : decode cX11_rings 154 = .ok (.ior, 1) := dX11_rings_all7.2.2.2.2.1
theorem dX11_rings_155 : decode cX11_rings 155 = .ok (.goto 4, 3) := dX11_rings_all7.2.2.2.2.2.1
theorem dX11_rings_158 : decode cX11_rings 158 = .ok (.iload_n 2, 1) := dX11_rings_all7.2.2.2.2.2.2.1
theorem dX11_rings_159 : decode cX11_rings 159 = .ok (.istore_n 2, 1) := dX11_rings_all7.2.2.2.2.2.2.2.1
theorem dX11_rings_160 : decode cX11_rings 160 = .ok (.iinc 3 1, 3) := dX11_rings_all7.2.2.2.2.2.2.2.2.1
theorem dX11_rings_163 : decode cX11_rings 163 = .ok (.goto (-139), 3) := dX11_rings_all7.2.2.2.2.2.2.2.2.2.1
theorem dX11_rings_166 : decode cX11_rings 166 = .ok (.iload_n 2, 1) := dX11_rings_all7.2.2.2.2.2.2.2.2.2.2.1
theorem dX11_rings_167 : decode cX11_rings 167 = .ok (.ireturn, 1) := dX11_rings_all7.2.2.2.2.2.2.2.2.2.2.2

theorem or_z9 (x : Int32) : x ||| 0 = x := by
  apply b_ext
  intro i hi
  rw [b_or, b_0, Bool.or_false]
/-- the bit at c, as the reference reads it -/
theorem bit19 {x c : Int32} (h0 : 0 ≤ c.toInt) (h1 : c.toInt < 32) : (((x >>> (c &&& 31)) &&& 1).toInt = 1 → bt x c.toNatClampNeg = true) ∧ (¬ ((x >>> (c &&& 31)) &&& 1).toInt = 1 → bt x c.toNatClampNeg = false) := by
  have hb := bt_bit (x := x) h0 h1
  have k1 : (1 : Int32).toInt = 1 := rfl
  cases e : bt x c.toNatClampNeg with
  | false =>
    rw [hb.mpr e]
    exact ⟨fun h => absurd h (by decide), fun _ => rfl⟩
  | true =>
    refine ⟨fun _ => rfl, fun h => ?_⟩
    exfalso
    apply h
    have hc := i_cl h0
    have e2 : x >>> (c &&& 31) = x >>> (nI c.toNatClampNeg &&& 31) := by rw [i_nI h0]
    have key : bt (x >>> (c &&& 31)) 0 = bt x c.toNatClampNeg := by rw [e2, b_sshr c.toNatClampNeg (by omega) x (by omega), if_pos (by omega), Nat.add_zero]
    have : (x >>> (c &&& 31)) &&& 1 = 1 := by
      apply b_ext
      intro i hi
      rw [b_and, bt_1 i hi]
      by_cases g : i = 0
      · rw [g, key, e]; rfl
      · rw [decide_eq_false g, Bool.and_false]
    rw [this, k1]
def rmQ (E : Nat → Nat → Bool) (r : Int32) (n : Nat) : Prop := ∀ i : Nat, i < 32 → bt r i = (decide (i < n) && mtV E i 11 i)
theorem rmQ_0 {E : Nat → Nat → Bool} : rmQ E 0 0 := fun i hi => by rw [b_0, decide_eq_false (by omega)]; rfl
theorem rmQ_up {E : Nat → Nat → Bool} {r w c : Int32} {n m : Nat} (h : rmQ E r n) (hc : c.toInt = n) (hn : n < 10) (hm : m = n + 1) (hb : mtV E n 11 n = true) (hw : w = r ||| ((1 : Int32) <<< (c &&& 31))) : rmQ E w m := by
  have cc := i_cl (x := c) (by omega)
  intro i hi
  rw [hw, bt_set (by omega) (by omega) hi, h i hi, hm, show c.toNatClampNeg = n by omega]
  by_cases e : i = n
  · rw [e, hb]; simp
  · by_cases l : i < n
    · simp [e, l, show i < n + 1 by omega]
    · simp [e, l, show ¬ i < n + 1 by omega]
theorem rmQ_no {E : Nat → Nat → Bool} {r : Int32} {n m : Nat} (h : rmQ E r n) (hm : m = n + 1) (hb : mtV E n 11 n = false) : rmQ E r m := by
  intro i hi
  rw [h i hi, hm]
  by_cases e : i = n
  · rw [e, hb]; simp
  · by_cases l : i < n
    · simp [l, show i < n + 1 by omega]
    · simp [l, show ¬ i < n + 1 by omega]
theorem mtQ_0 {E : Nat → Nat → Bool} {c : Nat} : mtQ E c 0 0 := fun b hb => by rw [b_0]; rfl

set_option maxHeartbeats 4000000 in
set_option maxRecDepth 100000 in
theorem ct_X11_rings (l : Launch) (D : va_G) (cI cY cJ cQ : ClassId) (sz : Nat) (md : Nat → Nat) (sd : Int32) (mth mst hn cn pn mq gn mln mnn ln mlt msz mcu mtk mfr mti mfa mfb an un lc td mtn : Int32) (ho hc hp hs mh : Nat → Int32) (d : Int32)  (h1 : 0 ≤ hn.toInt) (h2 : hn.toInt ≤ 40) (h3 : okV hn hp)  : Met l yX11_rings wsX11_rings ({ frames := 2, cells := 0, slots := 0, locals := 48 }) (cPre D (ty4 cI cY cJ cQ) [(moC md sd mth mst hn cn pn mq gn mln mnn ln mlt msz mcu mtk mfr mti mfa mfb an un lc td mtn), (aI cI (md 7) 40 ho), (aI cI (md 8) 40 hc), (aI cI (md 9) 40 hp), (aI cI (md 10) 40 hs), (aI cI (md 11) 200 mh)] sz [.ref (md 64), .int d]) (va_Qi (fun (r : Int32) (u : (Nat → Int32)) => sm_rings hn ho hc hp hs d r) (cB D (ty4 cI cY cJ cQ) (fun (u : (Nat → Int32)) => [(moC md sd 0 mst hn cn pn mq gn mln mnn ln mlt msz mcu mtk mfr mti mfa mfb an un lc td mtn), (aI cI (md 7) 40 ho), (aI cI (md 8) 40 hc), (aI cI (md 9) 40 hp), (aI cI (md 10) 40 hs), (aI cI (md 11) 200 u)]) (va_A [(moC md sd mth mst hn cn pn mq gn mln mnn ln mlt msz mcu mtk mfr mti mfa mfb an un lc td mtn), (aI cI (md 7) 40 ho), (aI cI (md 8) 40 hc), (aI cI (md 9) 40 hp), (aI cI (md 10) 40 hs), (aI cI (md 11) 200 mh)] sz)) (va_A [(moC md sd mth mst hn cn pn mq gn mln mnn ln mlt msz mcu mtk mfr mti mfa mfb an un lc td mtn), (aI cI (md 7) 40 ho), (aI cI (md 8) 40 hc), (aI cI (md 9) 40 hp), (aI cI (md 10) 40 hs), (aI cI (md 11) 200 mh)] sz)) 0 0 (va_A [(moC md sd mth mst hn cn pn mq gn mln mnn ln mlt msz mcu mtk mfr mti mfa mfb an un lc td mtn), (aI cI (md 7) 40 ho), (aI cI (md 8) 40 hc), (aI cI (md 9) 40 hp), (aI cI (md 10) 40 hs), (aI cI (md 11) 200 mh)] sz) := by
  refine Met.ofW (cc := cX11_rings) (maxL := 10) (ret := (some .int)) (by decide) rfl ?_
  intro p e s m args below meth c s₁ B hml hv
  obtain ⟨rfl, hsz, hP, hK, hD0, hN⟩ := hv
  have hx := B.exec
  have hb := B.bytes
  have hr := B.returns
  have hts := atoms_spec (ws := wsX11_rings) B.pre
  have hown : s.vm.findClass RX11 = some m.cls := findClass_of_methodNamed B.named
  have hlocks := B.notSynchronized
  subst hsz
  have hD := hD0.self (sz := s.heap.size)
  generalize hAe : va_A [(moC md sd mth mst hn cn pn mq gn mln mnn ln mlt msz mcu mtk mfr mti mfa mfb an un lc td mtn), (aI cI (md 7) 40 ho), (aI cI (md 8) 40 hc), (aI cI (md 9) 40 hp), (aI cI (md 10) 40 hs), (aI cI (md 11) 200 mh)] s.heap.size = A at hD ⊢
  have hA : ∀ q : Nat, s.heap.size ≤ q → A q := fun q h => by rw [← hAe]; exact Or.inr h
  have hS : va_S A s.heap s.heap [] := va_S.rf
  have hP : va_P D vwCl [(moC md sd mth mst hn cn pn mq gn mln mnn ln mlt msz mcu mtk mfr mti mfa mfb an un lc td mtn), (aI cI (md 7) 40 ho), (aI cI (md 8) 40 hc), (aI cI (md 9) 40 hp), (aI cI (md 10) 40 hs), (aI cI (md 11) 200 mh)] s.heap := hP
  have hl := lv_entry ([.ref (md 64), .int d]) (n := 10) (Nat.le_of_ble_eq_true rfl)
  rw [lg_entry_eq]
  generalize (lg_sl ([.ref (md 64), .int d]) ++ List.replicate (10 - (lg_sl ([.ref (md 64), .int d])).length) Slot.unset).toArray = ls at hl ⊢
  have hl : lv_has ls 10 [(0, .ref (md 64)), (1, .int d)] := hl
  have km1000001 : (-1000001 : Int32).toInt = -1000001 := by decide
  have k0 : (0 : Int32).toInt = 0 := by decide
  have k1 : (1 : Int32).toInt = 1 := by decide
  have k10 : (10 : Int32).toInt = 10 := by decide
  have k11 : (11 : Int32).toInt = 11 := by decide
  refine lv_aload_n hx hb dX11_rings_0 rfl (lv_at hl 0 rfl) ?_
  refine lv_iconst (v := 0) hx hb dX11_rings_1 (by decide) ?_
  refine va_put (D := D) (ci := 11) (v := .int 0) (ty := .int) (C := RX11) (T := TX11) (N := 64) hx hb hts inX11_rings_X11 tyX11 tyX11_ok nmX11 hown hK hP hD hS 0 rfl rfl 0 (by decide) (hts (Cond.fieldLink RX11 1 "PortRoomsModel" "thrown" "I") (wm_t (wm_l (wm_i 0 rfl)))) (fun _ h9 => h9) rfl (tyX11_ok 0 (by decide)) rfl rfl (Nat.le_of_ble_eq_true rfl) dX11_rings_2 (fun H locs => ?_)
  clear hP hD hS
  intro hP hD hS
  replace hP : va_P D vwCl [(moC md sd (0) mst hn cn pn mq gn mln mnn ln mlt msz mcu mtk mfr mti mfa mfb an un lc td mtn), (aI cI (md 7) 40 ho), (aI cI (md 8) 40 hc), (aI cI (md 9) 40 hp), (aI cI (md 10) 40 hs), (aI cI (md 11) 200 mh)] H := hP
  replace hD : va_D A [(moC md sd (0) mst hn cn pn mq gn mln mnn ln mlt msz mcu mtk mfr mti mfa mfb an un lc td mtn), (aI cI (md 7) 40 ho), (aI cI (md 8) 40 hc), (aI cI (md 9) 40 hp), (aI cI (md 10) 40 hs), (aI cI (md 11) 200 mh)] := hD
  refine lv_iload_n hx hb dX11_rings_5 rfl (lv_at hl 1 rfl) ?_
  refine st_i1 (va_runS (As := [.int d]) (rest := []) ⟨hx, hb, hml, hown, hts⟩ (ct_X11_isDay l D cI cY cJ cQ _ d) (va_cwS 1 hts gX11_rings_X11_isDay rfl rfl rfl cdX11_isDay ⟨Nat.le_of_ble_eq_true rfl, Nat.le_of_ble_eq_true rfl⟩) (cPreS (hP.sub [] rfl) hK (hD.sub [] (by decide +kernel) rfl) hN) rfl rfl hl.1 rfl (lv_room (Nat.le_of_ble_eq_true rfl)) dX11_rings_6 ⟨Nat.le_of_ble_eq_true rfl, Nat.le_of_ble_eq_true rfl⟩) hP hD hS hA [] rfl (fun _ => rfl) (fun r3 u1 H locs hw2 => ?_)
  clear hP hS
  intro hP hS
  replace hw2 : r3 = if 0 ≤ d.toInt ∧ d.toInt ≤ 9999 then 1 else 0 := hw2
  refine lv_if_ne (tgt := 15) hx hb dX11_rings_9 (by decide) (fun c4 => ?_) (fun c4 => ?_)
  · skip
    have f5 := bo_t hw2 c4
    refine lv_aload_n hx hb dX11_rings_15 rfl (lv_at hl 0 rfl) ?_
    refine lv_iload_n hx hb dX11_rings_16 rfl (lv_at hl 1 rfl) ?_
    refine st_v (wr := []) (va_runV (C := RX11) (As := [.int d]) (rest := []) ⟨hx, hb, hml, hown, hts⟩ (ct_X11_findHas l D cI cY cJ cQ _ md sd 0 mst hn cn pn mq gn mln mnn ln mlt msz mcu mtk mfr mti mfa mfb an un lc td mtn ho hc hp hs mh d h1 h2 h3) (cwV 1 hts gX11_rings_X11_findHas rfl rfl rfl ⟨rfl, cdX11_findHas⟩ ⟨Nat.le_of_ble_eq_true rfl, Nat.le_of_ble_eq_true rfl⟩) (cPreV (hP.sub [0, 1, 2, 3, 4, 5] rfl) hK (hD.sub [0, 1, 2, 3, 4, 5] (by decide +kernel) rfl) hN (ci := 11) (q0 := 0) rfl rfl) rfl rfl hl.1 rfl (lv_room (Nat.le_of_ble_eq_true rfl)) dX11_rings_17 ⟨Nat.le_of_ble_eq_true rfl, Nat.le_of_ble_eq_true rfl⟩) hP hD hS hA [0, 1, 2, 3, 4, 5] [] rfl rfl (by decide +kernel) (by decide +kernel) (fun u6 H locs hw7 => ?_)
    clear hP hD hS
    intro hP hD hS
    replace hw7 : fhQ ho hc hp hs d hn.toNatClampNeg u6 20 0 ∧ okE u6 := hw7
    replace hP : va_P D vwCl [(moC md sd (0) mst hn cn pn mq gn mln mnn ln mlt msz mcu mtk mfr mti mfa mfb an un lc td mtn), (aI cI (md 7) 40 ho), (aI cI (md 8) 40 hc), (aI cI (md 9) 40 hp), (aI cI (md 10) 40 hs), (aI cI (md 11) 200 u6)] H := hP
    replace hD : va_D A [(moC md sd (0) mst hn cn pn mq gn mln mnn ln mlt msz mcu mtk mfr mti mfa mfb an un lc td mtn), (aI cI (md 7) 40 ho), (aI cI (md 8) 40 hc), (aI cI (md 9) 40 hp), (aI cI (md 10) 40 hs), (aI cI (md 11) 200 u6)] := hD
    obtain ⟨hw7, hw7E⟩ := hw7
    refine lv_iconst (v := 0) hx hb dX11_rings_20 (by decide) ?_
    refine lv_istore_n (lv' := [(2, .int 0), (0, .ref (md 64)), (1, .int d)]) hx hb dX11_rings_21 rfl hl (by decide) rfl (fun ls hl => ?_)
    refine lv_iconst (v := 0) hx hb dX11_rings_22 (by decide) ?_
    refine lv_istore_n (lv' := [(3, .int 0), (2, .int 0), (0, .ref (md 64)), (1, .int d)]) hx hb dX11_rings_23 rfl hl (by decide) rfl (fun ls hl => ?_)
    refine st_loop 24 (fun _ => []) (fun (z : Int32 × Int32) (ls : Array Slot) (H : Heap) (locs : List Loc) => match z with | (q24_2, q24_3) => (0 ≤ q24_3.toInt) ∧ (q24_3.toInt ≤ 10) ∧ (rmQ (ppB (pmF ho hc hp hs d hn.toNatClampNeg)) q24_2 q24_3.toNatClampNeg) ∧ lv_has ls 10 [(0, .ref (md 64)), (1, .int d), (2, .int q24_2), (3, .int q24_3)] ∧ va_P D vwCl [(moC md sd (0) mst hn cn pn mq gn mln mnn ln mlt msz mcu mtk mfr mti mfa mfb an un lc td mtn), (aI cI (md 7) 40 ho), (aI cI (md 8) 40 hc), (aI cI (md 9) 40 hp), (aI cI (md 10) 40 hs), (aI cI (md 11) 200 u6)] H ∧ va_D A [(moC md sd (0) mst hn cn pn mq gn mln mnn ln mlt msz mcu mtk mfr mti mfa mfb an un lc td mtn), (aI cI (md 7) 40 ho), (aI cI (md 8) 40 hc), (aI cI (md 9) 40 hp), (aI cI (md 10) 40 hs), (aI cI (md 11) 200 u6)] ∧ va_S A s.heap H locs) (fun (z : Int32 × Int32) => match z with | (q24_2, q24_3) => 10 - q24_3.toInt) ?_ ?_ ((0 : Int32), (0 : Int32)) ⟨(by omega), (by omega), (by exact rmQ_0), lv_sub hl [2, 3, 1, 0] rfl, hP, hD, hS⟩
    · rintro ⟨q24_2, q24_3⟩ ls H locs ⟨g9, g10, g11, hl, hP, hD, hS⟩
      show (0 : Int) ≤ 10 - q24_3.toInt
      omega
    · rintro n14 ih12 ⟨q24_2, q24_3⟩ ls H locs ⟨g9, g10, g11, hl, hP, hD, hS⟩ hm13
      have hm13 : 10 - q24_3.toInt < (n14 : Int) + 1 := hm13
      replace hl : lv_has ls 10 [(0, .ref (md 64)), (1, .int d), (2, .int q24_2), (3, .int q24_3)] := hl
      replace hP : va_P D vwCl [(moC md sd (0) mst hn cn pn mq gn mln mnn ln mlt msz mcu mtk mfr mti mfa mfb an un lc td mtn), (aI cI (md 7) 40 ho), (aI cI (md 8) 40 hc), (aI cI (md 9) 40 hp), (aI cI (md 10) 40 hs), (aI cI (md 11) 200 u6)] H := hP
      replace hD : va_D A [(moC md sd (0) mst hn cn pn mq gn mln mnn ln mlt msz mcu mtk mfr mti mfa mfb an un lc td mtn), (aI cI (md 7) 40 ho), (aI cI (md 8) 40 hc), (aI cI (md 9) 40 hp), (aI cI (md 10) 40 hs), (aI cI (md 11) 200 u6)] := hD
      show W _ _ _ _ _ _ _ _ _ _ _ _ _ _ _ (F0 m 24 ls [])
      refine lv_iload_n hx hb dX11_rings_24 rfl (lv_at hl 3 rfl) ?_
      refine lv_bipush (v := 10) hx hb dX11_rings_25 (by decide) ?_
      refine lv_icmp_ge (tgt := 166) hx hb dX11_rings_27 (by decide) (fun c15 => ?_) (fun c15 => ?_)
      · skip
        have f16 := i_le c15
        refine lv_iload_n hx hb dX11_rings_166 rfl (lv_at hl 2 rfl) ?_
        have ce9 := i_cl (x := q24_3) (by omega)
        have hz9 := g11
        rw [show q24_3.toNatClampNeg = 10 by omega] at hz9
        have hP9 := hP
        have hD9 := hD
        exact W.iret (v := q24_2) hx hb hr (fun t ht hW => ⟨⟨q24_2, u6, rfl, (by show sm_rings hn ho hc hp hs d q24_2; unfold sm_rings; rw [if_pos (by omega)]; exact hz9), by rw [ht]; exact hP9, va_K.moved hW.alike hK, hD9⟩, hS.F ht⟩) hS.2.2 dX11_rings_167
      · skip
        have f17 := i_nle c15
        refine lv_iconst (v := 0) hx hb dX11_rings_30 (by decide) ?_
        refine lv_istore (lv' := [(4, .int 0), (0, .ref (md 64)), (1, .int d), (2, .int q24_2), (3, .int q24_3)]) hx hb dX11_rings_31 hl (by decide) rfl (fun ls hl => ?_)
        refine lv_iconst (v := 1) hx hb dX11_rings_33 (by decide) ?_
        refine lv_iload_n hx hb dX11_rings_34 rfl (lv_at hl 4 rfl) ?_
        refine lv_ishl hx hb dX11_rings_35 ?_
        refine lv_topi (fun v18 ev18 => ?_)
        refine lv_istore (lv' := [(5, .int v18), (4, .int 0), (0, .ref (md 64)), (1, .int d), (2, .int q24_2), (3, .int q24_3)]) hx hb dX11_rings_36 hl (by decide) rfl (fun ls hl => ?_)
        refine lv_iconst (v := 0) hx hb dX11_rings_38 (by decide) ?_
        refine lv_istore (lv' := [(6, .int 0), (5, .int v18), (4, .int 0), (0, .ref (md 64)), (1, .int d), (2, .int q24_2), (3, .int q24_3)]) hx hb dX11_rings_39 hl (by decide) rfl (fun ls hl => ?_)
        refine st_loop 41 (fun _ => []) (fun (z : Int32 × Int32) (ls : Array Slot) (H : Heap) (locs : List Loc) => match z with | (q41_4, q41_6) => (0 ≤ q41_6.toInt) ∧ (q41_6.toInt ≤ 11) ∧ (mtQ (ppB (pmF ho hc hp hs d hn.toNatClampNeg)) q24_3.toNatClampNeg q41_4 q41_6.toNatClampNeg) ∧ lv_has ls 10 [(0, .ref (md 64)), (1, .int d), (2, .int q24_2), (3, .int q24_3), (4, .int q41_4), (5, .int v18), (6, .int q41_6)] ∧ va_P D vwCl [(moC md sd (0) mst hn cn pn mq gn mln mnn ln mlt msz mcu mtk mfr mti mfa mfb an un lc td mtn), (aI cI (md 7) 40 ho), (aI cI (md 8) 40 hc), (aI cI (md 9) 40 hp), (aI cI (md 10) 40 hs), (aI cI (md 11) 200 u6)] H ∧ va_D A [(moC md sd (0) mst hn cn pn mq gn mln mnn ln mlt msz mcu mtk mfr mti mfa mfb an un lc td mtn), (aI cI (md 7) 40 ho), (aI cI (md 8) 40 hc), (aI cI (md 9) 40 hp), (aI cI (md 10) 40 hs), (aI cI (md 11) 200 u6)] ∧ va_S A s.heap H locs) (fun (z : Int32 × Int32) => match z with | (q41_4, q41_6) => 11 - q41_6.toInt) ?_ ?_ ((0 : Int32), (0 : Int32)) ⟨(by omega), (by omega), (by exact mtQ_0), lv_sub hl [3, 4, 5, 6, 2, 1, 0] rfl, hP, hD, hS⟩
        · rintro ⟨q41_4, q41_6⟩ ls H locs ⟨g19, g20, g21, hl, hP, hD, hS⟩
          show (0 : Int) ≤ 11 - q41_6.toInt
          omega
        · rintro n24 ih22 ⟨q41_4, q41_6⟩ ls H locs ⟨g19, g20, g21, hl, hP, hD, hS⟩ hm23
          have hm23 : 11 - q41_6.toInt < (n24 : Int) + 1 := hm23
          replace hl : lv_has ls 10 [(0, .ref (md 64)), (1, .int d), (2, .int q24_2), (3, .int q24_3), (4, .int q41_4), (5, .int v18), (6, .int q41_6)] := hl
          replace hP : va_P D vwCl [(moC md sd (0) mst hn cn pn mq gn mln mnn ln mlt msz mcu mtk mfr mti mfa mfb an un lc td mtn), (aI cI (md 7) 40 ho), (aI cI (md 8) 40 hc), (aI cI (md 9) 40 hp), (aI cI (md 10) 40 hs), (aI cI (md 11) 200 u6)] H := hP
          replace hD : va_D A [(moC md sd (0) mst hn cn pn mq gn mln mnn ln mlt msz mcu mtk mfr mti mfa mfb an un lc td mtn), (aI cI (md 7) 40 ho), (aI cI (md 8) 40 hc), (aI cI (md 9) 40 hp), (aI cI (md 10) 40 hs), (aI cI (md 11) 200 u6)] := hD
          show W _ _ _ _ _ _ _ _ _ _ _ _ _ _ _ (F0 m 41 ls [])
          refine lv_iload hx hb dX11_rings_41 (lv_at hl 6 rfl) ?_
          refine lv_bipush (v := 11) hx hb dX11_rings_43 (by decide) ?_
          refine lv_icmp_ge (tgt := 140) hx hb dX11_rings_45 (by decide) (fun c25 => ?_) (fun c25 => ?_)
          · skip
            have f26 := i_le c25
            refine lv_iload hx hb dX11_rings_140 (lv_at hl 4 rfl) ?_
            refine lv_iload_n hx hb dX11_rings_142 rfl (lv_at hl 3 rfl) ?_
            refine lv_ishr hx hb dX11_rings_143 ?_
            refine lv_topi (fun v27 ev27 => ?_)
            refine lv_iconst (v := 1) hx hb dX11_rings_144 (by decide) ?_
            refine lv_iand hx hb dX11_rings_145 ?_
            refine lv_topi (fun v28 ev28 => ?_)
            refine lv_iconst (v := 1) hx hb dX11_rings_146 (by decide) ?_
            refine lv_icmp_ne (tgt := 158) hx hb dX11_rings_147 (by decide) (fun c29 => ?_) (fun c29 => ?_)
            · skip
              have f30 := i_ne c29
              refine lv_iload_n hx hb dX11_rings_158 rfl (lv_at hl 2 rfl) ?_
              refine lv_istore_n (lv' := [(2, .int q24_2), (0, .ref (md 64)), (1, .int d), (3, .int q24_3), (4, .int q41_4), (5, .int v18), (6, .int q41_6)]) hx hb dX11_rings_159 rfl hl (by decide) rfl (fun ls hl => ?_)
              obtain ⟨v31, ev31⟩ : ∃ y : Int32, y = q24_3 + 1 := ⟨_, rfl⟩
              try have tv31 : v31.toInt = q24_3.toInt + 1 := by rw [ev31]; exact (i_add (x := q24_3) (y := (1 : Int32)) (by rw [k1]; omega) (by rw [k1]; omega)).trans (by rw [k1])
              refine lv_iinc (v := v31) (lv' := [(3, .int v31), (2, .int q24_2), (0, .ref (md 64)), (1, .int d), (4, .int q41_4), (5, .int v18), (6, .int q41_6)]) hx hb dX11_rings_160 hl (k := 3) rfl (by rw [ev31]; rfl) (by decide) rfl (fun ls hl => ?_)
              refine lv_goto (tgt := 24) hx hb dX11_rings_163 (by decide) ?_
              have clc32 := i_cl (x := q24_3) (by omega)
              have clc33 := i_cl (x := v31) (by omega)
              have clc34 := i_cl (x := q41_6) (by omega)
              have hmt9 : bt q41_4 q24_3.toNatClampNeg = mtV (ppB (pmF ho hc hp hs d hn.toNatClampNeg)) q24_3.toNatClampNeg 11 q24_3.toNatClampNeg := by have h9 := g21 q24_3.toNatClampNeg (by omega); rw [show q41_6.toNatClampNeg = 11 by omega] at h9; exact h9
              have hb19 := bit19 (x := q41_4) (c := q24_3) (by omega) (by omega)
              rw [← ev27, ← ev28, hmt9] at hb19
              exact ih12 (q24_2, v31) ls H locs ⟨(by omega), (by omega), (by exact rmQ_no g11 (by omega) (hb19.2 (by omega))), lv_sub hl [2, 3, 1, 0] rfl, hP.sub [0, 1, 2, 3, 4, 5] rfl, hD.sub [0, 1, 2, 3, 4, 5] (by decide +kernel) rfl, hS⟩ (by show 10 - v31.toInt < _; omega)
            · skip
              have f35 := i_eq c29
              refine lv_iload_n hx hb dX11_rings_150 rfl (lv_at hl 2 rfl) ?_
              refine lv_iconst (v := 1) hx hb dX11_rings_151 (by decide) ?_
              refine lv_iload_n hx hb dX11_rings_152 rfl (lv_at hl 3 rfl) ?_
              refine lv_ishl hx hb dX11_rings_153 ?_
              refine lv_topi (fun v36 ev36 => ?_)
              refine lv_ior hx hb dX11_rings_154 ?_
              refine lv_topi (fun v37 ev37 => ?_)
              refine lv_goto (tgt := 159) hx hb dX11_rings_155 (by decide) ?_
              refine lv_istore_n (lv' := [(2, .int v37), (0, .ref (md 64)), (1, .int d), (3, .int q24_3), (4, .int q41_4), (5, .int v18), (6, .int q41_6)]) hx hb dX11_rings_159 rfl hl (by decide) rfl (fun ls hl => ?_)
              obtain ⟨v38, ev38⟩ : ∃ y : Int32, y = q24_3 + 1 := ⟨_, rfl⟩
              try have tv38 : v38.toInt = q24_3.toInt + 1 := by rw [ev38]; exact (i_add (x := q24_3) (y := (1 : Int32)) (by rw [k1]; omega) (by rw [k1]; omega)).trans (by rw [k1])
              refine lv_iinc (v := v38) (lv' := [(3, .int v38), (2, .int v37), (0, .ref (md 64)), (1, .int d), (4, .int q41_4), (5, .int v18), (6, .int q41_6)]) hx hb dX11_rings_160 hl (k := 3) rfl (by rw [ev38]; rfl) (by decide) rfl (fun ls hl => ?_)
              refine lv_goto (tgt := 24) hx hb dX11_rings_163 (by decide) ?_
              have clc39 := i_cl (x := q24_3) (by omega)
              have clc40 := i_cl (x := v38) (by omega)
              have clc41 := i_cl (x := q41_6) (by omega)
              have hmt9 : bt q41_4 q24_3.toNatClampNeg = mtV (ppB (pmF ho hc hp hs d hn.toNatClampNeg)) q24_3.toNatClampNeg 11 q24_3.toNatClampNeg := by have h9 := g21 q24_3.toNatClampNeg (by omega); rw [show q41_6.toNatClampNeg = 11 by omega] at h9; exact h9
              have hb19 := bit19 (x := q41_4) (c := q24_3) (by omega) (by omega)
              rw [← ev27, ← ev28, hmt9] at hb19
              exact ih12 (v37, v38) ls H locs ⟨(by omega), (by omega), (by exact rmQ_up (c := q24_3) g11 (by omega) (by omega) (by omega) (hb19.1 (by omega)) (by rw [ev37, ev36])), lv_sub hl [2, 3, 1, 0] rfl, hP.sub [0, 1, 2, 3, 4, 5] rfl, hD.sub [0, 1, 2, 3, 4, 5] (by decide +kernel) rfl, hS⟩ (by show 10 - v38.toInt < _; omega)
          · skip
            have f42 := i_nle c25
            refine lv_iload hx hb dX11_rings_48 (lv_at hl 4 rfl) ?_
            refine lv_istore (lv' := [(7, .int q41_4), (0, .ref (md 64)), (1, .int d), (2, .int q24_2), (3, .int q24_3), (4, .int q41_4), (5, .int v18), (6, .int q41_6)]) hx hb dX11_rings_50 hl (by decide) rfl (fun ls hl => ?_)
            refine lv_iconst (v := 0) hx hb dX11_rings_52 (by decide) ?_
            refine lv_istore (lv' := [(8, .int 0), (7, .int q41_4), (0, .ref (md 64)), (1, .int d), (2, .int q24_2), (3, .int q24_3), (4, .int q41_4), (5, .int v18), (6, .int q41_6)]) hx hb dX11_rings_53 hl (by decide) rfl (fun ls hl => ?_)
            refine st_loop 55 (fun _ => []) (fun (z : Int32 × Int32) (ls : Array Slot) (H : Heap) (locs : List Loc) => match z with | (q55_8, q55_7) => (0 ≤ q55_8.toInt) ∧ (q55_8.toInt ≤ 10) ∧ (mrQ (ppB (pmF ho hc hp hs d hn.toNatClampNeg)) q24_3.toNatClampNeg q55_7 q41_6.toNatClampNeg q55_8.toNatClampNeg 0) ∧ lv_has ls 10 [(0, .ref (md 64)), (1, .int d), (2, .int q24_2), (3, .int q24_3), (4, .int q41_4), (5, .int v18), (6, .int q41_6), (7, .int q55_7), (8, .int q55_8)] ∧ va_P D vwCl [(moC md sd (0) mst hn cn pn mq gn mln mnn ln mlt msz mcu mtk mfr mti mfa mfb an un lc td mtn), (aI cI (md 7) 40 ho), (aI cI (md 8) 40 hc), (aI cI (md 9) 40 hp), (aI cI (md 10) 40 hs), (aI cI (md 11) 200 u6)] H ∧ va_D A [(moC md sd (0) mst hn cn pn mq gn mln mnn ln mlt msz mcu mtk mfr mti mfa mfb an un lc td mtn), (aI cI (md 7) 40 ho), (aI cI (md 8) 40 hc), (aI cI (md 9) 40 hp), (aI cI (md 10) 40 hs), (aI cI (md 11) 200 u6)] ∧ va_S A s.heap H locs) (fun (z : Int32 × Int32) => match z with | (q55_8, q55_7) => 10 - q55_8.toInt) ?_ ?_ ((0 : Int32), q41_4) ⟨(by omega), (by omega), (by exact mrQ_0 g21), lv_sub hl [2, 3, 4, 5, 6, 7, 8, 1, 0] rfl, hP, hD, hS⟩
            · rintro ⟨q55_8, q55_7⟩ ls H locs ⟨g43, g44, g45, hl, hP, hD, hS⟩
              show (0 : Int) ≤ 10 - q55_8.toInt
              omega
            · rintro n48 ih46 ⟨q55_8, q55_7⟩ ls H locs ⟨g43, g44, g45, hl, hP, hD, hS⟩ hm47
              have hm47 : 10 - q55_8.toInt < (n48 : Int) + 1 := hm47
              replace hl : lv_has ls 10 [(0, .ref (md 64)), (1, .int d), (2, .int q24_2), (3, .int q24_3), (4, .int q41_4), (5, .int v18), (6, .int q41_6), (7, .int q55_7), (8, .int q55_8)] := hl
              replace hP : va_P D vwCl [(moC md sd (0) mst hn cn pn mq gn mln mnn ln mlt msz mcu mtk mfr mti mfa mfb an un lc td mtn), (aI cI (md 7) 40 ho), (aI cI (md 8) 40 hc), (aI cI (md 9) 40 hp), (aI cI (md 10) 40 hs), (aI cI (md 11) 200 u6)] H := hP
              replace hD : va_D A [(moC md sd (0) mst hn cn pn mq gn mln mnn ln mlt msz mcu mtk mfr mti mfa mfb an un lc td mtn), (aI cI (md 7) 40 ho), (aI cI (md 8) 40 hc), (aI cI (md 9) 40 hp), (aI cI (md 10) 40 hs), (aI cI (md 11) 200 u6)] := hD
              show W _ _ _ _ _ _ _ _ _ _ _ _ _ _ _ (F0 m 55 ls [])
              refine lv_iload hx hb dX11_rings_55 (lv_at hl 8 rfl) ?_
              refine lv_bipush (v := 10) hx hb dX11_rings_57 (by decide) ?_
              refine lv_icmp_ge (tgt := 130) hx hb dX11_rings_59 (by decide) (fun c49 => ?_) (fun c49 => ?_)
              · skip
                have f50 := i_le c49
                refine lv_iload hx hb dX11_rings_130 (lv_at hl 7 rfl) ?_
                refine lv_istore (lv' := [(4, .int q55_7), (0, .ref (md 64)), (1, .int d), (2, .int q24_2), (3, .int q24_3), (5, .int v18), (6, .int q41_6), (7, .int q55_7), (8, .int q55_8)]) hx hb dX11_rings_132 hl (by decide) rfl (fun ls hl => ?_)
                obtain ⟨v51, ev51⟩ : ∃ y : Int32, y = q41_6 + 1 := ⟨_, rfl⟩
                try have tv51 : v51.toInt = q41_6.toInt + 1 := by rw [ev51]; exact (i_add (x := q41_6) (y := (1 : Int32)) (by rw [k1]; omega) (by rw [k1]; omega)).trans (by rw [k1])
                refine lv_iinc (v := v51) (lv' := [(6, .int v51), (4, .int q55_7), (0, .ref (md 64)), (1, .int d), (2, .int q24_2), (3, .int q24_3), (5, .int v18), (7, .int q55_7), (8, .int q55_8)]) hx hb dX11_rings_134 hl (k := 6) rfl (by rw [ev51]; rfl) (by decide) rfl (fun ls hl => ?_)
                refine lv_goto (tgt := 41) hx hb dX11_rings_137 (by decide) ?_
                have clc52 := i_cl (x := q41_6) (by omega)
                have clc53 := i_cl (x := v51) (by omega)
                have clc54 := i_cl (x := q55_8) (by omega)
                exact ih22 (q55_7, v51) ls H locs ⟨(by omega), (by omega), (by exact mrQ_end (by have h9 := g45; rw [show q55_8.toNatClampNeg = 10 by omega] at h9; exact h9) (by omega)), lv_sub hl [2, 3, 4, 5, 1, 6, 0] rfl, hP.sub [0, 1, 2, 3, 4, 5] rfl, hD.sub [0, 1, 2, 3, 4, 5] (by decide +kernel) rfl, hS⟩ (by show 11 - v51.toInt < _; omega)
              · skip
                have f55 := i_nle c49
                refine lv_iconst (v := 0) hx hb dX11_rings_62 (by decide) ?_
                refine lv_istore (lv' := [(9, .int 0), (0, .ref (md 64)), (1, .int d), (2, .int q24_2), (3, .int q24_3), (4, .int q41_4), (5, .int v18), (6, .int q41_6), (7, .int q55_7), (8, .int q55_8)]) hx hb dX11_rings_63 hl (by decide) rfl (fun ls hl => ?_)
                refine st_loop 65 (fun _ => []) (fun (z : Int32 × Int32) (ls : Array Slot) (H : Heap) (locs : List Loc) => match z with | (q65_9, q65_7) => (0 ≤ q65_9.toInt) ∧ (q65_9.toInt ≤ 10) ∧ (mrQ (ppB (pmF ho hc hp hs d hn.toNatClampNeg)) q24_3.toNatClampNeg q65_7 q41_6.toNatClampNeg q55_8.toNatClampNeg q65_9.toNatClampNeg) ∧ lv_has ls 10 [(0, .ref (md 64)), (1, .int d), (2, .int q24_2), (3, .int q24_3), (4, .int q41_4), (5, .int v18), (6, .int q41_6), (7, .int q65_7), (8, .int q55_8), (9, .int q65_9)] ∧ va_P D vwCl [(moC md sd (0) mst hn cn pn mq gn mln mnn ln mlt msz mcu mtk mfr mti mfa mfb an un lc td mtn), (aI cI (md 7) 40 ho), (aI cI (md 8) 40 hc), (aI cI (md 9) 40 hp), (aI cI (md 10) 40 hs), (aI cI (md 11) 200 u6)] H ∧ va_D A [(moC md sd (0) mst hn cn pn mq gn mln mnn ln mlt msz mcu mtk mfr mti mfa mfb an un lc td mtn), (aI cI (md 7) 40 ho), (aI cI (md 8) 40 hc), (aI cI (md 9) 40 hp), (aI cI (md 10) 40 hs), (aI cI (md 11) 200 u6)] ∧ va_S A s.heap H locs) (fun (z : Int32 × Int32) => match z with | (q65_9, q65_7) => 10 - q65_9.toInt) ?_ ?_ ((0 : Int32), q55_7) ⟨(by omega), (by omega), (by exact g45), lv_sub hl [1, 2, 3, 4, 5, 6, 7, 8, 9, 0] rfl, hP, hD, hS⟩
                · rintro ⟨q65_9, q65_7⟩ ls H locs ⟨g56, g57, g58, hl, hP, hD, hS⟩
                  show (0 : Int) ≤ 10 - q65_9.toInt
                  omega
                · rintro n61 ih59 ⟨q65_9, q65_7⟩ ls H locs ⟨g56, g57, g58, hl, hP, hD, hS⟩ hm60
                  have hm60 : 10 - q65_9.toInt < (n61 : Int) + 1 := hm60
                  replace hl : lv_has ls 10 [(0, .ref (md 64)), (1, .int d), (2, .int q24_2), (3, .int q24_3), (4, .int q41_4), (5, .int v18), (6, .int q41_6), (7, .int q65_7), (8, .int q55_8), (9, .int q65_9)] := hl
                  replace hP : va_P D vwCl [(moC md sd (0) mst hn cn pn mq gn mln mnn ln mlt msz mcu mtk mfr mti mfa mfb an un lc td mtn), (aI cI (md 7) 40 ho), (aI cI (md 8) 40 hc), (aI cI (md 9) 40 hp), (aI cI (md 10) 40 hs), (aI cI (md 11) 200 u6)] H := hP
                  replace hD : va_D A [(moC md sd (0) mst hn cn pn mq gn mln mnn ln mlt msz mcu mtk mfr mti mfa mfb an un lc td mtn), (aI cI (md 7) 40 ho), (aI cI (md 8) 40 hc), (aI cI (md 9) 40 hp), (aI cI (md 10) 40 hs), (aI cI (md 11) 200 u6)] := hD
                  show W _ _ _ _ _ _ _ _ _ _ _ _ _ _ _ (F0 m 65 ls [])
                  refine lv_iload hx hb dX11_rings_65 (lv_at hl 9 rfl) ?_
                  refine lv_bipush (v := 10) hx hb dX11_rings_67 (by decide) ?_
                  refine lv_icmp_ge (tgt := 124) hx hb dX11_rings_69 (by decide) (fun c62 => ?_) (fun c62 => ?_)
                  · skip
                    have f63 := i_le c62
                    obtain ⟨v64, ev64⟩ : ∃ y : Int32, y = q55_8 + 1 := ⟨_, rfl⟩
                    try have tv64 : v64.toInt = q55_8.toInt + 1 := by rw [ev64]; exact (i_add (x := q55_8) (y := (1 : Int32)) (by rw [k1]; omega) (by rw [k1]; omega)).trans (by rw [k1])
                    refine lv_iinc (v := v64) (lv' := [(8, .int v64), (0, .ref (md 64)), (1, .int d), (2, .int q24_2), (3, .int q24_3), (4, .int q41_4), (5, .int v18), (6, .int q41_6), (7, .int q65_7), (9, .int q65_9)]) hx hb dX11_rings_124 hl (k := 8) rfl (by rw [ev64]; rfl) (by decide) rfl (fun ls hl => ?_)
                    refine lv_goto (tgt := 55) hx hb dX11_rings_127 (by decide) ?_
                    have clc65 := i_cl (x := q55_8) (by omega)
                    have clc66 := i_cl (x := v64) (by omega)
                    exact ih46 (v64, q65_7) ls H locs ⟨(by omega), (by omega), (by exact mrQ_row ppB_10 g58 (by first | exact Or.inl (by have := i_cl (x := q65_9) (by omega); omega) | exact Or.inr hgf9) (by omega)), lv_sub hl [1, 2, 3, 4, 5, 6, 7, 8, 0] rfl, hP.sub [0, 1, 2, 3, 4, 5] rfl, hD.sub [0, 1, 2, 3, 4, 5] (by decide +kernel) rfl, hS⟩ (by show 10 - v64.toInt < _; omega)
                  · skip
                    have f67 := i_nle c62
                    refine lv_iload hx hb dX11_rings_72 (lv_at hl 4 rfl) ?_
                    refine lv_iload hx hb dX11_rings_74 (lv_at hl 5 rfl) ?_
                    refine lv_ior hx hb dX11_rings_76 ?_
                    refine lv_topi (fun v68 ev68 => ?_)
                    refine lv_iload hx hb dX11_rings_77 (lv_at hl 8 rfl) ?_
                    refine lv_ishr hx hb dX11_rings_79 ?_
                    refine lv_topi (fun v69 ev69 => ?_)
                    refine lv_iconst (v := 1) hx hb dX11_rings_80 (by decide) ?_
                    refine lv_iand hx hb dX11_rings_81 ?_
                    refine lv_topi (fun v70 ev70 => ?_)
                    refine lv_iconst (v := 1) hx hb dX11_rings_82 (by decide) ?_
                    refine lv_icmp_ne (tgt := 124) hx hb dX11_rings_83 (by decide) (fun c71 => ?_) (fun c71 => ?_)
                    · skip
                      have f72 := i_ne c71
                      have clc73 := i_cl (x := q55_8) (by omega)
                      have clc74 := i_cl (x := q24_3) (by omega)
                      have hga9 : bt v68 q55_8.toNatClampNeg = (mtV (ppB (pmF ho hc hp hs d hn.toNatClampNeg)) q24_3.toNatClampNeg q41_6.toNatClampNeg q55_8.toNatClampNeg || decide (q55_8.toNatClampNeg = q24_3.toNatClampNeg)) := by rw [ev68, b_or, g21 _ (by omega), ev18, bt_shl (by omega) (by omega) (by omega)]
                      have hb19 := bit19 (x := v68) (c := q55_8) (by omega) (by omega)
                      rw [← ev69, ← ev70, hga9] at hb19
                      have hgf9 := hb19.2 (by omega)
                      obtain ⟨v75, ev75⟩ : ∃ y : Int32, y = q55_8 + 1 := ⟨_, rfl⟩
                      try have tv75 : v75.toInt = q55_8.toInt + 1 := by rw [ev75]; exact (i_add (x := q55_8) (y := (1 : Int32)) (by rw [k1]; omega) (by rw [k1]; omega)).trans (by rw [k1])
                      refine lv_iinc (v := v75) (lv' := [(8, .int v75), (0, .ref (md 64)), (1, .int d), (2, .int q24_2), (3, .int q24_3), (4, .int q41_4), (5, .int v18), (6, .int q41_6), (7, .int q65_7), (9, .int q65_9)]) hx hb dX11_rings_124 hl (k := 8) rfl (by rw [ev75]; rfl) (by decide) rfl (fun ls hl => ?_)
                      refine lv_goto (tgt := 55) hx hb dX11_rings_127 (by decide) ?_
                      have clc76 := i_cl (x := q55_8) (by omega)
                      have clc77 := i_cl (x := v75) (by omega)
                      exact ih46 (v75, q65_7) ls H locs ⟨(by omega), (by omega), (by exact mrQ_row ppB_10 g58 (by first | exact Or.inl (by have := i_cl (x := q65_9) (by omega); omega) | exact Or.inr hgf9) (by omega)), lv_sub hl [1, 2, 3, 4, 5, 6, 7, 8, 0] rfl, hP.sub [0, 1, 2, 3, 4, 5] rfl, hD.sub [0, 1, 2, 3, 4, 5] (by decide +kernel) rfl, hS⟩ (by show 10 - v75.toInt < _; omega)
                    · skip
                      have f78 := i_eq c71
                      have clc79 := i_cl (x := q55_8) (by omega)
                      have clc80 := i_cl (x := q24_3) (by omega)
                      have hga9 : bt v68 q55_8.toNatClampNeg = (mtV (ppB (pmF ho hc hp hs d hn.toNatClampNeg)) q24_3.toNatClampNeg q41_6.toNatClampNeg q55_8.toNatClampNeg || decide (q55_8.toNatClampNeg = q24_3.toNatClampNeg)) := by rw [ev68, b_or, g21 _ (by omega), ev18, bt_shl (by omega) (by omega) (by omega)]
                      have hb19 := bit19 (x := v68) (c := q55_8) (by omega) (by omega)
                      rw [← ev69, ← ev70, hga9] at hb19
                      have hgt9 := hb19.1 (by omega)
                      refine lv_iload hx hb dX11_rings_86 (lv_at hl 7 rfl) ?_
                      refine lv_aload_n hx hb dX11_rings_88 rfl (lv_at hl 0 rfl) ?_
                      refine va_get (D := D) (ci := 11) (v := .ref (md 11)) (C := RX11) (T := TX11) (N := 64) hx hb hts inX11_rings_X11 hown hK hP 0 rfl rfl 11 (by decide) (hts (Cond.fieldLink RX11 35 "PortRoomsModel" "has" "[I") (wm_t (wm_l (wm_i 2 rfl)))) (fun _ h9 => h9) rfl dX11_rings_89 ?_
                      refine lv_bipush (v := 10) hx hb dX11_rings_92 (by decide) ?_
                      refine lv_iload hx hb dX11_rings_94 (lv_at hl 8 rfl) ?_
                      refine lv_bipush (v := 10) hx hb dX11_rings_96 (by decide) ?_
                      refine lv_iadd hx hb dX11_rings_98 ?_
                      refine lv_topi (fun v81 ev81 => ?_)
                      try have tv81 : v81.toInt = q55_8.toInt + 10 := by rw [ev81]; exact (i_add (x := q55_8) (y := (10 : Int32)) (by rw [k10]; omega) (by rw [k10]; omega)).trans (by rw [k10])
                      refine lv_imul hx hb dX11_rings_99 ?_
                      refine lv_topi (fun v82 ev82 => ?_)
                      try have tv82 : v82.toInt = 10 * v81.toInt := by rw [ev82]; exact (i_mul (x := (10 : Int32)) (y := v81) (by rw [k10]; omega) (by rw [k10]; omega)).trans (by rw [k10])
                      refine lv_iload hx hb dX11_rings_100 (lv_at hl 9 rfl) ?_
                      refine lv_iadd hx hb dX11_rings_102 ?_
                      refine lv_topi (fun v83 ev83 => ?_)
                      try have tv83 : v83.toInt = v82.toInt + q65_9.toInt := by rw [ev83]; exact (i_add (x := v82) (y := q65_9) (by omega) (by omega))
                      refine va_iald hx hb hK hP 5 0 rfl rfl (i_in (by omega) (by omega)) dX11_rings_103 ?_
                      refine lv_topi (fun v84 ev84 => ?_)
                      have tlv84 : v84.toInt = (u6 v83.toNatClampNeg).toInt := by rw [ev84]
                      refine lv_if_le (tgt := 114) hx hb dX11_rings_104 (by decide) (fun c85 => ?_) (fun c85 => ?_)
                      · skip
                        have f86 := i_le c85
                        refine lv_iconst (v := 0) hx hb dX11_rings_114 (by decide) ?_
                        refine lv_ior hx hb dX11_rings_115 ?_
                        refine lv_topi (fun v87 ev87 => ?_)
                        refine lv_istore (lv' := [(7, .int v87), (0, .ref (md 64)), (1, .int d), (2, .int q24_2), (3, .int q24_3), (4, .int q41_4), (5, .int v18), (6, .int q41_6), (8, .int q55_8), (9, .int q65_9)]) hx hb dX11_rings_116 hl (by decide) rfl (fun ls hl => ?_)
                        obtain ⟨v88, ev88⟩ : ∃ y : Int32, y = q65_9 + 1 := ⟨_, rfl⟩
                        try have tv88 : v88.toInt = q65_9.toInt + 1 := by rw [ev88]; exact (i_add (x := q65_9) (y := (1 : Int32)) (by rw [k1]; omega) (by rw [k1]; omega)).trans (by rw [k1])
                        refine lv_iinc (v := v88) (lv' := [(9, .int v88), (7, .int v87), (0, .ref (md 64)), (1, .int d), (2, .int q24_2), (3, .int q24_3), (4, .int q41_4), (5, .int v18), (6, .int q41_6), (8, .int q55_8)]) hx hb dX11_rings_118 hl (k := 9) rfl (by rw [ev88]; rfl) (by decide) rfl (fun ls hl => ?_)
                        refine lv_goto (tgt := 65) hx hb dX11_rings_121 (by decide) ?_
                        have clc89 := i_cl (x := q65_9) (by omega)
                        have clc90 := i_cl (x := v88) (by omega)
                        have clc91 := i_cl (x := q55_8) (by omega)
                        have clc92 := i_cl (x := v83) (by omega)
                        have hEe9 : (ppB (pmF ho hc hp hs d hn.toNatClampNeg)) q55_8.toNatClampNeg q65_9.toNatClampNeg = decide (0 < v84.toInt) := by unfold ppB; rw [← mhF_pm hw7 _ _ (by omega) (by omega)]; unfold mhF; rw [show 10 * (10 + q55_8.toNatClampNeg) + q65_9.toNatClampNeg = v83.toNatClampNeg by omega, ← ev84]; exact decide_eq_decide.mpr ⟨fun z => z.2, fun z => ⟨by omega, z⟩⟩
                        exact ih59 (v88, v87) ls H locs ⟨(by omega), (by omega), (by rw [ev87, or_z9]; exact mrQ_no g58 (by omega) (by rw [hEe9]; exact decide_eq_false (by omega))), lv_sub hl [2, 3, 4, 5, 6, 7, 8, 1, 9, 0] rfl, hP.sub [0, 1, 2, 3, 4, 5] rfl, hD.sub [0, 1, 2, 3, 4, 5] (by decide +kernel) rfl, hS⟩ (by show 10 - v88.toInt < _; omega)
                      · skip
                        have f93 := i_nle c85
                        refine lv_iconst (v := 1) hx hb dX11_rings_107 (by decide) ?_
                        refine lv_iload hx hb dX11_rings_108 (lv_at hl 9 rfl) ?_
                        refine lv_ishl hx hb dX11_rings_110 ?_
                        refine lv_topi (fun v94 ev94 => ?_)
                        refine lv_goto (tgt := 115) hx hb dX11_rings_111 (by decide) ?_
                        refine lv_ior hx hb dX11_rings_115 ?_
                        refine lv_topi (fun v95 ev95 => ?_)
                        refine lv_istore (lv' := [(7, .int v95), (0, .ref (md 64)), (1, .int d), (2, .int q24_2), (3, .int q24_3), (4, .int q41_4), (5, .int v18), (6, .int q41_6), (8, .int q55_8), (9, .int q65_9)]) hx hb dX11_rings_116 hl (by decide) rfl (fun ls hl => ?_)
                        obtain ⟨v96, ev96⟩ : ∃ y : Int32, y = q65_9 + 1 := ⟨_, rfl⟩
                        try have tv96 : v96.toInt = q65_9.toInt + 1 := by rw [ev96]; exact (i_add (x := q65_9) (y := (1 : Int32)) (by rw [k1]; omega) (by rw [k1]; omega)).trans (by rw [k1])
                        refine lv_iinc (v := v96) (lv' := [(9, .int v96), (7, .int v95), (0, .ref (md 64)), (1, .int d), (2, .int q24_2), (3, .int q24_3), (4, .int q41_4), (5, .int v18), (6, .int q41_6), (8, .int q55_8)]) hx hb dX11_rings_118 hl (k := 9) rfl (by rw [ev96]; rfl) (by decide) rfl (fun ls hl => ?_)
                        refine lv_goto (tgt := 65) hx hb dX11_rings_121 (by decide) ?_
                        have clc97 := i_cl (x := q65_9) (by omega)
                        have clc98 := i_cl (x := v96) (by omega)
                        have clc99 := i_cl (x := q55_8) (by omega)
                        have clc100 := i_cl (x := v83) (by omega)
                        have hEe9 : (ppB (pmF ho hc hp hs d hn.toNatClampNeg)) q55_8.toNatClampNeg q65_9.toNatClampNeg = decide (0 < v84.toInt) := by unfold ppB; rw [← mhF_pm hw7 _ _ (by omega) (by omega)]; unfold mhF; rw [show 10 * (10 + q55_8.toNatClampNeg) + q65_9.toNatClampNeg = v83.toNatClampNeg by omega, ← ev84]; exact decide_eq_decide.mpr ⟨fun z => z.2, fun z => ⟨by omega, z⟩⟩
                        exact ih59 (v96, v95) ls H locs ⟨(by omega), (by omega), (by exact mrQ_up (y := q65_9) g58 hgt9 (by omega) (by omega) (by omega) (by rw [hEe9]; exact decide_eq_true (by omega)) (by rw [ev95, ev94])), lv_sub hl [2, 3, 4, 5, 6, 7, 8, 1, 9, 0] rfl, hP.sub [0, 1, 2, 3, 4, 5] rfl, hD.sub [0, 1, 2, 3, 4, 5] (by decide +kernel) rfl, hS⟩ (by show 10 - v96.toInt < _; omega)
  · skip
    have f101 := bo_f hw2 c4
    refine lv_ldc hx hb hown (hts (Cond.constant RX11 157 (-1000001)) (wm_t (wm_l (wm_i 1 rfl)))) dX11_rings_12 ?_
    have hP9 := hP
    have hD9 := hD
    exact W.iret (v := (-1000001)) hx hb hr (fun t ht hW => ⟨⟨(-1000001), mh, rfl, (by show sm_rings hn ho hc hp hs d ((-1000001) : Int32); unfold sm_rings; rw [if_neg (by omega)]; omega), by rw [ht]; exact hP9, va_K.moved hW.alike hK, hD9⟩, hS.F ht⟩) hS.2.2 dX11_rings_14
