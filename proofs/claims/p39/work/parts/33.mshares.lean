section
theorem cdX11_percentOf : yX11_percentOf.cls ≠ "java/lang/invoke/MethodHandle" ∧ yX11_percentOf.cls ≠ "java/lang/invoke/VarHandle" ∧ (parseMethodDescriptor yX11_percentOf.desc).map (fun d => d.parameters.length) = some 3 := by decide +kernel
theorem Gd_X11_percentOf : gdA wsX11_percentOf := gd_cons (by decide +kernel) (gd_app (gd_all (ws := wsX11_percentOf_o1) (by decide +kernel)) Gd_X110)
theorem inX11_percentOf_X11 : ∀ w ∈ u_ws RX11 TX11 64, w ∈ wsX11_percentOf := fun _ h => (List.mem_cons_of_mem _ (List.mem_append_right _ h))
theorem inX11_percent_X11 : ∀ w ∈ u_ws RX11 TX11 64, w ∈ wsX11_percent := fun _ h => (List.mem_cons_of_mem _ (List.mem_append_right _ (List.mem_append_left _ (List.mem_append_left _ (List.mem_append_left _ h)))))
theorem inX11_findHas_X11 : ∀ w ∈ u_ws RX11 TX11 64, w ∈ wsX11_findHas := fun _ h => (List.mem_cons_of_mem _ (List.mem_append_right _ (List.mem_append_left _ h)))
theorem dX11_percentOf_all0 : decode cX11_percentOf 0 = .ok (.ldc 139, 2) ∧ decode cX11_percentOf 2 = .ok (.istore 4, 2) ∧ decode cX11_percentOf 4 = .ok (.iconst 0, 1) ∧ decode cX11_percentOf 5 = .ok (.istore 5, 2) ∧ decode cX11_percentOf 7 = .ok (.iload 5, 2) ∧ decode cX11_percentOf 9 = .ok (.aload_n 0, 1) ∧ decode cX11_percentOf 10 = .ok (.getfield 181, 3) ∧ decode cX11_percentOf 13 = .ok (.if_icmp .ge 75, 3) ∧ decode cX11_percentOf 16 = .ok (.aload_n 0, 1) ∧ decode cX11_percentOf 17 = .ok (.getfield 23, 3) ∧ decode cX11_percentOf 20 = .ok (.iload 5, 2) ∧ decode cX11_percentOf 22 = .ok (.iaload, 1) := by decide +kernel
theorem dX11_percentOf_0 : decode cX11_percentOf 0 = .ok (.ldc 139, 2) := dX11_percentOf_all0.1
theorem dX11_percentOf_2 : decode cX11_percentOf 2 = .ok (.istore 4, 2) := dX11_percentOf_all0.2.1
theorem dX11_percentOf_4 : decode cX11_percentOf 4 = .ok (.iconst 0, 1) := dX11_percentOf_all0.2.2.1
theorem dX11_percentOf_5 : decode cX11_percentOf 5 = .ok (.istore 5, 2) := dX11_percentOf_all0.2.2.2.1
theorem dX11_percentOf_7 : decode cX11_percentOf 7 = .ok (.iload 5, 2) := dX11_percentOf_all0.2.2.2.2.1
theorem dX11_percentOf_9 : decode cX11_percentOf 9 = .ok (.aload_n 0, 1) := dX11_percentOf_all0.2.2.2.2.2.1
theorem dX11_percentOf_10 : decode cX11_percentOf 10 = .ok (.getfield 181, 3) := dX11_percentOf_all0.2.2.2.2.2.2.1
theorem dX11_percentOf_13 : decode cX11_percentOf 13 = .ok (.if_icmp .ge 75, 3) := dX11_percentOf_all0.2.2.2.2.2.2.2.1
theorem dX11_percentOf_16 : decode cX11_percentOf 16 = .ok (.aload_n 0, 1) := dX11_percentOf_all0.2.2.2.2.2.2.2.2.1
theorem dX11_percentOf_17 : decode cX11_percentOf 17 = .ok (.getfield 23, 3) := dX11_percentOf_all0.2.2.2.2.2.2.2.2.2.1
theorem dX11_percentOf_20 : decode cX11_percentOf 20 = .ok (.iload 5, 2) := dX11_percentOf_all0.2.2.2.2.2.2.2.2.2.2.1
theorem dX11_percentOf_22 : decode cX11_percentOf 22 = .ok (.iaload, 1) := dX11_percentOf_all0.2.2.2.2.2.2.2.2.2.2.2
theorem dX11_percentOf_all1 : decode cX11_percentOf 23 = .ok (.iload_n 1, 1) ∧ decode cX11_percentOf 24 = .ok (.if_icmp .ne 58, 3) ∧ decode cX11_percentOf 27 = .ok (.aload_n 0, 1) ∧ decode cX11_percentOf 28 = .ok (.getfield 26, 3) ∧ decode cX11_percentOf 31 = .ok (.iload 5, 2) ∧ decode cX11_percentOf 33 = .ok (.iaload, 1) ∧ decode cX11_percentOf 34 = .ok (.iload_n 2, 1) ∧ decode cX11_percentOf 35 = .ok (.if_icmp .ne 47, 3) ∧ decode cX11_percentOf 38 = .ok (.aload_n 0, 1) ∧ decode cX11_percentOf 39 = .ok (.getfield 32, 3) ∧ decode cX11_percentOf 42 = .ok (.iload 5, 2) ∧ decode cX11_percentOf 44 = .ok (.iaload, 1) := by decide +kernel
theorem dX11_percentOf_23 : decode cX11_percentOf 23 = .ok (.iload_n 1, 1) := dX11_percentOf_all1.1
theorem dX11_percentOf_24 : decode cX11_percentOf 24 = .ok (.if_icmp .ne 58, 3) := dX11_percentOf_all1.2.1
theorem dX11_percentOf_27 : decode cX11_percentOf 27 = .ok (.aload_n 0, 1) := dX11_percentOf_all1.2.2.1
theorem dX11_percentOf_28 : decode cX11_percentOf 28 = .ok (.getfield 26, 3) := dX11_percentOf_all1.2.2.2.1
theorem dX11_percentOf_31 : decode cX11_percentOf 31 = .ok (.iload 5, 2) := dX11_percentOf_all1.2.2.2.2.1
theorem dX11_percentOf_33 : decode cX11_percentOf 33 = .ok (.iaload, 1) := dX11_percentOf_all1.2.2.2.2.2.1
theorem dX11_percentOf_34 : decode cX11_percentOf 34 = .ok (.iload_n 2, 1) := dX11_percentOf_all1.2.2.2.2.2.2.1
theorem dX11_percentOf_35 : decode cX11_percentOf 35 = .ok (.if_icmp .ne 47, 3) := dX11_percentOf_all1.2.2.2.2.2.2.2.1
theorem dX11_percentOf_38 : decode cX11_percentOf 38 = .ok (.aload_n 0, 1) := dX11_percentOf_all1.2.2.2.2.2.2.2.2.1
theorem dX11_percentOf_39 : decode cX11_percentOf 39 = .ok (.getfield 32, 3) := dX11_percentOf_all1.2.2.2.2.2.2.2.2.2.1
theorem dX11_percentOf_42 : decode cX11_percentOf 42 = .ok (.iload 5, 2) := dX11_percentOf_all1.2.2.2.2.2.2.2.2.2.2.1
theorem dX11_percentOf_44 : decode cX11_percentOf 44 = .ok (.iaload, 1) := dX11_percentOf_all1.2.2.2.2.2.2.2.2.2.2.2
theorem dX11_percentOf_all2 : decode cX11_percentOf 45 = .ok (.iload_n 3, 1) ∧ decode cX11_percentOf 46 = .ok (.if_icmp .gt 36, 3) ∧ decode cX11_percentOf 49 = .ok (.iload 4, 2) ∧ decode cX11_percentOf 51 = .ok (.ldc 139, 2) ∧ decode cX11_percentOf 53 = .ok (.if_icmp .eq 20, 3) ∧ decode cX11_percentOf 56 = .ok (.aload_n 0, 1) ∧ decode cX11_percentOf 57 = .ok (.getfield 32, 3) ∧ decode cX11_percentOf 60 = .ok (.iload 5, 2) ∧ decode cX11_percentOf 62 = .ok (.iaload, 1) ∧ decode cX11_percentOf 63 = .ok (.aload_n 0, 1) ∧ decode cX11_percentOf 64 = .ok (.getfield 32, 3) ∧ decode cX11_percentOf 67 = .ok (.iload 4, 2) := by decide +kernel
theorem dX11_percentOf_45 : decode cX11_percentOf 45 = .ok (.iload_n 3, 1) := dX11_percentOf_all2.1
theorem dX11_percentOf_46 : decode cX11_percentOf 46 = .ok (.if_icmp .gt 36, 3) := dX11_percentOf_all2.2.1
theorem dX11_percentOf_49 : decode cX11_percentOf 49 = .ok (.iload 4, 2) := dX11_percentOf_all2.2.2.1
theorem dX11_percentOf_51 : decode cX11_percentOf 51 = .ok (.ldc 139, 2) := dX11_percentOf_all2.2.2.2.1
theorem dX11_percentOf_53 : decode cX11_percentOf 53 = .ok (.if_icmp .eq 20, 3) := dX11_percentOf_all2.2.2.2.2.1
theorem dX11_percentOf_56 : decode cX11_percentOf 56 = .ok (.aload_n 0, 1) := dX11_percentOf_all2.2.2.2.2.2.1
theorem dX11_percentOf_57 : decode cX11_percentOf 57 = .ok (.getfield 32, 3) := dX11_percentOf_all2.2.2.2.2.2.2.1
theorem dX11_percentOf_60 : decode cX11_percentOf 60 = .ok (.iload 5, 2) := dX11_percentOf_all2.2.2.2.2.2.2.2.1
theorem dX11_percentOf_62 : decode cX11_percentOf 62 = .ok (.iaload, 1) := dX11_percentOf_all2.2.2.2.2.2.2.2.2.1
theorem dX11_percentOf_63 : decode cX11_percentOf 63 = .ok (.aload_n 0, 1) := dX11_percentOf_all2.2.2.2.2.2.2.2.2.2.1
theorem dX11_percentOf_64 : decode cX11_percentOf 64 = .ok (.getfield 32, 3) := dX11_percentOf_all2.2.2.2.2.2.2.2.2.2.2.1
theorem dX11_percentOf_67 : decode cX11_percentOf 67 = .ok (.iload 4, 2) := dX11_percentOf_all2.2.2.2.2.2.2.2.2.2.2.2
theorem dX11_percentOf_all3 : decode cX11_percentOf 69 = .ok (.iaload, 1) ∧ decode cX11_percentOf 70 = .ok (.if_icmp .lt 8, 3) ∧ decode cX11_percentOf 73 = .ok (.iload 5, 2) ∧ decode cX11_percentOf 75 = .ok (.goto 5, 3) ∧ decode cX11_percentOf 78 = .ok (.iload 4, 2) ∧ decode cX11_percentOf 80 = .ok (.istore 4, 2) ∧ decode cX11_percentOf 82 = .ok (.iinc 5 1, 3) ∧ decode cX11_percentOf 85 = .ok (.goto (-78), 3) ∧ decode cX11_percentOf 88 = .ok (.iload 4, 2) ∧ decode cX11_percentOf 90 = .ok (.ldc 139, 2) ∧ decode cX11_percentOf 92 = .ok (.if_icmp .ne 7, 3) ∧ decode cX11_percentOf 95 = .ok (.iconst 0, 1) := by decide +kernel
theorem dX11_percentOf_69 : decode cX11_percentOf 69 = .ok (.iaload, 1) := dX11_percentOf_all3.1
theorem dX11_percentOf_70 : decode cX11_percentOf 70 = .ok (.if_icmp .lt 8, 3) := dX11_percentOf_all3.2.1
theorem dX11_percentOf_73 : decode cX11_percentOf 73 = .ok (.iload 5, 2) := dX11_percentOf_all3.2.2.1
theorem dX11_percentOf_75 : decode cX11_percentOf 75 = .ok (.goto 5, 3) := dX11_percentOf_all3.2.2.2.1
theorem dX11_percentOf_78 : decode cX11_percentOf 78 = .ok (.iload 4, 2) := dX11_percentOf_all3.2.2.2.2.1
theorem dX11_percentOf_80 : decode cX11_percentOf 80 = .ok (.istore 4, 2) := dX11_percentOf_all3.2.2.2.2.2.1
theorem dX11_percentOf_82 : decode cX11_percentOf 82 = .ok (.iinc 5 1, 3) := dX11_percentOf_all3.2.2.2.2.2.2.1
theorem dX11_percentOf_85 : decode cX11_percentOf 85 = .ok (.goto (-78), 3) := dX11_percentOf_all3.2.2.2.2.2.2.2.1
theorem dX11_percentOf_88 : decode cX11_percentOf 88 = .ok (.iload 4, 2) := dX11_percentOf_all3.2.2.2.2.2.2.2.2.1
theorem dX11_percentOf_90 : decode cX11_percentOf 90 = .ok (.ldc 139, 2) := dX11_percentOf_all3.2.2.2.2.2.2.2.2.2.1
theorem dX11_percentOf_92 : decode cX11_percentOf 92 = .ok (.if_icmp .ne 7, 3) := dX11_percentOf_all3.2.2.2.2.2.2.2.2.2.2.1
theorem dX11_percentOf_95 : decode cX11_percentOf 95 = .ok (.iconst 0, 1) := dX11_percentOf_all3.2.2.2.2.2.2.2.2.2.2.2
theorem dX11_percentOf_all4 : decode cX11_percentOf 96 = .ok (.goto 10, 3) ∧ decode cX11_percentOf 99 = .ok (.aload_n 0, 1) ∧ decode cX11_percentOf 100 = .ok (.getfield 29, 3) ∧ decode cX11_percentOf 103 = .ok (.iload 4, 2) ∧ decode cX11_percentOf 105 = .ok (.iaload, 1) ∧ decode cX11_percentOf 106 = .ok (.ireturn, 1) := by decide +kernel
theorem dX11_percentOf_96 : decode cX11_percentOf 96 = .ok (.goto 10, 3) := dX11_percentOf_all4.1
theorem dX11_percentOf_99 : decode cX11_percentOf 99 = .ok (.aload_n 0, 1) := dX11_percentOf_all4.2.1
theorem dX11_percentOf_100 : decode cX11_percentOf 100 = .ok (.getfield 29, 3) := dX11_percentOf_all4.2.2.1
theorem dX11_percentOf_103 : decode cX11_percentOf 103 = .ok (.iload 4, 2) := dX11_percentOf_all4.2.2.2.1
theorem dX11_percentOf_105 : decode cX11_percentOf 105 = .ok (.iaload, 1) := dX11_percentOf_all4.2.2.2.2.1
theorem dX11_percentOf_106 : decode cX11_percentOf 106 = .ok (.ireturn, 1) := dX11_percentOf_all4.2.2.2.2.2
theorem ggX11_percent_X11_isOwner : GoodIn wsX11_percent wsX11_isOwner := goodIn_s (fun _ h => wm_t (wm_r (wm_l (wm_l (wm_r h))))) Gd_X11_isOwner
theorem gX11_percent_X11_isOwner : GoodIn wsX11_percent (va_wsS RX11 170 yX11_isOwner wsX11_isOwner) := goodIn_S (own := RX11) (idx := 170) (y := yX11_isOwner) (wm_t (wm_l (wm_i 2 rfl))) (wm_t (wm_l (wm_i 3 rfl))) (wm_t (wm_l (wm_i 4 rfl))) ggX11_percent_X11_isOwner
theorem ggX11_percent_X11_isCompany : GoodIn wsX11_percent wsX11_isCompany := goodIn_s (fun _ h => wm_t (wm_r (wm_l (wm_r h)))) Gd_X11_isCompany
theorem gX11_percent_X11_isCompany : GoodIn wsX11_percent (va_wsS RX11 173 yX11_isCompany wsX11_isCompany) := goodIn_S (own := RX11) (idx := 173) (y := yX11_isCompany) (wm_t (wm_l (wm_i 5 rfl))) (wm_t (wm_l (wm_i 6 rfl))) (wm_t (wm_l (wm_i 4 rfl))) ggX11_percent_X11_isCompany
theorem ggX11_percent_X11_isDay : GoodIn wsX11_percent wsX11_isDay := goodIn_s (fun _ h => wm_t (wm_r (wm_r (wm_l h)))) Gd_X11_isDay
theorem gX11_percent_X11_isDay : GoodIn wsX11_percent (va_wsS RX11 178 yX11_isDay wsX11_isDay) := goodIn_S (own := RX11) (idx := 178) (y := yX11_isDay) (wm_t (wm_l (wm_i 7 rfl))) (wm_t (wm_l (wm_i 8 rfl))) (wm_t (wm_l (wm_i 4 rfl))) ggX11_percent_X11_isDay
theorem ggX11_percent_X11_percentOf : GoodIn wsX11_percent wsX11_percentOf := goodIn_s (fun _ h => wm_t (wm_r (wm_r (wm_r h)))) Gd_X11_percentOf
theorem gX11_percent_X11_percentOf : GoodIn wsX11_percent (wsV RX11 191 RX11 yX11_percentOf wsX11_percentOf) := goodIn_V (own := RX11) (idx := 191) (C := RX11) (y := yX11_percentOf) (wm_t (wm_l (wm_i 9 rfl))) (wm_t (wm_l (wm_i 10 rfl))) (wm_t (wm_l (wm_i 11 rfl))) (wm_t (wm_l (wm_i 4 rfl))) ggX11_percent_X11_percentOf
theorem dX11_percent_all0 : decode cX11_percent 0 = .ok (.aload_n 0, 1) ∧ decode cX11_percent 1 = .ok (.iconst 0, 1) ∧ decode cX11_percent 2 = .ok (.putfield 1, 3) ∧ decode cX11_percent 5 = .ok (.iload_n 1, 1) ∧ decode cX11_percent 6 = .ok (.invokestatic 170, 3) ∧ decode cX11_percent 9 = .ok (.ifCond .eq 22, 3) ∧ decode cX11_percent 12 = .ok (.iload_n 2, 1) ∧ decode cX11_percent 13 = .ok (.invokestatic 173, 3) ∧ decode cX11_percent 16 = .ok (.ifCond .eq 15, 3) ∧ decode cX11_percent 19 = .ok (.iload_n 1, 1) ∧ decode cX11_percent 20 = .ok (.iload_n 2, 1) ∧ decode cX11_percent 21 = .ok (.if_icmp .eq 10, 3) := by decide +kernel
theorem dX11_percent_0 : decode cX11_percent 0 = .ok (.aload_n 0, 1) := dX11_percent_all0.1
theorem dX11_percent_1 : decode cX11_percent 1 = .ok (.iconst 0, 1) := dX11_percent_all0.2.1
theorem dX11_percent_2 : decode cX11_percent 2 = .ok (.putfield 1, 3) := dX11_percent_all0.2.2.1
theorem dX11_percent_5 : decode cX11_percent 5 = .ok (.iload_n 1, 1) := dX11_percent_all0.2.2.2.1
theorem dX11_percent_6 : decode cX11_percent 6 = .ok (.invokestatic 170, 3) := dX11_percent_all0.2.2.2.2.1
theorem dX11_percent_9 : decode cX11_percent 9 = .ok (.ifCond .eq 22, 3) := dX11_percent_all0.2.2.2.2.2.1
theorem dX11_percent_12 : decode cX11_percent 12 = .ok (.iload_n 2, 1) := dX11_percent_all0.2.2.2.2.2.2.1
theorem dX11_percent_13 : decode cX11_percent 13 = .ok (.invokestatic 173, 3) := dX11_percent_all0.2.2.2.2.2.2.2.1
theorem dX11_percent_16 : decode cX11_percent 16 = .ok (.ifCond .eq 15, 3) := dX11_percent_all0.2.2.2.2.2.2.2.2.1
theorem dX11_percent_19 : decode cX11_percent 19 = .ok (.iload_n 1, 1) := dX11_percent_all0.2.2.2.2.2.2.2.2.2.1
theorem dX11_percent_20 : decode cX11_percent 20 = .ok (.iload_n 2, 1) := dX11_percent_all0.2.2.2.2.2.2.2.2.2.2.1
theorem dX11_percent_21 : decode cX11_percent 21 = .ok (.if_icmp .eq 10, 3) := dX11_percent_all0.2.2.2.2.2.2.2.2.2.2.2
theorem dX11_percent_all1 : decode cX11_percent 24 = .ok (.iload_n 3, 1) ∧ decode cX11_percent 25 = .ok (.invokestatic 178, 3) ∧ decode cX11_percent 28 = .ok (.ifCond .ne 8, 3) ∧ decode cX11_percent 31 = .ok (.ldc 157, 2) ∧ decode cX11_percent 33 = .ok (.goto 10, 3) ∧ decode cX11_percent 36 = .ok (.aload_n 0, 1) ∧ decode cX11_percent 37 = .ok (.iload_n 1, 1) ∧ decode cX11_percent 38 = .ok (.iload_n 2, 1) ∧ decode cX11_percent 39 = .ok (.iload_n 3, 1) ∧ decode cX11_percent 40 = .ok (.invokevirtual 191, 3) ∧ decode cX11_percent 43 = .ok (.ireturn, 1) := by decide +kernel
theorem dX11_percent_24 : decode cX11_percent 24 = .ok (.iload_n 3, 1) := dX11_percent_all1.1
theorem dX11_percent_25 : decode cX11_percent 25 = .ok (.invokestatic 178, 3) := dX11_percent_all1.2.1
theorem dX11_percent_28 : decode cX11_percent 28 = .ok (.ifCond .ne 8, 3) := dX11_percent_all1.2.2.1
theorem dX11_percent_31 : decode cX11_percent 31 = .ok (.ldc 157, 2) := dX11_percent_all1.2.2.2.1
theorem dX11_percent_33 : decode cX11_percent 33 = .ok (.goto 10, 3) := dX11_percent_all1.2.2.2.2.1
theorem dX11_percent_36 : decode cX11_percent 36 = .ok (.aload_n 0, 1) := dX11_percent_all1.2.2.2.2.2.1
theorem dX11_percent_37 : decode cX11_percent 37 = .ok (.iload_n 1, 1) := dX11_percent_all1.2.2.2.2.2.2.1
theorem dX11_percent_38 : decode cX11_percent 38 = .ok (.iload_n 2, 1) := dX11_percent_all1.2.2.2.2.2.2.2.1
theorem dX11_percent_39 : decode cX11_percent 39 = .ok (.iload_n 3, 1) := dX11_percent_all1.2.2.2.2.2.2.2.2.1
theorem dX11_percent_40 : decode cX11_percent 40 = .ok (.invokevirtual 191, 3) := dX11_percent_all1.2.2.2.2.2.2.2.2.2.1
theorem dX11_percent_43 : decode cX11_percent 43 = .ok (.ireturn, 1) := dX11_percent_all1.2.2.2.2.2.2.2.2.2.2
theorem ggX11_findHas_X11_percentOf : GoodIn wsX11_findHas wsX11_percentOf := goodIn_s (fun _ h => wm_t (wm_r (wm_r h))) Gd_X11_percentOf
theorem gX11_findHas_X11_percentOf : GoodIn wsX11_findHas (wsV RX11 191 RX11 yX11_percentOf wsX11_percentOf) := goodIn_V (own := RX11) (idx := 191) (C := RX11) (y := yX11_percentOf) (wm_t (wm_l (wm_i 1 rfl))) (wm_t (wm_l (wm_i 2 rfl))) (wm_t (wm_l (wm_i 3 rfl))) (wm_t (wm_l (wm_i 4 rfl))) ggX11_findHas_X11_percentOf
theorem dX11_findHas_all0 : decode cX11_findHas 0 = .ok (.iconst 0, 1) ∧ decode cX11_findHas 1 = .ok (.istore_n 2, 1) ∧ decode cX11_findHas 2 = .ok (.iload_n 2, 1) ∧ decode cX11_findHas 3 = .ok (.bipush 20, 2) ∧ decode cX11_findHas 5 = .ok (.if_icmp .ge 54, 3) ∧ decode cX11_findHas 8 = .ok (.bipush 10, 2) ∧ decode cX11_findHas 10 = .ok (.istore_n 3, 1) ∧ decode cX11_findHas 11 = .ok (.iload_n 3, 1) ∧ decode cX11_findHas 12 = .ok (.bipush 20, 2) ∧ decode cX11_findHas 14 = .ok (.if_icmp .ge 39, 3) ∧ decode cX11_findHas 17 = .ok (.aload_n 0, 1) ∧ decode cX11_findHas 18 = .ok (.getfield 35, 3) := by decide +kernel
theorem dX11_findHas_0 : decode cX11_findHas 0 = .ok (.iconst 0, 1) := dX11_findHas_all0.1
theorem dX11_findHas_1 : decode cX11_findHas 1 = .ok (.istore_n 2, 1) := dX11_findHas_all0.2.1
theorem dX11_findHas_2 : decode cX11_findHas 2 = .ok (.iload_n 2, 1) := dX11_findHas_all0.2.2.1
theorem dX11_findHas_3 : decode cX11_findHas 3 = .ok (.bipush 20, 2) := dX11_findHas_all0.2.2.2.1
theorem dX11_findHas_5 : decode cX11_findHas 5 = .ok (.if_icmp .ge 54, 3) := dX11_findHas_all0.2.2.2.2.1
theorem dX11_findHas_8 : decode cX11_findHas 8 = .ok (.bipush 10, 2) := dX11_findHas_all0.2.2.2.2.2.1
theorem dX11_findHas_10 : decode cX11_findHas 10 = .ok (.istore_n 3, 1) := dX11_findHas_all0.2.2.2.2.2.2.1
theorem dX11_findHas_11 : decode cX11_findHas 11 = .ok (.iload_n 3, 1) := dX11_findHas_all0.2.2.2.2.2.2.2.1
theorem dX11_findHas_12 : decode cX11_findHas 12 = .ok (.bipush 20, 2) := dX11_findHas_all0.2.2.2.2.2.2.2.2.1
theorem dX11_findHas_14 : decode cX11_findHas 14 = .ok (.if_icmp .ge 39, 3) := dX11_findHas_all0.2.2.2.2.2.2.2.2.2.1
theorem dX11_findHas_17 : decode cX11_findHas 17 = .ok (.aload_n 0, 1) := dX11_findHas_all0.2.2.2.2.2.2.2.2.2.2.1
theorem dX11_findHas_18 : decode cX11_findHas 18 = .ok (.getfield 35, 3) := dX11_findHas_all0.2.2.2.2.2.2.2.2.2.2.2
theorem dX11_findHas_all1 : decode cX11_findHas 21 = .ok (.bipush 10, 2) ∧ decode cX11_findHas 23 = .ok (.iload_n 2, 1) ∧ decode cX11_findHas 24 = .ok (.imul, 1) ∧ decode cX11_findHas 25 = .ok (.iload_n 3, 1) ∧ decode cX11_findHas 26 = .ok (.iadd, 1) ∧ decode cX11_findHas 27 = .ok (.bipush 10, 2) ∧ decode cX11_findHas 29 = .ok (.isub, 1) ∧ decode cX11_findHas 30 = .ok (.iload_n 2, 1) ∧ decode cX11_findHas 31 = .ok (.iload_n 3, 1) ∧ decode cX11_findHas 32 = .ok (.if_icmp .ne 7, 3) ∧ decode cX11_findHas 35 = .ok (.iconst 0, 1) ∧ decode cX11_findHas 36 = .ok (.goto 10, 3) := by decide +kernel
theorem dX11_findHas_21 : decode cX11_findHas 21 = .ok (.bipush 10, 2) := dX11_findHas_all1.1
theorem dX11_findHas_23 : decode cX11_findHas 23 = .ok (.iload_n 2, 1) := dX11_findHas_all1.2.1
theorem dX11_findHas_24 : decode cX11_findHas 24 = .ok (.imul, 1) := dX11_findHas_all1.2.2.1
theorem dX11_findHas_25 : decode cX11_findHas 25 = .ok (.iload_n 3, 1) := dX11_findHas_all1.2.2.2.1
theorem dX11_findHas_26 : decode cX11_findHas 26 = .ok (.iadd, 1) := dX11_findHas_all1.2.2.2.2.1
theorem dX11_findHas_27 : decode cX11_findHas 27 = .ok (.bipush 10, 2) := dX11_findHas_all1.2.2.2.2.2.1
theorem dX11_findHas_29 : decode cX11_findHas 29 = .ok (.isub, 1) := dX11_findHas_all1.2.2.2.2.2.2.1
theorem dX11_findHas_30 : decode cX11_findHas 30 = .ok (.iload_n 2, 1) := dX11_findHas_all1.2.2.2.2.2.2.2.1
theorem dX11_findHas_31 : decode cX11_findHas 31 = .ok (.iload_n 3, 1) := dX11_findHas_all1.2.2.2.2.2.2.2.2.1
theorem dX11_findHas_32 : decode cX11_findHas 32 = .ok (.if_icmp .ne 7, 3) := dX11_findHas_all1.2.2.2.2.2.2.2.2.2.1
theorem dX11_findHas_35 : decode cX11_findHas 35 = .ok (.iconst 0, 1) := dX11_findHas_all1.2.2.2.2.2.2.2.2.2.2.1
theorem dX11_findHas_36 : decode cX11_findHas 36 = .ok (.goto 10, 3) := dX11_findHas_all1.2.2.2.2.2.2.2.2.2.2.2
theorem dX11_findHas_all2 : decode cX11_findHas 39 = .ok (.aload_n 0, 1) ∧ decode cX11_findHas 40 = .ok (.iload_n 2, 1) ∧ decode cX11_findHas 41 = .ok (.iload_n 3, 1) ∧ decode cX11_findHas 42 = .ok (.iload_n 1, 1) ∧ decode cX11_findHas 43 = .ok (.invokevirtual 191, 3) ∧ decode cX11_findHas 46 = .ok (.iastore, 1) ∧ decode cX11_findHas 47 = .ok (.iinc 3 1, 3) ∧ decode cX11_findHas 50 = .ok (.goto (-39), 3) ∧ decode cX11_findHas 53 = .ok (.iinc 2 1, 3) ∧ decode cX11_findHas 56 = .ok (.goto (-54), 3) ∧ decode cX11_findHas 59 = .ok (.return_, 1) := by decide +kernel
theorem dX11_findHas_39 : decode cX11_findHas 39 = .ok (.aload_n 0, 1) := dX11_findHas_all2.1
theorem dX11_findHas_40 : decode cX11_findHas 40 = .ok (.iload_n 2, 1) := dX11_findHas_all2.2.1
theorem dX11_findHas_41 : decode cX11_findHas 41 = .ok (.iload_n 3, 1) := dX11_findHas_all2.2.2.1
theorem dX11_findHas_42 : decode cX11_findHas 42 = .ok (.iload_n 1, 1) := dX11_findHas_all2.2.2.2.1
theorem dX11_findHas_43 : decode cX11_findHas 43 = .ok (.invokevirtual 191, 3) := dX11_findHas_all2.2.2.2.2.1
theorem dX11_findHas_46 : decode cX11_findHas 46 = .ok (.iastore, 1) := dX11_findHas_all2.2.2.2.2.2.1
theorem dX11_findHas_47 : decode cX11_findHas 47 = .ok (.iinc 3 1, 3) := dX11_findHas_all2.2.2.2.2.2.2.1
theorem dX11_findHas_50 : decode cX11_findHas 50 = .ok (.goto (-39), 3) := dX11_findHas_all2.2.2.2.2.2.2.2.1
theorem dX11_findHas_53 : decode cX11_findHas 53 = .ok (.iinc 2 1, 3) := dX11_findHas_all2.2.2.2.2.2.2.2.2.1
theorem dX11_findHas_56 : decode cX11_findHas 56 = .ok (.goto (-54), 3) := dX11_findHas_all2.2.2.2.2.2.2.2.2.2.1
theorem dX11_findHas_59 : decode cX11_findHas 59 = .ok (.return_, 1) := dX11_findHas_all2.2.2.2.2.2.2.2.2.2.2

/-- the holding that counts, as the reference finds it -/
def bsV (ho hc hs : Nat → Int32) (d o c : Int32) : Nat → Int32
  | 0 => -1000000
  | n + 1 => if (ho n).toInt = o.toInt ∧ (hc n).toInt = c.toInt ∧ (hs n).toInt ≤ d.toInt ∧ ((bsV ho hc hs d o c n).toInt = -1000000 ∨ (hs (bsV ho hc hs d o c n).toNatClampNeg).toInt ≤ (hs n).toInt) then nI n else bsV ho hc hs d o c n
theorem bsV_s (ho hc hs : Nat → Int32) (d o c : Int32) (n : Nat) : bsV ho hc hs d o c (n + 1) = if (ho n).toInt = o.toInt ∧ (hc n).toInt = c.toInt ∧ (hs n).toInt ≤ d.toInt ∧ ((bsV ho hc hs d o c n).toInt = -1000000 ∨ (hs (bsV ho hc hs d o c n).toNatClampNeg).toInt ≤ (hs n).toInt) then nI n else bsV ho hc hs d o c n := rfl
def pmV (ho hc hp hs : Nat → Int32) (d o c : Int32) (n : Nat) : Int32 := if (bsV ho hc hs d o c n).toInt = -1000000 then 0 else hp (bsV ho hc hs d o c n).toNatClampNeg
def sm_percent (hn : Int32) (ho hc hp hs : Nat → Int32) (o k d : Int32) : Int32 := if 0 ≤ o.toInt ∧ o.toInt < 20 ∧ 10 ≤ k.toInt ∧ k.toInt < 20 ∧ ¬ o.toInt = k.toInt ∧ 0 ≤ d.toInt ∧ d.toInt < 10000 then pmV ho hc hp hs d o k hn.toNatClampNeg else -1000001

set_option maxHeartbeats 4000000 in
set_option maxRecDepth 100000 in
theorem ct_X11_percentOf (l : Launch) (D : va_G) (cI cY cJ cQ : ClassId) (sz : Nat) (md : Nat → Nat) (sd : Int32) (mth mst hn cn pn mq gn mln mnn ln mlt msz mcu mtk mfr mti mfa mfb an un lc td mtn : Int32) (ho hc hp hs : Nat → Int32) (o : Int32) (k : Int32) (d : Int32)  (h1 : 0 ≤ hn.toInt) (h2 : hn.toInt ≤ 40)  : Met l yX11_percentOf wsX11_percentOf ({ frames := 0, cells := 0, slots := 0, locals := 0 }) (cPre D (ty4 cI cY cJ cQ) [(moC md sd mth mst hn cn pn mq gn mln mnn ln mlt msz mcu mtk mfr mti mfa mfb an un lc td mtn), (aI cI (md 7) 40 ho), (aI cI (md 8) 40 hc), (aI cI (md 9) 40 hp), (aI cI (md 10) 40 hs)] sz [.ref (md 64), .int o, .int k, .int d]) (va_Qi (fun (r : Int32) (u : Unit) => r = pmV ho hc hp hs d o k hn.toNatClampNeg) (cB D (ty4 cI cY cJ cQ) (fun (u : Unit) => [(moC md sd mth mst hn cn pn mq gn mln mnn ln mlt msz mcu mtk mfr mti mfa mfb an un lc td mtn), (aI cI (md 7) 40 ho), (aI cI (md 8) 40 hc), (aI cI (md 9) 40 hp), (aI cI (md 10) 40 hs)]) (va_A [(moC md sd mth mst hn cn pn mq gn mln mnn ln mlt msz mcu mtk mfr mti mfa mfb an un lc td mtn), (aI cI (md 7) 40 ho), (aI cI (md 8) 40 hc), (aI cI (md 9) 40 hp), (aI cI (md 10) 40 hs)] sz)) (va_A [(moC md sd mth mst hn cn pn mq gn mln mnn ln mlt msz mcu mtk mfr mti mfa mfb an un lc td mtn), (aI cI (md 7) 40 ho), (aI cI (md 8) 40 hc), (aI cI (md 9) 40 hp), (aI cI (md 10) 40 hs)] sz)) 0 0 (va_A [(moC md sd mth mst hn cn pn mq gn mln mnn ln mlt msz mcu mtk mfr mti mfa mfb an un lc td mtn), (aI cI (md 7) 40 ho), (aI cI (md 8) 40 hc), (aI cI (md 9) 40 hp), (aI cI (md 10) 40 hs)] sz) := by
  refine Met.ofW (cc := cX11_percentOf) (maxL := 6) (ret := (some .int)) (by decide) rfl ?_
  intro p e s m args below meth c s₁ B hml hv
  obtain ⟨rfl, hsz, hP, hK, hD0, hN⟩ := hv
  have hx := B.exec
  have hb := B.bytes
  have hr := B.returns
  have hts := atoms_spec (ws := wsX11_percentOf) B.pre
  have hown : s.vm.findClass RX11 = some m.cls := findClass_of_methodNamed B.named
  have hlocks := B.notSynchronized
  subst hsz
  have hD := hD0.self (sz := s.heap.size)
  generalize hAe : va_A [(moC md sd mth mst hn cn pn mq gn mln mnn ln mlt msz mcu mtk mfr mti mfa mfb an un lc td mtn), (aI cI (md 7) 40 ho), (aI cI (md 8) 40 hc), (aI cI (md 9) 40 hp), (aI cI (md 10) 40 hs)] s.heap.size = A at hD ⊢
  have hA : ∀ q : Nat, s.heap.size ≤ q → A q := fun q h => by rw [← hAe]; exact Or.inr h
  have hS : va_S A s.heap s.heap [] := va_S.rf
  have hP : va_P D vwCl [(moC md sd mth mst hn cn pn mq gn mln mnn ln mlt msz mcu mtk mfr mti mfa mfb an un lc td mtn), (aI cI (md 7) 40 ho), (aI cI (md 8) 40 hc), (aI cI (md 9) 40 hp), (aI cI (md 10) 40 hs)] s.heap := hP
  have hl := lv_entry ([.ref (md 64), .int o, .int k, .int d]) (n := 6) (Nat.le_of_ble_eq_true rfl)
  rw [lg_entry_eq]
  generalize (lg_sl ([.ref (md 64), .int o, .int k, .int d]) ++ List.replicate (6 - (lg_sl ([.ref (md 64), .int o, .int k, .int d])).length) Slot.unset).toArray = ls at hl ⊢
  have hl : lv_has ls 6 [(0, .ref (md 64)), (1, .int o), (2, .int k), (3, .int d)] := hl
  have km1000000 : (-1000000 : Int32).toInt = -1000000 := by decide
  have k0 : (0 : Int32).toInt = 0 := by decide
  have k1 : (1 : Int32).toInt = 1 := by decide
  refine lv_ldc hx hb hown (hts (Cond.constant RX11 139 (-1000000)) (wm_t (wm_l (wm_i 0 rfl)))) dX11_percentOf_0 ?_
  refine lv_istore (lv' := [(4, .int (-1000000)), (0, .ref (md 64)), (1, .int o), (2, .int k), (3, .int d)]) hx hb dX11_percentOf_2 hl (by decide) rfl (fun ls hl => ?_)
  refine lv_iconst (v := 0) hx hb dX11_percentOf_4 (by decide) ?_
  refine lv_istore (lv' := [(5, .int 0), (4, .int (-1000000)), (0, .ref (md 64)), (1, .int o), (2, .int k), (3, .int d)]) hx hb dX11_percentOf_5 hl (by decide) rfl (fun ls hl => ?_)
  refine st_loop 7 (fun _ => []) (fun (z : Int32 × Int32) (ls : Array Slot) (H : Heap) (locs : List Loc) => match z with | (q7_4, q7_5) => (0 ≤ q7_5.toInt) ∧ (q7_5.toInt ≤ hn.toInt) ∧ ((q7_4.toInt = -1000000 ∨ (0 ≤ q7_4.toInt ∧ q7_4.toInt < hn.toInt))) ∧ (q7_4 = bsV ho hc hs d o k q7_5.toNatClampNeg) ∧ lv_has ls 6 [(0, .ref (md 64)), (1, .int o), (2, .int k), (3, .int d), (4, .int q7_4), (5, .int q7_5)] ∧ va_P D vwCl [(moC md sd mth mst hn cn pn mq gn mln mnn ln mlt msz mcu mtk mfr mti mfa mfb an un lc td mtn), (aI cI (md 7) 40 ho), (aI cI (md 8) 40 hc), (aI cI (md 9) 40 hp), (aI cI (md 10) 40 hs)] H ∧ va_D A [(moC md sd mth mst hn cn pn mq gn mln mnn ln mlt msz mcu mtk mfr mti mfa mfb an un lc td mtn), (aI cI (md 7) 40 ho), (aI cI (md 8) 40 hc), (aI cI (md 9) 40 hp), (aI cI (md 10) 40 hs)] ∧ va_S A s.heap H locs) (fun (z : Int32 × Int32) => match z with | (q7_4, q7_5) => hn.toInt - q7_5.toInt) ?_ ?_ (((-1000000) : Int32), (0 : Int32)) ⟨(by omega), (by omega), (by omega), (by rfl), lv_sub hl [2, 3, 4, 5, 1, 0] rfl, hP, hD, hS⟩
  · rintro ⟨q7_4, q7_5⟩ ls H locs ⟨g1, g2, g3, g4, hl, hP, hD, hS⟩
    show (0 : Int) ≤ hn.toInt - q7_5.toInt
    omega
  · rintro n7 ih5 ⟨q7_4, q7_5⟩ ls H locs ⟨g1, g2, g3, g4, hl, hP, hD, hS⟩ hm6
    have hm6 : hn.toInt - q7_5.toInt < (n7 : Int) + 1 := hm6
    replace hl : lv_has ls 6 [(0, .ref (md 64)), (1, .int o), (2, .int k), (3, .int d), (4, .int q7_4), (5, .int q7_5)] := hl
    replace hP : va_P D vwCl [(moC md sd mth mst hn cn pn mq gn mln mnn ln mlt msz mcu mtk mfr mti mfa mfb an un lc td mtn), (aI cI (md 7) 40 ho), (aI cI (md 8) 40 hc), (aI cI (md 9) 40 hp), (aI cI (md 10) 40 hs)] H := hP
    replace hD : va_D A [(moC md sd mth mst hn cn pn mq gn mln mnn ln mlt msz mcu mtk mfr mti mfa mfb an un lc td mtn), (aI cI (md 7) 40 ho), (aI cI (md 8) 40 hc), (aI cI (md 9) 40 hp), (aI cI (md 10) 40 hs)] := hD
    show W _ _ _ _ _ _ _ _ _ _ _ _ _ _ _ (F0 m 7 ls [])
    refine lv_iload hx hb dX11_percentOf_7 (lv_at hl 5 rfl) ?_
    refine lv_aload_n hx hb dX11_percentOf_9 rfl (lv_at hl 0 rfl) ?_
    refine va_get (D := D) (ci := 11) (v := .int hn) (C := RX11) (T := TX11) (N := 64) hx hb hts inX11_percentOf_X11 hown hK hP 0 rfl rfl 6 (by decide) (hts (Cond.fieldLink RX11 181 "PortRoomsModel" "holdings" "I") (wm_t (wm_l (wm_i 1 rfl)))) (fun _ h9 => h9) rfl dX11_percentOf_10 ?_
    refine lv_icmp_ge (tgt := 88) hx hb dX11_percentOf_13 (by decide) (fun c8 => ?_) (fun c8 => ?_)
    · skip
      have f9 := i_le c8
      refine lv_iload hx hb dX11_percentOf_88 (lv_at hl 4 rfl) ?_
      refine lv_ldc hx hb hown (hts (Cond.constant RX11 139 (-1000000)) (wm_t (wm_l (wm_i 0 rfl)))) dX11_percentOf_90 ?_
      refine lv_icmp_ne (tgt := 99) hx hb dX11_percentOf_92 (by decide) (fun c10 => ?_) (fun c10 => ?_)
      · skip
        have f11 := i_ne c10
        refine lv_aload_n hx hb dX11_percentOf_99 rfl (lv_at hl 0 rfl) ?_
        refine va_get (D := D) (ci := 11) (v := .ref (md 9)) (C := RX11) (T := TX11) (N := 64) hx hb hts inX11_percentOf_X11 hown hK hP 0 rfl rfl 9 (by decide) (hts (Cond.fieldLink RX11 29 "PortRoomsModel" "part" "[I") (wm_t (wm_l (wm_i 5 rfl)))) (fun _ h9 => h9) rfl dX11_percentOf_100 ?_
        refine lv_iload hx hb dX11_percentOf_103 (lv_at hl 4 rfl) ?_
        refine va_iald hx hb hK hP 3 0 rfl rfl (i_in (by omega) (by omega)) dX11_percentOf_105 ?_
        refine lv_topi (fun v12 ev12 => ?_)
        have tlv12 : v12.toInt = (hp q7_4.toNatClampNeg).toInt := by rw [ev12]
        have ce8 := i_cl (x := q7_5) (by omega)
        have ce9 := i_cl (x := hn) (by omega)
        have ee9 : q7_5.toNatClampNeg = hn.toNatClampNeg := by omega
        have hz9 := g4
        rw [ee9] at hz9
        have hP9 := hP
        have hD9 := hD
        exact W.iret (v := v12) hx hb hr (fun t ht hW => ⟨⟨v12, (), rfl, (by unfold pmV; rw [← hz9]; (repeat' split) <;> first | rfl | assumption | (exfalso; omega)), by rw [ht]; exact hP9, va_K.moved hW.alike hK, hD9⟩, hS.F ht⟩) hS.2.2 dX11_percentOf_106
      · skip
        have f13 := i_eq c10
        refine lv_iconst (v := 0) hx hb dX11_percentOf_95 (by decide) ?_
        refine lv_goto (tgt := 106) hx hb dX11_percentOf_96 (by decide) ?_
        have ce8 := i_cl (x := q7_5) (by omega)
        have ce9 := i_cl (x := hn) (by omega)
        have ee9 : q7_5.toNatClampNeg = hn.toNatClampNeg := by omega
        have hz9 := g4
        rw [ee9] at hz9
        have hP9 := hP
        have hD9 := hD
        exact W.iret (v := 0) hx hb hr (fun t ht hW => ⟨⟨0, (), rfl, (by unfold pmV; rw [← hz9]; (repeat' split) <;> first | rfl | assumption | (exfalso; omega)), by rw [ht]; exact hP9, va_K.moved hW.alike hK, hD9⟩, hS.F ht⟩) hS.2.2 dX11_percentOf_106
    · skip
      have f14 := i_nle c8
      refine lv_aload_n hx hb dX11_percentOf_16 rfl (lv_at hl 0 rfl) ?_
      refine va_get (D := D) (ci := 11) (v := .ref (md 7)) (C := RX11) (T := TX11) (N := 64) hx hb hts inX11_percentOf_X11 hown hK hP 0 rfl rfl 7 (by decide) (hts (Cond.fieldLink RX11 23 "PortRoomsModel" "holder" "[I") (wm_t (wm_l (wm_i 2 rfl)))) (fun _ h9 => h9) rfl dX11_percentOf_17 ?_
      refine lv_iload hx hb dX11_percentOf_20 (lv_at hl 5 rfl) ?_
      refine va_iald hx hb hK hP 1 0 rfl rfl (i_in (by omega) (by omega)) dX11_percentOf_22 ?_
      refine lv_topi (fun v15 ev15 => ?_)
      have tlv15 : v15.toInt = (ho q7_5.toNatClampNeg).toInt := by rw [ev15]
      refine lv_iload_n hx hb dX11_percentOf_23 rfl (lv_at hl 1 rfl) ?_
      refine lv_icmp_ne (tgt := 82) hx hb dX11_percentOf_24 (by decide) (fun c16 => ?_) (fun c16 => ?_)
      · skip
        have f17 := i_ne c16
        obtain ⟨v18, ev18⟩ : ∃ y : Int32, y = q7_5 + 1 := ⟨_, rfl⟩
        try have tv18 : v18.toInt = q7_5.toInt + 1 := by rw [ev18]; exact (i_add (x := q7_5) (y := (1 : Int32)) (by rw [k1]; omega) (by rw [k1]; omega)).trans (by rw [k1])
        refine lv_iinc (v := v18) (lv' := [(5, .int v18), (0, .ref (md 64)), (1, .int o), (2, .int k), (3, .int d), (4, .int q7_4)]) hx hb dX11_percentOf_82 hl (k := 5) rfl (by rw [ev18]; rfl) (by decide) rfl (fun ls hl => ?_)
        refine lv_goto (tgt := 7) hx hb dX11_percentOf_85 (by decide) ?_
        have clk8 := i_cl (x := q7_5) (by omega)
        have clk9 := i_cl (x := v18) (by omega)
        have ek9 : v18.toNatClampNeg = q7_5.toNatClampNeg + 1 := by omega
        have nk9 : nI q7_5.toNatClampNeg = q7_5 := i_nI (by omega)
        exact ih5 (q7_4, v18) ls H locs ⟨(by omega), (by omega), (by omega), (by rw [ek9, bsV_s, nk9, ← g4]; (repeat' split) <;> first | (exfalso; omega) | (exfalso; contradiction) | rfl | (subst_vars; rfl)), lv_sub hl [1, 2, 3, 4, 5, 0] rfl, hP.sub [0, 1, 2, 3, 4] rfl, hD.sub [0, 1, 2, 3, 4] (by decide +kernel) rfl, hS⟩ (by show hn.toInt - v18.toInt < _; omega)
      · skip
        have f19 := i_eq c16
        refine lv_aload_n hx hb dX11_percentOf_27 rfl (lv_at hl 0 rfl) ?_
        refine va_get (D := D) (ci := 11) (v := .ref (md 8)) (C := RX11) (T := TX11) (N := 64) hx hb hts inX11_percentOf_X11 hown hK hP 0 rfl rfl 8 (by decide) (hts (Cond.fieldLink RX11 26 "PortRoomsModel" "held" "[I") (wm_t (wm_l (wm_i 3 rfl)))) (fun _ h9 => h9) rfl dX11_percentOf_28 ?_
        refine lv_iload hx hb dX11_percentOf_31 (lv_at hl 5 rfl) ?_
        refine va_iald hx hb hK hP 2 0 rfl rfl (i_in (by omega) (by omega)) dX11_percentOf_33 ?_
        refine lv_topi (fun v20 ev20 => ?_)
        have tlv20 : v20.toInt = (hc q7_5.toNatClampNeg).toInt := by rw [ev20]
        refine lv_iload_n hx hb dX11_percentOf_34 rfl (lv_at hl 2 rfl) ?_
        refine lv_icmp_ne (tgt := 82) hx hb dX11_percentOf_35 (by decide) (fun c21 => ?_) (fun c21 => ?_)
        · skip
          have f22 := i_ne c21
          obtain ⟨v23, ev23⟩ : ∃ y : Int32, y = q7_5 + 1 := ⟨_, rfl⟩
          try have tv23 : v23.toInt = q7_5.toInt + 1 := by rw [ev23]; exact (i_add (x := q7_5) (y := (1 : Int32)) (by rw [k1]; omega) (by rw [k1]; omega)).trans (by rw [k1])
          refine lv_iinc (v := v23) (lv' := [(5, .int v23), (0, .ref (md 64)), (1, .int o), (2, .int k), (3, .int d), (4, .int q7_4)]) hx hb dX11_percentOf_82 hl (k := 5) rfl (by rw [ev23]; rfl) (by decide) rfl (fun ls hl => ?_)
          refine lv_goto (tgt := 7) hx hb dX11_percentOf_85 (by decide) ?_
          have clk8 := i_cl (x := q7_5) (by omega)
          have clk9 := i_cl (x := v23) (by omega)
          have ek9 : v23.toNatClampNeg = q7_5.toNatClampNeg + 1 := by omega
          have nk9 : nI q7_5.toNatClampNeg = q7_5 := i_nI (by omega)
          exact ih5 (q7_4, v23) ls H locs ⟨(by omega), (by omega), (by omega), (by rw [ek9, bsV_s, nk9, ← g4]; (repeat' split) <;> first | (exfalso; omega) | (exfalso; contradiction) | rfl | (subst_vars; rfl)), lv_sub hl [1, 2, 3, 4, 5, 0] rfl, hP.sub [0, 1, 2, 3, 4] rfl, hD.sub [0, 1, 2, 3, 4] (by decide +kernel) rfl, hS⟩ (by show hn.toInt - v23.toInt < _; omega)
        · skip
          have f24 := i_eq c21
          refine lv_aload_n hx hb dX11_percentOf_38 rfl (lv_at hl 0 rfl) ?_
          refine va_get (D := D) (ci := 11) (v := .ref (md 10)) (C := RX11) (T := TX11) (N := 64) hx hb hts inX11_percentOf_X11 hown hK hP 0 rfl rfl 10 (by decide) (hts (Cond.fieldLink RX11 32 "PortRoomsModel" "since" "[I") (wm_t (wm_l (wm_i 4 rfl)))) (fun _ h9 => h9) rfl dX11_percentOf_39 ?_
          refine lv_iload hx hb dX11_percentOf_42 (lv_at hl 5 rfl) ?_
          refine va_iald hx hb hK hP 4 0 rfl rfl (i_in (by omega) (by omega)) dX11_percentOf_44 ?_
          refine lv_topi (fun v25 ev25 => ?_)
          have tlv25 : v25.toInt = (hs q7_5.toNatClampNeg).toInt := by rw [ev25]
          refine lv_iload_n hx hb dX11_percentOf_45 rfl (lv_at hl 3 rfl) ?_
          refine lv_icmp_gt (tgt := 82) hx hb dX11_percentOf_46 (by decide) (fun c26 => ?_) (fun c26 => ?_)
          · skip
            have f27 := i_lt c26
            obtain ⟨v28, ev28⟩ : ∃ y : Int32, y = q7_5 + 1 := ⟨_, rfl⟩
            try have tv28 : v28.toInt = q7_5.toInt + 1 := by rw [ev28]; exact (i_add (x := q7_5) (y := (1 : Int32)) (by rw [k1]; omega) (by rw [k1]; omega)).trans (by rw [k1])
            refine lv_iinc (v := v28) (lv' := [(5, .int v28), (0, .ref (md 64)), (1, .int o), (2, .int k), (3, .int d), (4, .int q7_4)]) hx hb dX11_percentOf_82 hl (k := 5) rfl (by rw [ev28]; rfl) (by decide) rfl (fun ls hl => ?_)
            refine lv_goto (tgt := 7) hx hb dX11_percentOf_85 (by decide) ?_
            have clk8 := i_cl (x := q7_5) (by omega)
            have clk9 := i_cl (x := v28) (by omega)
            have ek9 : v28.toNatClampNeg = q7_5.toNatClampNeg + 1 := by omega
            have nk9 : nI q7_5.toNatClampNeg = q7_5 := i_nI (by omega)
            exact ih5 (q7_4, v28) ls H locs ⟨(by omega), (by omega), (by omega), (by rw [ek9, bsV_s, nk9, ← g4]; (repeat' split) <;> first | (exfalso; omega) | (exfalso; contradiction) | rfl | (subst_vars; rfl)), lv_sub hl [1, 2, 3, 4, 5, 0] rfl, hP.sub [0, 1, 2, 3, 4] rfl, hD.sub [0, 1, 2, 3, 4] (by decide +kernel) rfl, hS⟩ (by show hn.toInt - v28.toInt < _; omega)
          · skip
            have f29 := i_nlt c26
            refine lv_iload hx hb dX11_percentOf_49 (lv_at hl 4 rfl) ?_
            refine lv_ldc hx hb hown (hts (Cond.constant RX11 139 (-1000000)) (wm_t (wm_l (wm_i 0 rfl)))) dX11_percentOf_51 ?_
            refine lv_icmp_eq (tgt := 73) hx hb dX11_percentOf_53 (by decide) (fun c30 => ?_) (fun c30 => ?_)
            · skip
              have f31 := i_eq c30
              refine lv_iload hx hb dX11_percentOf_73 (lv_at hl 5 rfl) ?_
              refine lv_goto (tgt := 80) hx hb dX11_percentOf_75 (by decide) ?_
              refine lv_istore (lv' := [(4, .int q7_5), (0, .ref (md 64)), (1, .int o), (2, .int k), (3, .int d), (5, .int q7_5)]) hx hb dX11_percentOf_80 hl (by decide) rfl (fun ls hl => ?_)
              obtain ⟨v32, ev32⟩ : ∃ y : Int32, y = q7_5 + 1 := ⟨_, rfl⟩
              try have tv32 : v32.toInt = q7_5.toInt + 1 := by rw [ev32]; exact (i_add (x := q7_5) (y := (1 : Int32)) (by rw [k1]; omega) (by rw [k1]; omega)).trans (by rw [k1])
              refine lv_iinc (v := v32) (lv' := [(5, .int v32), (4, .int q7_5), (0, .ref (md 64)), (1, .int o), (2, .int k), (3, .int d)]) hx hb dX11_percentOf_82 hl (k := 5) rfl (by rw [ev32]; rfl) (by decide) rfl (fun ls hl => ?_)
              refine lv_goto (tgt := 7) hx hb dX11_percentOf_85 (by decide) ?_
              have clk8 := i_cl (x := q7_5) (by omega)
              have clk9 := i_cl (x := v32) (by omega)
              have ek9 : v32.toNatClampNeg = q7_5.toNatClampNeg + 1 := by omega
              have nk9 : nI q7_5.toNatClampNeg = q7_5 := i_nI (by omega)
              exact ih5 (q7_5, v32) ls H locs ⟨(by omega), (by omega), (by omega), (by rw [ek9, bsV_s, nk9, ← g4]; (repeat' split) <;> first | (exfalso; omega) | (exfalso; contradiction) | rfl | (subst_vars; rfl)), lv_sub hl [2, 3, 4, 5, 1, 0] rfl, hP.sub [0, 1, 2, 3, 4] rfl, hD.sub [0, 1, 2, 3, 4] (by decide +kernel) rfl, hS⟩ (by show hn.toInt - v32.toInt < _; omega)
            · skip
              have f33 := i_ne c30
              refine lv_aload_n hx hb dX11_percentOf_56 rfl (lv_at hl 0 rfl) ?_
              refine va_get (D := D) (ci := 11) (v := .ref (md 10)) (C := RX11) (T := TX11) (N := 64) hx hb hts inX11_percentOf_X11 hown hK hP 0 rfl rfl 10 (by decide) (hts (Cond.fieldLink RX11 32 "PortRoomsModel" "since" "[I") (wm_t (wm_l (wm_i 4 rfl)))) (fun _ h9 => h9) rfl dX11_percentOf_57 ?_
              refine lv_iload hx hb dX11_percentOf_60 (lv_at hl 5 rfl) ?_
              refine va_iald hx hb hK hP 4 0 rfl rfl (i_in (by omega) (by omega)) dX11_percentOf_62 ?_
              refine lv_topi (fun v34 ev34 => ?_)
              have tlv34 : v34.toInt = (hs q7_5.toNatClampNeg).toInt := by rw [ev34]
              refine lv_aload_n hx hb dX11_percentOf_63 rfl (lv_at hl 0 rfl) ?_
              refine va_get (D := D) (ci := 11) (v := .ref (md 10)) (C := RX11) (T := TX11) (N := 64) hx hb hts inX11_percentOf_X11 hown hK hP 0 rfl rfl 10 (by decide) (hts (Cond.fieldLink RX11 32 "PortRoomsModel" "since" "[I") (wm_t (wm_l (wm_i 4 rfl)))) (fun _ h9 => h9) rfl dX11_percentOf_64 ?_
              refine lv_iload hx hb dX11_percentOf_67 (lv_at hl 4 rfl) ?_
              refine va_iald hx hb hK hP 4 0 rfl rfl (i_in (by omega) (by omega)) dX11_percentOf_69 ?_
              refine lv_topi (fun v35 ev35 => ?_)
              have tlv35 : v35.toInt = (hs q7_4.toNatClampNeg).toInt := by rw [ev35]
              refine lv_icmp_lt (tgt := 78) hx hb dX11_percentOf_70 (by decide) (fun c36 => ?_) (fun c36 => ?_)
              · skip
                have f37 := i_lt c36
                refine lv_iload hx hb dX11_percentOf_78 (lv_at hl 4 rfl) ?_
                refine lv_istore (lv' := [(4, .int q7_4), (0, .ref (md 64)), (1, .int o), (2, .int k), (3, .int d), (5, .int q7_5)]) hx hb dX11_percentOf_80 hl (by decide) rfl (fun ls hl => ?_)
                obtain ⟨v38, ev38⟩ : ∃ y : Int32, y = q7_5 + 1 := ⟨_, rfl⟩
                try have tv38 : v38.toInt = q7_5.toInt + 1 := by rw [ev38]; exact (i_add (x := q7_5) (y := (1 : Int32)) (by rw [k1]; omega) (by rw [k1]; omega)).trans (by rw [k1])
                refine lv_iinc (v := v38) (lv' := [(5, .int v38), (4, .int q7_4), (0, .ref (md 64)), (1, .int o), (2, .int k), (3, .int d)]) hx hb dX11_percentOf_82 hl (k := 5) rfl (by rw [ev38]; rfl) (by decide) rfl (fun ls hl => ?_)
                refine lv_goto (tgt := 7) hx hb dX11_percentOf_85 (by decide) ?_
                have clk8 := i_cl (x := q7_5) (by omega)
                have clk9 := i_cl (x := v38) (by omega)
                have ek9 : v38.toNatClampNeg = q7_5.toNatClampNeg + 1 := by omega
                have nk9 : nI q7_5.toNatClampNeg = q7_5 := i_nI (by omega)
                exact ih5 (q7_4, v38) ls H locs ⟨(by omega), (by omega), (by omega), (by rw [ek9, bsV_s, nk9, ← g4]; (repeat' split) <;> first | (exfalso; omega) | (exfalso; contradiction) | rfl | (subst_vars; rfl)), lv_sub hl [2, 3, 4, 5, 1, 0] rfl, hP.sub [0, 1, 2, 3, 4] rfl, hD.sub [0, 1, 2, 3, 4] (by decide +kernel) rfl, hS⟩ (by show hn.toInt - v38.toInt < _; omega)
              · skip
                have f39 := i_nlt c36
                refine lv_iload hx hb dX11_percentOf_73 (lv_at hl 5 rfl) ?_
                refine lv_goto (tgt := 80) hx hb dX11_percentOf_75 (by decide) ?_
                refine lv_istore (lv' := [(4, .int q7_5), (0, .ref (md 64)), (1, .int o), (2, .int k), (3, .int d), (5, .int q7_5)]) hx hb dX11_percentOf_80 hl (by decide) rfl (fun ls hl => ?_)
                obtain ⟨v40, ev40⟩ : ∃ y : Int32, y = q7_5 + 1 := ⟨_, rfl⟩
                try have tv40 : v40.toInt = q7_5.toInt + 1 := by rw [ev40]; exact (i_add (x := q7_5) (y := (1 : Int32)) (by rw [k1]; omega) (by rw [k1]; omega)).trans (by rw [k1])
                refine lv_iinc (v := v40) (lv' := [(5, .int v40), (4, .int q7_5), (0, .ref (md 64)), (1, .int o), (2, .int k), (3, .int d)]) hx hb dX11_percentOf_82 hl (k := 5) rfl (by rw [ev40]; rfl) (by decide) rfl (fun ls hl => ?_)
                refine lv_goto (tgt := 7) hx hb dX11_percentOf_85 (by decide) ?_
                have clk8 := i_cl (x := q7_5) (by omega)
                have clk9 := i_cl (x := v40) (by omega)
                have ek9 : v40.toNatClampNeg = q7_5.toNatClampNeg + 1 := by omega
                have nk9 : nI q7_5.toNatClampNeg = q7_5 := i_nI (by omega)
                exact ih5 (q7_5, v40) ls H locs ⟨(by omega), (by omega), (by omega), (by rw [ek9, bsV_s, nk9, ← g4]; (repeat' split) <;> first | (exfalso; omega) | (exfalso; contradiction) | rfl | (subst_vars; rfl)), lv_sub hl [2, 3, 4, 5, 1, 0] rfl, hP.sub [0, 1, 2, 3, 4] rfl, hD.sub [0, 1, 2, 3, 4] (by decide +kernel) rfl, hS⟩ (by show hn.toInt - v40.toInt < _; omega)

set_option maxHeartbeats 4000000 in
set_option maxRecDepth 100000 in
theorem ct_X11_percent (l : Launch) (D : va_G) (cI cY cJ cQ : ClassId) (sz : Nat) (md : Nat → Nat) (sd : Int32) (mth mst hn cn pn mq gn mln mnn ln mlt msz mcu mtk mfr mti mfa mfb an un lc td mtn : Int32) (ho hc hp hs : Nat → Int32) (o : Int32) (k : Int32) (d : Int32)  (h1 : 0 ≤ hn.toInt) (h2 : hn.toInt ≤ 40)  : Met l yX11_percent wsX11_percent ({ frames := 2, cells := 0, slots := 0, locals := 45 }) (cPre D (ty4 cI cY cJ cQ) [(moC md sd mth mst hn cn pn mq gn mln mnn ln mlt msz mcu mtk mfr mti mfa mfb an un lc td mtn), (aI cI (md 7) 40 ho), (aI cI (md 8) 40 hc), (aI cI (md 9) 40 hp), (aI cI (md 10) 40 hs)] sz [.ref (md 64), .int o, .int k, .int d]) (va_Qi (fun (r : Int32) (u : Unit) => r = sm_percent hn ho hc hp hs o k d) (cB D (ty4 cI cY cJ cQ) (fun (u : Unit) => [(moC md sd 0 mst hn cn pn mq gn mln mnn ln mlt msz mcu mtk mfr mti mfa mfb an un lc td mtn), (aI cI (md 7) 40 ho), (aI cI (md 8) 40 hc), (aI cI (md 9) 40 hp), (aI cI (md 10) 40 hs)]) (va_A [(moC md sd mth mst hn cn pn mq gn mln mnn ln mlt msz mcu mtk mfr mti mfa mfb an un lc td mtn), (aI cI (md 7) 40 ho), (aI cI (md 8) 40 hc), (aI cI (md 9) 40 hp), (aI cI (md 10) 40 hs)] sz)) (va_A [(moC md sd mth mst hn cn pn mq gn mln mnn ln mlt msz mcu mtk mfr mti mfa mfb an un lc td mtn), (aI cI (md 7) 40 ho), (aI cI (md 8) 40 hc), (aI cI (md 9) 40 hp), (aI cI (md 10) 40 hs)] sz)) 0 0 (va_A [(moC md sd mth mst hn cn pn mq gn mln mnn ln mlt msz mcu mtk mfr mti mfa mfb an un lc td mtn), (aI cI (md 7) 40 ho), (aI cI (md 8) 40 hc), (aI cI (md 9) 40 hp), (aI cI (md 10) 40 hs)] sz) := by
  refine Met.ofW (cc := cX11_percent) (maxL := 4) (ret := (some .int)) (by decide) rfl ?_
  intro p e s m args below meth c s₁ B hml hv
  obtain ⟨rfl, hsz, hP, hK, hD0, hN⟩ := hv
  have hx := B.exec
  have hb := B.bytes
  have hr := B.returns
  have hts := atoms_spec (ws := wsX11_percent) B.pre
  have hown : s.vm.findClass RX11 = some m.cls := findClass_of_methodNamed B.named
  have hlocks := B.notSynchronized
  subst hsz
  have hD := hD0.self (sz := s.heap.size)
  generalize hAe : va_A [(moC md sd mth mst hn cn pn mq gn mln mnn ln mlt msz mcu mtk mfr mti mfa mfb an un lc td mtn), (aI cI (md 7) 40 ho), (aI cI (md 8) 40 hc), (aI cI (md 9) 40 hp), (aI cI (md 10) 40 hs)] s.heap.size = A at hD ⊢
  have hA : ∀ q : Nat, s.heap.size ≤ q → A q := fun q h => by rw [← hAe]; exact Or.inr h
  have hS : va_S A s.heap s.heap [] := va_S.rf
  have hP : va_P D vwCl [(moC md sd mth mst hn cn pn mq gn mln mnn ln mlt msz mcu mtk mfr mti mfa mfb an un lc td mtn), (aI cI (md 7) 40 ho), (aI cI (md 8) 40 hc), (aI cI (md 9) 40 hp), (aI cI (md 10) 40 hs)] s.heap := hP
  have hl := lv_entry ([.ref (md 64), .int o, .int k, .int d]) (n := 4) (Nat.le_of_ble_eq_true rfl)
  rw [lg_entry_eq]
  generalize (lg_sl ([.ref (md 64), .int o, .int k, .int d]) ++ List.replicate (4 - (lg_sl ([.ref (md 64), .int o, .int k, .int d])).length) Slot.unset).toArray = ls at hl ⊢
  have hl : lv_has ls 4 [(0, .ref (md 64)), (1, .int o), (2, .int k), (3, .int d)] := hl
  have km1000001 : (-1000001 : Int32).toInt = -1000001 := by decide
  have k0 : (0 : Int32).toInt = 0 := by decide
  refine lv_aload_n hx hb dX11_percent_0 rfl (lv_at hl 0 rfl) ?_
  refine lv_iconst (v := 0) hx hb dX11_percent_1 (by decide) ?_
  refine va_put (D := D) (ci := 11) (v := .int 0) (ty := .int) (C := RX11) (T := TX11) (N := 64) hx hb hts inX11_percent_X11 tyX11 tyX11_ok nmX11 hown hK hP hD hS 0 rfl rfl 0 (by decide) (hts (Cond.fieldLink RX11 1 "PortRoomsModel" "thrown" "I") (wm_t (wm_l (wm_i 0 rfl)))) (fun _ h9 => h9) rfl (tyX11_ok 0 (by decide)) rfl rfl (Nat.le_of_ble_eq_true rfl) dX11_percent_2 (fun H locs => ?_)
  clear hP hD hS
  intro hP hD hS
  replace hP : va_P D vwCl [(moC md sd (0) mst hn cn pn mq gn mln mnn ln mlt msz mcu mtk mfr mti mfa mfb an un lc td mtn), (aI cI (md 7) 40 ho), (aI cI (md 8) 40 hc), (aI cI (md 9) 40 hp), (aI cI (md 10) 40 hs)] H := hP
  replace hD : va_D A [(moC md sd (0) mst hn cn pn mq gn mln mnn ln mlt msz mcu mtk mfr mti mfa mfb an un lc td mtn), (aI cI (md 7) 40 ho), (aI cI (md 8) 40 hc), (aI cI (md 9) 40 hp), (aI cI (md 10) 40 hs)] := hD
  refine lv_iload_n hx hb dX11_percent_5 rfl (lv_at hl 1 rfl) ?_
  refine st_i1 (va_runS (As := [.int o]) (rest := []) ⟨hx, hb, hml, hown, hts⟩ (ct_X11_isOwner l D cI cY cJ cQ _ o) (va_cwS 1 hts gX11_percent_X11_isOwner rfl rfl rfl cdX11_isOwner ⟨Nat.le_of_ble_eq_true rfl, Nat.le_of_ble_eq_true rfl⟩) (cPreS (hP.sub [] rfl) hK (hD.sub [] (by decide +kernel) rfl) hN) rfl rfl hl.1 rfl (lv_room (Nat.le_of_ble_eq_true rfl)) dX11_percent_6 ⟨Nat.le_of_ble_eq_true rfl, Nat.le_of_ble_eq_true rfl⟩) hP hD hS hA [] rfl (fun _ => rfl) (fun r3 u1 H locs hw2 => ?_)
  clear hP hS
  intro hP hS
  replace hw2 : r3 = if 0 ≤ o.toInt ∧ o.toInt ≤ 19 then 1 else 0 := hw2
  refine lv_if_eq (tgt := 31) hx hb dX11_percent_9 (by decide) (fun c4 => ?_) (fun c4 => ?_)
  · skip
    have f5 := bo_f hw2 c4
    refine lv_ldc hx hb hown (hts (Cond.constant RX11 157 (-1000001)) (wm_t (wm_l (wm_i 1 rfl)))) dX11_percent_31 ?_
    refine lv_goto (tgt := 43) hx hb dX11_percent_33 (by decide) ?_
    have hP9 := hP
    have hD9 := hD
    exact W.iret (v := (-1000001)) hx hb hr (fun t ht hW => ⟨⟨(-1000001), (), rfl, (by unfold sm_percent; (repeat' split) <;> first | rfl | (exfalso; omega) | (subst_vars; rfl)), by rw [ht]; exact hP9, va_K.moved hW.alike hK, hD9⟩, hS.F ht⟩) hS.2.2 dX11_percent_43
  · skip
    have f6 := bo_t hw2 c4
    refine lv_iload_n hx hb dX11_percent_12 rfl (lv_at hl 2 rfl) ?_
    refine st_i1 (va_runS (As := [.int k]) (rest := []) ⟨hx, hb, hml, hown, hts⟩ (ct_X11_isCompany l D cI cY cJ cQ _ k) (va_cwS 1 hts gX11_percent_X11_isCompany rfl rfl rfl cdX11_isCompany ⟨Nat.le_of_ble_eq_true rfl, Nat.le_of_ble_eq_true rfl⟩) (cPreS (hP.sub [] rfl) hK (hD.sub [] (by decide +kernel) rfl) hN) rfl rfl hl.1 rfl (lv_room (Nat.le_of_ble_eq_true rfl)) dX11_percent_13 ⟨Nat.le_of_ble_eq_true rfl, Nat.le_of_ble_eq_true rfl⟩) hP hD hS hA [] rfl (fun _ => rfl) (fun r9 u7 H locs hw8 => ?_)
    clear hP hS
    intro hP hS
    replace hw8 : r9 = if 10 ≤ k.toInt ∧ k.toInt ≤ 19 then 1 else 0 := hw8
    refine lv_if_eq (tgt := 31) hx hb dX11_percent_16 (by decide) (fun c10 => ?_) (fun c10 => ?_)
    · skip
      have f11 := bo_f hw8 c10
      refine lv_ldc hx hb hown (hts (Cond.constant RX11 157 (-1000001)) (wm_t (wm_l (wm_i 1 rfl)))) dX11_percent_31 ?_
      refine lv_goto (tgt := 43) hx hb dX11_percent_33 (by decide) ?_
      have hP9 := hP
      have hD9 := hD
      exact W.iret (v := (-1000001)) hx hb hr (fun t ht hW => ⟨⟨(-1000001), (), rfl, (by unfold sm_percent; (repeat' split) <;> first | rfl | (exfalso; omega) | (subst_vars; rfl)), by rw [ht]; exact hP9, va_K.moved hW.alike hK, hD9⟩, hS.F ht⟩) hS.2.2 dX11_percent_43
    · skip
      have f12 := bo_t hw8 c10
      refine lv_iload_n hx hb dX11_percent_19 rfl (lv_at hl 1 rfl) ?_
      refine lv_iload_n hx hb dX11_percent_20 rfl (lv_at hl 2 rfl) ?_
      refine lv_icmp_eq (tgt := 31) hx hb dX11_percent_21 (by decide) (fun c13 => ?_) (fun c13 => ?_)
      · skip
        have f14 := i_eq c13
        refine lv_ldc hx hb hown (hts (Cond.constant RX11 157 (-1000001)) (wm_t (wm_l (wm_i 1 rfl)))) dX11_percent_31 ?_
        refine lv_goto (tgt := 43) hx hb dX11_percent_33 (by decide) ?_
        have hP9 := hP
        have hD9 := hD
        exact W.iret (v := (-1000001)) hx hb hr (fun t ht hW => ⟨⟨(-1000001), (), rfl, (by unfold sm_percent; (repeat' split) <;> first | rfl | (exfalso; omega) | (subst_vars; rfl)), by rw [ht]; exact hP9, va_K.moved hW.alike hK, hD9⟩, hS.F ht⟩) hS.2.2 dX11_percent_43
      · skip
        have f15 := i_ne c13
        refine lv_iload_n hx hb dX11_percent_24 rfl (lv_at hl 3 rfl) ?_
        refine st_i1 (va_runS (As := [.int d]) (rest := []) ⟨hx, hb, hml, hown, hts⟩ (ct_X11_isDay l D cI cY cJ cQ _ d) (va_cwS 1 hts gX11_percent_X11_isDay rfl rfl rfl cdX11_isDay ⟨Nat.le_of_ble_eq_true rfl, Nat.le_of_ble_eq_true rfl⟩) (cPreS (hP.sub [] rfl) hK (hD.sub [] (by decide +kernel) rfl) hN) rfl rfl hl.1 rfl (lv_room (Nat.le_of_ble_eq_true rfl)) dX11_percent_25 ⟨Nat.le_of_ble_eq_true rfl, Nat.le_of_ble_eq_true rfl⟩) hP hD hS hA [] rfl (fun _ => rfl) (fun r18 u16 H locs hw17 => ?_)
        clear hP hS
        intro hP hS
        replace hw17 : r18 = if 0 ≤ d.toInt ∧ d.toInt ≤ 9999 then 1 else 0 := hw17
        refine lv_if_ne (tgt := 36) hx hb dX11_percent_28 (by decide) (fun c19 => ?_) (fun c19 => ?_)
        · skip
          have f20 := bo_t hw17 c19
          refine lv_aload_n hx hb dX11_percent_36 rfl (lv_at hl 0 rfl) ?_
          refine lv_iload_n hx hb dX11_percent_37 rfl (lv_at hl 1 rfl) ?_
          refine lv_iload_n hx hb dX11_percent_38 rfl (lv_at hl 2 rfl) ?_
          refine lv_iload_n hx hb dX11_percent_39 rfl (lv_at hl 3 rfl) ?_
          refine st_i1 (va_runV (C := RX11) (As := [.int o, .int k, .int d]) (rest := []) ⟨hx, hb, hml, hown, hts⟩ (ct_X11_percentOf l D cI cY cJ cQ _ md sd 0 mst hn cn pn mq gn mln mnn ln mlt msz mcu mtk mfr mti mfa mfb an un lc td mtn ho hc hp hs o k d h1 h2) (cwV 3 hts gX11_percent_X11_percentOf rfl rfl rfl ⟨rfl, cdX11_percentOf⟩ ⟨Nat.le_of_ble_eq_true rfl, Nat.le_of_ble_eq_true rfl⟩) (cPreV (hP.sub [0, 1, 2, 3, 4] rfl) hK (hD.sub [0, 1, 2, 3, 4] (by decide +kernel) rfl) hN (ci := 11) (q0 := 0) rfl rfl) rfl rfl hl.1 rfl (lv_room (Nat.le_of_ble_eq_true rfl)) dX11_percent_40 ⟨Nat.le_of_ble_eq_true rfl, Nat.le_of_ble_eq_true rfl⟩) hP hD hS hA [0, 1, 2, 3, 4] rfl (fun _ => rfl) (fun r23 u21 H locs hw22 => ?_)
          clear hP hS
          intro hP hS
          replace hw22 : r23 = pmV ho hc hp hs d o k hn.toNatClampNeg := hw22
          subst hw22
          have hP9 := hP
          have hD9 := hD
          exact W.iret (v := pmV ho hc hp hs d o k hn.toNatClampNeg) hx hb hr (fun t ht hW => ⟨⟨pmV ho hc hp hs d o k hn.toNatClampNeg, (), rfl, (by unfold sm_percent; (repeat' split) <;> first | rfl | (exfalso; omega) | (subst_vars; rfl)), by rw [ht]; exact hP9, va_K.moved hW.alike hK, hD9⟩, hS.F ht⟩) hS.2.2 dX11_percent_43
        · skip
          have f24 := bo_f hw17 c19
          refine lv_ldc hx hb hown (hts (Cond.constant RX11 157 (-1000001)) (wm_t (wm_l (wm_i 1 rfl)))) dX11_percent_31 ?_
          refine lv_goto (tgt := 43) hx hb dX11_percent_33 (by decide) ?_
          have hP9 := hP
          have hD9 := hD
          exact W.iret (v := (-1000001)) hx hb hr (fun t ht hW => ⟨⟨(-1000001), (), rfl, (by unfold sm_percent; (repeat' split) <;> first | rfl | (exfalso; omega) | (subst_vars; rfl)), by rw [ht]; exact hP9, va_K.moved hW.alike hK, hD9⟩, hS.F ht⟩) hS.2.2 dX11_percent_43


/-- the part that o has of company 10 + c on a day, as the reference finds it -/
def pmF (ho hc hp hs : Nat → Int32) (d : Int32) (n : Nat) : Nat → Nat → Int := fun o c => if o = c + 10 then 0 else (pmV ho hc hp hs d (nI o) (nI (c + 10)) n).toInt
def mhF (mh : Nat → Int32) : Nat → Nat → Int := fun o c => (mh (10 * o + c)).toInt
def okE (mh : Nat → Int32) : Prop := ∀ j : Nat, j < 200 → 0 ≤ (mh j).toInt ∧ (mh j).toInt ≤ 100
theorem okE_p {mh : Nat → Int32} (h : okE mh) : okp (mhF mh) := fun o c ho hc => h _ (by omega)
def fhQ (ho hc hp hs : Nat → Int32) (d : Int32) (n : Nat) (mh : Nat → Int32) (O C : Nat) : Prop := ∀ o c : Nat, o < 20 → c < 10 → (o < O ∨ (o = O ∧ c < C)) → mhF mh o c = pmF ho hc hp hs d n o c
theorem fhQ_0 {ho hc hp hs : Nat → Int32} {d : Int32} {n : Nat} {mh : Nat → Int32} : fhQ ho hc hp hs d n mh 0 0 := fun o c _ _ h => by omega
theorem fhQ_up {ho hc hp hs : Nat → Int32} {d : Int32} {n : Nat} {mh : Nat → Int32} {O C C' i : Nat} {x : Int32} (h : fhQ ho hc hp hs d n mh O C) (hC : C < 10) (hi : i = 10 * O + C) (hC' : C' = C + 1) (hx : x.toInt = pmF ho hc hp hs d n O C) : fhQ ho hc hp hs d n (upd mh i x) O C' := by
  intro o c h1 h2 h3
  by_cases e : 10 * o + c = i
  · have e1 : o = O := by omega
    have e2 : c = C := by omega
    show (upd mh i x (10 * o + c)).toInt = _
    rw [e, upd_s, e1, e2]
    exact hx
  · show (upd mh i x (10 * o + c)).toInt = _
    rw [upd_n _ _ e]
    exact h o c h1 h2 (by omega)
theorem fhQ_nx {ho hc hp hs : Nat → Int32} {d : Int32} {n : Nat} {mh : Nat → Int32} {O O' : Nat} (h : fhQ ho hc hp hs d n mh O 10) (e : O' = O + 1) : fhQ ho hc hp hs d n mh O' 0 := fun o c h1 h2 h3 => h o c h1 h2 (by omega)
theorem bs_rng {ho hc hs : Nat → Int32} {d o c : Int32} (n : Nat) (hn : n ≤ 40) : (bsV ho hc hs d o c n).toInt = -1000000 ∨ (0 ≤ (bsV ho hc hs d o c n).toInt ∧ (bsV ho hc hs d o c n).toInt < n) := by
  induction n with
  | zero => exact Or.inl rfl
  | succ n ih =>
    have ih := ih (by omega)
    have c1 := nI_toInt (n := n) (by omega)
    rw [bsV_s]
    split
    · omega
    · omega
theorem pm_bd {ho hc hp hs : Nat → Int32} {d hn o c : Int32} (hv : okV hn hp) (h0 : 0 ≤ hn.toInt) (h1 : hn.toInt ≤ 40) : 0 ≤ (pmV ho hc hp hs d o c hn.toNatClampNeg).toInt ∧ (pmV ho hc hp hs d o c hn.toNatClampNeg).toInt ≤ 100 := by
  have ch := i_cl h0
  unfold pmV
  split
  · decide
  · rename_i g
    have r := bs_rng (ho := ho) (hc := hc) (hs := hs) (d := d) (o := o) (c := c) hn.toNatClampNeg (by omega)
    rcases r with r | ⟨r1, r2⟩
    · exact absurd r g
    · have c9 := i_cl r1
      exact hv _ (by omega)
theorem pmF_bd {ho hc hp hs : Nat → Int32} {d hn : Int32} (hv : okV hn hp) (h0 : 0 ≤ hn.toInt) (h1 : hn.toInt ≤ 40) : okp (pmF ho hc hp hs d hn.toNatClampNeg) := fun o c _ _ => by
  unfold pmF
  split
  · omega
  · exact pm_bd hv h0 h1
theorem okE_of {ho hc hp hs mh : Nat → Int32} {d hn : Int32} (h : fhQ ho hc hp hs d hn.toNatClampNeg mh 20 0) (hv : okV hn hp) (h0 : 0 ≤ hn.toInt) (h1 : hn.toInt ≤ 40) : okE mh := by
  intro j hj
  have e : j = 10 * (j / 10) + j % 10 := by omega
  have h9 := h (j / 10) (j % 10) (by omega) (by omega) (by omega)
  have h8 := pmF_bd (ho := ho) (hc := hc) (hs := hs) (d := d) hv h0 h1 (j / 10) (j % 10) (by omega) (by omega)
  unfold mhF at h9
  rw [← e] at h9
  omega
theorem mhF_pm {ho hc hp hs mh : Nat → Int32} {d : Int32} {n : Nat} (h : fhQ ho hc hp hs d n mh 20 0) : ∀ o c, o < 20 → c < 10 → mhF mh o c = pmF ho hc hp hs d n o c := fun o c h1 h2 => h o c h1 h2 (by omega)
theorem pdivL {x w z : Int64} {b : Int32} (e1 : w = x * b.toInt64) (e2 : z = w / 100) (h0 : 0 ≤ x.toInt) (h1 : x.toInt ≤ 1000000) (h2 : 0 ≤ b.toInt) (h3 : b.toInt ≤ 100) : z.toInt = x.toInt * b.toInt / 100 := by
  have hb := mul_bd h0 h1 h2 h3
  have hw : w.toInt = x.toInt * b.toInt := by
    rw [e1, Int64.toInt_mul, i_w]
    exact l_bmod (by omega) (by omega)
  have k100 : (100 : Int64).toInt = 100 := by decide
  rw [e2, Int64.toInt_div, k100, hw, Int.tdiv_eq_ediv_of_nonneg hb.1]
  exact l_bmod (by omega) (by omega)
theorem gL_no {p : Nat → Nat → Int} {t : Nat} {mp : Nat → Int32} {mf : Nat → Int64} {i c : Nat} (h : ¬ 0 < p (mp i).toNatClampNeg c) : gL p t mp mf i c = 0 := alT_0 (fun z => h z.1)
theorem gL_on {p : Nat → Nat → Int} {t : Nat} {mp : Nat → Int32} {mf : Nat → Int64} {i c : Nat} (h : onP mp i c = true) : gL p t mp mf i c = 0 := alT_0 (fun z => by have z2 := z.2; rw [h] at z2; exact absurd z2 (by decide))
theorem gL_t {p : Nat → Nat → Int} {t : Nat} {mp : Nat → Int32} {mf : Nat → Int64} {i c : Nat} (h1 : 0 < p (mp i).toNatClampNeg c) (h2 : onP mp i c = false) (e : c = t) : gL p t mp mf i c = (mf i).toInt * p (mp i).toNatClampNeg c / 100 := alT_t ⟨h1, by rw [h2]; rfl⟩ e
theorem gL_v0 {p : Nat → Nat → Int} {t : Nat} {mp : Nat → Int32} {mf : Nat → Int64} {i c : Nat} (h1 : 0 < p (mp i).toNatClampNeg c) (h2 : onP mp i c = false) (e : ¬ c = t) (hv : (mf i).toInt * p (mp i).toNatClampNeg c / 100 = 0) : gL p t mp mf i c = 0 := by
  have h9 : gL p t mp mf i c = alG p t (10 - i) (10 + c) ((mf i).toInt * p (mp i).toNatClampNeg c / 100) (fun y => !onP mp i y && !decide (y = c)) := alT_n ⟨h1, by rw [h2]; rfl⟩ e
  rw [h9, hv, alG_v0]
theorem df_end {p : Nat → Nat → Int} {t q : Nat} {sum : Int} {a met : Int32} {mp mt : Nat → Int32} {mf : Nat → Int64} (h : dfI p t q sum a met mp mt mf) (ha : a.toInt < 0) : sum = alG p t 11 q 1000000 (fun _ => true) := by
  have h1 := h.1
  rw [show (a.toInt + 1).toNat = 0 by omega] at h1
  have h2 : reS p t mp mt mf 0 = 0 := rfl
  omega
def sm_share (hn : Int32) (ho hc hp hs : Nat → Int32) (q o d : Int32) : Int := if 0 ≤ q.toInt ∧ q.toInt < 10 ∧ 0 ≤ o.toInt ∧ o.toInt < 20 ∧ 0 ≤ d.toInt ∧ d.toInt < 10000 then shF (pmF ho hc hp hs d hn.toNatClampNeg) q.toNatClampNeg o.toNatClampNeg else -1000001
def sm_truly (hn : Int32) (ho hc hp hs : Nat → Int32) (o d : Int32) : Int := if 0 ≤ o.toInt ∧ o.toInt < 20 ∧ 0 ≤ d.toInt ∧ d.toInt < 10000 then (trV (pmF ho hc hp hs d hn.toNatClampNeg) o.toNatClampNeg 10).1 else -1000001
/-- some place below n -/
def anyP (P : Nat → Bool) : Nat → Bool
  | 0 => false
  | n + 1 => anyP P n || P n
theorem anyP_s (P : Nat → Bool) (n : Nat) : anyP P (n + 1) = (anyP P n || P n) := rfl
theorem anyP_iff (P : Nat → Bool) (n : Nat) : anyP P n = true ↔ ∃ a, a < n ∧ P a = true := by
  induction n with
  | zero => exact ⟨fun h => absurd h (by show ¬ (false = true); decide), fun h => by obtain ⟨a, h1, -⟩ := h; omega⟩
  | succ n ih =>
    rw [anyP_s, Bool.or_eq_true, ih]
    constructor
    · rintro (⟨a, h1, h2⟩ | h)
      · exact ⟨a, by omega, h2⟩
      · exact ⟨n, by omega, h⟩
    · rintro ⟨a, h1, h2⟩
      by_cases e : a = n
      · rw [e] at h2; exact Or.inr h2
      · exact Or.inl ⟨a, by omega, h2⟩
/-- the companies met from c on, turn by turn -/
def mtV (E : Nat → Nat → Bool) (c : Nat) : Nat → Nat → Bool
  | 0 => fun _ => false
  | i + 1 => fun b => mtV E c i b || anyP (fun a => (mtV E c i a || decide (a = c)) && E a b) 10
theorem mtV_s (E : Nat → Nat → Bool) (c i b : Nat) : mtV E c (i + 1) b = (mtV E c i b || anyP (fun a => (mtV E c i a || decide (a = c)) && E a b) 10) := rfl
def sm_rings (hn : Int32) (ho hc hp hs : Nat → Int32) (d r : Int32) : Prop := if 0 ≤ d.toInt ∧ d.toInt < 10000 then (∀ i : Nat, i < 32 → bt r i = (decide (i < 10) && mtV (ppB (pmF ho hc hp hs d hn.toNatClampNeg)) i 11 i)) else r.toInt = -1000001
/-- the companies met so far, as bits -/
def mtQ (E : Nat → Nat → Bool) (c : Nat) (met : Int32) (i : Nat) : Prop := ∀ b : Nat, b < 32 → bt met b = mtV E c i b
/-- one turn, as far as place a, b -/
def mrQ (E : Nat → Nat → Bool) (c : Nat) (more : Int32) (i a b : Nat) : Prop := ∀ x : Nat, x < 32 → bt more x = (mtV E c i x || (anyP (fun y => (mtV E c i y || decide (y = c)) && E y x) a || ((mtV E c i a || decide (a = c)) && E a x && decide (x < b))))
theorem mrQ_0 {E : Nat → Nat → Bool} {c : Nat} {met : Int32} {i : Nat} (h : mtQ E c met i) : mrQ E c met i 0 0 := by
  intro x hx
  rw [h x hx, decide_eq_false (show ¬ x < 0 by omega), Bool.and_false]
  show _ = (mtV E c i x || (false || false))
  cases mtV E c i x <;> rfl
theorem mrQ_end {E : Nat → Nat → Bool} {c : Nat} {more : Int32} {i j : Nat} (h : mrQ E c more i 10 0) (e : j = i + 1) : mtQ E c more j := by
  intro b hb
  rw [h b hb, e, mtV_s, decide_eq_false (show ¬ b < 0 by omega), Bool.and_false, Bool.or_false]
theorem mrQ_row {E : Nat → Nat → Bool} {c : Nat} {more : Int32} {i a a' b : Nat} (hE : ∀ x y, E x y = true → y < 10) (h : mrQ E c more i a b) (hb : 10 ≤ b ∨ (mtV E c i a || decide (a = c)) = false) (e : a' = a + 1) : mrQ E c more i a' 0 := by
  intro x hx
  rw [h x hx, e, anyP_s, decide_eq_false (show ¬ x < 0 by omega), Bool.and_false, Bool.or_false]
  congr 2
  rcases hb with hb | hb
  · cases q : E a x with
    | false => rw [Bool.and_false]; rfl
    | true => rw [decide_eq_true (show x < b by have := hE a x q; omega), Bool.and_true]
  · rw [hb]; rfl
theorem mrQ_up {E : Nat → Nat → Bool} {c : Nat} {more w : Int32} {i a b b' : Nat} {y : Int32} (h : mrQ E c more i a b) (hg : (mtV E c i a || decide (a = c)) = true) (hy : y.toInt = b) (h9 : b < 10) (e : b' = b + 1) (hE : E a b = true) (hw : w = more ||| ((1 : Int32) <<< (y &&& 31))) : mrQ E c w i a b' := by
  have cy := i_cl (x := y) (by omega)
  intro x hx
  rw [hw, bt_set (by omega) (by omega) hx, h x hx, hg, e, show y.toNatClampNeg = b by omega]
  by_cases q : x = b
  · rw [q, hE, decide_eq_true rfl, decide_eq_true (show b < b + 1 by omega), decide_eq_false (show ¬ b < b by omega)]
    cases mtV E c i b <;> cases anyP (fun y => (mtV E c i y || decide (y = c)) && E y b) a <;> rfl
  · rw [decide_eq_false q, show decide (x < b + 1) = decide (x < b) from decide_eq_decide.mpr ⟨fun z => by omega, fun z => by omega⟩, Bool.or_false]
theorem mrQ_no {E : Nat → Nat → Bool} {c : Nat} {more : Int32} {i a b b' : Nat} (h : mrQ E c more i a b) (e : b' = b + 1) (hE : E a b = false) : mrQ E c more i a b' := by
  intro x hx
  rw [h x hx, e]
  by_cases q : x = b
  · rw [q, hE, Bool.and_false]; rfl
  · rw [show decide (x < b + 1) = decide (x < b) from decide_eq_decide.mpr ⟨fun z => by omega, fun z => by omega⟩]
theorem ppB_10 {p : Nat → Nat → Int} : ∀ x y, ppB p x y = true → y < 10 := fun x y h => (of_decide_eq_true h).1

set_option maxHeartbeats 4000000 in
set_option maxRecDepth 100000 in
theorem ct_X11_findHas (l : Launch) (D : va_G) (cI cY cJ cQ : ClassId) (sz : Nat) (md : Nat → Nat) (sd : Int32) (mth mst hn cn pn mq gn mln mnn ln mlt msz mcu mtk mfr mti mfa mfb an un lc td mtn : Int32) (ho hc hp hs mh : Nat → Int32) (d : Int32)  (h1 : 0 ≤ hn.toInt) (h2 : hn.toInt ≤ 40) (h3 : okV hn hp)  : Met l yX11_findHas wsX11_findHas ({ frames := 1, cells := 0, slots := 0, locals := 25 }) (cPre D (ty4 cI cY cJ cQ) [(moC md sd mth mst hn cn pn mq gn mln mnn ln mlt msz mcu mtk mfr mti mfa mfb an un lc td mtn), (aI cI (md 7) 40 ho), (aI cI (md 8) 40 hc), (aI cI (md 9) 40 hp), (aI cI (md 10) 40 hs), (aI cI (md 11) 200 mh)] sz [.ref (md 64), .int d]) (va_Qv (fun (u : (Nat → Int32)) => fhQ ho hc hp hs d hn.toNatClampNeg u 20 0 ∧ okE u) (cB D (ty4 cI cY cJ cQ) (fun (u : (Nat → Int32)) => [(moC md sd mth mst hn cn pn mq gn mln mnn ln mlt msz mcu mtk mfr mti mfa mfb an un lc td mtn), (aI cI (md 7) 40 ho), (aI cI (md 8) 40 hc), (aI cI (md 9) 40 hp), (aI cI (md 10) 40 hs), (aI cI (md 11) 200 u)]) (va_A [(moC md sd mth mst hn cn pn mq gn mln mnn ln mlt msz mcu mtk mfr mti mfa mfb an un lc td mtn), (aI cI (md 7) 40 ho), (aI cI (md 8) 40 hc), (aI cI (md 9) 40 hp), (aI cI (md 10) 40 hs), (aI cI (md 11) 200 mh)] sz)) (va_A [(moC md sd mth mst hn cn pn mq gn mln mnn ln mlt msz mcu mtk mfr mti mfa mfb an un lc td mtn), (aI cI (md 7) 40 ho), (aI cI (md 8) 40 hc), (aI cI (md 9) 40 hp), (aI cI (md 10) 40 hs), (aI cI (md 11) 200 mh)] sz)) 0 0 (va_A [(moC md sd mth mst hn cn pn mq gn mln mnn ln mlt msz mcu mtk mfr mti mfa mfb an un lc td mtn), (aI cI (md 7) 40 ho), (aI cI (md 8) 40 hc), (aI cI (md 9) 40 hp), (aI cI (md 10) 40 hs), (aI cI (md 11) 200 mh)] sz) := by
  refine Met.ofW (cc := cX11_findHas) (maxL := 4) (ret := none) (by decide) rfl ?_
  intro p e s m args below meth c s₁ B hml hv
  obtain ⟨rfl, hsz, hP, hK, hD0, hN⟩ := hv
  have hx := B.exec
  have hb := B.bytes
  have hr := B.returns
  have hts := atoms_spec (ws := wsX11_findHas) B.pre
  have hown : s.vm.findClass RX11 = some m.cls := findClass_of_methodNamed B.named
  have hlocks := B.notSynchronized
  subst hsz
  have hD := hD0.self (sz := s.heap.size)
  generalize hAe : va_A [(moC md sd mth mst hn cn pn mq gn mln mnn ln mlt msz mcu mtk mfr mti mfa mfb an un lc td mtn), (aI cI (md 7) 40 ho), (aI cI (md 8) 40 hc), (aI cI (md 9) 40 hp), (aI cI (md 10) 40 hs), (aI cI (md 11) 200 mh)] s.heap.size = A at hD ⊢
  have hA : ∀ q : Nat, s.heap.size ≤ q → A q := fun q h => by rw [← hAe]; exact Or.inr h
  have hS : va_S A s.heap s.heap [] := va_S.rf
  have hP : va_P D vwCl [(moC md sd mth mst hn cn pn mq gn mln mnn ln mlt msz mcu mtk mfr mti mfa mfb an un lc td mtn), (aI cI (md 7) 40 ho), (aI cI (md 8) 40 hc), (aI cI (md 9) 40 hp), (aI cI (md 10) 40 hs), (aI cI (md 11) 200 mh)] s.heap := hP
  have hl := lv_entry ([.ref (md 64), .int d]) (n := 4) (Nat.le_of_ble_eq_true rfl)
  rw [lg_entry_eq]
  generalize (lg_sl ([.ref (md 64), .int d]) ++ List.replicate (4 - (lg_sl ([.ref (md 64), .int d])).length) Slot.unset).toArray = ls at hl ⊢
  have hl : lv_has ls 4 [(0, .ref (md 64)), (1, .int d)] := hl
  have k0 : (0 : Int32).toInt = 0 := by decide
  have k1 : (1 : Int32).toInt = 1 := by decide
  have k10 : (10 : Int32).toInt = 10 := by decide
  have k20 : (20 : Int32).toInt = 20 := by decide
  refine lv_iconst (v := 0) hx hb dX11_findHas_0 (by decide) ?_
  refine lv_istore_n (lv' := [(2, .int 0), (0, .ref (md 64)), (1, .int d)]) hx hb dX11_findHas_1 rfl hl (by decide) rfl (fun ls hl => ?_)
  refine st_loop 2 (fun _ => []) (fun (z : Int32 × (Nat → Int32)) (ls : Array Slot) (H : Heap) (locs : List Loc) => match z with | (q2_2, mhq) => (0 ≤ q2_2.toInt) ∧ (q2_2.toInt ≤ 20) ∧ (fhQ ho hc hp hs d hn.toNatClampNeg mhq q2_2.toNatClampNeg 0) ∧ lv_has ls 4 [(0, .ref (md 64)), (1, .int d), (2, .int q2_2)] ∧ va_P D vwCl [(moC md sd mth mst hn cn pn mq gn mln mnn ln mlt msz mcu mtk mfr mti mfa mfb an un lc td mtn), (aI cI (md 7) 40 ho), (aI cI (md 8) 40 hc), (aI cI (md 9) 40 hp), (aI cI (md 10) 40 hs), (aI cI (md 11) 200 mhq)] H ∧ va_D A [(moC md sd mth mst hn cn pn mq gn mln mnn ln mlt msz mcu mtk mfr mti mfa mfb an un lc td mtn), (aI cI (md 7) 40 ho), (aI cI (md 8) 40 hc), (aI cI (md 9) 40 hp), (aI cI (md 10) 40 hs), (aI cI (md 11) 200 mhq)] ∧ va_S A s.heap H locs) (fun (z : Int32 × (Nat → Int32)) => match z with | (q2_2, mhq) => 20 - q2_2.toInt) ?_ ?_ ((0 : Int32), mh) ⟨(by omega), (by omega), (by exact fhQ_0), lv_sub hl [1, 2, 0] rfl, hP, hD, hS⟩
  · rintro ⟨q2_2, mhq⟩ ls H locs ⟨g1, g2, g3, hl, hP, hD, hS⟩
    show (0 : Int) ≤ 20 - q2_2.toInt
    omega
  · rintro n6 ih4 ⟨q2_2, mhq⟩ ls H locs ⟨g1, g2, g3, hl, hP, hD, hS⟩ hm5
    have hm5 : 20 - q2_2.toInt < (n6 : Int) + 1 := hm5
    replace hl : lv_has ls 4 [(0, .ref (md 64)), (1, .int d), (2, .int q2_2)] := hl
    replace hP : va_P D vwCl [(moC md sd mth mst hn cn pn mq gn mln mnn ln mlt msz mcu mtk mfr mti mfa mfb an un lc td mtn), (aI cI (md 7) 40 ho), (aI cI (md 8) 40 hc), (aI cI (md 9) 40 hp), (aI cI (md 10) 40 hs), (aI cI (md 11) 200 mhq)] H := hP
    replace hD : va_D A [(moC md sd mth mst hn cn pn mq gn mln mnn ln mlt msz mcu mtk mfr mti mfa mfb an un lc td mtn), (aI cI (md 7) 40 ho), (aI cI (md 8) 40 hc), (aI cI (md 9) 40 hp), (aI cI (md 10) 40 hs), (aI cI (md 11) 200 mhq)] := hD
    show W _ _ _ _ _ _ _ _ _ _ _ _ _ _ _ (F0 m 2 ls [])
    refine lv_iload_n hx hb dX11_findHas_2 rfl (lv_at hl 2 rfl) ?_
    refine lv_bipush (v := 20) hx hb dX11_findHas_3 (by decide) ?_
    refine lv_icmp_ge (tgt := 59) hx hb dX11_findHas_5 (by decide) (fun c7 => ?_) (fun c7 => ?_)
    · skip
      have f8 := i_le c7
      have ce9 := i_cl (x := q2_2) (by omega)
      have hz9 := g3
      rw [show q2_2.toNatClampNeg = 20 by omega] at hz9
      have hP9 := hP
      have hD9 := hD
      exact W.vret hx hb hr (fun t ht hW => ⟨⟨mhq, rfl, ⟨hz9, okE_of hz9 h3 (by omega) (by omega)⟩, by rw [ht]; exact hP9, va_K.moved hW.alike hK, hD9⟩, hS.F ht⟩) hS.2.2 dX11_findHas_59
    · skip
      have f9 := i_nle c7
      refine lv_bipush (v := 10) hx hb dX11_findHas_8 (by decide) ?_
      refine lv_istore_n (lv' := [(3, .int 10), (0, .ref (md 64)), (1, .int d), (2, .int q2_2)]) hx hb dX11_findHas_10 rfl hl (by decide) rfl (fun ls hl => ?_)
      refine st_loop 11 (fun _ => []) (fun (z : Int32 × (Nat → Int32)) (ls : Array Slot) (H : Heap) (locs : List Loc) => match z with | (q11_3, mhr) => (10 ≤ q11_3.toInt) ∧ (q11_3.toInt ≤ 20) ∧ (fhQ ho hc hp hs d hn.toNatClampNeg mhr q2_2.toNatClampNeg (q11_3.toNatClampNeg - 10)) ∧ lv_has ls 4 [(0, .ref (md 64)), (1, .int d), (2, .int q2_2), (3, .int q11_3)] ∧ va_P D vwCl [(moC md sd mth mst hn cn pn mq gn mln mnn ln mlt msz mcu mtk mfr mti mfa mfb an un lc td mtn), (aI cI (md 7) 40 ho), (aI cI (md 8) 40 hc), (aI cI (md 9) 40 hp), (aI cI (md 10) 40 hs), (aI cI (md 11) 200 mhr)] H ∧ va_D A [(moC md sd mth mst hn cn pn mq gn mln mnn ln mlt msz mcu mtk mfr mti mfa mfb an un lc td mtn), (aI cI (md 7) 40 ho), (aI cI (md 8) 40 hc), (aI cI (md 9) 40 hp), (aI cI (md 10) 40 hs), (aI cI (md 11) 200 mhr)] ∧ va_S A s.heap H locs) (fun (z : Int32 × (Nat → Int32)) => match z with | (q11_3, mhr) => 20 - q11_3.toInt) ?_ ?_ ((10 : Int32), mhq) ⟨(by omega), (by omega), (by exact g3), lv_sub hl [1, 2, 3, 0] rfl, hP, hD, hS⟩
      · rintro ⟨q11_3, mhr⟩ ls H locs ⟨g10, g11, g12, hl, hP, hD, hS⟩
        show (0 : Int) ≤ 20 - q11_3.toInt
        omega
      · rintro n15 ih13 ⟨q11_3, mhr⟩ ls H locs ⟨g10, g11, g12, hl, hP, hD, hS⟩ hm14
        have hm14 : 20 - q11_3.toInt < (n15 : Int) + 1 := hm14
        replace hl : lv_has ls 4 [(0, .ref (md 64)), (1, .int d), (2, .int q2_2), (3, .int q11_3)] := hl
        replace hP : va_P D vwCl [(moC md sd mth mst hn cn pn mq gn mln mnn ln mlt msz mcu mtk mfr mti mfa mfb an un lc td mtn), (aI cI (md 7) 40 ho), (aI cI (md 8) 40 hc), (aI cI (md 9) 40 hp), (aI cI (md 10) 40 hs), (aI cI (md 11) 200 mhr)] H := hP
        replace hD : va_D A [(moC md sd mth mst hn cn pn mq gn mln mnn ln mlt msz mcu mtk mfr mti mfa mfb an un lc td mtn), (aI cI (md 7) 40 ho), (aI cI (md 8) 40 hc), (aI cI (md 9) 40 hp), (aI cI (md 10) 40 hs), (aI cI (md 11) 200 mhr)] := hD
        show W _ _ _ _ _ _ _ _ _ _ _ _ _ _ _ (F0 m 11 ls [])
        refine lv_iload_n hx hb dX11_findHas_11 rfl (lv_at hl 3 rfl) ?_
        refine lv_bipush (v := 20) hx hb dX11_findHas_12 (by decide) ?_
        refine lv_icmp_ge (tgt := 53) hx hb dX11_findHas_14 (by decide) (fun c16 => ?_) (fun c16 => ?_)
        · skip
          have f17 := i_le c16
          obtain ⟨v18, ev18⟩ : ∃ y : Int32, y = q2_2 + 1 := ⟨_, rfl⟩
          try have tv18 : v18.toInt = q2_2.toInt + 1 := by rw [ev18]; exact (i_add (x := q2_2) (y := (1 : Int32)) (by rw [k1]; omega) (by rw [k1]; omega)).trans (by rw [k1])
          refine lv_iinc (v := v18) (lv' := [(2, .int v18), (0, .ref (md 64)), (1, .int d), (3, .int q11_3)]) hx hb dX11_findHas_53 hl (k := 2) rfl (by rw [ev18]; rfl) (by decide) rfl (fun ls hl => ?_)
          refine lv_goto (tgt := 2) hx hb dX11_findHas_56 (by decide) ?_
          have clc19 := i_cl (x := q2_2) (by omega)
          have clc20 := i_cl (x := q11_3) (by omega)
          have clc21 := i_cl (x := v18) (by omega)
          exact ih4 (v18, mhr) ls H locs ⟨(by omega), (by omega), (by exact fhQ_nx (O := q2_2.toNatClampNeg) (by have h9 := g12; rw [show q11_3.toNatClampNeg - 10 = 10 by omega] at h9; exact h9) (by omega)), lv_sub hl [1, 2, 0] rfl, hP.sub [0, 1, 2, 3, 4, 5] rfl, hD.sub [0, 1, 2, 3, 4, 5] (by decide +kernel) rfl, hS⟩ (by show 20 - v18.toInt < _; omega)
        · skip
          have f22 := i_nle c16
          refine lv_aload_n hx hb dX11_findHas_17 rfl (lv_at hl 0 rfl) ?_
          refine va_get (D := D) (ci := 11) (v := .ref (md 11)) (C := RX11) (T := TX11) (N := 64) hx hb hts inX11_findHas_X11 hown hK hP 0 rfl rfl 11 (by decide) (hts (Cond.fieldLink RX11 35 "PortRoomsModel" "has" "[I") (wm_t (wm_l (wm_i 0 rfl)))) (fun _ h9 => h9) rfl dX11_findHas_18 ?_
          refine lv_bipush (v := 10) hx hb dX11_findHas_21 (by decide) ?_
          refine lv_iload_n hx hb dX11_findHas_23 rfl (lv_at hl 2 rfl) ?_
          refine lv_imul hx hb dX11_findHas_24 ?_
          refine lv_topi (fun v23 ev23 => ?_)
          try have tv23 : v23.toInt = 10 * q2_2.toInt := by rw [ev23]; exact (i_mul (x := (10 : Int32)) (y := q2_2) (by rw [k10]; omega) (by rw [k10]; omega)).trans (by rw [k10])
          refine lv_iload_n hx hb dX11_findHas_25 rfl (lv_at hl 3 rfl) ?_
          refine lv_iadd hx hb dX11_findHas_26 ?_
          refine lv_topi (fun v24 ev24 => ?_)
          try have tv24 : v24.toInt = v23.toInt + q11_3.toInt := by rw [ev24]; exact (i_add (x := v23) (y := q11_3) (by omega) (by omega))
          refine lv_bipush (v := 10) hx hb dX11_findHas_27 (by decide) ?_
          refine lv_isub hx hb dX11_findHas_29 ?_
          refine lv_topi (fun v25 ev25 => ?_)
          try have tv25 : v25.toInt = v24.toInt - 10 := by rw [ev25]; exact (i_sub (x := v24) (y := (10 : Int32)) (by rw [k10]; omega) (by rw [k10]; omega)).trans (by rw [k10])
          refine lv_iload_n hx hb dX11_findHas_30 rfl (lv_at hl 2 rfl) ?_
          refine lv_iload_n hx hb dX11_findHas_31 rfl (lv_at hl 3 rfl) ?_
          refine lv_icmp_ne (tgt := 39) hx hb dX11_findHas_32 (by decide) (fun c26 => ?_) (fun c26 => ?_)
          · skip
            have f27 := i_ne c26
            refine lv_aload_n hx hb dX11_findHas_39 rfl (lv_at hl 0 rfl) ?_
            refine lv_iload_n hx hb dX11_findHas_40 rfl (lv_at hl 2 rfl) ?_
            refine lv_iload_n hx hb dX11_findHas_41 rfl (lv_at hl 3 rfl) ?_
            refine lv_iload_n hx hb dX11_findHas_42 rfl (lv_at hl 1 rfl) ?_
            refine st_i1 (va_runV (C := RX11) (As := [.int q2_2, .int q11_3, .int d]) (rest := [.int v25, .ref (md 11)]) ⟨hx, hb, hml, hown, hts⟩ (ct_X11_percentOf l D cI cY cJ cQ _ md sd mth mst hn cn pn mq gn mln mnn ln mlt msz mcu mtk mfr mti mfa mfb an un lc td mtn ho hc hp hs q2_2 q11_3 d h1 h2) (cwV 3 hts gX11_findHas_X11_percentOf rfl rfl rfl ⟨rfl, cdX11_percentOf⟩ ⟨Nat.le_of_ble_eq_true rfl, Nat.le_of_ble_eq_true rfl⟩) (cPreV (hP.sub [0, 1, 2, 3, 4] rfl) hK (hD.sub [0, 1, 2, 3, 4] (by decide +kernel) rfl) hN (ci := 11) (q0 := 0) rfl rfl) rfl rfl hl.1 rfl (lv_room (Nat.le_of_ble_eq_true rfl)) dX11_findHas_43 ⟨Nat.le_of_ble_eq_true rfl, Nat.le_of_ble_eq_true rfl⟩) hP hD hS hA [0, 1, 2, 3, 4] rfl (fun _ => rfl) (fun r30 u28 H locs hw29 => ?_)
            clear hP hS
            intro hP hS
            replace hw29 : r30 = pmV ho hc hp hs d q2_2 q11_3 hn.toNatClampNeg := hw29
            subst hw29
            refine va_iast hx hb hK hP hD hS 5 0 rfl rfl (i_in (by omega) (by omega)) dX11_findHas_46 (fun H locs => ?_)
            clear hP hD hS
            intro hP hD hS
            replace hP : va_P D vwCl [(moC md sd mth mst hn cn pn mq gn mln mnn ln mlt msz mcu mtk mfr mti mfa mfb an un lc td mtn), (aI cI (md 7) 40 ho), (aI cI (md 8) 40 hc), (aI cI (md 9) 40 hp), (aI cI (md 10) 40 hs), (aI cI (md 11) 200 (upd mhr v25.toNatClampNeg (pmV ho hc hp hs d q2_2 q11_3 hn.toNatClampNeg)))] H := hP
            replace hD : va_D A [(moC md sd mth mst hn cn pn mq gn mln mnn ln mlt msz mcu mtk mfr mti mfa mfb an un lc td mtn), (aI cI (md 7) 40 ho), (aI cI (md 8) 40 hc), (aI cI (md 9) 40 hp), (aI cI (md 10) 40 hs), (aI cI (md 11) 200 (upd mhr v25.toNatClampNeg (pmV ho hc hp hs d q2_2 q11_3 hn.toNatClampNeg)))] := hD
            obtain ⟨v31, ev31⟩ : ∃ y : Int32, y = q11_3 + 1 := ⟨_, rfl⟩
            try have tv31 : v31.toInt = q11_3.toInt + 1 := by rw [ev31]; exact (i_add (x := q11_3) (y := (1 : Int32)) (by rw [k1]; omega) (by rw [k1]; omega)).trans (by rw [k1])
            refine lv_iinc (v := v31) (lv' := [(3, .int v31), (0, .ref (md 64)), (1, .int d), (2, .int q2_2)]) hx hb dX11_findHas_47 hl (k := 3) rfl (by rw [ev31]; rfl) (by decide) rfl (fun ls hl => ?_)
            refine lv_goto (tgt := 11) hx hb dX11_findHas_50 (by decide) ?_
            have clc32 := i_cl (x := q2_2) (by omega)
            have clc33 := i_cl (x := q11_3) (by omega)
            have clc34 := i_cl (x := v31) (by omega)
            have clc35 := i_cl (x := v25) (by omega)
            have n1 : nI q2_2.toNatClampNeg = q2_2 := i_nI (by omega)
            have n2 : nI (q11_3.toNatClampNeg - 10 + 10) = q11_3 := by rw [show q11_3.toNatClampNeg - 10 + 10 = q11_3.toNatClampNeg by omega]; exact i_nI (by omega)
            exact ih13 (v31, upd mhr v25.toNatClampNeg (pmV ho hc hp hs d q2_2 q11_3 hn.toNatClampNeg)) ls H locs ⟨(by omega), (by omega), (by rw [show v31.toNatClampNeg - 10 = (q11_3.toNatClampNeg - 10) + 1 by omega]; exact fhQ_up (C := q11_3.toNatClampNeg - 10) g12 (by omega) (by omega) rfl (by unfold pmF; rw [if_neg (by omega), n1, n2])), lv_sub hl [1, 2, 3, 0] rfl, hP.sub [0, 1, 2, 3, 4, 5] rfl, hD.sub [0, 1, 2, 3, 4, 5] (by decide +kernel) rfl, hS⟩ (by show 20 - v31.toInt < _; omega)
          · skip
            have f36 := i_eq c26
            refine lv_iconst (v := 0) hx hb dX11_findHas_35 (by decide) ?_
            refine lv_goto (tgt := 46) hx hb dX11_findHas_36 (by decide) ?_
            refine va_iast hx hb hK hP hD hS 5 0 rfl rfl (i_in (by omega) (by omega)) dX11_findHas_46 (fun H locs => ?_)
            clear hP hD hS
            intro hP hD hS
            replace hP : va_P D vwCl [(moC md sd mth mst hn cn pn mq gn mln mnn ln mlt msz mcu mtk mfr mti mfa mfb an un lc td mtn), (aI cI (md 7) 40 ho), (aI cI (md 8) 40 hc), (aI cI (md 9) 40 hp), (aI cI (md 10) 40 hs), (aI cI (md 11) 200 (upd mhr v25.toNatClampNeg 0))] H := hP
            replace hD : va_D A [(moC md sd mth mst hn cn pn mq gn mln mnn ln mlt msz mcu mtk mfr mti mfa mfb an un lc td mtn), (aI cI (md 7) 40 ho), (aI cI (md 8) 40 hc), (aI cI (md 9) 40 hp), (aI cI (md 10) 40 hs), (aI cI (md 11) 200 (upd mhr v25.toNatClampNeg 0))] := hD
            obtain ⟨v37, ev37⟩ : ∃ y : Int32, y = q11_3 + 1 := ⟨_, rfl⟩
            try have tv37 : v37.toInt = q11_3.toInt + 1 := by rw [ev37]; exact (i_add (x := q11_3) (y := (1 : Int32)) (by rw [k1]; omega) (by rw [k1]; omega)).trans (by rw [k1])
            refine lv_iinc (v := v37) (lv' := [(3, .int v37), (0, .ref (md 64)), (1, .int d), (2, .int q2_2)]) hx hb dX11_findHas_47 hl (k := 3) rfl (by rw [ev37]; rfl) (by decide) rfl (fun ls hl => ?_)
            refine lv_goto (tgt := 11) hx hb dX11_findHas_50 (by decide) ?_
            have clc38 := i_cl (x := q2_2) (by omega)
            have clc39 := i_cl (x := q11_3) (by omega)
            have clc40 := i_cl (x := v37) (by omega)
            have clc41 := i_cl (x := v25) (by omega)
            have n1 : nI q2_2.toNatClampNeg = q2_2 := i_nI (by omega)
            have n2 : nI (q11_3.toNatClampNeg - 10 + 10) = q11_3 := by rw [show q11_3.toNatClampNeg - 10 + 10 = q11_3.toNatClampNeg by omega]; exact i_nI (by omega)
            exact ih13 (v37, upd mhr v25.toNatClampNeg 0) ls H locs ⟨(by omega), (by omega), (by rw [show v37.toNatClampNeg - 10 = (q11_3.toNatClampNeg - 10) + 1 by omega]; exact fhQ_up (C := q11_3.toNatClampNeg - 10) g12 (by omega) (by omega) rfl (by unfold pmF; rw [if_pos (by omega)]; decide)), lv_sub hl [1, 2, 3, 0] rfl, hP.sub [0, 1, 2, 3, 4, 5] rfl, hD.sub [0, 1, 2, 3, 4, 5] (by decide +kernel) rfl, hS⟩ (by show 20 - v37.toInt < _; omega)
end

section
theorem cdX11_findHas : yX11_findHas.cls ≠ "java/lang/invoke/MethodHandle" ∧ yX11_findHas.cls ≠ "java/lang/invoke/VarHandle" ∧ (parseMethodDescriptor yX11_findHas.desc).map (fun d => d.parameters.length) = some 1 := by decide +kernel
theorem cdX11_rowsTo : yX11_rowsTo.cls ≠ "java/lang/invoke/MethodHandle" ∧ yX11_rowsTo.cls ≠ "java/lang/invoke/VarHandle" ∧ (parseMethodDescriptor yX11_rowsTo.desc).map (fun d => d.parameters.length) = some 2 := by decide +kernel
theorem cdX11_shareOf : yX11_shareOf.cls ≠ "java/lang/invoke/MethodHandle" ∧ yX11_shareOf.cls ≠ "java/lang/invoke/VarHandle" ∧ (parseMethodDescriptor yX11_shareOf.desc).map (fun d => d.parameters.length) = some 3 := by decide +kernel
theorem Gd_X11_findHas : gdA wsX11_findHas := gd_cons (by decide +kernel) (gd_app (gd_all (ws := wsX11_findHas_o1) (by decide +kernel)) (gd_app Gd_X110 Gd_X11_percentOf))
theorem Gd_X11_rowsTo : gdA wsX11_rowsTo := gd_cons (by decide +kernel) (gd_app (gd_all (ws := wsX11_rowsTo_o1) (by decide +kernel)) Gd_X110)
theorem inX11_rowsTo_X11 : ∀ w ∈ u_ws RX11 TX11 64, w ∈ wsX11_rowsTo := fun _ h => (List.mem_cons_of_mem _ (List.mem_append_right _ h))
theorem Gd_X11_shareOf : gdA wsX11_shareOf := gd_cons (by decide +kernel) (gd_app (gd_all (ws := wsX11_shareOf_o1) (by decide +kernel)) (gd_app (gd_app Gd_X110 Gd_X11_findHas) Gd_X11_rowsTo))
theorem inX11_share_X11 : ∀ w ∈ u_ws RX11 TX11 64, w ∈ wsX11_share := fun _ h => (List.mem_cons_of_mem _ (List.mem_append_right _ (List.mem_append_left _ (List.mem_append_left _ (List.mem_append_left _ h)))))
theorem inX11_truly_X11 : ∀ w ∈ u_ws RX11 TX11 64, w ∈ wsX11_truly := fun _ h => (List.mem_cons_of_mem _ (List.mem_append_right _ (List.mem_append_left _ (List.mem_append_left _ h))))
theorem dX11_rowsTo_all0 : decode cX11_rowsTo 0 = .ok (.lconst 0, 1) ∧ decode cX11_rowsTo 1 = .ok (.lstore_n 3, 1) ∧ decode cX11_rowsTo 2 = .ok (.iconst 0, 1) ∧ decode cX11_rowsTo 3 = .ok (.istore 5, 2) ∧ decode cX11_rowsTo 5 = .ok (.iconst 0, 1) ∧ decode cX11_rowsTo 6 = .ok (.istore 6, 2) ∧ decode cX11_rowsTo 8 = .ok (.aload_n 0, 1) ∧ decode cX11_rowsTo 9 = .ok (.getfield 38, 3) ∧ decode cX11_rowsTo 12 = .ok (.iconst 0, 1) ∧ decode cX11_rowsTo 13 = .ok (.iload_n 1, 1) ∧ decode cX11_rowsTo 14 = .ok (.iastore, 1) ∧ decode cX11_rowsTo 15 = .ok (.aload_n 0, 1) := by decide +kernel
theorem dX11_rowsTo_0 : decode cX11_rowsTo 0 = .ok (.lconst 0, 1) := dX11_rowsTo_all0.1
theorem dX11_rowsTo_1 : decode cX11_rowsTo 1 = .ok (.lstore_n 3, 1) := dX11_rowsTo_all0.2.1
theorem dX11_rowsTo_2 : decode cX11_rowsTo 2 = .ok (.iconst 0, 1) := dX11_rowsTo_all0.2.2.1
theorem dX11_rowsTo_3 : decode cX11_rowsTo 3 = .ok (.istore 5, 2) := dX11_rowsTo_all0.2.2.2.1
theorem dX11_rowsTo_5 : decode cX11_rowsTo 5 = .ok (.iconst 0, 1) := dX11_rowsTo_all0.2.2.2.2.1
theorem dX11_rowsTo_6 : decode cX11_rowsTo 6 = .ok (.istore 6, 2) := dX11_rowsTo_all0.2.2.2.2.2.1
theorem dX11_rowsTo_8 : decode cX11_rowsTo 8 = .ok (.aload_n 0, 1) := dX11_rowsTo_all0.2.2.2.2.2.2.1
theorem dX11_rowsTo_9 : decode cX11_rowsTo 9 = .ok (.getfield 38, 3) := dX11_rowsTo_all0.2.2.2.2.2.2.2.1
theorem dX11_rowsTo_12 : decode cX11_rowsTo 12 = .ok (.iconst 0, 1) := dX11_rowsTo_all0.2.2.2.2.2.2.2.2.1
theorem dX11_rowsTo_13 : decode cX11_rowsTo 13 = .ok (.iload_n 1, 1) := dX11_rowsTo_all0.2.2.2.2.2.2.2.2.2.1
theorem dX11_rowsTo_14 : decode cX11_rowsTo 14 = .ok (.iastore, 1) := dX11_rowsTo_all0.2.2.2.2.2.2.2.2.2.2.1
theorem dX11_rowsTo_15 : decode cX11_rowsTo 15 = .ok (.aload_n 0, 1) := dX11_rowsTo_all0.2.2.2.2.2.2.2.2.2.2.2
theorem dX11_rowsTo_all1 : decode cX11_rowsTo 16 = .ok (.getfield 44, 3) ∧ decode cX11_rowsTo 19 = .ok (.iconst 0, 1) ∧ decode cX11_rowsTo 20 = .ok (.ldc2_w 195, 3) ∧ decode cX11_rowsTo 23 = .ok (.lastore, 1) ∧ decode cX11_rowsTo 24 = .ok (.aload_n 0, 1) ∧ decode cX11_rowsTo 25 = .ok (.getfield 41, 3) ∧ decode cX11_rowsTo 28 = .ok (.iconst 0, 1) ∧ decode cX11_rowsTo 29 = .ok (.iconst (-1), 1) ∧ decode cX11_rowsTo 30 = .ok (.iastore, 1) ∧ decode cX11_rowsTo 31 = .ok (.iload 5, 2) ∧ decode cX11_rowsTo 33 = .ok (.ifCond .lt 180, 3) ∧ decode cX11_rowsTo 36 = .ok (.aload_n 0, 1) := by decide +kernel
theorem dX11_rowsTo_16 : decode cX11_rowsTo 16 = .ok (.getfield 44, 3) := dX11_rowsTo_all1.1
theorem dX11_rowsTo_19 : decode cX11_rowsTo 19 = .ok (.iconst 0, 1) := dX11_rowsTo_all1.2.1
theorem dX11_rowsTo_20 : decode cX11_rowsTo 20 = .ok (.ldc2_w 195, 3) := dX11_rowsTo_all1.2.2.1
theorem dX11_rowsTo_23 : decode cX11_rowsTo 23 = .ok (.lastore, 1) := dX11_rowsTo_all1.2.2.2.1
theorem dX11_rowsTo_24 : decode cX11_rowsTo 24 = .ok (.aload_n 0, 1) := dX11_rowsTo_all1.2.2.2.2.1
theorem dX11_rowsTo_25 : decode cX11_rowsTo 25 = .ok (.getfield 41, 3) := dX11_rowsTo_all1.2.2.2.2.2.1
theorem dX11_rowsTo_28 : decode cX11_rowsTo 28 = .ok (.iconst 0, 1) := dX11_rowsTo_all1.2.2.2.2.2.2.1
theorem dX11_rowsTo_29 : decode cX11_rowsTo 29 = .ok (.iconst (-1), 1) := dX11_rowsTo_all1.2.2.2.2.2.2.2.1
theorem dX11_rowsTo_30 : decode cX11_rowsTo 30 = .ok (.iastore, 1) := dX11_rowsTo_all1.2.2.2.2.2.2.2.2.1
theorem dX11_rowsTo_31 : decode cX11_rowsTo 31 = .ok (.iload 5, 2) := dX11_rowsTo_all1.2.2.2.2.2.2.2.2.2.1
theorem dX11_rowsTo_33 : decode cX11_rowsTo 33 = .ok (.ifCond .lt 180, 3) := dX11_rowsTo_all1.2.2.2.2.2.2.2.2.2.2.1
theorem dX11_rowsTo_36 : decode cX11_rowsTo 36 = .ok (.aload_n 0, 1) := dX11_rowsTo_all1.2.2.2.2.2.2.2.2.2.2.2
theorem dX11_rowsTo_all2 : decode cX11_rowsTo 37 = .ok (.getfield 41, 3) ∧ decode cX11_rowsTo 40 = .ok (.iload 5, 2) ∧ decode cX11_rowsTo 42 = .ok (.dup2, 1) ∧ decode cX11_rowsTo 43 = .ok (.iaload, 1) ∧ decode cX11_rowsTo 44 = .ok (.iconst 1, 1) ∧ decode cX11_rowsTo 45 = .ok (.iadd, 1) ∧ decode cX11_rowsTo 46 = .ok (.iastore, 1) ∧ decode cX11_rowsTo 47 = .ok (.aload_n 0, 1) ∧ decode cX11_rowsTo 48 = .ok (.getfield 41, 3) ∧ decode cX11_rowsTo 51 = .ok (.iload 5, 2) ∧ decode cX11_rowsTo 53 = .ok (.iaload, 1) ∧ decode cX11_rowsTo 54 = .ok (.istore 7, 2) := by decide +kernel
theorem dX11_rowsTo_37 : decode cX11_rowsTo 37 = .ok (.getfield 41, 3) := dX11_rowsTo_all2.1
theorem dX11_rowsTo_40 : decode cX11_rowsTo 40 = .ok (.iload 5, 2) := dX11_rowsTo_all2.2.1
theorem dX11_rowsTo_42 : decode cX11_rowsTo 42 = .ok (.dup2, 1) := dX11_rowsTo_all2.2.2.1
theorem dX11_rowsTo_43 : decode cX11_rowsTo 43 = .ok (.iaload, 1) := dX11_rowsTo_all2.2.2.2.1
theorem dX11_rowsTo_44 : decode cX11_rowsTo 44 = .ok (.iconst 1, 1) := dX11_rowsTo_all2.2.2.2.2.1
theorem dX11_rowsTo_45 : decode cX11_rowsTo 45 = .ok (.iadd, 1) := dX11_rowsTo_all2.2.2.2.2.2.1
theorem dX11_rowsTo_46 : decode cX11_rowsTo 46 = .ok (.iastore, 1) := dX11_rowsTo_all2.2.2.2.2.2.2.1
theorem dX11_rowsTo_47 : decode cX11_rowsTo 47 = .ok (.aload_n 0, 1) := dX11_rowsTo_all2.2.2.2.2.2.2.2.1
theorem dX11_rowsTo_48 : decode cX11_rowsTo 48 = .ok (.getfield 41, 3) := dX11_rowsTo_all2.2.2.2.2.2.2.2.2.1
theorem dX11_rowsTo_51 : decode cX11_rowsTo 51 = .ok (.iload 5, 2) := dX11_rowsTo_all2.2.2.2.2.2.2.2.2.2.1
theorem dX11_rowsTo_53 : decode cX11_rowsTo 53 = .ok (.iaload, 1) := dX11_rowsTo_all2.2.2.2.2.2.2.2.2.2.2.1
theorem dX11_rowsTo_54 : decode cX11_rowsTo 54 = .ok (.istore 7, 2) := dX11_rowsTo_all2.2.2.2.2.2.2.2.2.2.2.2
theorem dX11_rowsTo_all3 : decode cX11_rowsTo 56 = .ok (.iload 7, 2) ∧ decode cX11_rowsTo 58 = .ok (.bipush 10, 2) ∧ decode cX11_rowsTo 60 = .ok (.if_icmp .ne 33, 3) ∧ decode cX11_rowsTo 63 = .ok (.iload 5, 2) ∧ decode cX11_rowsTo 65 = .ok (.ifCond .le 22, 3) ∧ decode cX11_rowsTo 68 = .ok (.iload 6, 2) ∧ decode cX11_rowsTo 70 = .ok (.iconst 1, 1) ∧ decode cX11_rowsTo 71 = .ok (.aload_n 0, 1) ∧ decode cX11_rowsTo 72 = .ok (.getfield 38, 3) ∧ decode cX11_rowsTo 75 = .ok (.iload 5, 2) ∧ decode cX11_rowsTo 77 = .ok (.iaload, 1) ∧ decode cX11_rowsTo 78 = .ok (.bipush 10, 2) := by decide +kernel
theorem dX11_rowsTo_56 : decode cX11_rowsTo 56 = .ok (.iload 7, 2) := dX11_rowsTo_all3.1
theorem dX11_rowsTo_58 : decode cX11_rowsTo 58 = .ok (.bipush 10, 2) := dX11_rowsTo_all3.2.1
theorem dX11_rowsTo_60 : decode cX11_rowsTo 60 = .ok (.if_icmp .ne 33, 3) := dX11_rowsTo_all3.2.2.1
theorem dX11_rowsTo_63 : decode cX11_rowsTo 63 = .ok (.iload 5, 2) := dX11_rowsTo_all3.2.2.2.1
theorem dX11_rowsTo_65 : decode cX11_rowsTo 65 = .ok (.ifCond .le 22, 3) := dX11_rowsTo_all3.2.2.2.2.1
theorem dX11_rowsTo_68 : decode cX11_rowsTo 68 = .ok (.iload 6, 2) := dX11_rowsTo_all3.2.2.2.2.2.1
theorem dX11_rowsTo_70 : decode cX11_rowsTo 70 = .ok (.iconst 1, 1) := dX11_rowsTo_all3.2.2.2.2.2.2.1
theorem dX11_rowsTo_71 : decode cX11_rowsTo 71 = .ok (.aload_n 0, 1) := dX11_rowsTo_all3.2.2.2.2.2.2.2.1
theorem dX11_rowsTo_72 : decode cX11_rowsTo 72 = .ok (.getfield 38, 3) := dX11_rowsTo_all3.2.2.2.2.2.2.2.2.1
theorem dX11_rowsTo_75 : decode cX11_rowsTo 75 = .ok (.iload 5, 2) := dX11_rowsTo_all3.2.2.2.2.2.2.2.2.2.1
theorem dX11_rowsTo_77 : decode cX11_rowsTo 77 = .ok (.iaload, 1) := dX11_rowsTo_all3.2.2.2.2.2.2.2.2.2.2.1
theorem dX11_rowsTo_78 : decode cX11_rowsTo 78 = .ok (.bipush 10, 2) := dX11_rowsTo_all3.2.2.2.2.2.2.2.2.2.2.2
theorem dX11_rowsTo_all4 : decode cX11_rowsTo 80 = .ok (.isub, 1) ∧ decode cX11_rowsTo 81 = .ok (.ishl, 1) ∧ decode cX11_rowsTo 82 = .ok (.iconst (-1), 1) ∧ decode cX11_rowsTo 83 = .ok (.ixor, 1) ∧ decode cX11_rowsTo 84 = .ok (.iand, 1) ∧ decode cX11_rowsTo 85 = .ok (.istore 6, 2) ∧ decode cX11_rowsTo 87 = .ok (.iinc 5 (-1), 3) ∧ decode cX11_rowsTo 90 = .ok (.goto 120, 3) ∧ decode cX11_rowsTo 93 = .ok (.aload_n 0, 1) ∧ decode cX11_rowsTo 94 = .ok (.getfield 35, 3) ∧ decode cX11_rowsTo 97 = .ok (.bipush 10, 2) ∧ decode cX11_rowsTo 99 = .ok (.aload_n 0, 1) := by decide +kernel
theorem dX11_rowsTo_80 : decode cX11_rowsTo 80 = .ok (.isub, 1) := dX11_rowsTo_all4.1
theorem dX11_rowsTo_81 : decode cX11_rowsTo 81 = .ok (.ishl, 1) := dX11_rowsTo_all4.2.1
theorem dX11_rowsTo_82 : decode cX11_rowsTo 82 = .ok (.iconst (-1), 1) := dX11_rowsTo_all4.2.2.1
theorem dX11_rowsTo_83 : decode cX11_rowsTo 83 = .ok (.ixor, 1) := dX11_rowsTo_all4.2.2.2.1
theorem dX11_rowsTo_84 : decode cX11_rowsTo 84 = .ok (.iand, 1) := dX11_rowsTo_all4.2.2.2.2.1
theorem dX11_rowsTo_85 : decode cX11_rowsTo 85 = .ok (.istore 6, 2) := dX11_rowsTo_all4.2.2.2.2.2.1
theorem dX11_rowsTo_87 : decode cX11_rowsTo 87 = .ok (.iinc 5 (-1), 3) := dX11_rowsTo_all4.2.2.2.2.2.2.1
theorem dX11_rowsTo_90 : decode cX11_rowsTo 90 = .ok (.goto 120, 3) := dX11_rowsTo_all4.2.2.2.2.2.2.2.1
theorem dX11_rowsTo_93 : decode cX11_rowsTo 93 = .ok (.aload_n 0, 1) := dX11_rowsTo_all4.2.2.2.2.2.2.2.2.1
theorem dX11_rowsTo_94 : decode cX11_rowsTo 94 = .ok (.getfield 35, 3) := dX11_rowsTo_all4.2.2.2.2.2.2.2.2.2.1
theorem dX11_rowsTo_97 : decode cX11_rowsTo 97 = .ok (.bipush 10, 2) := dX11_rowsTo_all4.2.2.2.2.2.2.2.2.2.2.1
theorem dX11_rowsTo_99 : decode cX11_rowsTo 99 = .ok (.aload_n 0, 1) := dX11_rowsTo_all4.2.2.2.2.2.2.2.2.2.2.2
theorem dX11_rowsTo_all5 : decode cX11_rowsTo 100 = .ok (.getfield 38, 3) ∧ decode cX11_rowsTo 103 = .ok (.iload 5, 2) ∧ decode cX11_rowsTo 105 = .ok (.iaload, 1) ∧ decode cX11_rowsTo 106 = .ok (.imul, 1) ∧ decode cX11_rowsTo 107 = .ok (.iload 7, 2) ∧ decode cX11_rowsTo 109 = .ok (.iadd, 1) ∧ decode cX11_rowsTo 110 = .ok (.iaload, 1) ∧ decode cX11_rowsTo 111 = .ok (.istore 8, 2) ∧ decode cX11_rowsTo 113 = .ok (.iload 8, 2) ∧ decode cX11_rowsTo 115 = .ok (.ifCond .le 95, 3) ∧ decode cX11_rowsTo 118 = .ok (.iload 6, 2) ∧ decode cX11_rowsTo 120 = .ok (.iload 7, 2) := by decide +kernel
theorem dX11_rowsTo_100 : decode cX11_rowsTo 100 = .ok (.getfield 38, 3) := dX11_rowsTo_all5.1
theorem dX11_rowsTo_103 : decode cX11_rowsTo 103 = .ok (.iload 5, 2) := dX11_rowsTo_all5.2.1
theorem dX11_rowsTo_105 : decode cX11_rowsTo 105 = .ok (.iaload, 1) := dX11_rowsTo_all5.2.2.1
theorem dX11_rowsTo_106 : decode cX11_rowsTo 106 = .ok (.imul, 1) := dX11_rowsTo_all5.2.2.2.1
theorem dX11_rowsTo_107 : decode cX11_rowsTo 107 = .ok (.iload 7, 2) := dX11_rowsTo_all5.2.2.2.2.1
theorem dX11_rowsTo_109 : decode cX11_rowsTo 109 = .ok (.iadd, 1) := dX11_rowsTo_all5.2.2.2.2.2.1
theorem dX11_rowsTo_110 : decode cX11_rowsTo 110 = .ok (.iaload, 1) := dX11_rowsTo_all5.2.2.2.2.2.2.1
theorem dX11_rowsTo_111 : decode cX11_rowsTo 111 = .ok (.istore 8, 2) := dX11_rowsTo_all5.2.2.2.2.2.2.2.1
theorem dX11_rowsTo_113 : decode cX11_rowsTo 113 = .ok (.iload 8, 2) := dX11_rowsTo_all5.2.2.2.2.2.2.2.2.1
theorem dX11_rowsTo_115 : decode cX11_rowsTo 115 = .ok (.ifCond .le 95, 3) := dX11_rowsTo_all5.2.2.2.2.2.2.2.2.2.1
theorem dX11_rowsTo_118 : decode cX11_rowsTo 118 = .ok (.iload 6, 2) := dX11_rowsTo_all5.2.2.2.2.2.2.2.2.2.2.1
theorem dX11_rowsTo_120 : decode cX11_rowsTo 120 = .ok (.iload 7, 2) := dX11_rowsTo_all5.2.2.2.2.2.2.2.2.2.2.2
theorem dX11_rowsTo_all6 : decode cX11_rowsTo 122 = .ok (.ishr, 1) ∧ decode cX11_rowsTo 123 = .ok (.iconst 1, 1) ∧ decode cX11_rowsTo 124 = .ok (.iand, 1) ∧ decode cX11_rowsTo 125 = .ok (.ifCond .ne 85, 3) ∧ decode cX11_rowsTo 128 = .ok (.aload_n 0, 1) ∧ decode cX11_rowsTo 129 = .ok (.getfield 44, 3) ∧ decode cX11_rowsTo 132 = .ok (.iload 5, 2) ∧ decode cX11_rowsTo 134 = .ok (.laload, 1) ∧ decode cX11_rowsTo 135 = .ok (.iload 8, 2) ∧ decode cX11_rowsTo 137 = .ok (.i2l, 1) ∧ decode cX11_rowsTo 138 = .ok (.lmul, 1) ∧ decode cX11_rowsTo 139 = .ok (.ldc2_w 176, 3) := by decide +kernel
theorem dX11_rowsTo_122 : decode cX11_rowsTo 122 = .ok (.ishr, 1) := dX11_rowsTo_all6.1
theorem dX11_rowsTo_123 : decode cX11_rowsTo 123 = .ok (.iconst 1, 1) := dX11_rowsTo_all6.2.1
theorem dX11_rowsTo_124 : decode cX11_rowsTo 124 = .ok (.iand, 1) := dX11_rowsTo_all6.2.2.1
theorem dX11_rowsTo_125 : decode cX11_rowsTo 125 = .ok (.ifCond .ne 85, 3) := dX11_rowsTo_all6.2.2.2.1
theorem dX11_rowsTo_128 : decode cX11_rowsTo 128 = .ok (.aload_n 0, 1) := dX11_rowsTo_all6.2.2.2.2.1
theorem dX11_rowsTo_129 : decode cX11_rowsTo 129 = .ok (.getfield 44, 3) := dX11_rowsTo_all6.2.2.2.2.2.1
theorem dX11_rowsTo_132 : decode cX11_rowsTo 132 = .ok (.iload 5, 2) := dX11_rowsTo_all6.2.2.2.2.2.2.1
theorem dX11_rowsTo_134 : decode cX11_rowsTo 134 = .ok (.laload, 1) := dX11_rowsTo_all6.2.2.2.2.2.2.2.1
theorem dX11_rowsTo_135 : decode cX11_rowsTo 135 = .ok (.iload 8, 2) := dX11_rowsTo_all6.2.2.2.2.2.2.2.2.1
theorem dX11_rowsTo_137 : decode cX11_rowsTo 137 = .ok (.i2l, 1) := dX11_rowsTo_all6.2.2.2.2.2.2.2.2.2.1
theorem dX11_rowsTo_138 : decode cX11_rowsTo 138 = .ok (.lmul, 1) := dX11_rowsTo_all6.2.2.2.2.2.2.2.2.2.2.1
theorem dX11_rowsTo_139 : decode cX11_rowsTo 139 = .ok (.ldc2_w 176, 3) := dX11_rowsTo_all6.2.2.2.2.2.2.2.2.2.2.2
theorem dX11_rowsTo_all7 : decode cX11_rowsTo 142 = .ok (.ldiv, 1) ∧ decode cX11_rowsTo 143 = .ok (.lstore 9, 2) ∧ decode cX11_rowsTo 145 = .ok (.iload 7, 2) ∧ decode cX11_rowsTo 147 = .ok (.bipush 10, 2) ∧ decode cX11_rowsTo 149 = .ok (.iadd, 1) ∧ decode cX11_rowsTo 150 = .ok (.iload_n 2, 1) ∧ decode cX11_rowsTo 151 = .ok (.if_icmp .ne 11, 3) ∧ decode cX11_rowsTo 154 = .ok (.lload_n 3, 1) ∧ decode cX11_rowsTo 155 = .ok (.lload 9, 2) ∧ decode cX11_rowsTo 157 = .ok (.ladd, 1) ∧ decode cX11_rowsTo 158 = .ok (.lstore_n 3, 1) ∧ decode cX11_rowsTo 159 = .ok (.goto 51, 3) := by decide +kernel
theorem dX11_rowsTo_142 : decode cX11_rowsTo 142 = .ok (.ldiv, 1) := dX11_rowsTo_all7.1
theorem dX11_rowsTo_143 : decode cX11_rowsTo 143 = .ok (.lstore 9, 2) := dX11_rowsTo_all7.2.1
theorem dX11_rowsTo_145 : decode cX11_rowsTo 145 = .ok (.iload 7, 2) := dX11_rowsTo_all7.2.2.1
theorem dX11_rowsTo_147 : decode cX11_rowsTo 147 = .ok (.bipush 10, 2) := dX11_rowsTo_all7.2.2.2.1
theorem dX11_rowsTo_149 : decode cX11_rowsTo 149 = .ok (.iadd, 1) := dX11_rowsTo_all7.2.2.2.2.1
theorem dX11_rowsTo_150 : decode cX11_rowsTo 150 = .ok (.iload_n 2, 1) := dX11_rowsTo_all7.2.2.2.2.2.1
theorem dX11_rowsTo_151 : decode cX11_rowsTo 151 = .ok (.if_icmp .ne 11, 3) := dX11_rowsTo_all7.2.2.2.2.2.2.1
theorem dX11_rowsTo_154 : decode cX11_rowsTo 154 = .ok (.lload_n 3, 1) := dX11_rowsTo_all7.2.2.2.2.2.2.2.1
theorem dX11_rowsTo_155 : decode cX11_rowsTo 155 = .ok (.lload 9, 2) := dX11_rowsTo_all7.2.2.2.2.2.2.2.2.1
theorem dX11_rowsTo_157 : decode cX11_rowsTo 157 = .ok (.ladd, 1) := dX11_rowsTo_all7.2.2.2.2.2.2.2.2.2.1
theorem dX11_rowsTo_158 : decode cX11_rowsTo 158 = .ok (.lstore_n 3, 1) := dX11_rowsTo_all7.2.2.2.2.2.2.2.2.2.2.1
theorem dX11_rowsTo_159 : decode cX11_rowsTo 159 = .ok (.goto 51, 3) := dX11_rowsTo_all7.2.2.2.2.2.2.2.2.2.2.2
theorem dX11_rowsTo_all8 : decode cX11_rowsTo 162 = .ok (.lload 9, 2) ∧ decode cX11_rowsTo 164 = .ok (.lconst 0, 1) ∧ decode cX11_rowsTo 165 = .ok (.lcmp, 1) ∧ decode cX11_rowsTo 166 = .ok (.ifCond .le 44, 3) ∧ decode cX11_rowsTo 169 = .ok (.iload 6, 2) ∧ decode cX11_rowsTo 171 = .ok (.iconst 1, 1) ∧ decode cX11_rowsTo 172 = .ok (.iload 7, 2) ∧ decode cX11_rowsTo 174 = .ok (.ishl, 1) ∧ decode cX11_rowsTo 175 = .ok (.ior, 1) ∧ decode cX11_rowsTo 176 = .ok (.istore 6, 2) ∧ decode cX11_rowsTo 178 = .ok (.iinc 5 1, 3) ∧ decode cX11_rowsTo 181 = .ok (.aload_n 0, 1) := by decide +kernel
theorem dX11_rowsTo_162 : decode cX11_rowsTo 162 = .ok (.lload 9, 2) := dX11_rowsTo_all8.1
theorem dX11_rowsTo_164 : decode cX11_rowsTo 164 = .ok (.lconst 0, 1) := dX11_rowsTo_all8.2.1
theorem dX11_rowsTo_165 : decode cX11_rowsTo 165 = .ok (.lcmp, 1) := dX11_rowsTo_all8.2.2.1
theorem dX11_rowsTo_166 : decode cX11_rowsTo 166 = .ok (.ifCond .le 44, 3) := dX11_rowsTo_all8.2.2.2.1
theorem dX11_rowsTo_169 : decode cX11_rowsTo 169 = .ok (.iload 6, 2) := dX11_rowsTo_all8.2.2.2.2.1
theorem dX11_rowsTo_171 : decode cX11_rowsTo 171 = .ok (.iconst 1, 1) := dX11_rowsTo_all8.2.2.2.2.2.1
theorem dX11_rowsTo_172 : decode cX11_rowsTo 172 = .ok (.iload 7, 2) := dX11_rowsTo_all8.2.2.2.2.2.2.1
theorem dX11_rowsTo_174 : decode cX11_rowsTo 174 = .ok (.ishl, 1) := dX11_rowsTo_all8.2.2.2.2.2.2.2.1
theorem dX11_rowsTo_175 : decode cX11_rowsTo 175 = .ok (.ior, 1) := dX11_rowsTo_all8.2.2.2.2.2.2.2.2.1
theorem dX11_rowsTo_176 : decode cX11_rowsTo 176 = .ok (.istore 6, 2) := dX11_rowsTo_all8.2.2.2.2.2.2.2.2.2.1
theorem dX11_rowsTo_178 : decode cX11_rowsTo 178 = .ok (.iinc 5 1, 3) := dX11_rowsTo_all8.2.2.2.2.2.2.2.2.2.2.1
theorem dX11_rowsTo_181 : decode cX11_rowsTo 181 = .ok (.aload_n 0, 1) := dX11_rowsTo_all8.2.2.2.2.2.2.2.2.2.2.2
theorem dX11_rowsTo_all9 : decode cX11_rowsTo 182 = .ok (.getfield 38, 3) ∧ decode cX11_rowsTo 185 = .ok (.iload 5, 2) ∧ decode cX11_rowsTo 187 = .ok (.iload 7, 2) ∧ decode cX11_rowsTo 189 = .ok (.bipush 10, 2) ∧ decode cX11_rowsTo 191 = .ok (.iadd, 1) ∧ decode cX11_rowsTo 192 = .ok (.iastore, 1) ∧ decode cX11_rowsTo 193 = .ok (.aload_n 0, 1) ∧ decode cX11_rowsTo 194 = .ok (.getfield 44, 3) ∧ decode cX11_rowsTo 197 = .ok (.iload 5, 2) ∧ decode cX11_rowsTo 199 = .ok (.lload 9, 2) ∧ decode cX11_rowsTo 201 = .ok (.lastore, 1) ∧ decode cX11_rowsTo 202 = .ok (.aload_n 0, 1) := by decide +kernel
theorem dX11_rowsTo_182 : decode cX11_rowsTo 182 = .ok (.getfield 38, 3) := dX11_rowsTo_all9.1
theorem dX11_rowsTo_185 : decode cX11_rowsTo 185 = .ok (.iload 5, 2) := dX11_rowsTo_all9.2.1
theorem dX11_rowsTo_187 : decode cX11_rowsTo 187 = .ok (.iload 7, 2) := dX11_rowsTo_all9.2.2.1
theorem dX11_rowsTo_189 : decode cX11_rowsTo 189 = .ok (.bipush 10, 2) := dX11_rowsTo_all9.2.2.2.1
theorem dX11_rowsTo_191 : decode cX11_rowsTo 191 = .ok (.iadd, 1) := dX11_rowsTo_all9.2.2.2.2.1
theorem dX11_rowsTo_192 : decode cX11_rowsTo 192 = .ok (.iastore, 1) := dX11_rowsTo_all9.2.2.2.2.2.1
theorem dX11_rowsTo_193 : decode cX11_rowsTo 193 = .ok (.aload_n 0, 1) := dX11_rowsTo_all9.2.2.2.2.2.2.1
theorem dX11_rowsTo_194 : decode cX11_rowsTo 194 = .ok (.getfield 44, 3) := dX11_rowsTo_all9.2.2.2.2.2.2.2.1
theorem dX11_rowsTo_197 : decode cX11_rowsTo 197 = .ok (.iload 5, 2) := dX11_rowsTo_all9.2.2.2.2.2.2.2.2.1
theorem dX11_rowsTo_199 : decode cX11_rowsTo 199 = .ok (.lload 9, 2) := dX11_rowsTo_all9.2.2.2.2.2.2.2.2.2.1
theorem dX11_rowsTo_201 : decode cX11_rowsTo 201 = .ok (.lastore, 1) := dX11_rowsTo_all9.2.2.2.2.2.2.2.2.2.2.1
theorem dX11_rowsTo_202 : decode cX11_rowsTo 202 = .ok (.aload_n 0, 1) := dX11_rowsTo_all9.2.2.2.2.2.2.2.2.2.2.2
theorem dX11_rowsTo_all10 : decode cX11_rowsTo 203 = .ok (.getfield 41, 3) ∧ decode cX11_rowsTo 206 = .ok (.iload 5, 2) ∧ decode cX11_rowsTo 208 = .ok (.iconst (-1), 1) ∧ decode cX11_rowsTo 209 = .ok (.iastore, 1) ∧ decode cX11_rowsTo 210 = .ok (.goto (-179), 3) ∧ decode cX11_rowsTo 213 = .ok (.lload_n 3, 1) ∧ decode cX11_rowsTo 214 = .ok (.ldc2_w 197, 3) ∧ decode cX11_rowsTo 217 = .ok (.lcmp, 1) ∧ decode cX11_rowsTo 218 = .ok (.ifCond .le 9, 3) ∧ decode cX11_rowsTo 221 = .ok (.ldc2_w 197, 3) ∧ decode cX11_rowsTo 224 = .ok (.goto 4, 3) ∧ decode cX11_rowsTo 227 = .ok (.lload_n 3, 1) := by decide +kernel
theorem dX11_rowsTo_203 : decode cX11_rowsTo 203 = .ok (.getfield 41, 3) := dX11_rowsTo_all10.1
theorem dX11_rowsTo_206 : decode cX11_rowsTo 206 = .ok (.iload 5, 2) := dX11_rowsTo_all10.2.1
theorem dX11_rowsTo_208 : decode cX11_rowsTo 208 = .ok (.iconst (-1), 1) := dX11_rowsTo_all10.2.2.1
theorem dX11_rowsTo_209 : decode cX11_rowsTo 209 = .ok (.iastore, 1) := dX11_rowsTo_all10.2.2.2.1
theorem dX11_rowsTo_210 : decode cX11_rowsTo 210 = .ok (.goto (-179), 3) := dX11_rowsTo_all10.2.2.2.2.1
theorem dX11_rowsTo_213 : decode cX11_rowsTo 213 = .ok (.lload_n 3, 1) := dX11_rowsTo_all10.2.2.2.2.2.1
theorem dX11_rowsTo_214 : decode cX11_rowsTo 214 = .ok (.ldc2_w 197, 3) := dX11_rowsTo_all10.2.2.2.2.2.2.1
theorem dX11_rowsTo_217 : decode cX11_rowsTo 217 = .ok (.lcmp, 1) := dX11_rowsTo_all10.2.2.2.2.2.2.2.1
theorem dX11_rowsTo_218 : decode cX11_rowsTo 218 = .ok (.ifCond .le 9, 3) := dX11_rowsTo_all10.2.2.2.2.2.2.2.2.1
theorem dX11_rowsTo_221 : decode cX11_rowsTo 221 = .ok (.ldc2_w 197, 3) := dX11_rowsTo_all10.2.2.2.2.2.2.2.2.2.1
theorem dX11_rowsTo_224 : decode cX11_rowsTo 224 = .ok (.goto 4, 3) := dX11_rowsTo_all10.2.2.2.2.2.2.2.2.2.2.1
theorem dX11_rowsTo_227 : decode cX11_rowsTo 227 = .ok (.lload_n 3, 1) := dX11_rowsTo_all10.2.2.2.2.2.2.2.2.2.2.2
theorem dX11_rowsTo_228 : decode cX11_rowsTo 228 = .ok (.lreturn, 1) := by decide +kernel
theorem ggX11_shareOf_X11_findHas : GoodIn wsX11_shareOf wsX11_findHas := goodIn_s (fun _ h => wm_t (wm_r (wm_l (wm_r h)))) Gd_X11_findHas
theorem gX11_shareOf_X11_findHas : GoodIn wsX11_shareOf (wsV RX11 200 RX11 yX11_findHas wsX11_findHas) := goodIn_V (own := RX11) (idx := 200) (C := RX11) (y := yX11_findHas) (wm_t (wm_l (wm_i 1 rfl))) (wm_t (wm_l (wm_i 2 rfl))) (wm_t (wm_l (wm_i 3 rfl))) (wm_t (wm_l (wm_i 4 rfl))) ggX11_shareOf_X11_findHas
theorem ggX11_shareOf_X11_rowsTo : GoodIn wsX11_shareOf wsX11_rowsTo := goodIn_s (fun _ h => wm_t (wm_r (wm_r h))) Gd_X11_rowsTo
theorem gX11_shareOf_X11_rowsTo : GoodIn wsX11_shareOf (wsV RX11 204 RX11 yX11_rowsTo wsX11_rowsTo) := goodIn_V (own := RX11) (idx := 204) (C := RX11) (y := yX11_rowsTo) (wm_t (wm_l (wm_i 5 rfl))) (wm_t (wm_l (wm_i 6 rfl))) (wm_t (wm_l (wm_i 7 rfl))) (wm_t (wm_l (wm_i 4 rfl))) ggX11_shareOf_X11_rowsTo
theorem dX11_shareOf_all0 : decode cX11_shareOf 0 = .ok (.iload_n 2, 1) ∧ decode cX11_shareOf 1 = .ok (.bipush 10, 2) ∧ decode cX11_shareOf 3 = .ok (.if_icmp .ge 15, 3) ∧ decode cX11_shareOf 6 = .ok (.iload_n 2, 1) ∧ decode cX11_shareOf 7 = .ok (.iload_n 1, 1) ∧ decode cX11_shareOf 8 = .ok (.if_icmp .ne 8, 3) ∧ decode cX11_shareOf 11 = .ok (.ldc 199, 2) ∧ decode cX11_shareOf 13 = .ok (.goto 4, 3) ∧ decode cX11_shareOf 16 = .ok (.iconst 0, 1) ∧ decode cX11_shareOf 17 = .ok (.ireturn, 1) ∧ decode cX11_shareOf 18 = .ok (.aload_n 0, 1) ∧ decode cX11_shareOf 19 = .ok (.iload_n 3, 1) := by decide +kernel
theorem dX11_shareOf_0 : decode cX11_shareOf 0 = .ok (.iload_n 2, 1) := dX11_shareOf_all0.1
theorem dX11_shareOf_1 : decode cX11_shareOf 1 = .ok (.bipush 10, 2) := dX11_shareOf_all0.2.1
theorem dX11_shareOf_3 : decode cX11_shareOf 3 = .ok (.if_icmp .ge 15, 3) := dX11_shareOf_all0.2.2.1
theorem dX11_shareOf_6 : decode cX11_shareOf 6 = .ok (.iload_n 2, 1) := dX11_shareOf_all0.2.2.2.1
theorem dX11_shareOf_7 : decode cX11_shareOf 7 = .ok (.iload_n 1, 1) := dX11_shareOf_all0.2.2.2.2.1
theorem dX11_shareOf_8 : decode cX11_shareOf 8 = .ok (.if_icmp .ne 8, 3) := dX11_shareOf_all0.2.2.2.2.2.1
theorem dX11_shareOf_11 : decode cX11_shareOf 11 = .ok (.ldc 199, 2) := dX11_shareOf_all0.2.2.2.2.2.2.1
theorem dX11_shareOf_13 : decode cX11_shareOf 13 = .ok (.goto 4, 3) := dX11_shareOf_all0.2.2.2.2.2.2.2.1
theorem dX11_shareOf_16 : decode cX11_shareOf 16 = .ok (.iconst 0, 1) := dX11_shareOf_all0.2.2.2.2.2.2.2.2.1
theorem dX11_shareOf_17 : decode cX11_shareOf 17 = .ok (.ireturn, 1) := dX11_shareOf_all0.2.2.2.2.2.2.2.2.2.1
theorem dX11_shareOf_18 : decode cX11_shareOf 18 = .ok (.aload_n 0, 1) := dX11_shareOf_all0.2.2.2.2.2.2.2.2.2.2.1
theorem dX11_shareOf_19 : decode cX11_shareOf 19 = .ok (.iload_n 3, 1) := dX11_shareOf_all0.2.2.2.2.2.2.2.2.2.2.2
theorem dX11_shareOf_all1 : decode cX11_shareOf 20 = .ok (.invokevirtual 200, 3) ∧ decode cX11_shareOf 23 = .ok (.aload_n 0, 1) ∧ decode cX11_shareOf 24 = .ok (.iload_n 1, 1) ∧ decode cX11_shareOf 25 = .ok (.iload_n 2, 1) ∧ decode cX11_shareOf 26 = .ok (.invokevirtual 204, 3) ∧ decode cX11_shareOf 29 = .ok (.l2i, 1) ∧ decode cX11_shareOf 30 = .ok (.ireturn, 1) := by decide +kernel
theorem dX11_shareOf_20 : decode cX11_shareOf 20 = .ok (.invokevirtual 200, 3) := dX11_shareOf_all1.1
theorem dX11_shareOf_23 : decode cX11_shareOf 23 = .ok (.aload_n 0, 1) := dX11_shareOf_all1.2.1
theorem dX11_shareOf_24 : decode cX11_shareOf 24 = .ok (.iload_n 1, 1) := dX11_shareOf_all1.2.2.1
theorem dX11_shareOf_25 : decode cX11_shareOf 25 = .ok (.iload_n 2, 1) := dX11_shareOf_all1.2.2.2.1
theorem dX11_shareOf_26 : decode cX11_shareOf 26 = .ok (.invokevirtual 204, 3) := dX11_shareOf_all1.2.2.2.2.1
theorem dX11_shareOf_29 : decode cX11_shareOf 29 = .ok (.l2i, 1) := dX11_shareOf_all1.2.2.2.2.2.1
theorem dX11_shareOf_30 : decode cX11_shareOf 30 = .ok (.ireturn, 1) := dX11_shareOf_all1.2.2.2.2.2.2
theorem ggX11_share_X11_isPerson : GoodIn wsX11_share wsX11_isPerson := goodIn_s (fun _ h => wm_t (wm_r (wm_l (wm_l (wm_r h))))) Gd_X11_isPerson
theorem gX11_share_X11_isPerson : GoodIn wsX11_share (va_wsS RX11 208 yX11_isPerson wsX11_isPerson) := goodIn_S (own := RX11) (idx := 208) (y := yX11_isPerson) (wm_t (wm_l (wm_i 2 rfl))) (wm_t (wm_l (wm_i 3 rfl))) (wm_t (wm_l (wm_i 4 rfl))) ggX11_share_X11_isPerson
theorem ggX11_share_X11_isOwner : GoodIn wsX11_share wsX11_isOwner := goodIn_s (fun _ h => wm_t (wm_r (wm_l (wm_r h)))) Gd_X11_isOwner
theorem gX11_share_X11_isOwner : GoodIn wsX11_share (va_wsS RX11 170 yX11_isOwner wsX11_isOwner) := goodIn_S (own := RX11) (idx := 170) (y := yX11_isOwner) (wm_t (wm_l (wm_i 5 rfl))) (wm_t (wm_l (wm_i 6 rfl))) (wm_t (wm_l (wm_i 4 rfl))) ggX11_share_X11_isOwner
theorem ggX11_share_X11_isDay : GoodIn wsX11_share wsX11_isDay := goodIn_s (fun _ h => wm_t (wm_r (wm_r (wm_l h)))) Gd_X11_isDay
theorem gX11_share_X11_isDay : GoodIn wsX11_share (va_wsS RX11 178 yX11_isDay wsX11_isDay) := goodIn_S (own := RX11) (idx := 178) (y := yX11_isDay) (wm_t (wm_l (wm_i 7 rfl))) (wm_t (wm_l (wm_i 8 rfl))) (wm_t (wm_l (wm_i 4 rfl))) ggX11_share_X11_isDay
theorem ggX11_share_X11_shareOf : GoodIn wsX11_share wsX11_shareOf := goodIn_s (fun _ h => wm_t (wm_r (wm_r (wm_r h)))) Gd_X11_shareOf
theorem gX11_share_X11_shareOf : GoodIn wsX11_share (wsV RX11 211 RX11 yX11_shareOf wsX11_shareOf) := goodIn_V (own := RX11) (idx := 211) (C := RX11) (y := yX11_shareOf) (wm_t (wm_l (wm_i 9 rfl))) (wm_t (wm_l (wm_i 10 rfl))) (wm_t (wm_l (wm_i 11 rfl))) (wm_t (wm_l (wm_i 4 rfl))) ggX11_share_X11_shareOf
theorem dX11_share_all0 : decode cX11_share 0 = .ok (.aload_n 0, 1) ∧ decode cX11_share 1 = .ok (.iconst 0, 1) ∧ decode cX11_share 2 = .ok (.putfield 1, 3) ∧ decode cX11_share 5 = .ok (.iload_n 1, 1) ∧ decode cX11_share 6 = .ok (.invokestatic 208, 3) ∧ decode cX11_share 9 = .ok (.ifCond .eq 17, 3) ∧ decode cX11_share 12 = .ok (.iload_n 2, 1) ∧ decode cX11_share 13 = .ok (.invokestatic 170, 3) ∧ decode cX11_share 16 = .ok (.ifCond .eq 10, 3) ∧ decode cX11_share 19 = .ok (.iload_n 3, 1) ∧ decode cX11_share 20 = .ok (.invokestatic 178, 3) ∧ decode cX11_share 23 = .ok (.ifCond .ne 8, 3) := by decide +kernel
theorem dX11_share_0 : decode cX11_share 0 = .ok (.aload_n 0, 1) := dX11_share_all0.1
theorem dX11_share_1 : decode cX11_share 1 = .ok (.iconst 0, 1) := dX11_share_all0.2.1
theorem dX11_share_2 : decode cX11_share 2 = .ok (.putfield 1, 3) := dX11_share_all0.2.2.1
theorem dX11_share_5 : decode cX11_share 5 = .ok (.iload_n 1, 1) := dX11_share_all0.2.2.2.1
theorem dX11_share_6 : decode cX11_share 6 = .ok (.invokestatic 208, 3) := dX11_share_all0.2.2.2.2.1
theorem dX11_share_9 : decode cX11_share 9 = .ok (.ifCond .eq 17, 3) := dX11_share_all0.2.2.2.2.2.1
theorem dX11_share_12 : decode cX11_share 12 = .ok (.iload_n 2, 1) := dX11_share_all0.2.2.2.2.2.2.1
theorem dX11_share_13 : decode cX11_share 13 = .ok (.invokestatic 170, 3) := dX11_share_all0.2.2.2.2.2.2.2.1
theorem dX11_share_16 : decode cX11_share 16 = .ok (.ifCond .eq 10, 3) := dX11_share_all0.2.2.2.2.2.2.2.2.1
theorem dX11_share_19 : decode cX11_share 19 = .ok (.iload_n 3, 1) := dX11_share_all0.2.2.2.2.2.2.2.2.2.1
theorem dX11_share_20 : decode cX11_share 20 = .ok (.invokestatic 178, 3) := dX11_share_all0.2.2.2.2.2.2.2.2.2.2.1
theorem dX11_share_23 : decode cX11_share 23 = .ok (.ifCond .ne 8, 3) := dX11_share_all0.2.2.2.2.2.2.2.2.2.2.2
theorem dX11_share_all1 : decode cX11_share 26 = .ok (.ldc 157, 2) ∧ decode cX11_share 28 = .ok (.goto 10, 3) ∧ decode cX11_share 31 = .ok (.aload_n 0, 1) ∧ decode cX11_share 32 = .ok (.iload_n 1, 1) ∧ decode cX11_share 33 = .ok (.iload_n 2, 1) ∧ decode cX11_share 34 = .ok (.iload_n 3, 1) ∧ decode cX11_share 35 = .ok (.invokevirtual 211, 3) ∧ decode cX11_share 38 = .ok (.ireturn, 1) := by decide +kernel
theorem dX11_share_26 : decode cX11_share 26 = .ok (.ldc 157, 2) := dX11_share_all1.1
theorem dX11_share_28 : decode cX11_share 28 = .ok (.goto 10, 3) := dX11_share_all1.2.1
theorem dX11_share_31 : decode cX11_share 31 = .ok (.aload_n 0, 1) := dX11_share_all1.2.2.1
theorem dX11_share_32 : decode cX11_share 32 = .ok (.iload_n 1, 1) := dX11_share_all1.2.2.2.1
theorem dX11_share_33 : decode cX11_share 33 = .ok (.iload_n 2, 1) := dX11_share_all1.2.2.2.2.1
theorem dX11_share_34 : decode cX11_share 34 = .ok (.iload_n 3, 1) := dX11_share_all1.2.2.2.2.2.1
theorem dX11_share_35 : decode cX11_share 35 = .ok (.invokevirtual 211, 3) := dX11_share_all1.2.2.2.2.2.2.1
theorem dX11_share_38 : decode cX11_share 38 = .ok (.ireturn, 1) := dX11_share_all1.2.2.2.2.2.2.2
theorem ggX11_truly_X11_isOwner : GoodIn wsX11_truly wsX11_isOwner := goodIn_s (fun _ h => wm_t (wm_r (wm_l (wm_r h)))) Gd_X11_isOwner
theorem gX11_truly_X11_isOwner : GoodIn wsX11_truly (va_wsS RX11 170 yX11_isOwner wsX11_isOwner) := goodIn_S (own := RX11) (idx := 170) (y := yX11_isOwner) (wm_t (wm_l (wm_i 3 rfl))) (wm_t (wm_l (wm_i 4 rfl))) (wm_t (wm_l (wm_i 5 rfl))) ggX11_truly_X11_isOwner
theorem ggX11_truly_X11_isDay : GoodIn wsX11_truly wsX11_isDay := goodIn_s (fun _ h => wm_t (wm_r (wm_r (wm_l h)))) Gd_X11_isDay
theorem gX11_truly_X11_isDay : GoodIn wsX11_truly (va_wsS RX11 178 yX11_isDay wsX11_isDay) := goodIn_S (own := RX11) (idx := 178) (y := yX11_isDay) (wm_t (wm_l (wm_i 6 rfl))) (wm_t (wm_l (wm_i 7 rfl))) (wm_t (wm_l (wm_i 5 rfl))) ggX11_truly_X11_isDay
theorem ggX11_truly_X11_shareOf : GoodIn wsX11_truly wsX11_shareOf := goodIn_s (fun _ h => wm_t (wm_r (wm_r (wm_r h)))) Gd_X11_shareOf
theorem gX11_truly_X11_shareOf : GoodIn wsX11_truly (wsV RX11 211 RX11 yX11_shareOf wsX11_shareOf) := goodIn_V (own := RX11) (idx := 211) (C := RX11) (y := yX11_shareOf) (wm_t (wm_l (wm_i 8 rfl))) (wm_t (wm_l (wm_i 9 rfl))) (wm_t (wm_l (wm_i 10 rfl))) (wm_t (wm_l (wm_i 5 rfl))) ggX11_truly_X11_shareOf
theorem dX11_truly_all0 : decode cX11_truly 0 = .ok (.aload_n 0, 1) ∧ decode cX11_truly 1 = .ok (.iconst 0, 1) ∧ decode cX11_truly 2 = .ok (.putfield 1, 3) ∧ decode cX11_truly 5 = .ok (.iload_n 1, 1) ∧ decode cX11_truly 6 = .ok (.invokestatic 170, 3) ∧ decode cX11_truly 9 = .ok (.ifCond .eq 10, 3) ∧ decode cX11_truly 12 = .ok (.iload_n 2, 1) ∧ decode cX11_truly 13 = .ok (.invokestatic 178, 3) ∧ decode cX11_truly 16 = .ok (.ifCond .ne 6, 3) ∧ decode cX11_truly 19 = .ok (.ldc 157, 2) ∧ decode cX11_truly 21 = .ok (.ireturn, 1) ∧ decode cX11_truly 22 = .ok (.ldc 139, 2) := by decide +kernel
theorem dX11_truly_0 : decode cX11_truly 0 = .ok (.aload_n 0, 1) := dX11_truly_all0.1
theorem dX11_truly_1 : decode cX11_truly 1 = .ok (.iconst 0, 1) := dX11_truly_all0.2.1
theorem dX11_truly_2 : decode cX11_truly 2 = .ok (.putfield 1, 3) := dX11_truly_all0.2.2.1
theorem dX11_truly_5 : decode cX11_truly 5 = .ok (.iload_n 1, 1) := dX11_truly_all0.2.2.2.1
theorem dX11_truly_6 : decode cX11_truly 6 = .ok (.invokestatic 170, 3) := dX11_truly_all0.2.2.2.2.1
theorem dX11_truly_9 : decode cX11_truly 9 = .ok (.ifCond .eq 10, 3) := dX11_truly_all0.2.2.2.2.2.1
theorem dX11_truly_12 : decode cX11_truly 12 = .ok (.iload_n 2, 1) := dX11_truly_all0.2.2.2.2.2.2.1
theorem dX11_truly_13 : decode cX11_truly 13 = .ok (.invokestatic 178, 3) := dX11_truly_all0.2.2.2.2.2.2.2.1
theorem dX11_truly_16 : decode cX11_truly 16 = .ok (.ifCond .ne 6, 3) := dX11_truly_all0.2.2.2.2.2.2.2.2.1
theorem dX11_truly_19 : decode cX11_truly 19 = .ok (.ldc 157, 2) := dX11_truly_all0.2.2.2.2.2.2.2.2.2.1
theorem dX11_truly_21 : decode cX11_truly 21 = .ok (.ireturn, 1) := dX11_truly_all0.2.2.2.2.2.2.2.2.2.2.1
theorem dX11_truly_22 : decode cX11_truly 22 = .ok (.ldc 139, 2) := dX11_truly_all0.2.2.2.2.2.2.2.2.2.2.2
theorem dX11_truly_all1 : decode cX11_truly 24 = .ok (.istore_n 3, 1) ∧ decode cX11_truly 25 = .ok (.iconst 0, 1) ∧ decode cX11_truly 26 = .ok (.istore 4, 2) ∧ decode cX11_truly 28 = .ok (.iconst 0, 1) ∧ decode cX11_truly 29 = .ok (.istore 5, 2) ∧ decode cX11_truly 31 = .ok (.iload 5, 2) ∧ decode cX11_truly 33 = .ok (.bipush 10, 2) ∧ decode cX11_truly 35 = .ok (.if_icmp .ge 33, 3) ∧ decode cX11_truly 38 = .ok (.aload_n 0, 1) ∧ decode cX11_truly 39 = .ok (.iload 5, 2) ∧ decode cX11_truly 41 = .ok (.iload_n 1, 1) ∧ decode cX11_truly 42 = .ok (.iload_n 2, 1) := by decide +kernel
theorem dX11_truly_24 : decode cX11_truly 24 = .ok (.istore_n 3, 1) := dX11_truly_all1.1
theorem dX11_truly_25 : decode cX11_truly 25 = .ok (.iconst 0, 1) := dX11_truly_all1.2.1
theorem dX11_truly_26 : decode cX11_truly 26 = .ok (.istore 4, 2) := dX11_truly_all1.2.2.1
theorem dX11_truly_28 : decode cX11_truly 28 = .ok (.iconst 0, 1) := dX11_truly_all1.2.2.2.1
theorem dX11_truly_29 : decode cX11_truly 29 = .ok (.istore 5, 2) := dX11_truly_all1.2.2.2.2.1
theorem dX11_truly_31 : decode cX11_truly 31 = .ok (.iload 5, 2) := dX11_truly_all1.2.2.2.2.2.1
theorem dX11_truly_33 : decode cX11_truly 33 = .ok (.bipush 10, 2) := dX11_truly_all1.2.2.2.2.2.2.1
theorem dX11_truly_35 : decode cX11_truly 35 = .ok (.if_icmp .ge 33, 3) := dX11_truly_all1.2.2.2.2.2.2.2.1
theorem dX11_truly_38 : decode cX11_truly 38 = .ok (.aload_n 0, 1) := dX11_truly_all1.2.2.2.2.2.2.2.2.1
theorem dX11_truly_39 : decode cX11_truly 39 = .ok (.iload 5, 2) := dX11_truly_all1.2.2.2.2.2.2.2.2.2.1
theorem dX11_truly_41 : decode cX11_truly 41 = .ok (.iload_n 1, 1) := dX11_truly_all1.2.2.2.2.2.2.2.2.2.2.1
theorem dX11_truly_42 : decode cX11_truly 42 = .ok (.iload_n 2, 1) := dX11_truly_all1.2.2.2.2.2.2.2.2.2.2.2
theorem dX11_truly_all2 : decode cX11_truly 43 = .ok (.invokevirtual 211, 3) ∧ decode cX11_truly 46 = .ok (.istore 6, 2) ∧ decode cX11_truly 48 = .ok (.iload 6, 2) ∧ decode cX11_truly 50 = .ok (.iload 4, 2) ∧ decode cX11_truly 52 = .ok (.if_icmp .le 10, 3) ∧ decode cX11_truly 55 = .ok (.iload 6, 2) ∧ decode cX11_truly 57 = .ok (.istore 4, 2) ∧ decode cX11_truly 59 = .ok (.iload 5, 2) ∧ decode cX11_truly 61 = .ok (.istore_n 3, 1) ∧ decode cX11_truly 62 = .ok (.iinc 5 1, 3) ∧ decode cX11_truly 65 = .ok (.goto (-34), 3) ∧ decode cX11_truly 68 = .ok (.iload_n 3, 1) := by decide +kernel
theorem dX11_truly_43 : decode cX11_truly 43 = .ok (.invokevirtual 211, 3) := dX11_truly_all2.1
theorem dX11_truly_46 : decode cX11_truly 46 = .ok (.istore 6, 2) := dX11_truly_all2.2.1
theorem dX11_truly_48 : decode cX11_truly 48 = .ok (.iload 6, 2) := dX11_truly_all2.2.2.1
theorem dX11_truly_50 : decode cX11_truly 50 = .ok (.iload 4, 2) := dX11_truly_all2.2.2.2.1
theorem dX11_truly_52 : decode cX11_truly 52 = .ok (.if_icmp .le 10, 3) := dX11_truly_all2.2.2.2.2.1
theorem dX11_truly_55 : decode cX11_truly 55 = .ok (.iload 6, 2) := dX11_truly_all2.2.2.2.2.2.1
theorem dX11_truly_57 : decode cX11_truly 57 = .ok (.istore 4, 2) := dX11_truly_all2.2.2.2.2.2.2.1
theorem dX11_truly_59 : decode cX11_truly 59 = .ok (.iload 5, 2) := dX11_truly_all2.2.2.2.2.2.2.2.1
theorem dX11_truly_61 : decode cX11_truly 61 = .ok (.istore_n 3, 1) := dX11_truly_all2.2.2.2.2.2.2.2.2.1
theorem dX11_truly_62 : decode cX11_truly 62 = .ok (.iinc 5 1, 3) := dX11_truly_all2.2.2.2.2.2.2.2.2.2.1
theorem dX11_truly_65 : decode cX11_truly 65 = .ok (.goto (-34), 3) := dX11_truly_all2.2.2.2.2.2.2.2.2.2.2.1
theorem dX11_truly_68 : decode cX11_truly 68 = .ok (.iload_n 3, 1) := dX11_truly_all2.2.2.2.2.2.2.2.2.2.2.2
theorem dX11_truly_69 : decode cX11_truly 69 = .ok (.ireturn, 1) := by decide +kernel
set_option maxHeartbeats 4000000 in
set_option maxRecDepth 100000 in
theorem ct_X11_rowsTo (l : Launch) (D : va_G) (cI cY cJ cQ : ClassId) (sz : Nat) (md : Nat → Nat) (sd : Int32) (mth mst hn cn pn mq gn mln mnn ln mlt msz mcu mtk mfr mti mfa mfb an un lc td mtn : Int32) (mh mp mt : Nat → Int32) (mf : Nat → Int64) (q : Int32) (o : Int32)  (h1 : 0 ≤ q.toInt) (h2 : q.toInt < 20) (h3 : 10 ≤ o.toInt) (h4 : o.toInt < 20) (h5 : okE mh)  : Met l yX11_rowsTo wsX11_rowsTo ({ frames := 0, cells := 0, slots := 0, locals := 0 }) (cPre D (ty4 cI cY cJ cQ) [(moC md sd mth mst hn cn pn mq gn mln mnn ln mlt msz mcu mtk mfr mti mfa mfb an un lc td mtn), (aI cI (md 11) 200 mh), (aI cI (md 12) 12 mp), (aI cI (md 13) 12 mt), (aJ cJ (md 14) 12 mf)] sz [.ref (md 64), .int q, .int o]) (va_Ql (fun (r : Int64) (u : (Nat → Int32) × (Nat → Int32) × (Nat → Int64)) => r.toInt = (if 2000000000 < alG (mhF mh) (o.toNatClampNeg - 10) 11 q.toNatClampNeg 1000000 (fun _ => true) then 2000000000 else alG (mhF mh) (o.toNatClampNeg - 10) 11 q.toNatClampNeg 1000000 (fun _ => true))) (cB D (ty4 cI cY cJ cQ) (fun (u : (Nat → Int32) × (Nat → Int32) × (Nat → Int64)) => [(moC md sd mth mst hn cn pn mq gn mln mnn ln mlt msz mcu mtk mfr mti mfa mfb an un lc td mtn), (aI cI (md 11) 200 mh), (aI cI (md 12) 12 u.1), (aI cI (md 13) 12 u.2.1), (aJ cJ (md 14) 12 u.2.2)]) (va_A [(moC md sd mth mst hn cn pn mq gn mln mnn ln mlt msz mcu mtk mfr mti mfa mfb an un lc td mtn), (aI cI (md 11) 200 mh), (aI cI (md 12) 12 mp), (aI cI (md 13) 12 mt), (aJ cJ (md 14) 12 mf)] sz)) (va_A [(moC md sd mth mst hn cn pn mq gn mln mnn ln mlt msz mcu mtk mfr mti mfa mfb an un lc td mtn), (aI cI (md 11) 200 mh), (aI cI (md 12) 12 mp), (aI cI (md 13) 12 mt), (aJ cJ (md 14) 12 mf)] sz)) 0 0 (va_A [(moC md sd mth mst hn cn pn mq gn mln mnn ln mlt msz mcu mtk mfr mti mfa mfb an un lc td mtn), (aI cI (md 11) 200 mh), (aI cI (md 12) 12 mp), (aI cI (md 13) 12 mt), (aJ cJ (md 14) 12 mf)] sz) := by
  refine Met.ofW (cc := cX11_rowsTo) (maxL := 11) (ret := (some .long)) (by decide) rfl ?_
  intro p e s m args below meth c s₁ B hml hv
  obtain ⟨rfl, hsz, hP, hK, hD0, hN⟩ := hv
  have hx := B.exec
  have hb := B.bytes
  have hr := B.returns
  have hts := atoms_spec (ws := wsX11_rowsTo) B.pre
  have hown : s.vm.findClass RX11 = some m.cls := findClass_of_methodNamed B.named
  have hlocks := B.notSynchronized
  subst hsz
  have hD := hD0.self (sz := s.heap.size)
  generalize hAe : va_A [(moC md sd mth mst hn cn pn mq gn mln mnn ln mlt msz mcu mtk mfr mti mfa mfb an un lc td mtn), (aI cI (md 11) 200 mh), (aI cI (md 12) 12 mp), (aI cI (md 13) 12 mt), (aJ cJ (md 14) 12 mf)] s.heap.size = A at hD ⊢
  have hA : ∀ q : Nat, s.heap.size ≤ q → A q := fun q h => by rw [← hAe]; exact Or.inr h
  have hS : va_S A s.heap s.heap [] := va_S.rf
  have hP : va_P D vwCl [(moC md sd mth mst hn cn pn mq gn mln mnn ln mlt msz mcu mtk mfr mti mfa mfb an un lc td mtn), (aI cI (md 11) 200 mh), (aI cI (md 12) 12 mp), (aI cI (md 13) 12 mt), (aJ cJ (md 14) 12 mf)] s.heap := hP
  have hl := lv_entry ([.ref (md 64), .int q, .int o]) (n := 11) (Nat.le_of_ble_eq_true rfl)
  rw [lg_entry_eq]
  generalize (lg_sl ([.ref (md 64), .int q, .int o]) ++ List.replicate (11 - (lg_sl ([.ref (md 64), .int q, .int o])).length) Slot.unset).toArray = ls at hl ⊢
  have hl : lv_has ls 11 [(0, .ref (md 64)), (1, .int q), (2, .int o)] := hl
  have km1 : (-1 : Int32).toInt = -1 := by decide
  have k0 : (0 : Int32).toInt = 0 := by decide
  have k1 : (1 : Int32).toInt = 1 := by decide
  have k10 : (10 : Int32).toInt = 10 := by decide
  have kl0 : (0 : Int64).toInt = 0 := by decide
  have kl2000000000 : (2000000000 : Int64).toInt = 2000000000 := by decide
  refine lv_lconst (v := 0) hx hb dX11_rowsTo_0 (by decide) ?_
  refine lv_lstore_n (lv' := [(3, .long 0), (0, .ref (md 64)), (1, .int q), (2, .int o)]) hx hb dX11_rowsTo_1 rfl hl (by decide) rfl (fun ls hl => ?_)
  refine lv_iconst (v := 0) hx hb dX11_rowsTo_2 (by decide) ?_
  refine lv_istore (lv' := [(5, .int 0), (3, .long 0), (0, .ref (md 64)), (1, .int q), (2, .int o)]) hx hb dX11_rowsTo_3 hl (by decide) rfl (fun ls hl => ?_)
  refine lv_iconst (v := 0) hx hb dX11_rowsTo_5 (by decide) ?_
  refine lv_istore (lv' := [(6, .int 0), (5, .int 0), (3, .long 0), (0, .ref (md 64)), (1, .int q), (2, .int o)]) hx hb dX11_rowsTo_6 hl (by decide) rfl (fun ls hl => ?_)
  refine lv_aload_n hx hb dX11_rowsTo_8 rfl (lv_at hl 3 rfl) ?_
  refine va_get (D := D) (ci := 11) (v := .ref (md 12)) (C := RX11) (T := TX11) (N := 64) hx hb hts inX11_rowsTo_X11 hown hK hP 0 rfl rfl 12 (by decide) (hts (Cond.fieldLink RX11 38 "PortRoomsModel" "path" "[I") (wm_t (wm_l (wm_i 0 rfl)))) (fun _ h9 => h9) rfl dX11_rowsTo_9 ?_
  refine lv_iconst (v := 0) hx hb dX11_rowsTo_12 (by decide) ?_
  refine lv_iload_n hx hb dX11_rowsTo_13 rfl (lv_at hl 4 rfl) ?_
  refine va_iast hx hb hK hP hD hS 2 0 rfl rfl (i_in (by decide) (by decide)) dX11_rowsTo_14 (fun H locs => ?_)
  clear hP hD hS
  intro hP hD hS
  replace hP : va_P D vwCl [(moC md sd mth mst hn cn pn mq gn mln mnn ln mlt msz mcu mtk mfr mti mfa mfb an un lc td mtn), (aI cI (md 11) 200 mh), (aI cI (md 12) 12 (upd mp ((0 : Int32).toNatClampNeg) q)), (aI cI (md 13) 12 mt), (aJ cJ (md 14) 12 mf)] H := hP
  replace hD : va_D A [(moC md sd mth mst hn cn pn mq gn mln mnn ln mlt msz mcu mtk mfr mti mfa mfb an un lc td mtn), (aI cI (md 11) 200 mh), (aI cI (md 12) 12 (upd mp ((0 : Int32).toNatClampNeg) q)), (aI cI (md 13) 12 mt), (aJ cJ (md 14) 12 mf)] := hD
  refine lv_aload_n hx hb dX11_rowsTo_15 rfl (lv_at hl 3 rfl) ?_
  refine va_get (D := D) (ci := 11) (v := .ref (md 14)) (C := RX11) (T := TX11) (N := 64) hx hb hts inX11_rowsTo_X11 hown hK hP 0 rfl rfl 14 (by decide) (hts (Cond.fieldLink RX11 44 "PortRoomsModel" "flow" "[J") (wm_t (wm_l (wm_i 1 rfl)))) (fun _ h9 => h9) rfl dX11_rowsTo_16 ?_
  refine lv_iconst (v := 0) hx hb dX11_rowsTo_19 (by decide) ?_
  refine lv_ldc2 hx hb hown (hts (Cond.constantLong RX11 195 (1000000)) (wm_t (wm_l (wm_i 2 rfl)))) dX11_rowsTo_20 ?_
  refine va_last hx hb hK hP hD hS 4 2 rfl rfl (i_in (by decide) (by decide)) dX11_rowsTo_23 (fun H locs => ?_)
  clear hP hD hS
  intro hP hD hS
  replace hP : va_P D vwCl [(moC md sd mth mst hn cn pn mq gn mln mnn ln mlt msz mcu mtk mfr mti mfa mfb an un lc td mtn), (aI cI (md 11) 200 mh), (aI cI (md 12) 12 (upd mp ((0 : Int32).toNatClampNeg) q)), (aI cI (md 13) 12 mt), (aJ cJ (md 14) 12 (vp_updL mf ((0 : Int32).toNatClampNeg) 1000000))] H := hP
  replace hD : va_D A [(moC md sd mth mst hn cn pn mq gn mln mnn ln mlt msz mcu mtk mfr mti mfa mfb an un lc td mtn), (aI cI (md 11) 200 mh), (aI cI (md 12) 12 (upd mp ((0 : Int32).toNatClampNeg) q)), (aI cI (md 13) 12 mt), (aJ cJ (md 14) 12 (vp_updL mf ((0 : Int32).toNatClampNeg) 1000000))] := hD
  refine lv_aload_n hx hb dX11_rowsTo_24 rfl (lv_at hl 3 rfl) ?_
  refine va_get (D := D) (ci := 11) (v := .ref (md 13)) (C := RX11) (T := TX11) (N := 64) hx hb hts inX11_rowsTo_X11 hown hK hP 0 rfl rfl 13 (by decide) (hts (Cond.fieldLink RX11 41 "PortRoomsModel" "tried" "[I") (wm_t (wm_l (wm_i 3 rfl)))) (fun _ h9 => h9) rfl dX11_rowsTo_25 ?_
  refine lv_iconst (v := 0) hx hb dX11_rowsTo_28 (by decide) ?_
  refine lv_iconst (v := (-1)) hx hb dX11_rowsTo_29 (by decide) ?_
  refine va_iast hx hb hK hP hD hS 3 0 rfl rfl (i_in (by decide) (by decide)) dX11_rowsTo_30 (fun H locs => ?_)
  clear hP hD hS
  intro hP hD hS
  replace hP : va_P D vwCl [(moC md sd mth mst hn cn pn mq gn mln mnn ln mlt msz mcu mtk mfr mti mfa mfb an un lc td mtn), (aI cI (md 11) 200 mh), (aI cI (md 12) 12 (upd mp ((0 : Int32).toNatClampNeg) q)), (aI cI (md 13) 12 (upd mt ((0 : Int32).toNatClampNeg) (-1))), (aJ cJ (md 14) 12 (vp_updL mf ((0 : Int32).toNatClampNeg) 1000000))] H := hP
  replace hD : va_D A [(moC md sd mth mst hn cn pn mq gn mln mnn ln mlt msz mcu mtk mfr mti mfa mfb an un lc td mtn), (aI cI (md 11) 200 mh), (aI cI (md 12) 12 (upd mp ((0 : Int32).toNatClampNeg) q)), (aI cI (md 13) 12 (upd mt ((0 : Int32).toNatClampNeg) (-1))), (aJ cJ (md 14) 12 (vp_updL mf ((0 : Int32).toNatClampNeg) 1000000))] := hD
  refine st_loop 31 (fun _ => []) (fun (z : Int64 × Int32 × Int32 × (Nat → Int32) × (Nat → Int32) × (Nat → Int64)) (ls : Array Slot) (H : Heap) (locs : List Loc) => match z with | (q31_3, q31_5, q31_6, mpq, mtq, mfq) => (okT q31_5 q31_6 mpq mtq) ∧ (-1 ≤ q31_5.toInt) ∧ (q31_5.toInt ≤ 10) ∧ (dfI (mhF mh) (o.toNatClampNeg - 10) q.toNatClampNeg q31_3.toInt q31_5 q31_6 mpq mtq mfq) ∧ lv_has ls 11 [(0, .ref (md 64)), (1, .int q), (2, .int o), (3, .long q31_3), (5, .int q31_5), (6, .int q31_6)] ∧ va_P D vwCl [(moC md sd mth mst hn cn pn mq gn mln mnn ln mlt msz mcu mtk mfr mti mfa mfb an un lc td mtn), (aI cI (md 11) 200 mh), (aI cI (md 12) 12 mpq), (aI cI (md 13) 12 mtq), (aJ cJ (md 14) 12 mfq)] H ∧ va_D A [(moC md sd mth mst hn cn pn mq gn mln mnn ln mlt msz mcu mtk mfr mti mfa mfb an un lc td mtn), (aI cI (md 11) 200 mh), (aI cI (md 12) 12 mpq), (aI cI (md 13) 12 mtq), (aJ cJ (md 14) 12 mfq)] ∧ va_S A s.heap H locs) (fun (z : Int64 × Int32 × Int32 × (Nat → Int32) × (Nat → Int32) × (Nat → Int64)) => match z with | (q31_3, q31_5, q31_6, mpq, mtq, mfq) => muT mtq (q31_5.toInt + 1).toNat) ?_ ?_ ((0 : Int64), (0 : Int32), (0 : Int32), upd mp ((0 : Int32).toNatClampNeg) q, upd mt ((0 : Int32).toNatClampNeg) (-1), vp_updL mf ((0 : Int32).toNatClampNeg) 1000000) ⟨(by exact okT_0 (by omega) (by omega)), (by omega), (by omega), (by exact df_0 (by omega)), lv_sub hl [3, 4, 5, 2, 1, 0] rfl, hP, hD, hS⟩
  · rintro ⟨q31_3, q31_5, q31_6, mpq, mtq, mfq⟩ ls H locs ⟨g1, g2, g3, g4, hl, hP, hD, hS⟩
    show (0 : Int) ≤ muT mtq (q31_5.toInt + 1).toNat
    exact okT_pos g1
  · rintro n7 ih5 ⟨q31_3, q31_5, q31_6, mpq, mtq, mfq⟩ ls H locs ⟨g1, g2, g3, g4, hl, hP, hD, hS⟩ hm6
    have hm6 : muT mtq (q31_5.toInt + 1).toNat < (n7 : Int) + 1 := hm6
    replace hl : lv_has ls 11 [(0, .ref (md 64)), (1, .int q), (2, .int o), (3, .long q31_3), (5, .int q31_5), (6, .int q31_6)] := hl
    replace hP : va_P D vwCl [(moC md sd mth mst hn cn pn mq gn mln mnn ln mlt msz mcu mtk mfr mti mfa mfb an un lc td mtn), (aI cI (md 11) 200 mh), (aI cI (md 12) 12 mpq), (aI cI (md 13) 12 mtq), (aJ cJ (md 14) 12 mfq)] H := hP
    replace hD : va_D A [(moC md sd mth mst hn cn pn mq gn mln mnn ln mlt msz mcu mtk mfr mti mfa mfb an un lc td mtn), (aI cI (md 11) 200 mh), (aI cI (md 12) 12 mpq), (aI cI (md 13) 12 mtq), (aJ cJ (md 14) 12 mfq)] := hD
    show W _ _ _ _ _ _ _ _ _ _ _ _ _ _ _ (F0 m 31 ls [])
    refine lv_iload hx hb dX11_rowsTo_31 (lv_at hl 4 rfl) ?_
    refine lv_if_lt (tgt := 213) hx hb dX11_rowsTo_33 (by decide) (fun c8 => ?_) (fun c8 => ?_)
    · skip
      have f9 := i_lt c8
      refine lv_lload_n hx hb dX11_rowsTo_213 rfl (lv_at hl 3 rfl) ?_
      refine lv_ldc2 hx hb hown (hts (Cond.constantLong RX11 197 (2000000000)) (wm_t (wm_l (wm_i 6 rfl)))) dX11_rowsTo_214 ?_
      refine W.lcmp hx hb dX11_rowsTo_217 ?_
      refine lv_topi (fun v10 ev10 => ?_)
      refine lv_if_le (tgt := 227) hx hb dX11_rowsTo_218 (by decide) (fun c11 => ?_) (fun c11 => ?_)
      · skip
        have f12 := lc_le ev10 c11
        refine lv_lload_n hx hb dX11_rowsTo_227 rfl (lv_at hl 3 rfl) ?_
        have hend9 := df_end g4 (by omega)
        have hP9 := hP
        have hD9 := hD
        exact W.lret (v := q31_3) hx hb hr (fun t ht hW => ⟨⟨q31_3, (mpq, mtq, mfq), rfl, (by show q31_3.toInt = _; rw [← hend9]; first | (rw [if_pos (by omega)]; omega) | (rw [if_neg (by omega)])), by rw [ht]; exact hP9, va_K.moved hW.alike hK, hD9⟩, hS.F ht⟩) hS.2.2 dX11_rowsTo_228
      · skip
        have f13 := lc_leN ev10 c11
        refine lv_ldc2 hx hb hown (hts (Cond.constantLong RX11 197 (2000000000)) (wm_t (wm_l (wm_i 6 rfl)))) dX11_rowsTo_221 ?_
        refine lv_goto (tgt := 228) hx hb dX11_rowsTo_224 (by decide) ?_
        have hend9 := df_end g4 (by omega)
        have hP9 := hP
        have hD9 := hD
        exact W.lret (v := 2000000000) hx hb hr (fun t ht hW => ⟨⟨2000000000, (mpq, mtq, mfq), rfl, (by show (2000000000 : Int64).toInt = _; rw [← hend9]; first | (rw [if_pos (by omega)]; omega) | (rw [if_neg (by omega)])), by rw [ht]; exact hP9, va_K.moved hW.alike hK, hD9⟩, hS.F ht⟩) hS.2.2 dX11_rowsTo_228
    · skip
      have f14 := i_nlt c8
      have hA9 := i_cl (x := q31_5) (by omega)
      have hmf9 := g4.2.1 q31_5.toNatClampNeg (by omega)
      have hsm9 := df_sum (okE_p h5) g1 g4 (by have := i_cl (x := q) (by omega); omega)
      have clo9 := i_cl (x := o) (by omega)
      refine lv_aload_n hx hb dX11_rowsTo_36 rfl (lv_at hl 0 rfl) ?_
      refine va_get (D := D) (ci := 11) (v := .ref (md 13)) (C := RX11) (T := TX11) (N := 64) hx hb hts inX11_rowsTo_X11 hown hK hP 0 rfl rfl 13 (by decide) (hts (Cond.fieldLink RX11 41 "PortRoomsModel" "tried" "[I") (wm_t (wm_l (wm_i 3 rfl)))) (fun _ h9 => h9) rfl dX11_rowsTo_37 ?_
      refine lv_iload hx hb dX11_rowsTo_40 (lv_at hl 4 rfl) ?_
      refine lv_dup2_11 hx hb dX11_rowsTo_42 rfl rfl ?_
      refine va_iald hx hb hK hP 3 0 rfl rfl (i_in (by omega) (by omega)) dX11_rowsTo_43 ?_
      refine lv_topi (fun v15 ev15 => ?_)
      have tlv15 : v15.toInt = (mtq q31_5.toNatClampNeg).toInt := by rw [ev15]
      have qv15 := okT_tried g1 ev15 (by omega) (by omega)
      refine lv_iconst (v := 1) hx hb dX11_rowsTo_44 (by decide) ?_
      refine lv_iadd hx hb dX11_rowsTo_45 ?_
      refine lv_topi (fun v16 ev16 => ?_)
      try have tv16 : v16.toInt = v15.toInt + 1 := by rw [ev16]; exact (i_add (x := v15) (y := (1 : Int32)) (by rw [k1]; omega) (by rw [k1]; omega)).trans (by rw [k1])
      refine va_iast hx hb hK hP hD hS 3 0 rfl rfl (i_in (by omega) (by omega)) dX11_rowsTo_46 (fun H locs => ?_)
      clear hP hD hS
      intro hP hD hS
      replace hP : va_P D vwCl [(moC md sd mth mst hn cn pn mq gn mln mnn ln mlt msz mcu mtk mfr mti mfa mfb an un lc td mtn), (aI cI (md 11) 200 mh), (aI cI (md 12) 12 mpq), (aI cI (md 13) 12 (upd mtq q31_5.toNatClampNeg v16)), (aJ cJ (md 14) 12 mfq)] H := hP
      replace hD : va_D A [(moC md sd mth mst hn cn pn mq gn mln mnn ln mlt msz mcu mtk mfr mti mfa mfb an un lc td mtn), (aI cI (md 11) 200 mh), (aI cI (md 12) 12 mpq), (aI cI (md 13) 12 (upd mtq q31_5.toNatClampNeg v16)), (aJ cJ (md 14) 12 mfq)] := hD
      refine lv_aload_n hx hb dX11_rowsTo_47 rfl (lv_at hl 0 rfl) ?_
      refine va_get (D := D) (ci := 11) (v := .ref (md 13)) (C := RX11) (T := TX11) (N := 64) hx hb hts inX11_rowsTo_X11 hown hK hP 0 rfl rfl 13 (by decide) (hts (Cond.fieldLink RX11 41 "PortRoomsModel" "tried" "[I") (wm_t (wm_l (wm_i 3 rfl)))) (fun _ h9 => h9) rfl dX11_rowsTo_48 ?_
      refine lv_iload hx hb dX11_rowsTo_51 (lv_at hl 4 rfl) ?_
      refine va_iald hx hb hK hP 3 0 rfl rfl (i_in (by omega) (by omega)) dX11_rowsTo_53 ?_
      refine lv_topi (fun v17 ev17 => ?_)
      replace ev17 : v16 = v17 := (ev17.trans (upd_s _ _ _)).symm
      subst ev17
      refine lv_istore (lv' := [(7, .int v16), (0, .ref (md 64)), (1, .int q), (2, .int o), (3, .long q31_3), (5, .int q31_5), (6, .int q31_6)]) hx hb dX11_rowsTo_54 hl (by decide) rfl (fun ls hl => ?_)
      refine lv_iload hx hb dX11_rowsTo_56 (lv_at hl 0 rfl) ?_
      refine lv_bipush (v := 10) hx hb dX11_rowsTo_58 (by decide) ?_
      refine lv_icmp_ne (tgt := 93) hx hb dX11_rowsTo_60 (by decide) (fun c18 => ?_) (fun c18 => ?_)
      · skip
        have f19 := i_ne c18
        refine lv_aload_n hx hb dX11_rowsTo_93 rfl (lv_at hl 1 rfl) ?_
        refine va_get (D := D) (ci := 11) (v := .ref (md 11)) (C := RX11) (T := TX11) (N := 64) hx hb hts inX11_rowsTo_X11 hown hK hP 0 rfl rfl 11 (by decide) (hts (Cond.fieldLink RX11 35 "PortRoomsModel" "has" "[I") (wm_t (wm_l (wm_i 4 rfl)))) (fun _ h9 => h9) rfl dX11_rowsTo_94 ?_
        refine lv_bipush (v := 10) hx hb dX11_rowsTo_97 (by decide) ?_
        refine lv_aload_n hx hb dX11_rowsTo_99 rfl (lv_at hl 1 rfl) ?_
        refine va_get (D := D) (ci := 11) (v := .ref (md 12)) (C := RX11) (T := TX11) (N := 64) hx hb hts inX11_rowsTo_X11 hown hK hP 0 rfl rfl 12 (by decide) (hts (Cond.fieldLink RX11 38 "PortRoomsModel" "path" "[I") (wm_t (wm_l (wm_i 0 rfl)))) (fun _ h9 => h9) rfl dX11_rowsTo_100 ?_
        refine lv_iload hx hb dX11_rowsTo_103 (lv_at hl 5 rfl) ?_
        refine va_iald hx hb hK hP 2 0 rfl rfl (i_in (by omega) (by omega)) dX11_rowsTo_105 ?_
        refine lv_topi (fun v20 ev20 => ?_)
        have tlv20 : v20.toInt = (mpq q31_5.toNatClampNeg).toInt := by rw [ev20]
        have qv20 := okT_path g1 ev20 (by omega) (by omega)
        refine lv_imul hx hb dX11_rowsTo_106 ?_
        refine lv_topi (fun v21 ev21 => ?_)
        try have tv21 : v21.toInt = 10 * v20.toInt := by rw [ev21]; exact (i_mul (x := (10 : Int32)) (y := v20) (by rw [k10]; omega) (by rw [k10]; omega)).trans (by rw [k10])
        refine lv_iload hx hb dX11_rowsTo_107 (lv_at hl 0 rfl) ?_
        refine lv_iadd hx hb dX11_rowsTo_109 ?_
        refine lv_topi (fun v22 ev22 => ?_)
        try have tv22 : v22.toInt = v21.toInt + v16.toInt := by rw [ev22]; exact (i_add (x := v21) (y := v16) (by omega) (by omega))
        refine va_iald hx hb hK hP 1 0 rfl rfl (i_in (by omega) (by omega)) dX11_rowsTo_110 ?_
        refine lv_topi (fun v23 ev23 => ?_)
        have tlv23 : v23.toInt = (mh v22.toNatClampNeg).toInt := by rw [ev23]
        have clc24 := i_cl (x := v16) (by omega)
        have clc25 := i_cl (x := v22) (by omega)
        have clc26 := i_cl (x := v20) (by omega)
        have hby9 : v23.toInt = mhF mh (mpq q31_5.toNatClampNeg).toNatClampNeg v16.toNatClampNeg := by rw [ev23, ← ev20]; show _ = (mh _).toInt; rw [show v22.toNatClampNeg = 10 * v20.toNatClampNeg + v16.toNatClampNeg by omega]
        have hbr9 := h5 v22.toNatClampNeg (by omega)
        rw [← ev23] at hbr9
        refine lv_istore (lv' := [(8, .int v23), (7, .int v16), (0, .ref (md 64)), (1, .int q), (2, .int o), (3, .long q31_3), (5, .int q31_5), (6, .int q31_6)]) hx hb dX11_rowsTo_111 hl (by decide) rfl (fun ls hl => ?_)
        refine lv_iload hx hb dX11_rowsTo_113 (lv_at hl 0 rfl) ?_
        refine lv_if_le (tgt := 210) hx hb dX11_rowsTo_115 (by decide) (fun c27 => ?_) (fun c27 => ?_)
        · skip
          have f28 := i_le c27
          refine lv_goto (tgt := 31) hx hb dX11_rowsTo_210 (by decide) ?_
          have hk29 := okT_stay g1 (by omega) (by assumption) tv16 (by omega)
          have hg9 : gL (mhF mh) (o.toNatClampNeg - 10) mpq mfq q31_5.toNatClampNeg v16.toNatClampNeg = 0 := gL_no (by rw [← hby9]; omega)
          exact ih5 (q31_3, q31_5, q31_6, mpq, upd mtq q31_5.toNatClampNeg v16, mfq) ls H locs ⟨(by exact hk29.1), (by exact hk29.1.1), (by exact hk29.1.2.1), (by exact df_stay g1 g4 (by omega) (by assumption) tv16 (by rw [hg9]; omega) (by omega)), lv_sub hl [2, 3, 4, 5, 6, 7] rfl, hP.sub [0, 1, 2, 3, 4] rfl, hD.sub [0, 1, 2, 3, 4] (by decide +kernel) rfl, hS⟩ (by show muT (upd mtq q31_5.toNatClampNeg v16) (q31_5.toInt + 1).toNat < _; have := hk29.2; omega)
        · skip
          have f30 := i_nle c27
          refine lv_iload hx hb dX11_rowsTo_118 (lv_at hl 7 rfl) ?_
          refine lv_iload hx hb dX11_rowsTo_120 (lv_at hl 1 rfl) ?_
          refine lv_ishr hx hb dX11_rowsTo_122 ?_
          refine lv_topi (fun v31 ev31 => ?_)
          refine lv_iconst (v := 1) hx hb dX11_rowsTo_123 (by decide) ?_
          refine lv_iand hx hb dX11_rowsTo_124 ?_
          refine lv_topi (fun v32 ev32 => ?_)
          refine lv_if_ne (tgt := 210) hx hb dX11_rowsTo_125 (by decide) (fun c33 => ?_) (fun c33 => ?_)
          · skip
            have f34 := i_ne c33
            have hont9 : onP mpq q31_5.toNatClampNeg v16.toNatClampNeg = true := by rw [← g4.2.2.1 (by omega) _ (by omega)]; exact Bool.of_not_eq_false (fun h9 => by have z0 := (bt_bit (x := q31_6) (c := v16) (by omega) (by omega)).mpr h9; rw [← ev31, ← ev32] at z0; rw [z0] at f34; exact f34 rfl)
            refine lv_goto (tgt := 31) hx hb dX11_rowsTo_210 (by decide) ?_
            have hk35 := okT_stay g1 (by omega) (by assumption) tv16 (by omega)
            have hg9 : gL (mhF mh) (o.toNatClampNeg - 10) mpq mfq q31_5.toNatClampNeg v16.toNatClampNeg = 0 := gL_on hont9
            exact ih5 (q31_3, q31_5, q31_6, mpq, upd mtq q31_5.toNatClampNeg v16, mfq) ls H locs ⟨(by exact hk35.1), (by exact hk35.1.1), (by exact hk35.1.2.1), (by exact df_stay g1 g4 (by omega) (by assumption) tv16 (by rw [hg9]; omega) (by omega)), lv_sub hl [2, 3, 4, 5, 6, 7] rfl, hP.sub [0, 1, 2, 3, 4] rfl, hD.sub [0, 1, 2, 3, 4] (by decide +kernel) rfl, hS⟩ (by show muT (upd mtq q31_5.toNatClampNeg v16) (q31_5.toInt + 1).toNat < _; have := hk35.2; omega)
          · skip
            have f36 := i_eq c33
            have hz9 : v32 = 0 := i_of (by assumption)
            have hf9 := (bt_bit (x := q31_6) (c := v16) (by omega) (by omega)).mp (by rw [← ev31, ← ev32]; exact hz9)
            have honf9 : onP mpq q31_5.toNatClampNeg v16.toNatClampNeg = false := by rw [← g4.2.2.1 (by omega) _ (by omega)]; exact hf9
            refine lv_aload_n hx hb dX11_rowsTo_128 rfl (lv_at hl 2 rfl) ?_
            refine va_get (D := D) (ci := 11) (v := .ref (md 14)) (C := RX11) (T := TX11) (N := 64) hx hb hts inX11_rowsTo_X11 hown hK hP 0 rfl rfl 14 (by decide) (hts (Cond.fieldLink RX11 44 "PortRoomsModel" "flow" "[J") (wm_t (wm_l (wm_i 1 rfl)))) (fun _ h9 => h9) rfl dX11_rowsTo_129 ?_
            refine lv_iload hx hb dX11_rowsTo_132 (lv_at hl 6 rfl) ?_
            refine va_lald hx hb hK hP 4 2 rfl rfl (i_in (by omega) (by omega)) dX11_rowsTo_134 ?_
            refine lv_topl (fun z37 ez37 => ?_)
            have tlz37 : z37.toInt = (mfq q31_5.toNatClampNeg).toInt := by rw [ez37]
            refine lv_iload hx hb dX11_rowsTo_135 (lv_at hl 0 rfl) ?_
            refine lv_i2l hx hb dX11_rowsTo_137 rfl ?_
            have w38 := i_w v23
            have w39 := i_rng v23
            refine lv_lmul hx hb dX11_rowsTo_138 ?_
            refine lv_topl (fun z40 ez40 => ?_)
            refine lv_ldc2 hx hb hown (hts (Cond.constantLong RX11 176 (100)) (wm_t (wm_l (wm_i 5 rfl)))) dX11_rowsTo_139 ?_
            refine lv_ldiv hx hb dX11_rowsTo_142 (by decide) ?_
            refine lv_topl (fun z41 ez41 => ?_)
            have hx9 : z37.toInt = (mfq q31_5.toNatClampNeg).toInt := by rw [ez37]
            have hv9 := pdivL ez40 ez41 (by omega) (by omega) (by omega) (by omega)
            rw [hx9, hby9] at hv9
            have hd9 := pd_bd (v := (mfq q31_5.toNatClampNeg).toInt) (q := mhF mh (mpq q31_5.toNatClampNeg).toNatClampNeg v16.toNatClampNeg) (by omega) (by omega) (by omega)
            refine lv_lstore (lv' := [(9, .long z41), (8, .int v23), (7, .int v16), (0, .ref (md 64)), (1, .int q), (2, .int o), (3, .long q31_3), (5, .int q31_5), (6, .int q31_6)]) hx hb dX11_rowsTo_143 hl (by decide) rfl (fun ls hl => ?_)
            refine lv_iload hx hb dX11_rowsTo_145 (lv_at hl 2 rfl) ?_
            refine lv_bipush (v := 10) hx hb dX11_rowsTo_147 (by decide) ?_
            refine lv_iadd hx hb dX11_rowsTo_149 ?_
            refine lv_topi (fun v42 ev42 => ?_)
            try have tv42 : v42.toInt = v16.toInt + 10 := by rw [ev42]; exact (i_add (x := v16) (y := (10 : Int32)) (by rw [k10]; omega) (by rw [k10]; omega)).trans (by rw [k10])
            refine lv_iload_n hx hb dX11_rowsTo_150 rfl (lv_at hl 5 rfl) ?_
            refine lv_icmp_ne (tgt := 162) hx hb dX11_rowsTo_151 (by decide) (fun c43 => ?_) (fun c43 => ?_)
            · skip
              have f44 := i_ne c43
              refine lv_lload hx hb dX11_rowsTo_162 (lv_at hl 0 rfl) ?_
              refine lv_lconst (v := 0) hx hb dX11_rowsTo_164 (by decide) ?_
              refine W.lcmp hx hb dX11_rowsTo_165 ?_
              refine lv_topi (fun v45 ev45 => ?_)
              refine lv_if_le (tgt := 210) hx hb dX11_rowsTo_166 (by decide) (fun c46 => ?_) (fun c46 => ?_)
              · skip
                have f47 := lc_le ev45 c46
                refine lv_goto (tgt := 31) hx hb dX11_rowsTo_210 (by decide) ?_
                have hk48 := okT_stay g1 (by omega) (by assumption) tv16 (by omega)
                have hg9 : gL (mhF mh) (o.toNatClampNeg - 10) mpq mfq q31_5.toNatClampNeg v16.toNatClampNeg = 0 := gL_v0 (by rw [← hby9]; omega) honf9 (by omega) (hv9.symm.trans (by omega))
                exact ih5 (q31_3, q31_5, q31_6, mpq, upd mtq q31_5.toNatClampNeg v16, mfq) ls H locs ⟨(by exact hk48.1), (by exact hk48.1.1), (by exact hk48.1.2.1), (by exact df_stay g1 g4 (by omega) (by assumption) tv16 (by rw [hg9]; omega) (by omega)), lv_sub hl [3, 4, 5, 6, 7, 8] rfl, hP.sub [0, 1, 2, 3, 4] rfl, hD.sub [0, 1, 2, 3, 4] (by decide +kernel) rfl, hS⟩ (by show muT (upd mtq q31_5.toNatClampNeg v16) (q31_5.toInt + 1).toNat < _; have := hk48.2; omega)
              · skip
                have f49 := lc_leN ev45 c46
                refine lv_iload hx hb dX11_rowsTo_169 (lv_at hl 8 rfl) ?_
                refine lv_iconst (v := 1) hx hb dX11_rowsTo_171 (by decide) ?_
                refine lv_iload hx hb dX11_rowsTo_172 (lv_at hl 2 rfl) ?_
                refine lv_ishl hx hb dX11_rowsTo_174 ?_
                refine lv_topi (fun v50 ev50 => ?_)
                refine lv_ior hx hb dX11_rowsTo_175 ?_
                refine lv_topi (fun v51 ev51 => ?_)
                refine lv_istore (lv' := [(6, .int v51), (9, .long z41), (8, .int v23), (7, .int v16), (0, .ref (md 64)), (1, .int q), (2, .int o), (3, .long q31_3), (5, .int q31_5)]) hx hb dX11_rowsTo_176 hl (by decide) rfl (fun ls hl => ?_)
                obtain ⟨v52, ev52⟩ : ∃ y : Int32, y = q31_5 + 1 := ⟨_, rfl⟩
                try have tv52 : v52.toInt = q31_5.toInt + 1 := by rw [ev52]; exact (i_add (x := q31_5) (y := (1 : Int32)) (by rw [k1]; omega) (by rw [k1]; omega)).trans (by rw [k1])
                refine lv_iinc (v := v52) (lv' := [(5, .int v52), (6, .int v51), (9, .long z41), (8, .int v23), (7, .int v16), (0, .ref (md 64)), (1, .int q), (2, .int o), (3, .long q31_3)]) hx hb dX11_rowsTo_178 hl (k := 8) rfl (by rw [ev52]; rfl) (by decide) rfl (fun ls hl => ?_)
                refine lv_aload_n hx hb dX11_rowsTo_181 rfl (lv_at hl 5 rfl) ?_
                refine va_get (D := D) (ci := 11) (v := .ref (md 12)) (C := RX11) (T := TX11) (N := 64) hx hb hts inX11_rowsTo_X11 hown hK hP 0 rfl rfl 12 (by decide) (hts (Cond.fieldLink RX11 38 "PortRoomsModel" "path" "[I") (wm_t (wm_l (wm_i 0 rfl)))) (fun _ h9 => h9) rfl dX11_rowsTo_182 ?_
                refine lv_iload hx hb dX11_rowsTo_185 (lv_at hl 0 rfl) ?_
                refine lv_iload hx hb dX11_rowsTo_187 (lv_at hl 4 rfl) ?_
                refine lv_bipush (v := 10) hx hb dX11_rowsTo_189 (by decide) ?_
                refine lv_iadd hx hb dX11_rowsTo_191 ?_
                refine lv_topi (fun v53 ev53 => ?_)
                try have tv53 : v53.toInt = v16.toInt + 10 := by rw [ev53]; exact (i_add (x := v16) (y := (10 : Int32)) (by rw [k10]; omega) (by rw [k10]; omega)).trans (by rw [k10])
                refine va_iast hx hb hK hP hD hS 2 0 rfl rfl (i_in (by omega) (by omega)) dX11_rowsTo_192 (fun H locs => ?_)
                clear hP hD hS
                intro hP hD hS
                replace hP : va_P D vwCl [(moC md sd mth mst hn cn pn mq gn mln mnn ln mlt msz mcu mtk mfr mti mfa mfb an un lc td mtn), (aI cI (md 11) 200 mh), (aI cI (md 12) 12 (upd mpq v52.toNatClampNeg v53)), (aI cI (md 13) 12 (upd mtq q31_5.toNatClampNeg v16)), (aJ cJ (md 14) 12 mfq)] H := hP
                replace hD : va_D A [(moC md sd mth mst hn cn pn mq gn mln mnn ln mlt msz mcu mtk mfr mti mfa mfb an un lc td mtn), (aI cI (md 11) 200 mh), (aI cI (md 12) 12 (upd mpq v52.toNatClampNeg v53)), (aI cI (md 13) 12 (upd mtq q31_5.toNatClampNeg v16)), (aJ cJ (md 14) 12 mfq)] := hD
                refine lv_aload_n hx hb dX11_rowsTo_193 rfl (lv_at hl 5 rfl) ?_
                refine va_get (D := D) (ci := 11) (v := .ref (md 14)) (C := RX11) (T := TX11) (N := 64) hx hb hts inX11_rowsTo_X11 hown hK hP 0 rfl rfl 14 (by decide) (hts (Cond.fieldLink RX11 44 "PortRoomsModel" "flow" "[J") (wm_t (wm_l (wm_i 1 rfl)))) (fun _ h9 => h9) rfl dX11_rowsTo_194 ?_
                refine lv_iload hx hb dX11_rowsTo_197 (lv_at hl 0 rfl) ?_
                refine lv_lload hx hb dX11_rowsTo_199 (lv_at hl 2 rfl) ?_
                refine va_last hx hb hK hP hD hS 4 2 rfl rfl (i_in (by omega) (by omega)) dX11_rowsTo_201 (fun H locs => ?_)
                clear hP hD hS
                intro hP hD hS
                replace hP : va_P D vwCl [(moC md sd mth mst hn cn pn mq gn mln mnn ln mlt msz mcu mtk mfr mti mfa mfb an un lc td mtn), (aI cI (md 11) 200 mh), (aI cI (md 12) 12 (upd mpq v52.toNatClampNeg v53)), (aI cI (md 13) 12 (upd mtq q31_5.toNatClampNeg v16)), (aJ cJ (md 14) 12 (vp_updL mfq v52.toNatClampNeg z41))] H := hP
                replace hD : va_D A [(moC md sd mth mst hn cn pn mq gn mln mnn ln mlt msz mcu mtk mfr mti mfa mfb an un lc td mtn), (aI cI (md 11) 200 mh), (aI cI (md 12) 12 (upd mpq v52.toNatClampNeg v53)), (aI cI (md 13) 12 (upd mtq q31_5.toNatClampNeg v16)), (aJ cJ (md 14) 12 (vp_updL mfq v52.toNatClampNeg z41))] := hD
                refine lv_aload_n hx hb dX11_rowsTo_202 rfl (lv_at hl 5 rfl) ?_
                refine va_get (D := D) (ci := 11) (v := .ref (md 13)) (C := RX11) (T := TX11) (N := 64) hx hb hts inX11_rowsTo_X11 hown hK hP 0 rfl rfl 13 (by decide) (hts (Cond.fieldLink RX11 41 "PortRoomsModel" "tried" "[I") (wm_t (wm_l (wm_i 3 rfl)))) (fun _ h9 => h9) rfl dX11_rowsTo_203 ?_
                refine lv_iload hx hb dX11_rowsTo_206 (lv_at hl 0 rfl) ?_
                refine lv_iconst (v := (-1)) hx hb dX11_rowsTo_208 (by decide) ?_
                refine va_iast hx hb hK hP hD hS 3 0 rfl rfl (i_in (by omega) (by omega)) dX11_rowsTo_209 (fun H locs => ?_)
                clear hP hD hS
                intro hP hD hS
                replace hP : va_P D vwCl [(moC md sd mth mst hn cn pn mq gn mln mnn ln mlt msz mcu mtk mfr mti mfa mfb an un lc td mtn), (aI cI (md 11) 200 mh), (aI cI (md 12) 12 (upd mpq v52.toNatClampNeg v53)), (aI cI (md 13) 12 (upd (upd mtq q31_5.toNatClampNeg v16) v52.toNatClampNeg (-1))), (aJ cJ (md 14) 12 (vp_updL mfq v52.toNatClampNeg z41))] H := hP
                replace hD : va_D A [(moC md sd mth mst hn cn pn mq gn mln mnn ln mlt msz mcu mtk mfr mti mfa mfb an un lc td mtn), (aI cI (md 11) 200 mh), (aI cI (md 12) 12 (upd mpq v52.toNatClampNeg v53)), (aI cI (md 13) 12 (upd (upd mtq q31_5.toNatClampNeg v16) v52.toNatClampNeg (-1))), (aJ cJ (md 14) 12 (vp_updL mfq v52.toNatClampNeg z41))] := hD
                refine lv_goto (tgt := 31) hx hb dX11_rowsTo_210 (by decide) ?_
                have hm9 : ∀ i, i < 10 → bt v51 i = (bt q31_6 i || decide (i = v16.toNatClampNeg)) := fun i hi => by rw [ev51, ev50]; exact bt_set (by omega) (by omega) (by omega)
                have hk54 := okT_push g1 (by omega) (by assumption) tv16 (by omega) (show v52.toInt = q31_5.toInt + 1 by omega) hf9 hm9 (show v53.toInt = v16.toInt + 10 by omega)
                exact ih5 (q31_3, v52, v51, upd mpq v52.toNatClampNeg v53, upd (upd mtq q31_5.toNatClampNeg v16) v52.toNatClampNeg (-1), vp_updL mfq v52.toNatClampNeg z41) ls H locs ⟨(by exact hk54.1), (by exact hk54.1.1), (by exact hk54.1.2.1), (by exact df_push g1 g4 (by omega) (by assumption) tv16 (by omega) (show v52.toInt = q31_5.toInt + 1 by omega) (by have := hk54.1.2.1; omega) hf9 hm9 (show v53.toInt = v16.toInt + 10 by omega) (by rw [← hby9]; omega) (by omega) hv9 (by omega) (by omega)), lv_sub hl [5, 6, 7, 8, 0, 1] rfl, hP.sub [0, 1, 2, 3, 4] rfl, hD.sub [0, 1, 2, 3, 4] (by decide +kernel) rfl, hS⟩ (by show muT (upd (upd mtq q31_5.toNatClampNeg v16) v52.toNatClampNeg (-1)) (v52.toInt + 1).toNat < _; have := hk54.2; omega)
            · skip
              have f55 := i_eq c43
              refine lv_lload_n hx hb dX11_rowsTo_154 rfl (lv_at hl 6 rfl) ?_
              refine lv_lload hx hb dX11_rowsTo_155 (lv_at hl 0 rfl) ?_
              refine lv_ladd hx hb dX11_rowsTo_157 ?_
              refine lv_topl (fun z56 ez56 => ?_)
              have tz56 : z56.toInt = q31_3.toInt + z41.toInt := by rw [ez56]; exact l_add (by omega) (by omega)
              refine lv_lstore_n (lv' := [(3, .long z56), (9, .long z41), (8, .int v23), (7, .int v16), (0, .ref (md 64)), (1, .int q), (2, .int o), (5, .int q31_5), (6, .int q31_6)]) hx hb dX11_rowsTo_158 rfl hl (by decide) rfl (fun ls hl => ?_)
              refine lv_goto (tgt := 210) hx hb dX11_rowsTo_159 (by decide) ?_
              refine lv_goto (tgt := 31) hx hb dX11_rowsTo_210 (by decide) ?_
              have hk57 := okT_stay g1 (by omega) (by assumption) tv16 (by omega)
              have hg9 : gL (mhF mh) (o.toNatClampNeg - 10) mpq mfq q31_5.toNatClampNeg v16.toNatClampNeg = z41.toInt := (gL_t (by rw [← hby9]; omega) honf9 (by omega)).trans hv9.symm
              exact ih5 (z56, q31_5, q31_6, mpq, upd mtq q31_5.toNatClampNeg v16, mfq) ls H locs ⟨(by exact hk57.1), (by exact hk57.1.1), (by exact hk57.1.2.1), (by exact df_stay g1 g4 (by omega) (by assumption) tv16 (by rw [hg9]; omega) (by omega)), lv_sub hl [4, 5, 6, 0, 7, 8] rfl, hP.sub [0, 1, 2, 3, 4] rfl, hD.sub [0, 1, 2, 3, 4] (by decide +kernel) rfl, hS⟩ (by show muT (upd mtq q31_5.toNatClampNeg v16) (q31_5.toInt + 1).toNat < _; have := hk57.2; omega)
      · skip
        have f58 := i_eq c18
        refine lv_iload hx hb dX11_rowsTo_63 (lv_at hl 5 rfl) ?_
        refine lv_if_le (tgt := 87) hx hb dX11_rowsTo_65 (by decide) (fun c59 => ?_) (fun c59 => ?_)
        · skip
          have f60 := i_le c59
          obtain ⟨v61, ev61⟩ : ∃ y : Int32, y = q31_5 + (-1) := ⟨_, rfl⟩
          try have tv61 : v61.toInt = q31_5.toInt + (-1) := by rw [ev61]; exact (i_add (x := q31_5) (y := ((-1) : Int32)) (by rw [km1]; omega) (by rw [km1]; omega)).trans (by rw [km1])
          refine lv_iinc (v := v61) (lv' := [(5, .int v61), (7, .int v16), (0, .ref (md 64)), (1, .int q), (2, .int o), (3, .long q31_3), (6, .int q31_6)]) hx hb dX11_rowsTo_87 hl (k := 5) rfl (by rw [ev61]; rfl) (by decide) rfl (fun ls hl => ?_)
          refine lv_goto (tgt := 210) hx hb dX11_rowsTo_90 (by decide) ?_
          refine lv_goto (tgt := 31) hx hb dX11_rowsTo_210 (by decide) ?_
          have hk62 := okT_pop (met' := q31_6) (c := v16) g1 (by omega) (show v61.toInt = q31_5.toInt - 1 by omega) (fun h9 => by exfalso; omega)
          exact ih5 (q31_3, v61, q31_6, mpq, upd mtq q31_5.toNatClampNeg v16, mfq) ls H locs ⟨(by exact hk62.1), (by exact hk62.1.1), (by exact hk62.1.2.1), (by exact df_pop (t' := v15) (met' := q31_6) (c := v16) g1 g4 (by omega) (by assumption) (by omega) (show v61.toInt = q31_5.toInt - 1 by omega) (fun h9 => by exfalso; omega)), lv_sub hl [2, 3, 4, 5, 0, 6] rfl, hP.sub [0, 1, 2, 3, 4] rfl, hD.sub [0, 1, 2, 3, 4] (by decide +kernel) rfl, hS⟩ (by show muT (upd mtq q31_5.toNatClampNeg v16) (v61.toInt + 1).toNat < _; have := hk62.2; omega)
        · skip
          have f63 := i_nle c59
          refine lv_iload hx hb dX11_rowsTo_68 (lv_at hl 6 rfl) ?_
          refine lv_iconst (v := 1) hx hb dX11_rowsTo_70 (by decide) ?_
          refine lv_aload_n hx hb dX11_rowsTo_71 rfl (lv_at hl 1 rfl) ?_
          refine va_get (D := D) (ci := 11) (v := .ref (md 12)) (C := RX11) (T := TX11) (N := 64) hx hb hts inX11_rowsTo_X11 hown hK hP 0 rfl rfl 12 (by decide) (hts (Cond.fieldLink RX11 38 "PortRoomsModel" "path" "[I") (wm_t (wm_l (wm_i 0 rfl)))) (fun _ h9 => h9) rfl dX11_rowsTo_72 ?_
          refine lv_iload hx hb dX11_rowsTo_75 (lv_at hl 5 rfl) ?_
          refine va_iald hx hb hK hP 2 0 rfl rfl (i_in (by omega) (by omega)) dX11_rowsTo_77 ?_
          refine lv_topi (fun v64 ev64 => ?_)
          have tlv64 : v64.toInt = (mpq q31_5.toNatClampNeg).toInt := by rw [ev64]
          have qv64 := okT_path g1 ev64 (by omega) (by omega)
          refine lv_bipush (v := 10) hx hb dX11_rowsTo_78 (by decide) ?_
          refine lv_isub hx hb dX11_rowsTo_80 ?_
          refine lv_topi (fun v65 ev65 => ?_)
          try have tv65 : v65.toInt = v64.toInt - 10 := by rw [ev65]; exact (i_sub (x := v64) (y := (10 : Int32)) (by rw [k10]; omega) (by rw [k10]; omega)).trans (by rw [k10])
          refine lv_ishl hx hb dX11_rowsTo_81 ?_
          refine lv_topi (fun v66 ev66 => ?_)
          refine lv_iconst (v := (-1)) hx hb dX11_rowsTo_82 (by decide) ?_
          refine lv_ixor hx hb dX11_rowsTo_83 ?_
          refine lv_topi (fun v67 ev67 => ?_)
          refine lv_iand hx hb dX11_rowsTo_84 ?_
          refine lv_topi (fun v68 ev68 => ?_)
          refine lv_istore (lv' := [(6, .int v68), (7, .int v16), (0, .ref (md 64)), (1, .int q), (2, .int o), (3, .long q31_3), (5, .int q31_5)]) hx hb dX11_rowsTo_85 hl (by decide) rfl (fun ls hl => ?_)
          obtain ⟨v69, ev69⟩ : ∃ y : Int32, y = q31_5 + (-1) := ⟨_, rfl⟩
          try have tv69 : v69.toInt = q31_5.toInt + (-1) := by rw [ev69]; exact (i_add (x := q31_5) (y := ((-1) : Int32)) (by rw [km1]; omega) (by rw [km1]; omega)).trans (by rw [km1])
          refine lv_iinc (v := v69) (lv' := [(5, .int v69), (6, .int v68), (7, .int v16), (0, .ref (md 64)), (1, .int q), (2, .int o), (3, .long q31_3)]) hx hb dX11_rowsTo_87 hl (k := 6) rfl (by rw [ev69]; rfl) (by decide) rfl (fun ls hl => ?_)
          refine lv_goto (tgt := 210) hx hb dX11_rowsTo_90 (by decide) ?_
          refine lv_goto (tgt := 31) hx hb dX11_rowsTo_210 (by decide) ?_
          have hm9 : ∀ i, i < 10 → bt v68 i = (bt q31_6 i && !decide (i = ((mpq q31_5.toNatClampNeg).toInt - 10).toNat)) := by
            intro i hi
            have h8 : v65.toNatClampNeg = ((mpq q31_5.toNatClampNeg).toInt - 10).toNat := by rw [← ev64]; have := i_cl (x := v65) (by omega); omega
            rw [ev68, ev67, ev66, bt_clr (by omega) (by omega) (by omega), h8]
          have hk70 := okT_pop (met' := v68) (c := v16) g1 (by omega) (show v69.toInt = q31_5.toInt - 1 by omega) (fun _ => hm9)
          exact ih5 (q31_3, v69, v68, mpq, upd mtq q31_5.toNatClampNeg v16, mfq) ls H locs ⟨(by exact hk70.1), (by exact hk70.1.1), (by exact hk70.1.2.1), (by exact df_pop (t' := v15) (met' := v68) (c := v16) g1 g4 (by omega) (by assumption) (by omega) (show v69.toInt = q31_5.toInt - 1 by omega) (fun _ => hm9)), lv_sub hl [3, 4, 5, 6, 0, 1] rfl, hP.sub [0, 1, 2, 3, 4] rfl, hD.sub [0, 1, 2, 3, 4] (by decide +kernel) rfl, hS⟩ (by show muT (upd mtq q31_5.toNatClampNeg v16) (v69.toInt + 1).toNat < _; have := hk70.2; omega)

set_option maxHeartbeats 4000000 in
set_option maxRecDepth 100000 in
theorem ct_X11_shareOf (l : Launch) (D : va_G) (cI cY cJ cQ : ClassId) (sz : Nat) (md : Nat → Nat) (sd : Int32) (mth mst hn cn pn mq gn mln mnn ln mlt msz mcu mtk mfr mti mfa mfb an un lc td mtn : Int32) (ho hc hp hs mh mp mt : Nat → Int32) (mf : Nat → Int64) (q : Int32) (o : Int32) (d : Int32)  (h1 : 0 ≤ hn.toInt) (h2 : hn.toInt ≤ 40) (h3 : okV hn hp) (h4 : 0 ≤ q.toInt) (h5 : q.toInt < 10) (h6 : 0 ≤ o.toInt) (h7 : o.toInt < 20)  : Met l yX11_shareOf wsX11_shareOf ({ frames := 2, cells := 0, slots := 0, locals := 48 }) (cPre D (ty4 cI cY cJ cQ) [(moC md sd mth mst hn cn pn mq gn mln mnn ln mlt msz mcu mtk mfr mti mfa mfb an un lc td mtn), (aI cI (md 7) 40 ho), (aI cI (md 8) 40 hc), (aI cI (md 9) 40 hp), (aI cI (md 10) 40 hs), (aI cI (md 11) 200 mh), (aI cI (md 12) 12 mp), (aI cI (md 13) 12 mt), (aJ cJ (md 14) 12 mf)] sz [.ref (md 64), .int q, .int o, .int d]) (va_Qi (fun (r : Int32) (u : (Nat → Int32) × (Nat → Int32) × (Nat → Int32) × (Nat → Int64)) => r.toInt = shF (pmF ho hc hp hs d hn.toNatClampNeg) q.toNatClampNeg o.toNatClampNeg) (cB D (ty4 cI cY cJ cQ) (fun (u : (Nat → Int32) × (Nat → Int32) × (Nat → Int32) × (Nat → Int64)) => [(moC md sd mth mst hn cn pn mq gn mln mnn ln mlt msz mcu mtk mfr mti mfa mfb an un lc td mtn), (aI cI (md 7) 40 ho), (aI cI (md 8) 40 hc), (aI cI (md 9) 40 hp), (aI cI (md 10) 40 hs), (aI cI (md 11) 200 u.1), (aI cI (md 12) 12 u.2.1), (aI cI (md 13) 12 u.2.2.1), (aJ cJ (md 14) 12 u.2.2.2)]) (va_A [(moC md sd mth mst hn cn pn mq gn mln mnn ln mlt msz mcu mtk mfr mti mfa mfb an un lc td mtn), (aI cI (md 7) 40 ho), (aI cI (md 8) 40 hc), (aI cI (md 9) 40 hp), (aI cI (md 10) 40 hs), (aI cI (md 11) 200 mh), (aI cI (md 12) 12 mp), (aI cI (md 13) 12 mt), (aJ cJ (md 14) 12 mf)] sz)) (va_A [(moC md sd mth mst hn cn pn mq gn mln mnn ln mlt msz mcu mtk mfr mti mfa mfb an un lc td mtn), (aI cI (md 7) 40 ho), (aI cI (md 8) 40 hc), (aI cI (md 9) 40 hp), (aI cI (md 10) 40 hs), (aI cI (md 11) 200 mh), (aI cI (md 12) 12 mp), (aI cI (md 13) 12 mt), (aJ cJ (md 14) 12 mf)] sz)) 0 0 (va_A [(moC md sd mth mst hn cn pn mq gn mln mnn ln mlt msz mcu mtk mfr mti mfa mfb an un lc td mtn), (aI cI (md 7) 40 ho), (aI cI (md 8) 40 hc), (aI cI (md 9) 40 hp), (aI cI (md 10) 40 hs), (aI cI (md 11) 200 mh), (aI cI (md 12) 12 mp), (aI cI (md 13) 12 mt), (aJ cJ (md 14) 12 mf)] sz) := by
  refine Met.ofW (cc := cX11_shareOf) (maxL := 4) (ret := (some .int)) (by decide) rfl ?_
  intro p e s m args below meth c s₁ B hml hv
  obtain ⟨rfl, hsz, hP, hK, hD0, hN⟩ := hv
  have hx := B.exec
  have hb := B.bytes
  have hr := B.returns
  have hts := atoms_spec (ws := wsX11_shareOf) B.pre
  have hown : s.vm.findClass RX11 = some m.cls := findClass_of_methodNamed B.named
  have hlocks := B.notSynchronized
  subst hsz
  have hD := hD0.self (sz := s.heap.size)
  generalize hAe : va_A [(moC md sd mth mst hn cn pn mq gn mln mnn ln mlt msz mcu mtk mfr mti mfa mfb an un lc td mtn), (aI cI (md 7) 40 ho), (aI cI (md 8) 40 hc), (aI cI (md 9) 40 hp), (aI cI (md 10) 40 hs), (aI cI (md 11) 200 mh), (aI cI (md 12) 12 mp), (aI cI (md 13) 12 mt), (aJ cJ (md 14) 12 mf)] s.heap.size = A at hD ⊢
  have hA : ∀ q : Nat, s.heap.size ≤ q → A q := fun q h => by rw [← hAe]; exact Or.inr h
  have hS : va_S A s.heap s.heap [] := va_S.rf
  have hP : va_P D vwCl [(moC md sd mth mst hn cn pn mq gn mln mnn ln mlt msz mcu mtk mfr mti mfa mfb an un lc td mtn), (aI cI (md 7) 40 ho), (aI cI (md 8) 40 hc), (aI cI (md 9) 40 hp), (aI cI (md 10) 40 hs), (aI cI (md 11) 200 mh), (aI cI (md 12) 12 mp), (aI cI (md 13) 12 mt), (aJ cJ (md 14) 12 mf)] s.heap := hP
  have hl := lv_entry ([.ref (md 64), .int q, .int o, .int d]) (n := 4) (Nat.le_of_ble_eq_true rfl)
  rw [lg_entry_eq]
  generalize (lg_sl ([.ref (md 64), .int q, .int o, .int d]) ++ List.replicate (4 - (lg_sl ([.ref (md 64), .int q, .int o, .int d])).length) Slot.unset).toArray = ls at hl ⊢
  have hl : lv_has ls 4 [(0, .ref (md 64)), (1, .int q), (2, .int o), (3, .int d)] := hl
  have k10 : (10 : Int32).toInt = 10 := by decide
  refine lv_iload_n hx hb dX11_shareOf_0 rfl (lv_at hl 2 rfl) ?_
  refine lv_bipush (v := 10) hx hb dX11_shareOf_1 (by decide) ?_
  refine lv_icmp_ge (tgt := 18) hx hb dX11_shareOf_3 (by decide) (fun c1 => ?_) (fun c1 => ?_)
  · skip
    have f2 := i_le c1
    refine lv_aload_n hx hb dX11_shareOf_18 rfl (lv_at hl 0 rfl) ?_
    refine lv_iload_n hx hb dX11_shareOf_19 rfl (lv_at hl 3 rfl) ?_
    refine st_v (wr := [(aI cI (md 12) 12 mp), (aI cI (md 13) 12 mt), (aJ cJ (md 14) 12 mf)]) (va_runV (C := RX11) (As := [.int d]) (rest := []) ⟨hx, hb, hml, hown, hts⟩ (ct_X11_findHas l D cI cY cJ cQ _ md sd mth mst hn cn pn mq gn mln mnn ln mlt msz mcu mtk mfr mti mfa mfb an un lc td mtn ho hc hp hs mh d h1 h2 h3) (cwV 1 hts gX11_shareOf_X11_findHas rfl rfl rfl ⟨rfl, cdX11_findHas⟩ ⟨Nat.le_of_ble_eq_true rfl, Nat.le_of_ble_eq_true rfl⟩) (cPreV (hP.sub [0, 1, 2, 3, 4, 5] rfl) hK (hD.sub [0, 1, 2, 3, 4, 5] (by decide +kernel) rfl) hN (ci := 11) (q0 := 0) rfl rfl) rfl rfl hl.1 rfl (lv_room (Nat.le_of_ble_eq_true rfl)) dX11_shareOf_20 ⟨Nat.le_of_ble_eq_true rfl, Nat.le_of_ble_eq_true rfl⟩) hP hD hS hA [0, 1, 2, 3, 4, 5] [6, 7, 8] rfl rfl (by decide +kernel) (by decide +kernel) (fun u3 H locs hw4 => ?_)
    clear hP hD hS
    intro hP hD hS
    replace hw4 : fhQ ho hc hp hs d hn.toNatClampNeg u3 20 0 ∧ okE u3 := hw4
    replace hP : va_P D vwCl [(aI cI (md 12) 12 mp), (aI cI (md 13) 12 mt), (aJ cJ (md 14) 12 mf), (moC md sd mth mst hn cn pn mq gn mln mnn ln mlt msz mcu mtk mfr mti mfa mfb an un lc td mtn), (aI cI (md 7) 40 ho), (aI cI (md 8) 40 hc), (aI cI (md 9) 40 hp), (aI cI (md 10) 40 hs), (aI cI (md 11) 200 u3)] H := hP
    replace hD : va_D A [(aI cI (md 12) 12 mp), (aI cI (md 13) 12 mt), (aJ cJ (md 14) 12 mf), (moC md sd mth mst hn cn pn mq gn mln mnn ln mlt msz mcu mtk mfr mti mfa mfb an un lc td mtn), (aI cI (md 7) 40 ho), (aI cI (md 8) 40 hc), (aI cI (md 9) 40 hp), (aI cI (md 10) 40 hs), (aI cI (md 11) 200 u3)] := hD
    obtain ⟨hw4, hw4E⟩ := hw4
    refine lv_aload_n hx hb dX11_shareOf_23 rfl (lv_at hl 0 rfl) ?_
    refine lv_iload_n hx hb dX11_shareOf_24 rfl (lv_at hl 1 rfl) ?_
    refine lv_iload_n hx hb dX11_shareOf_25 rfl (lv_at hl 2 rfl) ?_
    refine st_l (wr := [(aI cI (md 7) 40 ho), (aI cI (md 8) 40 hc), (aI cI (md 9) 40 hp), (aI cI (md 10) 40 hs)]) (va_runV (C := RX11) (As := [.int q, .int o]) (rest := []) ⟨hx, hb, hml, hown, hts⟩ (ct_X11_rowsTo l D cI cY cJ cQ _ md sd mth mst hn cn pn mq gn mln mnn ln mlt msz mcu mtk mfr mti mfa mfb an un lc td mtn u3 mp mt mf q o h4 (by omega) (by omega) h7 (by assumption)) (cwV 2 hts gX11_shareOf_X11_rowsTo rfl rfl rfl ⟨rfl, cdX11_rowsTo⟩ ⟨Nat.le_of_ble_eq_true rfl, Nat.le_of_ble_eq_true rfl⟩) (cPreV (hP.sub [3, 8, 0, 1, 2] rfl) hK (hD.sub [3, 8, 0, 1, 2] (by decide +kernel) rfl) hN (ci := 11) (q0 := 0) rfl rfl) rfl rfl hl.1 rfl (lv_room (Nat.le_of_ble_eq_true rfl)) dX11_shareOf_26 ⟨Nat.le_of_ble_eq_true rfl, Nat.le_of_ble_eq_true rfl⟩) hP hD hS hA [3, 8, 0, 1, 2] [4, 5, 6, 7] rfl rfl (by decide +kernel) (by decide +kernel) (fun r8 u6 H locs hw7 => ?_)
    clear hP hD hS
    intro hP hD hS
    obtain ⟨mp_9, mt_10, mf_11⟩ := u6
    replace hw7 : r8.toInt = (if 2000000000 < alG (mhF u3) (o.toNatClampNeg - 10) 11 q.toNatClampNeg 1000000 (fun _ => true) then 2000000000 else alG (mhF u3) (o.toNatClampNeg - 10) 11 q.toNatClampNeg 1000000 (fun _ => true)) := hw7
    replace hP : va_P D vwCl [(aI cI (md 7) 40 ho), (aI cI (md 8) 40 hc), (aI cI (md 9) 40 hp), (aI cI (md 10) 40 hs), (moC md sd mth mst hn cn pn mq gn mln mnn ln mlt msz mcu mtk mfr mti mfa mfb an un lc td mtn), (aI cI (md 11) 200 u3), (aI cI (md 12) 12 mp_9), (aI cI (md 13) 12 mt_10), (aJ cJ (md 14) 12 mf_11)] H := hP
    replace hD : va_D A [(aI cI (md 7) 40 ho), (aI cI (md 8) 40 hc), (aI cI (md 9) 40 hp), (aI cI (md 10) 40 hs), (moC md sd mth mst hn cn pn mq gn mln mnn ln mlt msz mcu mtk mfr mti mfa mfb an un lc td mtn), (aI cI (md 11) 200 u3), (aI cI (md 12) 12 mp_9), (aI cI (md 13) 12 mt_10), (aJ cJ (md 14) 12 mf_11)] := hD
    refine lv_l2i hx hb dX11_shareOf_29 rfl ?_
    refine lv_topi (fun v12 ev12 => ?_)
    have clc13 := i_cl (x := q) (by omega)
    have clc14 := i_cl (x := o) (by omega)
    have hs9 : r8.toInt = shF (pmF ho hc hp hs d hn.toNatClampNeg) q.toNatClampNeg o.toNatClampNeg := by rw [← shF_c (mhF_pm hw4) (by omega) o.toNatClampNeg]; unfold shF; rw [if_neg (by omega)]; exact hw7
    have hn9 := shF_bd (pmF_bd (ho := ho) (hc := hc) (hs := hs) (d := d) h3 (by omega) (by omega)) (q := q.toNatClampNeg) (by omega) o.toNatClampNeg
    have hP9 := hP.sub (ws' := [(moC md sd mth mst hn cn pn mq gn mln mnn ln mlt msz mcu mtk mfr mti mfa mfb an un lc td mtn), (aI cI (md 7) 40 ho), (aI cI (md 8) 40 hc), (aI cI (md 9) 40 hp), (aI cI (md 10) 40 hs), (aI cI (md 11) 200 u3), (aI cI (md 12) 12 mp_9), (aI cI (md 13) 12 mt_10), (aJ cJ (md 14) 12 mf_11)]) [4, 0, 1, 2, 3, 5, 6, 7, 8] rfl
    have hD9 := hD.sub (ws' := [(moC md sd mth mst hn cn pn mq gn mln mnn ln mlt msz mcu mtk mfr mti mfa mfb an un lc td mtn), (aI cI (md 7) 40 ho), (aI cI (md 8) 40 hc), (aI cI (md 9) 40 hp), (aI cI (md 10) 40 hs), (aI cI (md 11) 200 u3), (aI cI (md 12) 12 mp_9), (aI cI (md 13) 12 mt_10), (aJ cJ (md 14) 12 mf_11)]) [4, 0, 1, 2, 3, 5, 6, 7, 8] (by decide +kernel) rfl
    exact W.iret (v := v12) hx hb hr (fun t ht hW => ⟨⟨v12, (u3, mp_9, mt_10, mf_11), rfl, (by show v12.toInt = shF (pmF ho hc hp hs d hn.toNatClampNeg) q.toNatClampNeg o.toNatClampNeg; rw [ev12, Int64.toInt_toInt32, hs9]; exact i_bmod (by omega) (by omega)), by rw [ht]; exact hP9, va_K.moved hW.alike hK, hD9⟩, hS.F ht⟩) hS.2.2 dX11_shareOf_30
  · skip
    have f15 := i_nle c1
    refine lv_iload_n hx hb dX11_shareOf_6 rfl (lv_at hl 2 rfl) ?_
    refine lv_iload_n hx hb dX11_shareOf_7 rfl (lv_at hl 1 rfl) ?_
    refine lv_icmp_ne (tgt := 16) hx hb dX11_shareOf_8 (by decide) (fun c16 => ?_) (fun c16 => ?_)
    · skip
      have f17 := i_ne c16
      refine lv_iconst (v := 0) hx hb dX11_shareOf_16 (by decide) ?_
      have clc18 := i_cl (x := q) (by omega)
      have clc19 := i_cl (x := o) (by omega)
      have hP9 := hP
      have hD9 := hD
      exact W.iret (v := 0) hx hb hr (fun t ht hW => ⟨⟨0, (mh, mp, mt, mf), rfl, (by show (0 : Int32).toInt = shF (pmF ho hc hp hs d hn.toNatClampNeg) q.toNatClampNeg o.toNatClampNeg; unfold shF; rw [if_pos (by omega), if_neg (by omega)]; decide), by rw [ht]; exact hP9, va_K.moved hW.alike hK, hD9⟩, hS.F ht⟩) hS.2.2 dX11_shareOf_17
    · skip
      have f20 := i_eq c16
      refine lv_ldc hx hb hown (hts (Cond.constant RX11 199 (1000000)) (wm_t (wm_l (wm_i 0 rfl)))) dX11_shareOf_11 ?_
      refine lv_goto (tgt := 17) hx hb dX11_shareOf_13 (by decide) ?_
      have clc21 := i_cl (x := q) (by omega)
      have clc22 := i_cl (x := o) (by omega)
      have hP9 := hP
      have hD9 := hD
      exact W.iret (v := 1000000) hx hb hr (fun t ht hW => ⟨⟨1000000, (mh, mp, mt, mf), rfl, (by show (1000000 : Int32).toInt = shF (pmF ho hc hp hs d hn.toNatClampNeg) q.toNatClampNeg o.toNatClampNeg; unfold shF; rw [if_pos (by omega), if_pos (by omega)]; decide), by rw [ht]; exact hP9, va_K.moved hW.alike hK, hD9⟩, hS.F ht⟩) hS.2.2 dX11_shareOf_17

set_option maxHeartbeats 4000000 in
set_option maxRecDepth 100000 in
theorem ct_X11_share (l : Launch) (D : va_G) (cI cY cJ cQ : ClassId) (sz : Nat) (md : Nat → Nat) (sd : Int32) (mth mst hn cn pn mq gn mln mnn ln mlt msz mcu mtk mfr mti mfa mfb an un lc td mtn : Int32) (ho hc hp hs mh mp mt : Nat → Int32) (mf : Nat → Int64) (q : Int32) (o : Int32) (d : Int32)  (h1 : 0 ≤ hn.toInt) (h2 : hn.toInt ≤ 40) (h3 : okV hn hp)  : Met l yX11_share wsX11_share ({ frames := 3, cells := 0, slots := 0, locals := 71 }) (cPre D (ty4 cI cY cJ cQ) [(moC md sd mth mst hn cn pn mq gn mln mnn ln mlt msz mcu mtk mfr mti mfa mfb an un lc td mtn), (aI cI (md 7) 40 ho), (aI cI (md 8) 40 hc), (aI cI (md 9) 40 hp), (aI cI (md 10) 40 hs), (aI cI (md 11) 200 mh), (aI cI (md 12) 12 mp), (aI cI (md 13) 12 mt), (aJ cJ (md 14) 12 mf)] sz [.ref (md 64), .int q, .int o, .int d]) (va_Qi (fun (r : Int32) (u : (Nat → Int32) × (Nat → Int32) × (Nat → Int32) × (Nat → Int64)) => r.toInt = sm_share hn ho hc hp hs q o d) (cB D (ty4 cI cY cJ cQ) (fun (u : (Nat → Int32) × (Nat → Int32) × (Nat → Int32) × (Nat → Int64)) => [(moC md sd 0 mst hn cn pn mq gn mln mnn ln mlt msz mcu mtk mfr mti mfa mfb an un lc td mtn), (aI cI (md 7) 40 ho), (aI cI (md 8) 40 hc), (aI cI (md 9) 40 hp), (aI cI (md 10) 40 hs), (aI cI (md 11) 200 u.1), (aI cI (md 12) 12 u.2.1), (aI cI (md 13) 12 u.2.2.1), (aJ cJ (md 14) 12 u.2.2.2)]) (va_A [(moC md sd mth mst hn cn pn mq gn mln mnn ln mlt msz mcu mtk mfr mti mfa mfb an un lc td mtn), (aI cI (md 7) 40 ho), (aI cI (md 8) 40 hc), (aI cI (md 9) 40 hp), (aI cI (md 10) 40 hs), (aI cI (md 11) 200 mh), (aI cI (md 12) 12 mp), (aI cI (md 13) 12 mt), (aJ cJ (md 14) 12 mf)] sz)) (va_A [(moC md sd mth mst hn cn pn mq gn mln mnn ln mlt msz mcu mtk mfr mti mfa mfb an un lc td mtn), (aI cI (md 7) 40 ho), (aI cI (md 8) 40 hc), (aI cI (md 9) 40 hp), (aI cI (md 10) 40 hs), (aI cI (md 11) 200 mh), (aI cI (md 12) 12 mp), (aI cI (md 13) 12 mt), (aJ cJ (md 14) 12 mf)] sz)) 0 0 (va_A [(moC md sd mth mst hn cn pn mq gn mln mnn ln mlt msz mcu mtk mfr mti mfa mfb an un lc td mtn), (aI cI (md 7) 40 ho), (aI cI (md 8) 40 hc), (aI cI (md 9) 40 hp), (aI cI (md 10) 40 hs), (aI cI (md 11) 200 mh), (aI cI (md 12) 12 mp), (aI cI (md 13) 12 mt), (aJ cJ (md 14) 12 mf)] sz) := by
  refine Met.ofW (cc := cX11_share) (maxL := 4) (ret := (some .int)) (by decide) rfl ?_
  intro p e s m args below meth c s₁ B hml hv
  obtain ⟨rfl, hsz, hP, hK, hD0, hN⟩ := hv
  have hx := B.exec
  have hb := B.bytes
  have hr := B.returns
  have hts := atoms_spec (ws := wsX11_share) B.pre
  have hown : s.vm.findClass RX11 = some m.cls := findClass_of_methodNamed B.named
  have hlocks := B.notSynchronized
  subst hsz
  have hD := hD0.self (sz := s.heap.size)
  generalize hAe : va_A [(moC md sd mth mst hn cn pn mq gn mln mnn ln mlt msz mcu mtk mfr mti mfa mfb an un lc td mtn), (aI cI (md 7) 40 ho), (aI cI (md 8) 40 hc), (aI cI (md 9) 40 hp), (aI cI (md 10) 40 hs), (aI cI (md 11) 200 mh), (aI cI (md 12) 12 mp), (aI cI (md 13) 12 mt), (aJ cJ (md 14) 12 mf)] s.heap.size = A at hD ⊢
  have hA : ∀ q : Nat, s.heap.size ≤ q → A q := fun q h => by rw [← hAe]; exact Or.inr h
  have hS : va_S A s.heap s.heap [] := va_S.rf
  have hP : va_P D vwCl [(moC md sd mth mst hn cn pn mq gn mln mnn ln mlt msz mcu mtk mfr mti mfa mfb an un lc td mtn), (aI cI (md 7) 40 ho), (aI cI (md 8) 40 hc), (aI cI (md 9) 40 hp), (aI cI (md 10) 40 hs), (aI cI (md 11) 200 mh), (aI cI (md 12) 12 mp), (aI cI (md 13) 12 mt), (aJ cJ (md 14) 12 mf)] s.heap := hP
  have hl := lv_entry ([.ref (md 64), .int q, .int o, .int d]) (n := 4) (Nat.le_of_ble_eq_true rfl)
  rw [lg_entry_eq]
  generalize (lg_sl ([.ref (md 64), .int q, .int o, .int d]) ++ List.replicate (4 - (lg_sl ([.ref (md 64), .int q, .int o, .int d])).length) Slot.unset).toArray = ls at hl ⊢
  have hl : lv_has ls 4 [(0, .ref (md 64)), (1, .int q), (2, .int o), (3, .int d)] := hl
  have km1000001 : (-1000001 : Int32).toInt = -1000001 := by decide
  have k0 : (0 : Int32).toInt = 0 := by decide
  refine lv_aload_n hx hb dX11_share_0 rfl (lv_at hl 0 rfl) ?_
  refine lv_iconst (v := 0) hx hb dX11_share_1 (by decide) ?_
  refine va_put (D := D) (ci := 11) (v := .int 0) (ty := .int) (C := RX11) (T := TX11) (N := 64) hx hb hts inX11_share_X11 tyX11 tyX11_ok nmX11 hown hK hP hD hS 0 rfl rfl 0 (by decide) (hts (Cond.fieldLink RX11 1 "PortRoomsModel" "thrown" "I") (wm_t (wm_l (wm_i 0 rfl)))) (fun _ h9 => h9) rfl (tyX11_ok 0 (by decide)) rfl rfl (Nat.le_of_ble_eq_true rfl) dX11_share_2 (fun H locs => ?_)
  clear hP hD hS
  intro hP hD hS
  replace hP : va_P D vwCl [(moC md sd (0) mst hn cn pn mq gn mln mnn ln mlt msz mcu mtk mfr mti mfa mfb an un lc td mtn), (aI cI (md 7) 40 ho), (aI cI (md 8) 40 hc), (aI cI (md 9) 40 hp), (aI cI (md 10) 40 hs), (aI cI (md 11) 200 mh), (aI cI (md 12) 12 mp), (aI cI (md 13) 12 mt), (aJ cJ (md 14) 12 mf)] H := hP
  replace hD : va_D A [(moC md sd (0) mst hn cn pn mq gn mln mnn ln mlt msz mcu mtk mfr mti mfa mfb an un lc td mtn), (aI cI (md 7) 40 ho), (aI cI (md 8) 40 hc), (aI cI (md 9) 40 hp), (aI cI (md 10) 40 hs), (aI cI (md 11) 200 mh), (aI cI (md 12) 12 mp), (aI cI (md 13) 12 mt), (aJ cJ (md 14) 12 mf)] := hD
  refine lv_iload_n hx hb dX11_share_5 rfl (lv_at hl 1 rfl) ?_
  refine st_i1 (va_runS (As := [.int q]) (rest := []) ⟨hx, hb, hml, hown, hts⟩ (ct_X11_isPerson l D cI cY cJ cQ _ q) (va_cwS 1 hts gX11_share_X11_isPerson rfl rfl rfl cdX11_isPerson ⟨Nat.le_of_ble_eq_true rfl, Nat.le_of_ble_eq_true rfl⟩) (cPreS (hP.sub [] rfl) hK (hD.sub [] (by decide +kernel) rfl) hN) rfl rfl hl.1 rfl (lv_room (Nat.le_of_ble_eq_true rfl)) dX11_share_6 ⟨Nat.le_of_ble_eq_true rfl, Nat.le_of_ble_eq_true rfl⟩) hP hD hS hA [] rfl (fun _ => rfl) (fun r3 u1 H locs hw2 => ?_)
  clear hP hS
  intro hP hS
  replace hw2 : r3 = if 0 ≤ q.toInt ∧ q.toInt ≤ 9 then 1 else 0 := hw2
  refine lv_if_eq (tgt := 26) hx hb dX11_share_9 (by decide) (fun c4 => ?_) (fun c4 => ?_)
  · skip
    have f5 := bo_f hw2 c4
    refine lv_ldc hx hb hown (hts (Cond.constant RX11 157 (-1000001)) (wm_t (wm_l (wm_i 1 rfl)))) dX11_share_26 ?_
    refine lv_goto (tgt := 38) hx hb dX11_share_28 (by decide) ?_
    have hP9 := hP
    have hD9 := hD
    exact W.iret (v := (-1000001)) hx hb hr (fun t ht hW => ⟨⟨(-1000001), (mh, mp, mt, mf), rfl, (by show ((-1000001) : Int32).toInt = sm_share hn ho hc hp hs q o d; unfold sm_share; rw [if_neg (by omega)]; omega), by rw [ht]; exact hP9, va_K.moved hW.alike hK, hD9⟩, hS.F ht⟩) hS.2.2 dX11_share_38
  · skip
    have f6 := bo_t hw2 c4
    refine lv_iload_n hx hb dX11_share_12 rfl (lv_at hl 2 rfl) ?_
    refine st_i1 (va_runS (As := [.int o]) (rest := []) ⟨hx, hb, hml, hown, hts⟩ (ct_X11_isOwner l D cI cY cJ cQ _ o) (va_cwS 1 hts gX11_share_X11_isOwner rfl rfl rfl cdX11_isOwner ⟨Nat.le_of_ble_eq_true rfl, Nat.le_of_ble_eq_true rfl⟩) (cPreS (hP.sub [] rfl) hK (hD.sub [] (by decide +kernel) rfl) hN) rfl rfl hl.1 rfl (lv_room (Nat.le_of_ble_eq_true rfl)) dX11_share_13 ⟨Nat.le_of_ble_eq_true rfl, Nat.le_of_ble_eq_true rfl⟩) hP hD hS hA [] rfl (fun _ => rfl) (fun r9 u7 H locs hw8 => ?_)
    clear hP hS
    intro hP hS
    replace hw8 : r9 = if 0 ≤ o.toInt ∧ o.toInt ≤ 19 then 1 else 0 := hw8
    refine lv_if_eq (tgt := 26) hx hb dX11_share_16 (by decide) (fun c10 => ?_) (fun c10 => ?_)
    · skip
      have f11 := bo_f hw8 c10
      refine lv_ldc hx hb hown (hts (Cond.constant RX11 157 (-1000001)) (wm_t (wm_l (wm_i 1 rfl)))) dX11_share_26 ?_
      refine lv_goto (tgt := 38) hx hb dX11_share_28 (by decide) ?_
      have hP9 := hP
      have hD9 := hD
      exact W.iret (v := (-1000001)) hx hb hr (fun t ht hW => ⟨⟨(-1000001), (mh, mp, mt, mf), rfl, (by show ((-1000001) : Int32).toInt = sm_share hn ho hc hp hs q o d; unfold sm_share; rw [if_neg (by omega)]; omega), by rw [ht]; exact hP9, va_K.moved hW.alike hK, hD9⟩, hS.F ht⟩) hS.2.2 dX11_share_38
    · skip
      have f12 := bo_t hw8 c10
      refine lv_iload_n hx hb dX11_share_19 rfl (lv_at hl 3 rfl) ?_
      refine st_i1 (va_runS (As := [.int d]) (rest := []) ⟨hx, hb, hml, hown, hts⟩ (ct_X11_isDay l D cI cY cJ cQ _ d) (va_cwS 1 hts gX11_share_X11_isDay rfl rfl rfl cdX11_isDay ⟨Nat.le_of_ble_eq_true rfl, Nat.le_of_ble_eq_true rfl⟩) (cPreS (hP.sub [] rfl) hK (hD.sub [] (by decide +kernel) rfl) hN) rfl rfl hl.1 rfl (lv_room (Nat.le_of_ble_eq_true rfl)) dX11_share_20 ⟨Nat.le_of_ble_eq_true rfl, Nat.le_of_ble_eq_true rfl⟩) hP hD hS hA [] rfl (fun _ => rfl) (fun r15 u13 H locs hw14 => ?_)
      clear hP hS
      intro hP hS
      replace hw14 : r15 = if 0 ≤ d.toInt ∧ d.toInt ≤ 9999 then 1 else 0 := hw14
      refine lv_if_ne (tgt := 31) hx hb dX11_share_23 (by decide) (fun c16 => ?_) (fun c16 => ?_)
      · skip
        have f17 := bo_t hw14 c16
        refine lv_aload_n hx hb dX11_share_31 rfl (lv_at hl 0 rfl) ?_
        refine lv_iload_n hx hb dX11_share_32 rfl (lv_at hl 1 rfl) ?_
        refine lv_iload_n hx hb dX11_share_33 rfl (lv_at hl 2 rfl) ?_
        refine lv_iload_n hx hb dX11_share_34 rfl (lv_at hl 3 rfl) ?_
        refine st_i (wr := []) (va_runV (C := RX11) (As := [.int q, .int o, .int d]) (rest := []) ⟨hx, hb, hml, hown, hts⟩ (ct_X11_shareOf l D cI cY cJ cQ _ md sd 0 mst hn cn pn mq gn mln mnn ln mlt msz mcu mtk mfr mti mfa mfb an un lc td mtn ho hc hp hs mh mp mt mf q o d h1 h2 h3 (by omega) (by omega) (by omega) (by omega)) (cwV 3 hts gX11_share_X11_shareOf rfl rfl rfl ⟨rfl, cdX11_shareOf⟩ ⟨Nat.le_of_ble_eq_true rfl, Nat.le_of_ble_eq_true rfl⟩) (cPreV (hP.sub [0, 1, 2, 3, 4, 5, 6, 7, 8] rfl) hK (hD.sub [0, 1, 2, 3, 4, 5, 6, 7, 8] (by decide +kernel) rfl) hN (ci := 11) (q0 := 0) rfl rfl) rfl rfl hl.1 rfl (lv_room (Nat.le_of_ble_eq_true rfl)) dX11_share_35 ⟨Nat.le_of_ble_eq_true rfl, Nat.le_of_ble_eq_true rfl⟩) hP hD hS hA [0, 1, 2, 3, 4, 5, 6, 7, 8] [] rfl rfl (by decide +kernel) (by decide +kernel) (fun r20 u18 H locs hw19 => ?_)
        clear hP hD hS
        intro hP hD hS
        obtain ⟨mh_21, mp_22, mt_23, mf_24⟩ := u18
        replace hw19 : r20.toInt = shF (pmF ho hc hp hs d hn.toNatClampNeg) q.toNatClampNeg o.toNatClampNeg := hw19
        replace hP : va_P D vwCl [(moC md sd (0) mst hn cn pn mq gn mln mnn ln mlt msz mcu mtk mfr mti mfa mfb an un lc td mtn), (aI cI (md 7) 40 ho), (aI cI (md 8) 40 hc), (aI cI (md 9) 40 hp), (aI cI (md 10) 40 hs), (aI cI (md 11) 200 mh_21), (aI cI (md 12) 12 mp_22), (aI cI (md 13) 12 mt_23), (aJ cJ (md 14) 12 mf_24)] H := hP
        replace hD : va_D A [(moC md sd (0) mst hn cn pn mq gn mln mnn ln mlt msz mcu mtk mfr mti mfa mfb an un lc td mtn), (aI cI (md 7) 40 ho), (aI cI (md 8) 40 hc), (aI cI (md 9) 40 hp), (aI cI (md 10) 40 hs), (aI cI (md 11) 200 mh_21), (aI cI (md 12) 12 mp_22), (aI cI (md 13) 12 mt_23), (aJ cJ (md 14) 12 mf_24)] := hD
        have hP9 := hP
        have hD9 := hD
        exact W.iret (v := r20) hx hb hr (fun t ht hW => ⟨⟨r20, (mh_21, mp_22, mt_23, mf_24), rfl, (by show r20.toInt = sm_share hn ho hc hp hs q o d; unfold sm_share; rw [if_pos (by omega)]; exact hw19), by rw [ht]; exact hP9, va_K.moved hW.alike hK, hD9⟩, hS.F ht⟩) hS.2.2 dX11_share_38
      · skip
        have f25 := bo_f hw14 c16
        refine lv_ldc hx hb hown (hts (Cond.constant RX11 157 (-1000001)) (wm_t (wm_l (wm_i 1 rfl)))) dX11_share_26 ?_
        refine lv_goto (tgt := 38) hx hb dX11_share_28 (by decide) ?_
        have hP9 := hP
        have hD9 := hD
        exact W.iret (v := (-1000001)) hx hb hr (fun t ht hW => ⟨⟨(-1000001), (mh, mp, mt, mf), rfl, (by show ((-1000001) : Int32).toInt = sm_share hn ho hc hp hs q o d; unfold sm_share; rw [if_neg (by omega)]; omega), by rw [ht]; exact hP9, va_K.moved hW.alike hK, hD9⟩, hS.F ht⟩) hS.2.2 dX11_share_38

set_option maxHeartbeats 4000000 in
set_option maxRecDepth 100000 in
theorem ct_X11_truly (l : Launch) (D : va_G) (cI cY cJ cQ : ClassId) (sz : Nat) (md : Nat → Nat) (sd : Int32) (mth mst hn cn pn mq gn mln mnn ln mlt msz mcu mtk mfr mti mfa mfb an un lc td mtn : Int32) (ho hc hp hs mh mp mt : Nat → Int32) (mf : Nat → Int64) (o : Int32) (d : Int32)  (h1 : 0 ≤ hn.toInt) (h2 : hn.toInt ≤ 40) (h3 : okV hn hp)  : Met l yX11_truly wsX11_truly ({ frames := 3, cells := 0, slots := 0, locals := 71 }) (cPre D (ty4 cI cY cJ cQ) [(moC md sd mth mst hn cn pn mq gn mln mnn ln mlt msz mcu mtk mfr mti mfa mfb an un lc td mtn), (aI cI (md 7) 40 ho), (aI cI (md 8) 40 hc), (aI cI (md 9) 40 hp), (aI cI (md 10) 40 hs), (aI cI (md 11) 200 mh), (aI cI (md 12) 12 mp), (aI cI (md 13) 12 mt), (aJ cJ (md 14) 12 mf)] sz [.ref (md 64), .int o, .int d]) (va_Qi (fun (r : Int32) (u : (Nat → Int32) × (Nat → Int32) × (Nat → Int32) × (Nat → Int64)) => r.toInt = sm_truly hn ho hc hp hs o d) (cB D (ty4 cI cY cJ cQ) (fun (u : (Nat → Int32) × (Nat → Int32) × (Nat → Int32) × (Nat → Int64)) => [(moC md sd 0 mst hn cn pn mq gn mln mnn ln mlt msz mcu mtk mfr mti mfa mfb an un lc td mtn), (aI cI (md 7) 40 ho), (aI cI (md 8) 40 hc), (aI cI (md 9) 40 hp), (aI cI (md 10) 40 hs), (aI cI (md 11) 200 u.1), (aI cI (md 12) 12 u.2.1), (aI cI (md 13) 12 u.2.2.1), (aJ cJ (md 14) 12 u.2.2.2)]) (va_A [(moC md sd mth mst hn cn pn mq gn mln mnn ln mlt msz mcu mtk mfr mti mfa mfb an un lc td mtn), (aI cI (md 7) 40 ho), (aI cI (md 8) 40 hc), (aI cI (md 9) 40 hp), (aI cI (md 10) 40 hs), (aI cI (md 11) 200 mh), (aI cI (md 12) 12 mp), (aI cI (md 13) 12 mt), (aJ cJ (md 14) 12 mf)] sz)) (va_A [(moC md sd mth mst hn cn pn mq gn mln mnn ln mlt msz mcu mtk mfr mti mfa mfb an un lc td mtn), (aI cI (md 7) 40 ho), (aI cI (md 8) 40 hc), (aI cI (md 9) 40 hp), (aI cI (md 10) 40 hs), (aI cI (md 11) 200 mh), (aI cI (md 12) 12 mp), (aI cI (md 13) 12 mt), (aJ cJ (md 14) 12 mf)] sz)) 0 0 (va_A [(moC md sd mth mst hn cn pn mq gn mln mnn ln mlt msz mcu mtk mfr mti mfa mfb an un lc td mtn), (aI cI (md 7) 40 ho), (aI cI (md 8) 40 hc), (aI cI (md 9) 40 hp), (aI cI (md 10) 40 hs), (aI cI (md 11) 200 mh), (aI cI (md 12) 12 mp), (aI cI (md 13) 12 mt), (aJ cJ (md 14) 12 mf)] sz) := by
  refine Met.ofW (cc := cX11_truly) (maxL := 7) (ret := (some .int)) (by decide) rfl ?_
  intro p e s m args below meth c s₁ B hml hv
  obtain ⟨rfl, hsz, hP, hK, hD0, hN⟩ := hv
  have hx := B.exec
  have hb := B.bytes
  have hr := B.returns
  have hts := atoms_spec (ws := wsX11_truly) B.pre
  have hown : s.vm.findClass RX11 = some m.cls := findClass_of_methodNamed B.named
  have hlocks := B.notSynchronized
  subst hsz
  have hD := hD0.self (sz := s.heap.size)
  generalize hAe : va_A [(moC md sd mth mst hn cn pn mq gn mln mnn ln mlt msz mcu mtk mfr mti mfa mfb an un lc td mtn), (aI cI (md 7) 40 ho), (aI cI (md 8) 40 hc), (aI cI (md 9) 40 hp), (aI cI (md 10) 40 hs), (aI cI (md 11) 200 mh), (aI cI (md 12) 12 mp), (aI cI (md 13) 12 mt), (aJ cJ (md 14) 12 mf)] s.heap.size = A at hD ⊢
  have hA : ∀ q : Nat, s.heap.size ≤ q → A q := fun q h => by rw [← hAe]; exact Or.inr h
  have hS : va_S A s.heap s.heap [] := va_S.rf
  have hP : va_P D vwCl [(moC md sd mth mst hn cn pn mq gn mln mnn ln mlt msz mcu mtk mfr mti mfa mfb an un lc td mtn), (aI cI (md 7) 40 ho), (aI cI (md 8) 40 hc), (aI cI (md 9) 40 hp), (aI cI (md 10) 40 hs), (aI cI (md 11) 200 mh), (aI cI (md 12) 12 mp), (aI cI (md 13) 12 mt), (aJ cJ (md 14) 12 mf)] s.heap := hP
  have hl := lv_entry ([.ref (md 64), .int o, .int d]) (n := 7) (Nat.le_of_ble_eq_true rfl)
  rw [lg_entry_eq]
  generalize (lg_sl ([.ref (md 64), .int o, .int d]) ++ List.replicate (7 - (lg_sl ([.ref (md 64), .int o, .int d])).length) Slot.unset).toArray = ls at hl ⊢
  have hl : lv_has ls 7 [(0, .ref (md 64)), (1, .int o), (2, .int d)] := hl
  have km1000001 : (-1000001 : Int32).toInt = -1000001 := by decide
  have km1000000 : (-1000000 : Int32).toInt = -1000000 := by decide
  have k0 : (0 : Int32).toInt = 0 := by decide
  have k1 : (1 : Int32).toInt = 1 := by decide
  have k10 : (10 : Int32).toInt = 10 := by decide
  refine lv_aload_n hx hb dX11_truly_0 rfl (lv_at hl 0 rfl) ?_
  refine lv_iconst (v := 0) hx hb dX11_truly_1 (by decide) ?_
  refine va_put (D := D) (ci := 11) (v := .int 0) (ty := .int) (C := RX11) (T := TX11) (N := 64) hx hb hts inX11_truly_X11 tyX11 tyX11_ok nmX11 hown hK hP hD hS 0 rfl rfl 0 (by decide) (hts (Cond.fieldLink RX11 1 "PortRoomsModel" "thrown" "I") (wm_t (wm_l (wm_i 0 rfl)))) (fun _ h9 => h9) rfl (tyX11_ok 0 (by decide)) rfl rfl (Nat.le_of_ble_eq_true rfl) dX11_truly_2 (fun H locs => ?_)
  clear hP hD hS
  intro hP hD hS
  replace hP : va_P D vwCl [(moC md sd (0) mst hn cn pn mq gn mln mnn ln mlt msz mcu mtk mfr mti mfa mfb an un lc td mtn), (aI cI (md 7) 40 ho), (aI cI (md 8) 40 hc), (aI cI (md 9) 40 hp), (aI cI (md 10) 40 hs), (aI cI (md 11) 200 mh), (aI cI (md 12) 12 mp), (aI cI (md 13) 12 mt), (aJ cJ (md 14) 12 mf)] H := hP
  replace hD : va_D A [(moC md sd (0) mst hn cn pn mq gn mln mnn ln mlt msz mcu mtk mfr mti mfa mfb an un lc td mtn), (aI cI (md 7) 40 ho), (aI cI (md 8) 40 hc), (aI cI (md 9) 40 hp), (aI cI (md 10) 40 hs), (aI cI (md 11) 200 mh), (aI cI (md 12) 12 mp), (aI cI (md 13) 12 mt), (aJ cJ (md 14) 12 mf)] := hD
  refine lv_iload_n hx hb dX11_truly_5 rfl (lv_at hl 1 rfl) ?_
  refine st_i1 (va_runS (As := [.int o]) (rest := []) ⟨hx, hb, hml, hown, hts⟩ (ct_X11_isOwner l D cI cY cJ cQ _ o) (va_cwS 1 hts gX11_truly_X11_isOwner rfl rfl rfl cdX11_isOwner ⟨Nat.le_of_ble_eq_true rfl, Nat.le_of_ble_eq_true rfl⟩) (cPreS (hP.sub [] rfl) hK (hD.sub [] (by decide +kernel) rfl) hN) rfl rfl hl.1 rfl (lv_room (Nat.le_of_ble_eq_true rfl)) dX11_truly_6 ⟨Nat.le_of_ble_eq_true rfl, Nat.le_of_ble_eq_true rfl⟩) hP hD hS hA [] rfl (fun _ => rfl) (fun r3 u1 H locs hw2 => ?_)
  clear hP hS
  intro hP hS
  replace hw2 : r3 = if 0 ≤ o.toInt ∧ o.toInt ≤ 19 then 1 else 0 := hw2
  refine lv_if_eq (tgt := 19) hx hb dX11_truly_9 (by decide) (fun c4 => ?_) (fun c4 => ?_)
  · skip
    have f5 := bo_f hw2 c4
    refine lv_ldc hx hb hown (hts (Cond.constant RX11 157 (-1000001)) (wm_t (wm_l (wm_i 1 rfl)))) dX11_truly_19 ?_
    have hP9 := hP
    have hD9 := hD
    exact W.iret (v := (-1000001)) hx hb hr (fun t ht hW => ⟨⟨(-1000001), (mh, mp, mt, mf), rfl, (by show ((-1000001) : Int32).toInt = sm_truly hn ho hc hp hs o d; unfold sm_truly; rw [if_neg (by omega)]; omega), by rw [ht]; exact hP9, va_K.moved hW.alike hK, hD9⟩, hS.F ht⟩) hS.2.2 dX11_truly_21
  · skip
    have f6 := bo_t hw2 c4
    refine lv_iload_n hx hb dX11_truly_12 rfl (lv_at hl 2 rfl) ?_
    refine st_i1 (va_runS (As := [.int d]) (rest := []) ⟨hx, hb, hml, hown, hts⟩ (ct_X11_isDay l D cI cY cJ cQ _ d) (va_cwS 1 hts gX11_truly_X11_isDay rfl rfl rfl cdX11_isDay ⟨Nat.le_of_ble_eq_true rfl, Nat.le_of_ble_eq_true rfl⟩) (cPreS (hP.sub [] rfl) hK (hD.sub [] (by decide +kernel) rfl) hN) rfl rfl hl.1 rfl (lv_room (Nat.le_of_ble_eq_true rfl)) dX11_truly_13 ⟨Nat.le_of_ble_eq_true rfl, Nat.le_of_ble_eq_true rfl⟩) hP hD hS hA [] rfl (fun _ => rfl) (fun r9 u7 H locs hw8 => ?_)
    clear hP hS
    intro hP hS
    replace hw8 : r9 = if 0 ≤ d.toInt ∧ d.toInt ≤ 9999 then 1 else 0 := hw8
    refine lv_if_ne (tgt := 22) hx hb dX11_truly_16 (by decide) (fun c10 => ?_) (fun c10 => ?_)
    · skip
      have f11 := bo_t hw8 c10
      refine lv_ldc hx hb hown (hts (Cond.constant RX11 139 (-1000000)) (wm_t (wm_l (wm_i 2 rfl)))) dX11_truly_22 ?_
      refine lv_istore_n (lv' := [(3, .int (-1000000)), (0, .ref (md 64)), (1, .int o), (2, .int d)]) hx hb dX11_truly_24 rfl hl (by decide) rfl (fun ls hl => ?_)
      refine lv_iconst (v := 0) hx hb dX11_truly_25 (by decide) ?_
      refine lv_istore (lv' := [(4, .int 0), (3, .int (-1000000)), (0, .ref (md 64)), (1, .int o), (2, .int d)]) hx hb dX11_truly_26 hl (by decide) rfl (fun ls hl => ?_)
      refine lv_iconst (v := 0) hx hb dX11_truly_28 (by decide) ?_
      refine lv_istore (lv' := [(5, .int 0), (4, .int 0), (3, .int (-1000000)), (0, .ref (md 64)), (1, .int o), (2, .int d)]) hx hb dX11_truly_29 hl (by decide) rfl (fun ls hl => ?_)
      refine st_loop 31 (fun _ => []) (fun (z : Int32 × Int32 × Int32 × (Nat → Int32) × (Nat → Int32) × (Nat → Int32) × (Nat → Int64)) (ls : Array Slot) (H : Heap) (locs : List Loc) => match z with | (q31_3, q31_4, q31_5, mhq, mpq, mtq, mfq) => (0 ≤ q31_5.toInt) ∧ (q31_5.toInt ≤ 10) ∧ ((q31_3.toInt, q31_4.toInt) = trV (pmF ho hc hp hs d hn.toNatClampNeg) o.toNatClampNeg q31_5.toNatClampNeg) ∧ lv_has ls 7 [(0, .ref (md 64)), (1, .int o), (2, .int d), (3, .int q31_3), (4, .int q31_4), (5, .int q31_5)] ∧ va_P D vwCl [(moC md sd (0) mst hn cn pn mq gn mln mnn ln mlt msz mcu mtk mfr mti mfa mfb an un lc td mtn), (aI cI (md 7) 40 ho), (aI cI (md 8) 40 hc), (aI cI (md 9) 40 hp), (aI cI (md 10) 40 hs), (aI cI (md 11) 200 mhq), (aI cI (md 12) 12 mpq), (aI cI (md 13) 12 mtq), (aJ cJ (md 14) 12 mfq)] H ∧ va_D A [(moC md sd (0) mst hn cn pn mq gn mln mnn ln mlt msz mcu mtk mfr mti mfa mfb an un lc td mtn), (aI cI (md 7) 40 ho), (aI cI (md 8) 40 hc), (aI cI (md 9) 40 hp), (aI cI (md 10) 40 hs), (aI cI (md 11) 200 mhq), (aI cI (md 12) 12 mpq), (aI cI (md 13) 12 mtq), (aJ cJ (md 14) 12 mfq)] ∧ va_S A s.heap H locs) (fun (z : Int32 × Int32 × Int32 × (Nat → Int32) × (Nat → Int32) × (Nat → Int32) × (Nat → Int64)) => match z with | (q31_3, q31_4, q31_5, mhq, mpq, mtq, mfq) => 10 - q31_5.toInt) ?_ ?_ (((-1000000) : Int32), (0 : Int32), (0 : Int32), mh, mp, mt, mf) ⟨(by omega), (by omega), (by rfl), lv_sub hl [3, 4, 5, 2, 1, 0] rfl, hP, hD, hS⟩
      · rintro ⟨q31_3, q31_4, q31_5, mhq, mpq, mtq, mfq⟩ ls H locs ⟨g12, g13, g14, hl, hP, hD, hS⟩
        show (0 : Int) ≤ 10 - q31_5.toInt
        omega
      · rintro n17 ih15 ⟨q31_3, q31_4, q31_5, mhq, mpq, mtq, mfq⟩ ls H locs ⟨g12, g13, g14, hl, hP, hD, hS⟩ hm16
        have hm16 : 10 - q31_5.toInt < (n17 : Int) + 1 := hm16
        replace hl : lv_has ls 7 [(0, .ref (md 64)), (1, .int o), (2, .int d), (3, .int q31_3), (4, .int q31_4), (5, .int q31_5)] := hl
        replace hP : va_P D vwCl [(moC md sd (0) mst hn cn pn mq gn mln mnn ln mlt msz mcu mtk mfr mti mfa mfb an un lc td mtn), (aI cI (md 7) 40 ho), (aI cI (md 8) 40 hc), (aI cI (md 9) 40 hp), (aI cI (md 10) 40 hs), (aI cI (md 11) 200 mhq), (aI cI (md 12) 12 mpq), (aI cI (md 13) 12 mtq), (aJ cJ (md 14) 12 mfq)] H := hP
        replace hD : va_D A [(moC md sd (0) mst hn cn pn mq gn mln mnn ln mlt msz mcu mtk mfr mti mfa mfb an un lc td mtn), (aI cI (md 7) 40 ho), (aI cI (md 8) 40 hc), (aI cI (md 9) 40 hp), (aI cI (md 10) 40 hs), (aI cI (md 11) 200 mhq), (aI cI (md 12) 12 mpq), (aI cI (md 13) 12 mtq), (aJ cJ (md 14) 12 mfq)] := hD
        show W _ _ _ _ _ _ _ _ _ _ _ _ _ _ _ (F0 m 31 ls [])
        refine lv_iload hx hb dX11_truly_31 (lv_at hl 5 rfl) ?_
        refine lv_bipush (v := 10) hx hb dX11_truly_33 (by decide) ?_
        refine lv_icmp_ge (tgt := 68) hx hb dX11_truly_35 (by decide) (fun c18 => ?_) (fun c18 => ?_)
        · skip
          have f19 := i_le c18
          refine lv_iload_n hx hb dX11_truly_68 rfl (lv_at hl 3 rfl) ?_
          have ce9 := i_cl (x := q31_5) (by omega)
          have hz9 := g14
          rw [show q31_5.toNatClampNeg = 10 by omega] at hz9
          have hP9 := hP
          have hD9 := hD
          exact W.iret (v := q31_3) hx hb hr (fun t ht hW => ⟨⟨q31_3, (mhq, mpq, mtq, mfq), rfl, (by show q31_3.toInt = sm_truly hn ho hc hp hs o d; unfold sm_truly; rw [if_pos (by omega), ← hz9]), by rw [ht]; exact hP9, va_K.moved hW.alike hK, hD9⟩, hS.F ht⟩) hS.2.2 dX11_truly_69
        · skip
          have f20 := i_nle c18
          refine lv_aload_n hx hb dX11_truly_38 rfl (lv_at hl 0 rfl) ?_
          refine lv_iload hx hb dX11_truly_39 (lv_at hl 5 rfl) ?_
          refine lv_iload_n hx hb dX11_truly_41 rfl (lv_at hl 1 rfl) ?_
          refine lv_iload_n hx hb dX11_truly_42 rfl (lv_at hl 2 rfl) ?_
          refine st_i (wr := []) (va_runV (C := RX11) (As := [.int q31_5, .int o, .int d]) (rest := []) ⟨hx, hb, hml, hown, hts⟩ (ct_X11_shareOf l D cI cY cJ cQ _ md sd 0 mst hn cn pn mq gn mln mnn ln mlt msz mcu mtk mfr mti mfa mfb an un lc td mtn ho hc hp hs mhq mpq mtq mfq q31_5 o d h1 h2 h3 (by omega) (by omega) (by omega) (by omega)) (cwV 3 hts gX11_truly_X11_shareOf rfl rfl rfl ⟨rfl, cdX11_shareOf⟩ ⟨Nat.le_of_ble_eq_true rfl, Nat.le_of_ble_eq_true rfl⟩) (cPreV (hP.sub [0, 1, 2, 3, 4, 5, 6, 7, 8] rfl) hK (hD.sub [0, 1, 2, 3, 4, 5, 6, 7, 8] (by decide +kernel) rfl) hN (ci := 11) (q0 := 0) rfl rfl) rfl rfl hl.1 rfl (lv_room (Nat.le_of_ble_eq_true rfl)) dX11_truly_43 ⟨Nat.le_of_ble_eq_true rfl, Nat.le_of_ble_eq_true rfl⟩) hP hD hS hA [0, 1, 2, 3, 4, 5, 6, 7, 8] [] rfl rfl (by decide +kernel) (by decide +kernel) (fun r23 u21 H locs hw22 => ?_)
          clear hP hD hS
          intro hP hD hS
          obtain ⟨mh_24, mp_25, mt_26, mf_27⟩ := u21
          replace hw22 : r23.toInt = shF (pmF ho hc hp hs d hn.toNatClampNeg) q31_5.toNatClampNeg o.toNatClampNeg := hw22
          replace hP : va_P D vwCl [(moC md sd (0) mst hn cn pn mq gn mln mnn ln mlt msz mcu mtk mfr mti mfa mfb an un lc td mtn), (aI cI (md 7) 40 ho), (aI cI (md 8) 40 hc), (aI cI (md 9) 40 hp), (aI cI (md 10) 40 hs), (aI cI (md 11) 200 mh_24), (aI cI (md 12) 12 mp_25), (aI cI (md 13) 12 mt_26), (aJ cJ (md 14) 12 mf_27)] H := hP
          replace hD : va_D A [(moC md sd (0) mst hn cn pn mq gn mln mnn ln mlt msz mcu mtk mfr mti mfa mfb an un lc td mtn), (aI cI (md 7) 40 ho), (aI cI (md 8) 40 hc), (aI cI (md 9) 40 hp), (aI cI (md 10) 40 hs), (aI cI (md 11) 200 mh_24), (aI cI (md 12) 12 mp_25), (aI cI (md 13) 12 mt_26), (aJ cJ (md 14) 12 mf_27)] := hD
          refine lv_istore (lv' := [(6, .int r23), (0, .ref (md 64)), (1, .int o), (2, .int d), (3, .int q31_3), (4, .int q31_4), (5, .int q31_5)]) hx hb dX11_truly_46 hl (by decide) rfl (fun ls hl => ?_)
          refine lv_iload hx hb dX11_truly_48 (lv_at hl 0 rfl) ?_
          refine lv_iload hx hb dX11_truly_50 (lv_at hl 5 rfl) ?_
          refine lv_icmp_le (tgt := 62) hx hb dX11_truly_52 (by decide) (fun c28 => ?_) (fun c28 => ?_)
          · skip
            have f29 := i_le c28
            obtain ⟨v30, ev30⟩ : ∃ y : Int32, y = q31_5 + 1 := ⟨_, rfl⟩
            try have tv30 : v30.toInt = q31_5.toInt + 1 := by rw [ev30]; exact (i_add (x := q31_5) (y := (1 : Int32)) (by rw [k1]; omega) (by rw [k1]; omega)).trans (by rw [k1])
            refine lv_iinc (v := v30) (lv' := [(5, .int v30), (6, .int r23), (0, .ref (md 64)), (1, .int o), (2, .int d), (3, .int q31_3), (4, .int q31_4)]) hx hb dX11_truly_62 hl (k := 6) rfl (by rw [ev30]; rfl) (by decide) rfl (fun ls hl => ?_)
            refine lv_goto (tgt := 31) hx hb dX11_truly_65 (by decide) ?_
            have clc31 := i_cl (x := q31_5) (by omega)
            have clc32 := i_cl (x := v30) (by omega)
            have hg2 := congrArg Prod.snd g14
            dsimp only at hg2
            exact ih15 (q31_3, q31_4, v30, mh_24, mp_25, mt_26, mf_27) ls H locs ⟨(by omega), (by omega), (by rw [show v30.toNatClampNeg = q31_5.toNatClampNeg + 1 by omega, trV_s, if_neg (by omega)]; exact g14), lv_sub hl [2, 3, 4, 5, 6, 0] rfl, hP.sub [0, 1, 2, 3, 4, 5, 6, 7, 8] rfl, hD.sub [0, 1, 2, 3, 4, 5, 6, 7, 8] (by decide +kernel) rfl, hS⟩ (by show 10 - v30.toInt < _; omega)
          · skip
            have f33 := i_nle c28
            refine lv_iload hx hb dX11_truly_55 (lv_at hl 0 rfl) ?_
            refine lv_istore (lv' := [(4, .int r23), (6, .int r23), (0, .ref (md 64)), (1, .int o), (2, .int d), (3, .int q31_3), (5, .int q31_5)]) hx hb dX11_truly_57 hl (by decide) rfl (fun ls hl => ?_)
            refine lv_iload hx hb dX11_truly_59 (lv_at hl 6 rfl) ?_
            refine lv_istore_n (lv' := [(3, .int q31_5), (4, .int r23), (6, .int r23), (0, .ref (md 64)), (1, .int o), (2, .int d), (5, .int q31_5)]) hx hb dX11_truly_61 rfl hl (by decide) rfl (fun ls hl => ?_)
            obtain ⟨v34, ev34⟩ : ∃ y : Int32, y = q31_5 + 1 := ⟨_, rfl⟩
            try have tv34 : v34.toInt = q31_5.toInt + 1 := by rw [ev34]; exact (i_add (x := q31_5) (y := (1 : Int32)) (by rw [k1]; omega) (by rw [k1]; omega)).trans (by rw [k1])
            refine lv_iinc (v := v34) (lv' := [(5, .int v34), (3, .int q31_5), (4, .int r23), (6, .int r23), (0, .ref (md 64)), (1, .int o), (2, .int d)]) hx hb dX11_truly_62 hl (k := 6) rfl (by rw [ev34]; rfl) (by decide) rfl (fun ls hl => ?_)
            refine lv_goto (tgt := 31) hx hb dX11_truly_65 (by decide) ?_
            have clc35 := i_cl (x := q31_5) (by omega)
            have clc36 := i_cl (x := v34) (by omega)
            have hg2 := congrArg Prod.snd g14
            dsimp only at hg2
            exact ih15 (q31_5, r23, v34, mh_24, mp_25, mt_26, mf_27) ls H locs ⟨(by omega), (by omega), (by rw [show v34.toNatClampNeg = q31_5.toNatClampNeg + 1 by omega, trV_s, if_pos (by omega), ← hw22]; congr 1; omega), lv_sub hl [4, 5, 6, 1, 2, 0] rfl, hP.sub [0, 1, 2, 3, 4, 5, 6, 7, 8] rfl, hD.sub [0, 1, 2, 3, 4, 5, 6, 7, 8] (by decide +kernel) rfl, hS⟩ (by show 10 - v34.toInt < _; omega)
    · skip
      have f37 := bo_f hw8 c10
      refine lv_ldc hx hb hown (hts (Cond.constant RX11 157 (-1000001)) (wm_t (wm_l (wm_i 1 rfl)))) dX11_truly_19 ?_
      have hP9 := hP
      have hD9 := hD
      exact W.iret (v := (-1000001)) hx hb hr (fun t ht hW => ⟨⟨(-1000001), (mh, mp, mt, mf), rfl, (by show ((-1000001) : Int32).toInt = sm_truly hn ho hc hp hs o d; unfold sm_truly; rw [if_neg (by omega)]; omega), by rw [ht]; exact hP9, va_K.moved hW.alike hK, hD9⟩, hS.F ht⟩) hS.2.2 dX11_truly_21
end
