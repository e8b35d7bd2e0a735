theorem cdX11_percentOf : yX11_percentOf.cls ≠ "java/lang/invoke/MethodHandle" ∧ yX11_percentOf.cls ≠ "java/lang/invoke/VarHandle" ∧ (parseMethodDescriptor yX11_percentOf.desc).map (fun d => d.parameters.length) = some 3 := by decide +kernel
theorem Gd_X11_percentOf : gdA wsX11_percentOf := gd_cons (by decide +kernel) (gd_app (gd_all (ws := wsX11_percentOf_o1) (by decide +kernel)) Gd_X110)
theorem inX11_percentOf_X11 : ∀ w ∈ u_ws RX11 TX11 64, w ∈ wsX11_percentOf := fun _ h => (List.mem_cons_of_mem _ (List.mem_append_right _ h))
theorem inX11_percent_X11 : ∀ w ∈ u_ws RX11 TX11 64, w ∈ wsX11_percent := fun _ h => (List.mem_cons_of_mem _ (List.mem_append_right _ (List.mem_append_left _ (List.mem_append_left _ (List.mem_append_left _ h)))))
theorem inX11_findHas_X11 : ∀ w ∈ u_ws RX11 TX11 64, w ∈ wsX11_findHas := fun _ h => (List.mem_cons_of_mem _ (List.mem_append_right _ (List.mem_append_left _ h)))
theorem dX11_percentOf_all0 : decode cX11_percentOf 0 = .ok (.ldc 139, 2) ∧ decode cX11_percentOf 2 = .ok (.istore 4, 2) ∧ decode cX11_percentOf 4 = .ok (.iconst 0, 1) ∧ decode cX11_percentOf 5 = .ok (.istore 5, 2) ∧ decode cX11_percentOf 7 = .ok (.iload 5, 2) ∧ decode cX11_percentOf 9 = .ok (.aload_n 0, 1) ∧ decode cX11_percentOf 10 = .ok (.getfield 181, 3) ∧ decode cX11_percentOf 13 = .ok (.if_icmp .ge 75, 3) ∧ decode cX11_percentOf 16 = .ok (.aload_n 0, 1) ∧ decode cX11_percentOf 17 = .ok (.getfield 23, 3) ∧ decode cX11_percentOf 20 = .ok (.iload 5, 2) ∧ decode cX11_percentOf 22 = .ok (.iaload, 1) := by decide +kernel
theorem dX11_percentOf_0 : decode cX11_percentOf 0 = .ok (.ldc 139, 2) := dX11_percentOf_all0.1
theorem dX11_percentOf_2 : decode cX11_percentOf 2 = .ok (.istore 4, 2) := dX11_percentOf_all0.2.1
theorem dX11_percentOf_4 : decode cX11_percentOf 4 = .ok (.iconst 0, 1) := dX11_percentOf_all0.2.2.1
theorem dX11_percentOf_5 : decode cX11_percentOf 5 = .ok (.istore 5, 2) := dX11_percentOf_all0.2.2.2.1
theorem dX11_percentOf_7 : decode cX11_percentOf 7 = .ok (.iload 5, 2) := dX11_percentOf_all0.2.2.2.2.1
theorem dX11_percentOf_9 : decode cX11_percentOf 9 = .ok (.aload_n 0, 1) := dX11_percentOf_all0.2.2.2.2.2.1
theorem dX11_percentOf_10 : decode cX11_percentOf 10 = .ok (.getfield 181, 3) := dX11_percentOf_all0.2.2.2.2.2.2.1
theorem dX11_percentOf_13 : decode cX11_percentOf 13 = .ok (.if_icmp .ge 75, 3) := dX11_percentOf_all0.2.2.2.2.2.2.2.1
theorem dX11_percentOf_16 : decode cX11_percentOf 16 = .ok (.aload_n 0, 1) := dX11_percentOf_all0.2.2.2.2.2.2.2.2.1
theorem dX11_percentOf_17 : decode cX11_percentOf 17 = .ok (.getfield 23, 3) := dX11_percentOf_all0.2.2.2.2.2.2.2.2.2.1
theorem dX11_percentOf_20 : decode cX11_percentOf 20 = .ok (.iload 5, 2) := dX11_percentOf_all0.2.2.2.2.2.2.2.2.2.2.1
theorem dX11_percentOf_22 : decode cX11_percentOf 22 = .ok (.iaload, 1) := dX11_percentOf_all0.2.2.2.2.2.2.2.2.2.2.2
theorem dX11_percentOf_all1 : decode cX11_percentOf 23 = .ok (.iload_n 1, 1) ∧ decode cX11_percentOf 24 = .ok (.if_icmp .ne 58, 3) ∧ decode cX11_percentOf 27 = .ok (.aload_n 0, 1) ∧ decode cX11_percentOf 28 = .ok (.getfield 26, 3) ∧ decode cX11_percentOf 31 = .ok (.iload 5, 2) ∧ decode cX11_percentOf 33 = .ok (.iaload, 1) ∧ decode cX11_percentOf 34 = .ok (.iload_n 2, 1) ∧ decode cX11_percentOf 35 = .ok (.if_icmp .ne 47, 3) ∧ decode cX11_percentOf 38 = .ok (.aload_n 0, 1) ∧ decode cX11_percentOf 39 = .ok (.getfield 32, 3) ∧ decode cX11_percentOf 42 = .ok (.iload 5, 2) ∧ decode cX11_percentOf 44 = .ok (.iaload, 1) := by decide +kernel
theorem dX11_percentOf_23 : decode cX11_percentOf 23 = .ok (.iload_n 1, 1) := dX11_percentOf_all1.1
theorem dX11_percentOf_24 : decode cX11_percentOf 24 = .ok (.if_icmp .ne 58, 3) := dX11_percentOf_all1.2.1
theorem dX11_percentOf_27 : decode cX11_percentOf 27 = .ok (.aload_n 0, 1) := dX11_percentOf_all1.2.2.1
theorem dX11_percentOf_28 : decode cX11_percentOf 28 = .ok (.getfield 26, 3) := dX11_percentOf_all1.2.2.2.1
theorem dX11_percentOf_31 : decode cX11_percentOf 31 = .ok (.iload 5, 2) := dX11_percentOf_all1.2.2.2.2.1
theorem dX11_percentOf_33 : decode cX11_percentOf 33 = .ok (.iaload, 1) := dX11_percentOf_all1.2.2.2.2.2.1
theorem dX11_percentOf_34 : decode cX11_percentOf 34 = .ok (.iload_n 2, 1) := dX11_percentOf_all1.2.2.2.2.2.2.1
theorem dX11_percentOf_35 : decode cX11_percentOf 35 = .ok (.if_icmp .ne 47, 3) := dX11_percentOf_all1.2.2.2.2.2.2.2.1
theorem dX11_percentOf_38 : decode cX11_percentOf 38 = .ok (.aload_n 0, 1) := dX11_percentOf_all1.2.2.2.2.2.2.2.2.1
theorem dX11_percentOf_39 : decode cX11_percentOf 39 = .ok (.getfield 32, 3) := dX11_percentOf_all1.2.2.2.2.2.2.2.2.2.1
theorem dX11_percentOf_42 : decode cX11_percentOf 42 = .ok (.iload 5, 2) := dX11_percentOf_all1.2.2.2.2.2.2.2.2.2.2.1
theorem dX11_percentOf_44 : decode cX11_percentOf 44 = .ok (.iaload, 1) := dX11_percentOf_all1.2.2.2.2.2.2.2.2.2.2.2
theorem dX11_percentOf_all2 : decode cX11_percentOf 45 = .ok (.iload_n 3, 1) ∧ decode cX11_percentOf 46 = .ok (.if_icmp .gt 36, 3) ∧ decode cX11_percentOf 49 = .ok (.iload 4, 2) ∧ decode cX11_percentOf 51 = .ok (.ldc 139, 2) ∧ decode cX11_percentOf 53 = .ok (.if_icmp .eq 20, 3) ∧ decode cX11_percentOf 56 = .ok (.aload_n 0, 1) ∧ decode cX11_percentOf 57 = .ok (.getfield 32, 3) ∧ decode cX11_percentOf 60 = .ok (.iload 5, 2) ∧ decode cX11_percentOf 62 = .ok (.iaload, 1) ∧ decode cX11_percentOf 63 = .ok (.aload_n 0, 1) ∧ decode cX11_percentOf 64 = .ok (.getfield 32, 3) ∧ decode cX11_percentOf 67 = .ok (.iload 4, 2) := by decide +kernel
theorem dX11_percentOf_45 : decode cX11_percentOf 45 = .ok (.iload_n 3, 1) := dX11_percentOf_all2.1
theorem dX11_percentOf_46 : decode cX11_percentOf 46 = .ok (.if_icmp .gt 36, 3) := dX11_percentOf_all2.2.1
theorem dX11_percentOf_49 : decode cX11_percentOf 49 = .ok (.iload 4, 2) := dX11_percentOf_all2.2.2.1
theorem dX11_percentOf_51 : decode cX11_percentOf 51 = .ok (.ldc 139, 2) := dX11_percentOf_all2.2.2.2.1
theorem dX11_percentOf_53 : decode cX11_percentOf 53 = .ok (.if_icmp .eq 20, 3) := dX11_percentOf_all2.2.2.2.2.1
theorem dX11_percentOf_56 : decode cX11_percentOf 56 = .ok (.aload_n 0, 1) := dX11_percentOf_all2.2.2.2.2.2.1
theorem dX11_percentOf_57 : decode cX11_percentOf 57 = .ok (.getfield 32, 3) := dX11_percentOf_all2.2.2.2.2.2.2.1
theorem dX11_percentOf_60 : decode cX11_percentOf 60 = .ok (.iload 5, 2) := dX11_percentOf_all2.2.2.2.2.2.2.2.1
theorem dX11_percentOf_62 : decode cX11_percentOf 62 = .ok (.iaload, 1) := dX11_percentOf_all2.2.2.2.2.2.2.2.2.1
theorem dX11_percentOf_63 : decode cX11_percentOf 63 = .ok (.aload_n 0, 1) := dX11_percentOf_all2.2.2.2.2.2.2.2.2.2.1
theorem dX11_percentOf_64 : decode cX11_percentOf 64 = .ok (.getfield 32, 3) := dX11_percentOf_all2.2.2.2.2.2.2.2.2.2.2.1
theorem dX11_percentOf_67 : decode cX11_percentOf 67 = .ok (.iload 4, 2) := dX11_percentOf_all2.2.2.2.2.2.2.2.2.2.2.2
theorem dX11_percentOf_all3 : decode cX11_percentOf 69 = .ok (.iaload, 1) ∧ decode cX11_percentOf 70 = .ok (.if_icmp .lt 8, 3) ∧ decode cX11_percentOf 73 = .ok (.iload 5, 2) ∧ decode cX11_percentOf 75 = .ok (.goto 5, 3) ∧ decode cX11_percentOf 78 = .ok (.iload 4, 2) ∧ decode cX11_percentOf 80 = .ok (.istore 4, 2) ∧ decode cX11_percentOf 82 = .ok (.iinc 5 1, 3) ∧ decode cX11_percentOf 85 = .ok (.goto (-78), 3) ∧ decode cX11_percentOf 88 = .ok (.iload 4, 2) ∧ decode cX11_percentOf 90 = .ok (.ldc 139, 2) ∧ decode cX11_percentOf 92 = .ok (.if_icmp .ne 7, 3) ∧ decode cX11_percentOf 95 = .ok (.iconst 0, 1) := by decide +kernel
theorem dX11_percentOf_69 : decode cX11_percentOf 69 = .ok (.iaload, 1) := dX11_percentOf_all3.1
theorem dX11_percentOf_70 : decode cX11_percentOf 70 = .ok (.if_icmp .lt 8, 3) := dX11_percentOf_all3.2.1
theorem dX11_percentOf_73 : decode cX11_percentOf 73 = .ok (.iload 5, 2) := dX11_percentOf_all3.2.2.1
theorem dX11_percentOf_75 : decode cX11_percentOf 75 = .ok (.goto 5, 3) := dX11_percentOf_all3.2.2.2.1
theorem dX11_percentOf_78 : decode cX11_percentOf 78 = .ok (.iload 4, 2) := dX11_percentOf_all3.2.2.2.2.1
theorem dX11_percentOf_80 : decode cX11_percentOf 80 = .ok (.istore 4, 2) := dX11_percentOf_all3.2.2.2.2.2.1
theorem dX11_percentOf_82 : decode cX11_percentOf 82 = .ok (.iinc 5 1, 3) := dX11_percentOf_all3.2.2.2.2.2.2.1
theorem dX11_percentOf_85 : decode cX11_percentOf 85 = .ok (.goto (-78), 3) := dX11_percentOf_all3.2.2.2.2.2.2.2.1
theorem dX11_percentOf_88 : decode cX11_percentOf 88 = .ok (.iload 4, 2) := dX11_percentOf_all3.2.2.2.2.2.2.2.2.1
theorem dX11_percentOf_90 : decode cX11_percentOf 90 = .ok (.ldc 139, 2) := dX11_percentOf_all3.2.2.2.2.2.2.2.2.2.1
theorem dX11_percentOf_92 : decode cX11_percentOf 92 = .ok (.if_icmp .ne 7, 3) := dX11_percentOf_all3.2.2.2.2.2.2.2.2.2.2.1
theorem dX11_percentOf_95 : decode cX11_percentOf 95 = .ok (.iconst 0, 1) := dX11_percentOf_all3.2.2.2.2.2.2.2.2.2.2.2
theorem dX11_percentOf_all4 : decode cX11_percentOf 96 = .ok (.goto 10, 3) ∧ decode cX11_percentOf 99 = .ok (.aload_n 0, 1) ∧ decode cX11_percentOf 100 = .ok (.getfield 29, 3) ∧ decode cX11_percentOf 103 = .ok (.iload 4, 2) ∧ decode cX11_percentOf 105 = .ok (.iaload, 1) ∧ decode cX11_percentOf 106 = .ok (.ireturn, 1) := by decide +kernel
theorem dX11_percentOf_96 : decode cX11_percentOf 96 = .ok (.goto 10, 3) := dX11_percentOf_all4.1
theorem dX11_percentOf_99 : decode cX11_percentOf 99 = .ok (.aload_n 0, 1) := dX11_percentOf_all4.2.1
theorem dX11_percentOf_100 : decode cX11_percentOf 100 = .ok (.getfield 29, 3) := dX11_percentOf_all4.2.2.1
theorem dX11_percentOf_103 : decode cX11_percentOf 103 = .ok (.iload 4, 2) := dX11_percentOf_all4.2.2.2.1
theorem dX11_percentOf_105 : decode cX11_percentOf 105 = .ok (.iaload, 1) := dX11_percentOf_all4.2.2.2.2.1
theorem dX11_percentOf_106 : decode cX11_percentOf 106 = .ok (.ireturn, 1) := dX11_percentOf_all4.2.2.2.2.2
theorem ggX11_percent_X11_isOwner : GoodIn wsX11_percent wsX11_isOwner := goodIn_s (fun _ h => wm_t (wm_r (wm_l (wm_l (wm_r h))))) Gd_X11_isOwner
theorem gX11_percent_X11_isOwner : GoodIn wsX11_percent (va_wsS RX11 170 yX11_isOwner wsX11_isOwner) := goodIn_S (own := RX11) (idx := 170) (y := yX11_isOwner) (wm_t (wm_l (wm_i 2 rfl))) (wm_t (wm_l (wm_i 3 rfl))) (wm_t (wm_l (wm_i 4 rfl))) ggX11_percent_X11_isOwner
theorem ggX11_percent_X11_isCompany : GoodIn wsX11_percent wsX11_isCompany := goodIn_s (fun _ h => wm_t (wm_r (wm_l (wm_r h)))) Gd_X11_isCompany
theorem gX11_percent_X11_isCompany : GoodIn wsX11_percent (va_wsS RX11 173 yX11_isCompany wsX11_isCompany) := goodIn_S (own := RX11) (idx := 173) (y := yX11_isCompany) (wm_t (wm_l (wm_i 5 rfl))) (wm_t (wm_l (wm_i 6 rfl))) (wm_t (wm_l (wm_i 4 rfl))) ggX11_percent_X11_isCompany
theorem ggX11_percent_X11_isDay : GoodIn wsX11_percent wsX11_isDay := goodIn_s (fun _ h => wm_t (wm_r (wm_r (wm_l h)))) Gd_X11_isDay
theorem gX11_percent_X11_isDay : GoodIn wsX11_percent (va_wsS RX11 178 yX11_isDay wsX11_isDay) := goodIn_S (own := RX11) (idx := 178) (y := yX11_isDay) (wm_t (wm_l (wm_i 7 rfl))) (wm_t (wm_l (wm_i 8 rfl))) (wm_t (wm_l (wm_i 4 rfl))) ggX11_percent_X11_isDay
theorem ggX11_percent_X11_percentOf : GoodIn wsX11_percent wsX11_percentOf := goodIn_s (fun _ h => wm_t (wm_r (wm_r (wm_r h)))) Gd_X11_percentOf
theorem gX11_percent_X11_percentOf : GoodIn wsX11_percent (wsV RX11 191 RX11 yX11_percentOf wsX11_percentOf) := goodIn_V (own := RX11) (idx := 191) (C := RX11) (y := yX11_percentOf) (wm_t (wm_l (wm_i 9 rfl))) (wm_t (wm_l (wm_i 10 rfl))) (wm_t (wm_l (wm_i 11 rfl))) (wm_t (wm_l (wm_i 4 rfl))) ggX11_percent_X11_percentOf
theorem dX11_percent_all0 : decode cX11_percent 0 = .ok (.aload_n 0, 1) ∧ decode cX11_percent 1 = .ok (.iconst 0, 1) ∧ decode cX11_percent 2 = .ok (.putfield 1, 3) ∧ decode cX11_percent 5 = .ok (.iload_n 1, 1) ∧ decode cX11_percent 6 = .ok (.invokestatic 170, 3) ∧ decode cX11_percent 9 = .ok (.ifCond .eq 22, 3) ∧ decode cX11_percent 12 = .ok (.iload_n 2, 1) ∧ decode cX11_percent 13 = .ok (.invokestatic 173, 3) ∧ decode cX11_percent 16 = .ok (.ifCond .eq 15, 3) ∧ decode cX11_percent 19 = .ok (.iload_n 1, 1) ∧ decode cX11_percent 20 = .ok (.iload_n 2, 1) ∧ decode cX11_percent 21 = .ok (.if_icmp .eq 10, 3) := by decide +kernel
theorem dX11_percent_0 : decode cX11_percent 0 = .ok (.aload_n 0, 1) := dX11_percent_all0.1
theorem dX11_percent_1 : decode cX11_percent 1 = .ok (.iconst 0, 1) := dX11_percent_all0.2.1
theorem dX11_percent_2 : decode cX11_percent 2 = .ok (.putfield 1, 3) := dX11_percent_all0.2.2.1
theorem dX11_percent_5 : decode cX11_percent 5 = .ok (.iload_n 1, 1) := dX11_percent_all0.2.2.2.1
theorem dX11_percent_6 : decode cX11_percent 6 = .ok (.invokestatic 170, 3) := dX11_percent_all0.2.2.2.2.1
theorem dX11_percent_9 : decode cX11_percent 9 = .ok (.ifCond .eq 22, 3) := dX11_percent_all0.2.2.2.2.2.1
theorem dX11_percent_12 : decode cX11_percent 12 = .ok (.iload_n 2, 1) := dX11_percent_all0.2.2.2.2.2.2.1
theorem dX11_percent_13 : decode cX11_percent 13 = .ok (.invokestatic 173, 3) := dX11_percent_all0.2.2.2.2.2.2.2.1
theorem dX11_percent_16 : decode cX11_percent 16 = .ok (.ifCond .eq 15, 3) := dX11_percent_all0.2.2.2.2.2.2.2.2.1
theorem dX11_percent_19 : decode cX11_percent 19 = .ok (.iload_n 1, 1) := dX11_percent_all0.2.2.2.2.2.2.2.2.2.1
theorem dX11_percent_20 : decode cX11_percent 20 = .ok (.iload_n 2, 1) := dX11_percent_all0.2.2.2.2.2.2.2.2.2.2.1
theorem dX11_percent_21 : decode cX11_percent 21 = .ok (.if_icmp .eq 10, 3) := dX11_percent_all0.2.2.2.2.2.2.2.2.2.2.2
theorem dX11_percent_all1 : decode cX11_percent 24 = .ok (.iload_n 3, 1) ∧ decode cX11_percent 25 = .ok (.invokestatic 178, 3) ∧ decode cX11_percent 28 = .ok (.ifCond .ne 8, 3) ∧ decode cX11_percent 31 = .ok (.ldc 157, 2) ∧ decode cX11_percent 33 = .ok (.goto 10, 3) ∧ decode cX11_percent 36 = .ok (.aload_n 0, 1) ∧ decode cX11_percent 37 = .ok (.iload_n 1, 1) ∧ decode cX11_percent 38 = .ok (.iload_n 2, 1) ∧ decode cX11_percent 39 = .ok (.iload_n 3, 1) ∧ decode cX11_percent 40 = .ok (.invokevirtual 191, 3) ∧ decode cX11_percent 43 = .ok (.ireturn, 1) := by decide +kernel
theorem dX11_percent_24 : decode cX11_percent 24 = .ok (.iload_n 3, 1) := dX11_percent_all1.1
theorem dX11_percent_25 : decode cX11_percent 25 = .ok (.invokestatic 178, 3) := dX11_percent_all1.2.1
theorem dX11_percent_28 : decode cX11_percent 28 = .ok (.ifCond .ne 8, 3) := dX11_percent_all1.2.2.1
theorem dX11_percent_31 : decode cX11_percent 31 = .ok (.ldc 157, 2) := dX11_percent_all1.2.2.2.1
theorem dX11_percent_33 : decode cX11_percent 33 = .ok (.goto 10, 3) := dX11_percent_all1.2.2.2.2.1
theorem dX11_percent_36 : decode cX11_percent 36 = .ok (.aload_n 0, 1) := dX11_percent_all1.2.2.2.2.2.1
theorem dX11_percent_37 : decode cX11_percent 37 = .ok (.iload_n 1, 1) := dX11_percent_all1.2.2.2.2.2.2.1
theorem dX11_percent_38 : decode cX11_percent 38 = .ok (.iload_n 2, 1) := dX11_percent_all1.2.2.2.2.2.2.2.1
theorem dX11_percent_39 : decode cX11_percent 39 = .ok (.iload_n 3, 1) := dX11_percent_all1.2.2.2.2.2.2.2.2.1
theorem dX11_percent_40 : decode cX11_percent 40 = .ok (.invokevirtual 191, 3) := dX11_percent_all1.2.2.2.2.2.2.2.2.2.1
theorem dX11_percent_43 : decode cX11_percent 43 = .ok (.ireturn, 1) := dX11_percent_all1.2.2.2.2.2.2.2.2.2.2
theorem ggX11_findHas_X11_percentOf : GoodIn wsX11_findHas wsX11_percentOf := goodIn_s (fun _ h => wm_t (wm_r (wm_r h))) Gd_X11_percentOf
theorem gX11_findHas_X11_percentOf : GoodIn wsX11_findHas (wsV RX11 191 RX11 yX11_percentOf wsX11_percentOf) := goodIn_V (own := RX11) (idx := 191) (C := RX11) (y := yX11_percentOf) (wm_t (wm_l (wm_i 1 rfl))) (wm_t (wm_l (wm_i 2 rfl))) (wm_t (wm_l (wm_i 3 rfl))) (wm_t (wm_l (wm_i 4 rfl))) ggX11_findHas_X11_percentOf
theorem dX11_findHas_all0 : decode cX11_findHas 0 = .ok (.iconst 0, 1) ∧ decode cX11_findHas 1 = .ok (.istore_n 2, 1) ∧ decode cX11_findHas 2 = .ok (.iload_n 2, 1) ∧ decode cX11_findHas 3 = .ok (.bipush 20, 2) ∧ decode cX11_findHas 5 = .ok (.if_icmp .ge 54, 3) ∧ decode cX11_findHas 8 = .ok (.bipush 10, 2) ∧ decode cX11_findHas 10 = .ok (.istore_n 3, 1) ∧ decode cX11_findHas 11 = .ok (.iload_n 3, 1) ∧ decode cX11_findHas 12 = .ok (.bipush 20, 2) ∧ decode cX11_findHas 14 = .ok (.if_icmp .ge 39, 3) ∧ decode cX11_findHas 17 = .ok (.aload_n 0, 1) ∧ decode cX11_findHas 18 = .ok (.getfield 35, 3) := by decide +kernel
theorem dX11_findHas_0 : decode cX11_findHas 0 = .ok (.iconst 0, 1) := dX11_findHas_all0.1
theorem dX11_findHas_1 : decode cX11_findHas 1 = .ok (.istore_n 2, 1) := dX11_findHas_all0.2.1
theorem dX11_findHas_2 : decode cX11_findHas 2 = .ok (.iload_n 2, 1) := dX11_findHas_all0.2.2.1
theorem dX11_findHas_3 : decode cX11_findHas 3 = .ok (.bipush 20, 2) := dX11_findHas_all0.2.2.2.1
theorem dX11_findHas_5 : decode cX11_findHas 5 = .ok (.if_icmp .ge 54, 3) := dX11_findHas_all0.2.2.2.2.1
theorem dX11_findHas_8 : decode cX11_findHas 8 = .ok (.bipush 10, 2) := dX11_findHas_all0.2.2.2.2.2.1
theorem dX11_findHas_10 : decode cX11_findHas 10 = .ok (.istore_n 3, 1) := dX11_findHas_all0.2.2.2.2.2.2.1
theorem dX11_findHas_11 : decode cX11_findHas 11 = .ok (.iload_n 3, 1) := dX11_findHas_all0.2.2.2.2.2.2.2.1
theorem dX11_findHas_12 : decode cX11_findHas 12 = .ok (.bipush 20, 2) := dX11_findHas_all0.2.2.2.2.2.2.2.2.1
theorem dX11_findHas_14 : decode cX11_findHas 14 = .ok (.if_icmp .ge 39, 3) := dX11_findHas_all0.2.2.2.2.2.2.2.2.2.1
theorem dX11_findHas_17 : decode cX11_findHas 17 = .ok (.aload_n 0, 1) := dX11_findHas_all0.2.2.2.2.2.2.2.2.2.2.1
theorem dX11_findHas_18 : decode cX11_findHas 18 = .ok (.getfield 35, 3) := dX11_findHas_all0.2.2.2.2.2.2.2.2.2.2.2
theorem dX11_findHas_all1 : decode cX11_findHas 21 = .ok (.bipush 10, 2) ∧ decode cX11_findHas 23 = .ok (.iload_n 2, 1) ∧ decode cX11_findHas 24 = .ok (.imul, 1) ∧ decode cX11_findHas 25 = .ok (.iload_n 3, 1) ∧ decode cX11_findHas 26 = .ok (.iadd, 1) ∧ decode cX11_findHas 27 = .ok (.bipush 10, 2) ∧ decode cX11_findHas 29 = .ok (.isub, 1) ∧ decode cX11_findHas 30 = .ok (.iload_n 2, 1) ∧ decode cX11_findHas 31 = .ok (.iload_n 3, 1) ∧ decode cX11_findHas 32 = .ok (.if_icmp .ne 7, 3) ∧ decode cX11_findHas 35 = .ok (.iconst 0, 1) ∧ decode cX11_findHas 36 = .ok (.goto 10, 3) := by decide +kernel
theorem dX11_findHas_21 : decode cX11_findHas 21 = .ok (.bipush 10, 2) := dX11_findHas_all1.1
theorem dX11_findHas_23 : decode cX11_findHas 23 = .ok (.iload_n 2, 1) := dX11_findHas_all1.2.1
theorem dX11_findHas_24 : decode cX11_findHas 24 = .ok (.imul, 1) := dX11_findHas_all1.2.2.1
theorem dX11_findHas_25 : decode cX11_findHas 25 = .ok (.iload_n 3, 1) := dX11_findHas_all1.2.2.2.1
theorem dX11_findHas_26 : decode cX11_findHas 26 = .ok (.iadd, 1) := dX11_findHas_all1.2.2.2.2.1
theorem dX11_findHas_27 : decode cX11_findHas 27 = .ok (.bipush 10, 2) := dX11_findHas_all1.2.2.2.2.2.1
theorem dX11_findHas_29 : decode cX11_findHas 29 = .ok (.isub, 1) := dX11_findHas_all1.2.2.2.2.2.2.1
theorem dX11_findHas_30 : decode cX11_findHas 30 = .ok (.iload_n 2, 1) := dX11_findHas_all1.2.2.2.2.2.2.2.1
theorem dX11_findHas_31 : decode cX11_findHas 31 = .ok (.iload_n 3, 1) := dX11_findHas_all1.2.2.2.2.2.2.2.2.1
theorem dX11_findHas_32 : decode cX11_findHas 32 = .ok (.if_icmp .ne 7, 3) := dX11_findHas_all1.2.2.2.2.2.2.2.2.2.1
theorem dX11_findHas_35 : decode cX11_findHas 35 = .ok (.iconst 0, 1) := dX11_findHas_all1.2.2.2.2.2.2.2.2.2.2.1
theorem dX11_findHas_36 : decode cX11_findHas 36 = .ok (.goto 10, 3) := dX11_findHas_all1.2.2.2.2.2.2.2.2.2.2.2
theorem dX11_findHas_all2 : decode cX11_findHas 39 = .ok (.aload_n 0, 1) ∧ decode cX11_findHas 40 = .ok (.iload_n 2, 1) ∧ decode cX11_findHas 41 = .ok (.iload_n 3, 1) ∧ decode cX11_findHas 42 = .ok (.iload_n 1, 1) ∧ decode cX11_findHas 43 = .ok (.invokevirtual 191, 3) ∧ decode cX11_findHas 46 = .ok (.iastore, 1) ∧ decode cX11_findHas 47 = .ok (.iinc 3 1, 3) ∧ decode cX11_findHas 50 = .ok (.goto (-39), 3) ∧ decode cX11_findHas 53 = .ok (.iinc 2 1, 3) ∧ decode cX11_findHas 56 = .ok (.goto (-54), 3) ∧ decode cX11_findHas 59 = .ok (.return_, 1) := by decide +kernel
theorem dX11_findHas_39 : decode cX11_findHas 39 = .ok (.aload_n 0, 1) := dX11_findHas_all2.1
theorem dX11_findHas_40 : decode cX11_findHas 40 = .ok (.iload_n 2, 1) := dX11_findHas_all2.2.1
theorem dX11_findHas_41 : decode cX11_findHas 41 = .ok (.iload_n 3, 1) := dX11_findHas_all2.2.2.1
theorem dX11_findHas_42 : decode cX11_findHas 42 = .ok (.iload_n 1, 1) := dX11_findHas_all2.2.2.2.1
theorem dX11_findHas_43 : decode cX11_findHas 43 = .ok (.invokevirtual 191, 3) := dX11_findHas_all2.2.2.2.2.1
theorem dX11_findHas_46 : decode cX11_findHas 46 = .ok (.iastore, 1) := dX11_findHas_all2.2.2.2.2.2.1
theorem dX11_findHas_47 : decode cX11_findHas 47 = .ok (.iinc 3 1, 3) := dX11_findHas_all2.2.2.2.2.2.2.1
theorem dX11_findHas_50 : decode cX11_findHas 50 = .ok (.goto (-39), 3) := dX11_findHas_all2.2.2.2.2.2.2.2.1
theorem dX11_findHas_53 : decode cX11_findHas 53 = .ok (.iinc 2 1, 3) := dX11_findHas_all2.2.2.2.2.2.2.2.2.1
theorem dX11_findHas_56 : decode cX11_findHas 56 = .ok (.goto (-54), 3) := dX11_findHas_all2.2.2.2.2.2.2.2.2.2.1
theorem dX11_findHas_59 : decode cX11_findHas 59 = .ok (.return_, 1) := dX11_findHas_all2.2.2.2.2.2.2.2.2.2.2

/-- the holding that counts, as the reference finds it -/
def bsV (ho hc hs : Nat → Int32) (d o c : Int32) : Nat → Int32
  | 0 => -1000000
  | n + 1 => if (ho n).toInt = o.toInt ∧ (hc n).toInt = c.toInt ∧ (hs n).toInt ≤ d.toInt ∧ ((bsV ho hc hs d o c n).toInt = -1000000 ∨ (hs (bsV ho hc hs d o c n).toNatClampNeg).toInt ≤ (hs n).toInt) then nI n else bsV ho hc hs d o c n
theorem bsV_s (ho hc hs : Nat → Int32) (d o c : Int32) (n : Nat) : bsV ho hc hs d o c (n + 1) = if (ho n).toInt = o.toInt ∧ (hc n).toInt = c.toInt ∧ (hs n).toInt ≤ d.toInt ∧ ((bsV ho hc hs d o c n).toInt = -1000000 ∨ (hs (bsV ho hc hs d o c n).toNatClampNeg).toInt ≤ (hs n).toInt) then nI n else bsV ho hc hs d o c n := rfl
def pmV (ho hc hp hs : Nat → Int32) (d o c : Int32) (n : Nat) : Int32 := if (bsV ho hc hs d o c n).toInt = -1000000 then 0 else hp (bsV ho hc hs d o c n).toNatClampNeg
def sm_percent (hn : Int32) (ho hc hp hs : Nat → Int32) (o k d : Int32) : Int32 := if 0 ≤ o.toInt ∧ o.toInt < 20 ∧ 10 ≤ k.toInt ∧ k.toInt < 20 ∧ ¬ o.toInt = k.toInt ∧ 0 ≤ d.toInt ∧ d.toInt < 10000 then pmV ho hc hp hs d o k hn.toNatClampNeg else -1000001

set_option maxHeartbeats 4000000 in
set_option maxRecDepth 100000 in
theorem ct_X11_percentOf (l : Launch) (D : va_G) (cI cY cJ cQ : ClassId) (sz : Nat) (md : Nat → Nat) (sd : Int32) (mth mst hn cn pn mq gn mln mnn ln mlt msz mcu mtk mfr mti mfa mfb an un lc td mtn : Int32) (ho hc hp hs : Nat → Int32) (o : Int32) (k : Int32) (d : Int32)  (h1 : 0 ≤ hn.toInt) (h2 : hn.toInt ≤ 40)  : Met l yX11_percentOf wsX11_percentOf ({ frames := 0, cells := 0, slots := 0, locals := 0 }) (cPre D (ty4 cI cY cJ cQ) [(moC md sd mth mst hn cn pn mq gn mln mnn ln mlt msz mcu mtk mfr mti mfa mfb an un lc td mtn), (aI cI (md 7) 40 ho), (aI cI (md 8) 40 hc), (aI cI (md 9) 40 hp), (aI cI (md 10) 40 hs)] sz [.ref (md 64), .int o, .int k, .int d]) (va_Qi (fun (r : Int32) (u : Unit) => r = pmV ho hc hp hs d o k hn.toNatClampNeg) (cB D (ty4 cI cY cJ cQ) (fun (u : Unit) => [(moC md sd mth mst hn cn pn mq gn mln mnn ln mlt msz mcu mtk mfr mti mfa mfb an un lc td mtn), (aI cI (md 7) 40 ho), (aI cI (md 8) 40 hc), (aI cI (md 9) 40 hp), (aI cI (md 10) 40 hs)]) (va_A [(moC md sd mth mst hn cn pn mq gn mln mnn ln mlt msz mcu mtk mfr mti mfa mfb an un lc td mtn), (aI cI (md 7) 40 ho), (aI cI (md 8) 40 hc), (aI cI (md 9) 40 hp), (aI cI (md 10) 40 hs)] sz)) (va_A [(moC md sd mth mst hn cn pn mq gn mln mnn ln mlt msz mcu mtk mfr mti mfa mfb an un lc td mtn), (aI cI (md 7) 40 ho), (aI cI (md 8) 40 hc), (aI cI (md 9) 40 hp), (aI cI (md 10) 40 hs)] sz)) 0 0 (va_A [(moC md sd mth mst hn cn pn mq gn mln mnn ln mlt msz mcu mtk mfr mti mfa mfb an un lc td mtn), (aI cI (md 7) 40 ho), (aI cI (md 8) 40 hc), (aI cI (md 9) 40 hp), (aI cI (md 10) 40 hs)] sz) := by
  refine Met.ofW (cc := cX11_percentOf) (maxL := 6) (ret := (some .int)) (by decide) rfl ?_
  intro p e s m args below meth c s₁ B hml hv
  obtain ⟨rfl, hsz, hP, hK, hD0, hN⟩ := hv
  have hx := B.exec
  have hb := B.bytes
  have hr := B.returns
  have hts := atoms_spec (ws := wsX11_percentOf) B.pre
  have hown : s.vm.findClass RX11 = some m.cls := findClass_of_methodNamed B.named
  have hlocks := B.notSynchronized
  subst hsz
  have hD := hD0.self (sz := s.heap.size)
  generalize hAe : va_A [(moC md sd mth mst hn cn pn mq gn mln mnn ln mlt msz mcu mtk mfr mti mfa mfb an un lc td mtn), (aI cI (md 7) 40 ho), (aI cI (md 8) 40 hc), (aI cI (md 9) 40 hp), (aI cI (md 10) 40 hs)] s.heap.size = A at hD ⊢
  have hA : ∀ q : Nat, s.heap.size ≤ q → A q := fun q h => by rw [← hAe]; exact Or.inr h
  have hS : va_S A s.heap s.heap [] := va_S.rf
  have hP : va_P D vwCl [(moC md sd mth mst hn cn pn mq gn mln mnn ln mlt msz mcu mtk mfr mti mfa mfb an un lc td mtn), (aI cI (md 7) 40 ho), (aI cI (md 8) 40 hc), (aI cI (md 9) 40 hp), (aI cI (md 10) 40 hs)] s.heap := hP
  have hl := lv_entry ([.ref (md 64), .int o, .int k, .int d]) (n := 6) (Nat.le_of_ble_eq_true rfl)
  rw [lg_entry_eq]
  generalize (lg_sl ([.ref (md 64), .int o, .int k, .int d]) ++ List.replicate (6 - (lg_sl ([.ref (md 64), .int o, .int k, .int d])).length) Slot.unset).toArray = ls at hl ⊢
  have hl : lv_has ls 6 [(0, .ref (md 64)), (1, .int o), (2, .int k), (3, .int d)] := hl
  have km1000000 : (-1000000 : Int32).toInt = -1000000 := by decide
  have k0 : (0 : Int32).toInt = 0 := by decide
  have k1 : (1 : Int32).toInt = 1 := by decide
  refine lv_ldc hx hb hown (hts (Cond.constant RX11 139 (-1000000)) (wm_t (wm_l (wm_i 0 rfl)))) dX11_percentOf_0 ?_
  refine lv_istore (lv' := [(4, .int (-1000000)), (0, .ref (md 64)), (1, .int o), (2, .int k), (3, .int d)]) hx hb dX11_percentOf_2 hl (by decide) rfl (fun ls hl => ?_)
  refine lv_iconst (v := 0) hx hb dX11_percentOf_4 (by decide) ?_
  refine lv_istore (lv' := [(5, .int 0), (4, .int (-1000000)), (0, .ref (md 64)), (1, .int o), (2, .int k), (3, .int d)]) hx hb dX11_percentOf_5 hl (by decide) rfl (fun ls hl => ?_)
  refine st_loop 7 (fun _ => []) (fun (z : Int32 × Int32) (ls : Array Slot) (H : Heap) (locs : List Loc) => match z with | (q7_4, q7_5) => (0 ≤ q7_5.toInt) ∧ (q7_5.toInt ≤ hn.toInt) ∧ ((q7_4.toInt = -1000000 ∨ (0 ≤ q7_4.toInt ∧ q7_4.toInt < hn.toInt))) ∧ (q7_4 = bsV ho hc hs d o k q7_5.toNatClampNeg) ∧ lv_has ls 6 [(0, .ref (md 64)), (1, .int o), (2, .int k), (3, .int d), (4, .int q7_4), (5, .int q7_5)] ∧ va_P D vwCl [(moC md sd mth mst hn cn pn mq gn mln mnn ln mlt msz mcu mtk mfr mti mfa mfb an un lc td mtn), (aI cI (md 7) 40 ho), (aI cI (md 8) 40 hc), (aI cI (md 9) 40 hp), (aI cI (md 10) 40 hs)] H ∧ va_D A [(moC md sd mth mst hn cn pn mq gn mln mnn ln mlt msz mcu mtk mfr mti mfa mfb an un lc td mtn), (aI cI (md 7) 40 ho), (aI cI (md 8) 40 hc), (aI cI (md 9) 40 hp), (aI cI (md 10) 40 hs)] ∧ va_S A s.heap H locs) (fun (z : Int32 × Int32) => match z with | (q7_4, q7_5) => hn.toInt - q7_5.toInt) ?_ ?_ (((-1000000) : Int32), (0 : Int32)) ⟨(by omega), (by omega), (by omega), (by rfl), lv_sub hl [2, 3, 4, 5, 1, 0] rfl, hP, hD, hS⟩
  · rintro ⟨q7_4, q7_5⟩ ls H locs ⟨g1, g2, g3, g4, hl, hP, hD, hS⟩
    show (0 : Int) ≤ hn.toInt - q7_5.toInt
    omega
  · rintro n7 ih5 ⟨q7_4, q7_5⟩ ls H locs ⟨g1, g2, g3, g4, hl, hP, hD, hS⟩ hm6
    have hm6 : hn.toInt - q7_5.toInt < (n7 : Int) + 1 := hm6
    replace hl : lv_has ls 6 [(0, .ref (md 64)), (1, .int o), (2, .int k), (3, .int d), (4, .int q7_4), (5, .int q7_5)] := hl
    replace hP : va_P D vwCl [(moC md sd mth mst hn cn pn mq gn mln mnn ln mlt msz mcu mtk mfr mti mfa mfb an un lc td mtn), (aI cI (md 7) 40 ho), (aI cI (md 8) 40 hc), (aI cI (md 9) 40 hp), (aI cI (md 10) 40 hs)] H := hP
    replace hD : va_D A [(moC md sd mth mst hn cn pn mq gn mln mnn ln mlt msz mcu mtk mfr mti mfa mfb an un lc td mtn), (aI cI (md 7) 40 ho), (aI cI (md 8) 40 hc), (aI cI (md 9) 40 hp), (aI cI (md 10) 40 hs)] := hD
    show W _ _ _ _ _ _ _ _ _ _ _ _ _ _ _ (F0 m 7 ls [])
    refine lv_iload hx hb dX11_percentOf_7 (lv_at hl 5 rfl) ?_
    refine lv_aload_n hx hb dX11_percentOf_9 rfl (lv_at hl 0 rfl) ?_
    refine va_get (D := D) (ci := 11) (v := .int hn) (C := RX11) (T := TX11) (N := 64) hx hb hts inX11_percentOf_X11 hown hK hP 0 rfl rfl 6 (by decide) (hts (Cond.fieldLink RX11 181 "PortRoomsModel" "holdings" "I") (wm_t (wm_l (wm_i 1 rfl)))) (fun _ h9 => h9) rfl dX11_percentOf_10 ?_
    refine lv_icmp_ge (tgt := 88) hx hb dX11_percentOf_13 (by decide) (fun c8 => ?_) (fun c8 => ?_)
    · skip
      have f9 := i_le c8
      refine lv_iload hx hb dX11_percentOf_88 (lv_at hl 4 rfl) ?_
      refine lv_ldc hx hb hown (hts (Cond.constant RX11 139 (-1000000)) (wm_t (wm_l (wm_i 0 rfl)))) dX11_percentOf_90 ?_
      refine lv_icmp_ne (tgt := 99) hx hb dX11_percentOf_92 (by decide) (fun c10 => ?_) (fun c10 => ?_)
      · skip
        have f11 := i_ne c10
        refine lv_aload_n hx hb dX11_percentOf_99 rfl (lv_at hl 0 rfl) ?_
        refine va_get (D := D) (ci := 11) (v := .ref (md 9)) (C := RX11) (T := TX11) (N := 64) hx hb hts inX11_percentOf_X11 hown hK hP 0 rfl rfl 9 (by decide) (hts (Cond.fieldLink RX11 29 "PortRoomsModel" "part" "[I") (wm_t (wm_l (wm_i 5 rfl)))) (fun _ h9 => h9) rfl dX11_percentOf_100 ?_
        refine lv_iload hx hb dX11_percentOf_103 (lv_at hl 4 rfl) ?_
        refine va_iald hx hb hK hP 3 0 rfl rfl (i_in (by omega) (by omega)) dX11_percentOf_105 ?_
        refine lv_topi (fun v12 ev12 => ?_)
        have tlv12 : v12.toInt = (hp q7_4.toNatClampNeg).toInt := by rw [ev12]
        have ce8 := i_cl (x := q7_5) (by omega)
        have ce9 := i_cl (x := hn) (by omega)
        have ee9 : q7_5.toNatClampNeg = hn.toNatClampNeg := by omega
        have hz9 := g4
        rw [ee9] at hz9
        have hP9 := hP
        have hD9 := hD
        exact W.iret (v := v12) hx hb hr (fun t ht hW => ⟨⟨v12, (), rfl, (by unfold pmV; rw [← hz9]; (repeat' split) <;> first | rfl | assumption | (exfalso; omega)), by rw [ht]; exact hP9, va_K.moved hW.alike hK, hD9⟩, hS.F ht⟩) hS.2.2 dX11_percentOf_106
      · skip
        have f13 := i_eq c10
        refine lv_iconst (v := 0) hx hb dX11_percentOf_95 (by decide) ?_
        refine lv_goto (tgt := 106) hx hb dX11_percentOf_96 (by decide) ?_
        have ce8 := i_cl (x := q7_5) (by omega)
        have ce9 := i_cl (x := hn) (by omega)
        have ee9 : q7_5.toNatClampNeg = hn.toNatClampNeg := by omega
        have hz9 := g4
        rw [ee9] at hz9
        have hP9 := hP
        have hD9 := hD
        exact W.iret (v := 0) hx hb hr (fun t ht hW => ⟨⟨0, (), rfl, (by unfold pmV; rw [← hz9]; (repeat' split) <;> first | rfl | assumption | (exfalso; omega)), by rw [ht]; exact hP9, va_K.moved hW.alike hK, hD9⟩, hS.F ht⟩) hS.2.2 dX11_percentOf_106
    · skip
      have f14 := i_nle c8
      refine lv_aload_n hx hb dX11_percentOf_16 rfl (lv_at hl 0 rfl) ?_
      refine va_get (D := D) (ci := 11) (v := .ref (md 7)) (C := RX11) (T := TX11) (N := 64) hx hb hts inX11_percentOf_X11 hown hK hP 0 rfl rfl 7 (by decide) (hts (Cond.fieldLink RX11 23 "PortRoomsModel" "holder" "[I") (wm_t (wm_l (wm_i 2 rfl)))) (fun _ h9 => h9) rfl dX11_percentOf_17 ?_
      refine lv_iload hx hb dX11_percentOf_20 (lv_at hl 5 rfl) ?_
      refine va_iald hx hb hK hP 1 0 rfl rfl (i_in (by omega) (by omega)) dX11_percentOf_22 ?_
      refine lv_topi (fun v15 ev15 => ?_)
      have tlv15 : v15.toInt = (ho q7_5.toNatClampNeg).toInt := by rw [ev15]
      refine lv_iload_n hx hb dX11_percentOf_23 rfl (lv_at hl 1 rfl) ?_
      refine lv_icmp_ne (tgt := 82) hx hb dX11_percentOf_24 (by decide) (fun c16 => ?_) (fun c16 => ?_)
      · skip
        have f17 := i_ne c16
        obtain ⟨v18, ev18⟩ : ∃ y : Int32, y = q7_5 + 1 := ⟨_, rfl⟩
        try have tv18 : v18.toInt = q7_5.toInt + 1 := by rw [ev18]; exact (i_add (x := q7_5) (y := (1 : Int32)) (by rw [k1]; omega) (by rw [k1]; omega)).trans (by rw [k1])
        refine lv_iinc (v := v18) (lv' := [(5, .int v18), (0, .ref (md 64)), (1, .int o), (2, .int k), (3, .int d), (4, .int q7_4)]) hx hb dX11_percentOf_82 hl (k := 5) rfl (by rw [ev18]; rfl) (by decide) rfl (fun ls hl => ?_)
        refine lv_goto (tgt := 7) hx hb dX11_percentOf_85 (by decide) ?_
        have clk8 := i_cl (x := q7_5) (by omega)
        have clk9 := i_cl (x := v18) (by omega)
        have ek9 : v18.toNatClampNeg = q7_5.toNatClampNeg + 1 := by omega
        have nk9 : nI q7_5.toNatClampNeg = q7_5 := i_nI (by omega)
        exact ih5 (q7_4, v18) ls H locs ⟨(by omega), (by omega), (by omega), (by rw [ek9, bsV_s, nk9, ← g4]; (repeat' split) <;> first | (exfalso; omega) | (exfalso; contradiction) | rfl | (subst_vars; rfl)), lv_sub hl [1, 2, 3, 4, 5, 0] rfl, hP.sub [0, 1, 2, 3, 4] rfl, hD.sub [0, 1, 2, 3, 4] (by decide +kernel) rfl, hS⟩ (by show hn.toInt - v18.toInt < _; omega)
      · skip
        have f19 := i_eq c16
        refine lv_aload_n hx hb dX11_percentOf_27 rfl (lv_at hl 0 rfl) ?_
        refine va_get (D := D) (ci := 11) (v := .ref (md 8)) (C := RX11) (T := TX11) (N := 64) hx hb hts inX11_percentOf_X11 hown hK hP 0 rfl rfl 8 (by decide) (hts (Cond.fieldLink RX11 26 "PortRoomsModel" "held" "[I") (wm_t (wm_l (wm_i 3 rfl)))) (fun _ h9 => h9) rfl dX11_percentOf_28 ?_
        refine lv_iload hx hb dX11_percentOf_31 (lv_at hl 5 rfl) ?_
        refine va_iald hx hb hK hP 2 0 rfl rfl (i_in (by omega) (by omega)) dX11_percentOf_33 ?_
        refine lv_topi (fun v20 ev20 => ?_)
        have tlv20 : v20.toInt = (hc q7_5.toNatClampNeg).toInt := by rw [ev20]
        refine lv_iload_n hx hb dX11_percentOf_34 rfl (lv_at hl 2 rfl) ?_
        refine lv_icmp_ne (tgt := 82) hx hb dX11_percentOf_35 (by decide) (fun c21 => ?_) (fun c21 => ?_)
        · skip
          have f22 := i_ne c21
          obtain ⟨v23, ev23⟩ : ∃ y : Int32, y = q7_5 + 1 := ⟨_, rfl⟩
          try have tv23 : v23.toInt = q7_5.toInt + 1 := by rw [ev23]; exact (i_add (x := q7_5) (y := (1 : Int32)) (by rw [k1]; omega) (by rw [k1]; omega)).trans (by rw [k1])
          refine lv_iinc (v := v23) (lv' := [(5, .int v23), (0, .ref (md 64)), (1, .int o), (2, .int k), (3, .int d), (4, .int q7_4)]) hx hb dX11_percentOf_82 hl (k := 5) rfl (by rw [ev23]; rfl) (by decide) rfl (fun ls hl => ?_)
          refine lv_goto (tgt := 7) hx hb dX11_percentOf_85 (by decide) ?_
          have clk8 := i_cl (x := q7_5) (by omega)
          have clk9 := i_cl (x := v23) (by omega)
          have ek9 : v23.toNatClampNeg = q7_5.toNatClampNeg + 1 := by omega
          have nk9 : nI q7_5.toNatClampNeg = q7_5 := i_nI (by omega)
          exact ih5 (q7_4, v23) ls H locs ⟨(by omega), (by omega), (by omega), (by rw [ek9, bsV_s, nk9, ← g4]; (repeat' split) <;> first | (exfalso; omega) | (exfalso; contradiction) | rfl | (subst_vars; rfl)), lv_sub hl [1, 2, 3, 4, 5, 0] rfl, hP.sub [0, 1, 2, 3, 4] rfl, hD.sub [0, 1, 2, 3, 4] (by decide +kernel) rfl, hS⟩ (by show hn.toInt - v23.toInt < _; omega)
        · skip
          have f24 := i_eq c21
          refine lv_aload_n hx hb dX11_percentOf_38 rfl (lv_at hl 0 rfl) ?_
          refine va_get (D := D) (ci := 11) (v := .ref (md 10)) (C := RX11) (T := TX11) (N := 64) hx hb hts inX11_percentOf_X11 hown hK hP 0 rfl rfl 10 (by decide) (hts (Cond.fieldLink RX11 32 "PortRoomsModel" "since" "[I") (wm_t (wm_l (wm_i 4 rfl)))) (fun _ h9 => h9) rfl dX11_percentOf_39 ?_
          refine lv_iload hx hb dX11_percentOf_42 (lv_at hl 5 rfl) ?_
          refine va_iald hx hb hK hP 4 0 rfl rfl (i_in (by omega) (by omega)) dX11_percentOf_44 ?_
          refine lv_topi (fun v25 ev25 => ?_)
          have tlv25 : v25.toInt = (hs q7_5.toNatClampNeg).toInt := by rw [ev25]
          refine lv_iload_n hx hb dX11_percentOf_45 rfl (lv_at hl 3 rfl) ?_
          refine lv_icmp_gt (tgt := 82) hx hb dX11_percentOf_46 (by decide) (fun c26 => ?_) (fun c26 => ?_)
          · skip
            have f27 := i_lt c26
            obtain ⟨v28, ev28⟩ : ∃ y : Int32, y = q7_5 + 1 := ⟨_, rfl⟩
            try have tv28 : v28.toInt = q7_5.toInt + 1 := by rw [ev28]; exact (i_add (x := q7_5) (y := (1 : Int32)) (by rw [k1]; omega) (by rw [k1]; omega)).trans (by rw [k1])
            refine lv_iinc (v := v28) (lv' := [(5, .int v28), (0, .ref (md 64)), (1, .int o), (2, .int k), (3, .int d), (4, .int q7_4)]) hx hb dX11_percentOf_82 hl (k := 5) rfl (by rw [ev28]; rfl) (by decide) rfl (fun ls hl => ?_)
            refine lv_goto (tgt := 7) hx hb dX11_percentOf_85 (by decide) ?_
            have clk8 := i_cl (x := q7_5) (by omega)
            have clk9 := i_cl (x := v28) (by omega)
            have ek9 : v28.toNatClampNeg = q7_5.toNatClampNeg + 1 := by omega
            have nk9 : nI q7_5.toNatClampNeg = q7_5 := i_nI (by omega)
            exact ih5 (q7_4, v28) ls H locs ⟨(by omega), (by omega), (by omega), (by rw [ek9, bsV_s, nk9, ← g4]; (repeat' split) <;> first | (exfalso; omega) | (exfalso; contradiction) | rfl | (subst_vars; rfl)), lv_sub hl [1, 2, 3, 4, 5, 0] rfl, hP.sub [0, 1, 2, 3, 4] rfl, hD.sub [0, 1, 2, 3, 4] (by decide +kernel) rfl, hS⟩ (by show hn.toInt - v28.toInt < _; omega)
          · skip
            have f29 := i_nlt c26
            refine lv_iload hx hb dX11_percentOf_49 (lv_at hl 4 rfl) ?_
            refine lv_ldc hx hb hown (hts (Cond.constant RX11 139 (-1000000)) (wm_t (wm_l (wm_i 0 rfl)))) dX11_percentOf_51 ?_
            refine lv_icmp_eq (tgt := 73) hx hb dX11_percentOf_53 (by decide) (fun c30 => ?_) (fun c30 => ?_)
            · skip
              have f31 := i_eq c30
              refine lv_iload hx hb dX11_percentOf_73 (lv_at hl 5 rfl) ?_
              refine lv_goto (tgt := 80) hx hb dX11_percentOf_75 (by decide) ?_
              refine lv_istore (lv' := [(4, .int q7_5), (0, .ref (md 64)), (1, .int o), (2, .int k), (3, .int d), (5, .int q7_5)]) hx hb dX11_percentOf_80 hl (by decide) rfl (fun ls hl => ?_)
              obtain ⟨v32, ev32⟩ : ∃ y : Int32, y = q7_5 + 1 := ⟨_, rfl⟩
              try have tv32 : v32.toInt = q7_5.toInt + 1 := by rw [ev32]; exact (i_add (x := q7_5) (y := (1 : Int32)) (by rw [k1]; omega) (by rw [k1]; omega)).trans (by rw [k1])
              refine lv_iinc (v := v32) (lv' := [(5, .int v32), (4, .int q7_5), (0, .ref (md 64)), (1, .int o), (2, .int k), (3, .int d)]) hx hb dX11_percentOf_82 hl (k := 5) rfl (by rw [ev32]; rfl) (by decide) rfl (fun ls hl => ?_)
              refine lv_goto (tgt := 7) hx hb dX11_percentOf_85 (by decide) ?_
              have clk8 := i_cl (x := q7_5) (by omega)
              have clk9 := i_cl (x := v32) (by omega)
              have ek9 : v32.toNatClampNeg = q7_5.toNatClampNeg + 1 := by omega
              have nk9 : nI q7_5.toNatClampNeg = q7_5 := i_nI (by omega)
              exact ih5 (q7_5, v32) ls H locs ⟨(by omega), (by omega), (by omega), (by rw [ek9, bsV_s, nk9, ← g4]; (repeat' split) <;> first | (exfalso; omega) | (exfalso; contradiction) | rfl | (subst_vars; rfl)), lv_sub hl [2, 3, 4, 5, 1, 0] rfl, hP.sub [0, 1, 2, 3, 4] rfl, hD.sub [0, 1, 2, 3, 4] (by decide +kernel) rfl, hS⟩ (by show hn.toInt - v32.toInt < _; omega)
            · skip
              have f33 := i_ne c30
              refine lv_aload_n hx hb dX11_percentOf_56 rfl (lv_at hl 0 rfl) ?_
              refine va_get (D := D) (ci := 11) (v := .ref (md 10)) (C := RX11) (T := TX11) (N := 64) hx hb hts inX11_percentOf_X11 hown hK hP 0 rfl rfl 10 (by decide) (hts (Cond.fieldLink RX11 32 "PortRoomsModel" "since" "[I") (wm_t (wm_l (wm_i 4 rfl)))) (fun _ h9 => h9) rfl dX11_percentOf_57 ?_
              refine lv_iload hx hb dX11_percentOf_60 (lv_at hl 5 rfl) ?_
              refine va_iald hx hb hK hP 4 0 rfl rfl (i_in (by omega) (by omega)) dX11_percentOf_62 ?_
              refine lv_topi (fun v34 ev34 => ?_)
              have tlv34 : v34.toInt = (hs q7_5.toNatClampNeg).toInt := by rw [ev34]
              refine lv_aload_n hx hb dX11_percentOf_63 rfl (lv_at hl 0 rfl) ?_
              refine va_get (D := D) (ci := 11) (v := .ref (md 10)) (C := RX11) (T := TX11) (N := 64) hx hb hts inX11_percentOf_X11 hown hK hP 0 rfl rfl 10 (by decide) (hts (Cond.fieldLink RX11 32 "PortRoomsModel" "since" "[I") (wm_t (wm_l (wm_i 4 rfl)))) (fun _ h9 => h9) rfl dX11_percentOf_64 ?_
              refine lv_iload hx hb dX11_percentOf_67 (lv_at hl 4 rfl) ?_
              refine va_iald hx hb hK hP 4 0 rfl rfl (i_in (by omega) (by omega)) dX11_percentOf_69 ?_
              refine lv_topi (fun v35 ev35 => ?_)
              have tlv35 : v35.toInt = (hs q7_4.toNatClampNeg).toInt := by rw [ev35]
              refine lv_icmp_lt (tgt := 78) hx hb dX11_percentOf_70 (by decide) (fun c36 => ?_) (fun c36 => ?_)
              · skip
                have f37 := i_lt c36
                refine lv_iload hx hb dX11_percentOf_78 (lv_at hl 4 rfl) ?_
                refine lv_istore (lv' := [(4, .int q7_4), (0, .ref (md 64)), (1, .int o), (2, .int k), (3, .int d), (5, .int q7_5)]) hx hb dX11_percentOf_80 hl (by decide) rfl (fun ls hl => ?_)
                obtain ⟨v38, ev38⟩ : ∃ y : Int32, y = q7_5 + 1 := ⟨_, rfl⟩
                try have tv38 : v38.toInt = q7_5.toInt + 1 := by rw [ev38]; exact (i_add (x := q7_5) (y := (1 : Int32)) (by rw [k1]; omega) (by rw [k1]; omega)).trans (by rw [k1])
                refine lv_iinc (v := v38) (lv' := [(5, .int v38), (4, .int q7_4), (0, .ref (md 64)), (1, .int o), (2, .int k), (3, .int d)]) hx hb dX11_percentOf_82 hl (k := 5) rfl (by rw [ev38]; rfl) (by decide) rfl (fun ls hl => ?_)
                refine lv_goto (tgt := 7) hx hb dX11_percentOf_85 (by decide) ?_
                have clk8 := i_cl (x := q7_5) (by omega)
                have clk9 := i_cl (x := v38) (by omega)
                have ek9 : v38.toNatClampNeg = q7_5.toNatClampNeg + 1 := by omega
                have nk9 : nI q7_5.toNatClampNeg = q7_5 := i_nI (by omega)
                exact ih5 (q7_4, v38) ls H locs ⟨(by omega), (by omega), (by omega), (by rw [ek9, bsV_s, nk9, ← g4]; (repeat' split) <;> first | (exfalso; omega) | (exfalso; contradiction) | rfl | (subst_vars; rfl)), lv_sub hl [2, 3, 4, 5, 1, 0] rfl, hP.sub [0, 1, 2, 3, 4] rfl, hD.sub [0, 1, 2, 3, 4] (by decide +kernel) rfl, hS⟩ (by show hn.toInt - v38.toInt < _; omega)
              · skip
                have f39 := i_nlt c36
                refine lv_iload hx hb dX11_percentOf_73 (lv_at hl 5 rfl) ?_
                refine lv_goto (tgt := 80) hx hb dX11_percentOf_75 (by decide) ?_
                refine lv_istore (lv' := [(4, .int q7_5), (0, .ref (md 64)), (1, .int o), (2, .int k), (3, .int d), (5, .int q7_5)]) hx hb dX11_percentOf_80 hl (by decide) rfl (fun ls hl => ?_)
                obtain ⟨v40, ev40⟩ : ∃ y : Int32, y = q7_5 + 1 := ⟨_, rfl⟩
                try have tv40 : v40.toInt = q7_5.toInt + 1 := by rw [ev40]; exact (i_add (x := q7_5) (y := (1 : Int32)) (by rw [k1]; omega) (by rw [k1]; omega)).trans (by rw [k1])
                refine lv_iinc (v := v40) (lv' := [(5, .int v40), (4, .int q7_5), (0, .ref (md 64)), (1, .int o), (2, .int k), (3, .int d)]) hx hb dX11_percentOf_82 hl (k := 5) rfl (by rw [ev40]; rfl) (by decide) rfl (fun ls hl => ?_)
                refine lv_goto (tgt := 7) hx hb dX11_percentOf_85 (by decide) ?_
                have clk8 := i_cl (x := q7_5) (by omega)
                have clk9 := i_cl (x := v40) (by omega)
                have ek9 : v40.toNatClampNeg = q7_5.toNatClampNeg + 1 := by omega
                have nk9 : nI q7_5.toNatClampNeg = q7_5 := i_nI (by omega)
                exact ih5 (q7_5, v40) ls H locs ⟨(by omega), (by omega), (by omega), (by rw [ek9, bsV_s, nk9, ← g4]; (repeat' split) <;> first | (exfalso; omega) | (exfalso; contradiction) | rfl | (subst_vars; rfl)), lv_sub hl [2, 3, 4, 5, 1, 0] rfl, hP.sub [0, 1, 2, 3, 4] rfl, hD.sub [0, 1, 2, 3, 4] (by decide +kernel) rfl, hS⟩ (by show hn.toInt - v40.toInt < _; omega)

set_option maxHeartbeats 4000000 in
set_option maxRecDepth 100000 in
theorem ct_X11_percent (l : Launch) (D : va_G) (cI cY cJ cQ : ClassId) (sz : Nat) (md : Nat → Nat) (sd : Int32) (mth mst hn cn pn mq gn mln mnn ln mlt msz mcu mtk mfr mti mfa mfb an un lc td mtn : Int32) (ho hc hp hs : Nat → Int32) (o : Int32) (k : Int32) (d : Int32)  (h1 : 0 ≤ hn.toInt) (h2 : hn.toInt ≤ 40)  : Met l yX11_percent wsX11_percent ({ frames := 2, cells := 0, slots := 0, locals := 45 }) (cPre D (ty4 cI cY cJ cQ) [(moC md sd mth mst hn cn pn mq gn mln mnn ln mlt msz mcu mtk mfr mti mfa mfb an un lc td mtn), (aI cI (md 7) 40 ho), (aI cI (md 8) 40 hc), (aI cI (md 9) 40 hp), (aI cI (md 10) 40 hs)] sz [.ref (md 64), .int o, .int k, .int d]) (va_Qi (fun (r : Int32) (u : Unit) => r = sm_percent hn ho hc hp hs o k d) (cB D (ty4 cI cY cJ cQ) (fun (u : Unit) => [(moC md sd 0 mst hn cn pn mq gn mln mnn ln mlt msz mcu mtk mfr mti mfa mfb an un lc td mtn), (aI cI (md 7) 40 ho), (aI cI (md 8) 40 hc), (aI cI (md 9) 40 hp), (aI cI (md 10) 40 hs)]) (va_A [(moC md sd mth mst hn cn pn mq gn mln mnn ln mlt msz mcu mtk mfr mti mfa mfb an un lc td mtn), (aI cI (md 7) 40 ho), (aI cI (md 8) 40 hc), (aI cI (md 9) 40 hp), (aI cI (md 10) 40 hs)] sz)) (va_A [(moC md sd mth mst hn cn pn mq gn mln mnn ln mlt msz mcu mtk mfr mti mfa mfb an un lc td mtn), (aI cI (md 7) 40 ho), (aI cI (md 8) 40 hc), (aI cI (md 9) 40 hp), (aI cI (md 10) 40 hs)] sz)) 0 0 (va_A [(moC md sd mth mst hn cn pn mq gn mln mnn ln mlt msz mcu mtk mfr mti mfa mfb an un lc td mtn), (aI cI (md 7) 40 ho), (aI cI (md 8) 40 hc), (aI cI (md 9) 40 hp), (aI cI (md 10) 40 hs)] sz) := by
  refine Met.ofW (cc := cX11_percent) (maxL := 4) (ret := (some .int)) (by decide) rfl ?_
  intro p e s m args below meth c s₁ B hml hv
  obtain ⟨rfl, hsz, hP, hK, hD0, hN⟩ := hv
  have hx := B.exec
  have hb := B.bytes
  have hr := B.returns
  have hts := atoms_spec (ws := wsX11_percent) B.pre
  have hown : s.vm.findClass RX11 = some m.cls := findClass_of_methodNamed B.named
  have hlocks := B.notSynchronized
  subst hsz
  have hD := hD0.self (sz := s.heap.size)
  generalize hAe : va_A [(moC md sd mth mst hn cn pn mq gn mln mnn ln mlt msz mcu mtk mfr mti mfa mfb an un lc td mtn), (aI cI (md 7) 40 ho), (aI cI (md 8) 40 hc), (aI cI (md 9) 40 hp), (aI cI (md 10) 40 hs)] s.heap.size = A at hD ⊢
  have hA : ∀ q : Nat, s.heap.size ≤ q → A q := fun q h => by rw [← hAe]; exact Or.inr h
  have hS : va_S A s.heap s.heap [] := va_S.rf
  have hP : va_P D vwCl [(moC md sd mth mst hn cn pn mq gn mln mnn ln mlt msz mcu mtk mfr mti mfa mfb an un lc td mtn), (aI cI (md 7) 40 ho), (aI cI (md 8) 40 hc), (aI cI (md 9) 40 hp), (aI cI (md 10) 40 hs)] s.heap := hP
  have hl := lv_entry ([.ref (md 64), .int o, .int k, .int d]) (n := 4) (Nat.le_of_ble_eq_true rfl)
  rw [lg_entry_eq]
  generalize (lg_sl ([.ref (md 64), .int o, .int k, .int d]) ++ List.replicate (4 - (lg_sl ([.ref (md 64), .int o, .int k, .int d])).length) Slot.unset).toArray = ls at hl ⊢
  have hl : lv_has ls 4 [(0, .ref (md 64)), (1, .int o), (2, .int k), (3, .int d)] := hl
  have km1000001 : (-1000001 : Int32).toInt = -1000001 := by decide
  have k0 : (0 : Int32).toInt = 0 := by decide
  refine lv_aload_n hx hb dX11_percent_0 rfl (lv_at hl 0 rfl) ?_
  refine lv_iconst (v := 0) hx hb dX11_percent_1 (by decide) ?_
  refine va_put (D := D) (ci := 11) (v := .int 0) (ty := .int) (C := RX11) (T := TX11) (N := 64) hx hb hts inX11_percent_X11 tyX11 tyX11_ok nmX11 hown hK hP hD hS 0 rfl rfl 0 (by decide) (hts (Cond.fieldLink RX11 1 "PortRoomsModel" "thrown" "I") (wm_t (wm_l (wm_i 0 rfl)))) (fun _ h9 => h9) rfl (tyX11_ok 0 (by decide)) rfl rfl (Nat.le_of_ble_eq_true rfl) dX11_percent_2 (fun H locs => ?_)
  clear hP hD hS
  intro hP hD hS
  replace hP : va_P D vwCl [(moC md sd (0) mst hn cn pn mq gn mln mnn ln mlt msz mcu mtk mfr mti mfa mfb an un lc td mtn), (aI cI (md 7) 40 ho), (aI cI (md 8) 40 hc), (aI cI (md 9) 40 hp), (aI cI (md 10) 40 hs)] H := hP
  replace hD : va_D A [(moC md sd (0) mst hn cn pn mq gn mln mnn ln mlt msz mcu mtk mfr mti mfa mfb an un lc td mtn), (aI cI (md 7) 40 ho), (aI cI (md 8) 40 hc), (aI cI (md 9) 40 hp), (aI cI (md 10) 40 hs)] := hD
  refine lv_iload_n hx hb dX11_percent_5 rfl (lv_at hl 1 rfl) ?_
  refine st_i1 (va_runS (As := [.int o]) (rest := []) ⟨hx, hb, hml, hown, hts⟩ (ct_X11_isOwner l D cI cY cJ cQ _ o) (va_cwS 1 hts gX11_percent_X11_isOwner rfl rfl rfl cdX11_isOwner ⟨Nat.le_of_ble_eq_true rfl, Nat.le_of_ble_eq_true rfl⟩) (cPreS (hP.sub [] rfl) hK (hD.sub [] (by decide +kernel) rfl) hN) rfl rfl hl.1 rfl (lv_room (Nat.le_of_ble_eq_true rfl)) dX11_percent_6 ⟨Nat.le_of_ble_eq_true rfl, Nat.le_of_ble_eq_true rfl⟩) hP hD hS hA [] rfl (fun _ => rfl) (fun r3 u1 H locs hw2 => ?_)
  clear hP hS
  intro hP hS
  replace hw2 : r3 = if 0 ≤ o.toInt ∧ o.toInt ≤ 19 then 1 else 0 := hw2
  refine lv_if_eq (tgt := 31) hx hb dX11_percent_9 (by decide) (fun c4 => ?_) (fun c4 => ?_)
  · skip
    have f5 := bo_f hw2 c4
    refine lv_ldc hx hb hown (hts (Cond.constant RX11 157 (-1000001)) (wm_t (wm_l (wm_i 1 rfl)))) dX11_percent_31 ?_
    refine lv_goto (tgt := 43) hx hb dX11_percent_33 (by decide) ?_
    have hP9 := hP
    have hD9 := hD
    exact W.iret (v := (-1000001)) hx hb hr (fun t ht hW => ⟨⟨(-1000001), (), rfl, (by unfold sm_percent; (repeat' split) <;> first | rfl | (exfalso; omega) | (subst_vars; rfl)), by rw [ht]; exact hP9, va_K.moved hW.alike hK, hD9⟩, hS.F ht⟩) hS.2.2 dX11_percent_43
  · skip
    have f6 := bo_t hw2 c4
    refine lv_iload_n hx hb dX11_percent_12 rfl (lv_at hl 2 rfl) ?_
    refine st_i1 (va_runS (As := [.int k]) (rest := []) ⟨hx, hb, hml, hown, hts⟩ (ct_X11_isCompany l D cI cY cJ cQ _ k) (va_cwS 1 hts gX11_percent_X11_isCompany rfl rfl rfl cdX11_isCompany ⟨Nat.le_of_ble_eq_true rfl, Nat.le_of_ble_eq_true rfl⟩) (cPreS (hP.sub [] rfl) hK (hD.sub [] (by decide +kernel) rfl) hN) rfl rfl hl.1 rfl (lv_room (Nat.le_of_ble_eq_true rfl)) dX11_percent_13 ⟨Nat.le_of_ble_eq_true rfl, Nat.le_of_ble_eq_true rfl⟩) hP hD hS hA [] rfl (fun _ => rfl) (fun r9 u7 H locs hw8 => ?_)
    clear hP hS
    intro hP hS
    replace hw8 : r9 = if 10 ≤ k.toInt ∧ k.toInt ≤ 19 then 1 else 0 := hw8
    refine lv_if_eq (tgt := 31) hx hb dX11_percent_16 (by decide) (fun c10 => ?_) (fun c10 => ?_)
    · skip
      have f11 := bo_f hw8 c10
      refine lv_ldc hx hb hown (hts (Cond.constant RX11 157 (-1000001)) (wm_t (wm_l (wm_i 1 rfl)))) dX11_percent_31 ?_
      refine lv_goto (tgt := 43) hx hb dX11_percent_33 (by decide) ?_
      have hP9 := hP
      have hD9 := hD
      exact W.iret (v := (-1000001)) hx hb hr (fun t ht hW => ⟨⟨(-1000001), (), rfl, (by unfold sm_percent; (repeat' split) <;> first | rfl | (exfalso; omega) | (subst_vars; rfl)), by rw [ht]; exact hP9, va_K.moved hW.alike hK, hD9⟩, hS.F ht⟩) hS.2.2 dX11_percent_43
    · skip
      have f12 := bo_t hw8 c10
      refine lv_iload_n hx hb dX11_percent_19 rfl (lv_at hl 1 rfl) ?_
      refine lv_iload_n hx hb dX11_percent_20 rfl (lv_at hl 2 rfl) ?_
      refine lv_icmp_eq (tgt := 31) hx hb dX11_percent_21 (by decide) (fun c13 => ?_) (fun c13 => ?_)
      · skip
        have f14 := i_eq c13
        refine lv_ldc hx hb hown (hts (Cond.constant RX11 157 (-1000001)) (wm_t (wm_l (wm_i 1 rfl)))) dX11_percent_31 ?_
        refine lv_goto (tgt := 43) hx hb dX11_percent_33 (by decide) ?_
        have hP9 := hP
        have hD9 := hD
        exact W.iret (v := (-1000001)) hx hb hr (fun t ht hW => ⟨⟨(-1000001), (), rfl, (by unfold sm_percent; (repeat' split) <;> first | rfl | (exfalso; omega) | (subst_vars; rfl)), by rw [ht]; exact hP9, va_K.moved hW.alike hK, hD9⟩, hS.F ht⟩) hS.2.2 dX11_percent_43
      · skip
        have f15 := i_ne c13
        refine lv_iload_n hx hb dX11_percent_24 rfl (lv_at hl 3 rfl) ?_
        refine st_i1 (va_runS (As := [.int d]) (rest := []) ⟨hx, hb, hml, hown, hts⟩ (ct_X11_isDay l D cI cY cJ cQ _ d) (va_cwS 1 hts gX11_percent_X11_isDay rfl rfl rfl cdX11_isDay ⟨Nat.le_of_ble_eq_true rfl, Nat.le_of_ble_eq_true rfl⟩) (cPreS (hP.sub [] rfl) hK (hD.sub [] (by decide +kernel) rfl) hN) rfl rfl hl.1 rfl (lv_room (Nat.le_of_ble_eq_true rfl)) dX11_percent_25 ⟨Nat.le_of_ble_eq_true rfl, Nat.le_of_ble_eq_true rfl⟩) hP hD hS hA [] rfl (fun _ => rfl) (fun r18 u16 H locs hw17 => ?_)
        clear hP hS
        intro hP hS
        replace hw17 : r18 = if 0 ≤ d.toInt ∧ d.toInt ≤ 9999 then 1 else 0 := hw17
        refine lv_if_ne (tgt := 36) hx hb dX11_percent_28 (by decide) (fun c19 => ?_) (fun c19 => ?_)
        · skip
          have f20 := bo_t hw17 c19
          refine lv_aload_n hx hb dX11_percent_36 rfl (lv_at hl 0 rfl) ?_
          refine lv_iload_n hx hb dX11_percent_37 rfl (lv_at hl 1 rfl) ?_
          refine lv_iload_n hx hb dX11_percent_38 rfl (lv_at hl 2 rfl) ?_
          refine lv_iload_n hx hb dX11_percent_39 rfl (lv_at hl 3 rfl) ?_
          refine st_i1 (va_runV (C := RX11) (As := [.int o, .int k, .int d]) (rest := []) ⟨hx, hb, hml, hown, hts⟩ (ct_X11_percentOf l D cI cY cJ cQ _ md sd 0 mst hn cn pn mq gn mln mnn ln mlt msz mcu mtk mfr mti mfa mfb an un lc td mtn ho hc hp hs o k d h1 h2) (cwV 3 hts gX11_percent_X11_percentOf rfl rfl rfl ⟨rfl, cdX11_percentOf⟩ ⟨Nat.le_of_ble_eq_true rfl, Nat.le_of_ble_eq_true rfl⟩) (cPreV (hP.sub [0, 1, 2, 3, 4] rfl) hK (hD.sub [0, 1, 2, 3, 4] (by decide +kernel) rfl) hN (ci := 11) (q0 := 0) rfl rfl) rfl rfl hl.1 rfl (lv_room (Nat.le_of_ble_eq_true rfl)) dX11_percent_40 ⟨Nat.le_of_ble_eq_true rfl, Nat.le_of_ble_eq_true rfl⟩) hP hD hS hA [0, 1, 2, 3, 4] rfl (fun _ => rfl) (fun r23 u21 H locs hw22 => ?_)
          clear hP hS
          intro hP hS
          replace hw22 : r23 = pmV ho hc hp hs d o k hn.toNatClampNeg := hw22
          subst hw22
          have hP9 := hP
          have hD9 := hD
          exact W.iret (v := pmV ho hc hp hs d o k hn.toNatClampNeg) hx hb hr (fun t ht hW => ⟨⟨pmV ho hc hp hs d o k hn.toNatClampNeg, (), rfl, (by unfold sm_percent; (repeat' split) <;> first | rfl | (exfalso; omega) | (subst_vars; rfl)), by rw [ht]; exact hP9, va_K.moved hW.alike hK, hD9⟩, hS.F ht⟩) hS.2.2 dX11_percent_43
        · skip
          have f24 := bo_f hw17 c19
          refine lv_ldc hx hb hown (hts (Cond.constant RX11 157 (-1000001)) (wm_t (wm_l (wm_i 1 rfl)))) dX11_percent_31 ?_
          refine lv_goto (tgt := 43) hx hb dX11_percent_33 (by decide) ?_
          have hP9 := hP
          have hD9 := hD
          exact W.iret (v := (-1000001)) hx hb hr (fun t ht hW => ⟨⟨(-1000001), (), rfl, (by unfold sm_percent; (repeat' split) <;> first | rfl | (exfalso; omega) | (subst_vars; rfl)), by rw [ht]; exact hP9, va_K.moved hW.alike hK, hD9⟩, hS.F ht⟩) hS.2.2 dX11_percent_43


/-- the part that o has of company 10 + c on a day, as the reference finds it -/
def pmF (ho hc hp hs : Nat → Int32) (d : Int32) (n : Nat) : Nat → Nat → Int := fun o c => if o = c + 10 then 0 else (pmV ho hc hp hs d (nI o) (nI (c + 10)) n).toInt
def mhF (mh : Nat → Int32) : Nat → Nat → Int := fun o c => (mh (10 * o + c)).toInt
def okE (mh : Nat → Int32) : Prop := ∀ j : Nat, j < 200 → 0 ≤ (mh j).toInt ∧ (mh j).toInt ≤ 100
theorem okE_p {mh : Nat → Int32} (h : okE mh) : okp (mhF mh) := fun o c ho hc => h _ (by omega)
def fhQ (ho hc hp hs : Nat → Int32) (d : Int32) (n : Nat) (mh : Nat → Int32) (O C : Nat) : Prop := ∀ o c : Nat, o < 20 → c < 10 → (o < O ∨ (o = O ∧ c < C)) → mhF mh o c = pmF ho hc hp hs d n o c
theorem fhQ_0 {ho hc hp hs : Nat → Int32} {d : Int32} {n : Nat} {mh : Nat → Int32} : fhQ ho hc hp hs d n mh 0 0 := fun o c _ _ h => by omega
theorem fhQ_up {ho hc hp hs : Nat → Int32} {d : Int32} {n : Nat} {mh : Nat → Int32} {O C C' i : Nat} {x : Int32} (h : fhQ ho hc hp hs d n mh O C) (hC : C < 10) (hi : i = 10 * O + C) (hC' : C' = C + 1) (hx : x.toInt = pmF ho hc hp hs d n O C) : fhQ ho hc hp hs d n (upd mh i x) O C' := by
  intro o c h1 h2 h3
  by_cases e : 10 * o + c = i
  · have e1 : o = O := by omega
    have e2 : c = C := by omega
    show (upd mh i x (10 * o + c)).toInt = _
    rw [e, upd_s, e1, e2]
    exact hx
  · show (upd mh i x (10 * o + c)).toInt = _
    rw [upd_n _ _ e]
    exact h o c h1 h2 (by omega)
theorem fhQ_nx {ho hc hp hs : Nat → Int32} {d : Int32} {n : Nat} {mh : Nat → Int32} {O O' : Nat} (h : fhQ ho hc hp hs d n mh O 10) (e : O' = O + 1) : fhQ ho hc hp hs d n mh O' 0 := fun o c h1 h2 h3 => h o c h1 h2 (by omega)
theorem bs_rng {ho hc hs : Nat → Int32} {d o c : Int32} (n : Nat) (hn : n ≤ 40) : (bsV ho hc hs d o c n).toInt = -1000000 ∨ (0 ≤ (bsV ho hc hs d o c n).toInt ∧ (bsV ho hc hs d o c n).toInt < n) := by
  induction n with
  | zero => exact Or.inl rfl
  | succ n ih =>
    have ih := ih (by omega)
    have c1 := nI_toInt (n := n) (by omega)
    rw [bsV_s]
    split
    · omega
    · omega
theorem pm_bd {ho hc hp hs : Nat → Int32} {d hn o c : Int32} (hv : okV hn hp) (h0 : 0 ≤ hn.toInt) (h1 : hn.toInt ≤ 40) : 0 ≤ (pmV ho hc hp hs d o c hn.toNatClampNeg).toInt ∧ (pmV ho hc hp hs d o c hn.toNatClampNeg).toInt ≤ 100 := by
  have ch := i_cl h0
  unfold pmV
  split
  · decide
  · rename_i g
    have r := bs_rng (ho := ho) (hc := hc) (hs := hs) (d := d) (o := o) (c := c) hn.toNatClampNeg (by omega)
    rcases r with r | ⟨r1, r2⟩
    · exact absurd r g
    · have c9 := i_cl r1
      exact hv _ (by omega)
theorem pmF_bd {ho hc hp hs : Nat → Int32} {d hn : Int32} (hv : okV hn hp) (h0 : 0 ≤ hn.toInt) (h1 : hn.toInt ≤ 40) : okp (pmF ho hc hp hs d hn.toNatClampNeg) := fun o c _ _ => by
  unfold pmF
  split
  · omega
  · exact pm_bd hv h0 h1
theorem okE_of {ho hc hp hs mh : Nat → Int32} {d hn : Int32} (h : fhQ ho hc hp hs d hn.toNatClampNeg mh 20 0) (hv : okV hn hp) (h0 : 0 ≤ hn.toInt) (h1 : hn.toInt ≤ 40) : okE mh := by
  intro j hj
  have e : j = 10 * (j / 10) + j % 10 := by omega
  have h9 := h (j / 10) (j % 10) (by omega) (by omega) (by omega)
  have h8 := pmF_bd (ho := ho) (hc := hc) (hs := hs) (d := d) hv h0 h1 (j / 10) (j % 10) (by omega) (by omega)
  unfold mhF at h9
  rw [← e] at h9
  omega
theorem mhF_pm {ho hc hp hs mh : Nat → Int32} {d : Int32} {n : Nat} (h : fhQ ho hc hp hs d n mh 20 0) : ∀ o c, o < 20 → c < 10 → mhF mh o c = pmF ho hc hp hs d n o c := fun o c h1 h2 => h o c h1 h2 (by omega)
theorem pdivL {x w z : Int64} {b : Int32} (e1 : w = x * b.toInt64) (e2 : z = w / 100) (h0 : 0 ≤ x.toInt) (h1 : x.toInt ≤ 1000000) (h2 : 0 ≤ b.toInt) (h3 : b.toInt ≤ 100) : z.toInt = x.toInt * b.toInt / 100 := by
  have hb := mul_bd h0 h1 h2 h3
  have hw : w.toInt = x.toInt * b.toInt := by
    rw [e1, Int64.toInt_mul, i_w]
    exact l_bmod (by omega) (by omega)
  have k100 : (100 : Int64).toInt = 100 := by decide
  rw [e2, Int64.toInt_div, k100, hw, Int.tdiv_eq_ediv_of_nonneg hb.1]
  exact l_bmod (by omega) (by omega)
theorem gL_no {p : Nat → Nat → Int} {t : Nat} {mp : Nat → Int32} {mf : Nat → Int64} {i c : Nat} (h : ¬ 0 < p (mp i).toNatClampNeg c) : gL p t mp mf i c = 0 := alT_0 (fun z => h z.1)
theorem gL_on {p : Nat → Nat → Int} {t : Nat} {mp : Nat → Int32} {mf : Nat → Int64} {i c : Nat} (h : onP mp i c = true) : gL p t mp mf i c = 0 := alT_0 (fun z => by have z2 := z.2; rw [h] at z2; exact absurd z2 (by decide))
theorem gL_t {p : Nat → Nat → Int} {t : Nat} {mp : Nat → Int32} {mf : Nat → Int64} {i c : Nat} (h1 : 0 < p (mp i).toNatClampNeg c) (h2 : onP mp i c = false) (e : c = t) : gL p t mp mf i c = (mf i).toInt * p (mp i).toNatClampNeg c / 100 := alT_t ⟨h1, by rw [h2]; rfl⟩ e
theorem gL_v0 {p : Nat → Nat → Int} {t : Nat} {mp : Nat → Int32} {mf : Nat → Int64} {i c : Nat} (h1 : 0 < p (mp i).toNatClampNeg c) (h2 : onP mp i c = false) (e : ¬ c = t) (hv : (mf i).toInt * p (mp i).toNatClampNeg c / 100 = 0) : gL p t mp mf i c = 0 := by
  have h9 : gL p t mp mf i c = alG p t (10 - i) (10 + c) ((mf i).toInt * p (mp i).toNatClampNeg c / 100) (fun y => !onP mp i y && !decide (y = c)) := alT_n ⟨h1, by rw [h2]; rfl⟩ e
  rw [h9, hv, alG_v0]
theorem df_end {p : Nat → Nat → Int} {t q : Nat} {sum : Int} {a met : Int32} {mp mt : Nat → Int32} {mf : Nat → Int64} (h : dfI p t q sum a met mp mt mf) (ha : a.toInt < 0) : sum = alG p t 11 q 1000000 (fun _ => true) := by
  have h1 := h.1
  rw [show (a.toInt + 1).toNat = 0 by omega] at h1
  have h2 : reS p t mp mt mf 0 = 0 := rfl
  omega
def sm_share (hn : Int32) (ho hc hp hs : Nat → Int32) (q o d : Int32) : Int := if 0 ≤ q.toInt ∧ q.toInt < 10 ∧ 0 ≤ o.toInt ∧ o.toInt < 20 ∧ 0 ≤ d.toInt ∧ d.toInt < 10000 then shF (pmF ho hc hp hs d hn.toNatClampNeg) q.toNatClampNeg o.toNatClampNeg else -1000001
def sm_truly (hn : Int32) (ho hc hp hs : Nat → Int32) (o d : Int32) : Int := if 0 ≤ o.toInt ∧ o.toInt < 20 ∧ 0 ≤ d.toInt ∧ d.toInt < 10000 then (trV (pmF ho hc hp hs d hn.toNatClampNeg) o.toNatClampNeg 10).1 else -1000001
/-- some place below n -/
def anyP (P : Nat → Bool) : Nat → Bool
  | 0 => false
  | n + 1 => anyP P n || P n
theorem anyP_s (P : Nat → Bool) (n : Nat) : anyP P (n + 1) = (anyP P n || P n) := rfl
theorem anyP_iff (P : Nat → Bool) (n : Nat) : anyP P n = true ↔ ∃ a, a < n ∧ P a = true := by
  induction n with
  | zero => exact ⟨fun h => absurd h (by show ¬ (false = true); decide), fun h => by obtain ⟨a, h1, -⟩ := h; omega⟩
  | succ n ih =>
    rw [anyP_s, Bool.or_eq_true, ih]
    constructor
    · rintro (⟨a, h1, h2⟩ | h)
      · exact ⟨a, by omega, h2⟩
      · exact ⟨n, by omega, h⟩
    · rintro ⟨a, h1, h2⟩
      by_cases e : a = n
      · rw [e] at h2; exact Or.inr h2
      · exact Or.inl ⟨a, by omega, h2⟩
/-- the companies met from c on, turn by turn -/
def mtV (E : Nat → Nat → Bool) (c : Nat) : Nat → Nat → Bool
  | 0 => fun _ => false
  | i + 1 => fun b => mtV E c i b || anyP (fun a => (mtV E c i a || decide (a = c)) && E a b) 10
theorem mtV_s (E : Nat → Nat → Bool) (c i b : Nat) : mtV E c (i + 1) b = (mtV E c i b || anyP (fun a => (mtV E c i a || decide (a = c)) && E a b) 10) := rfl
def sm_rings (hn : Int32) (ho hc hp hs : Nat → Int32) (d r : Int32) : Prop := if 0 ≤ d.toInt ∧ d.toInt < 10000 then (∀ i : Nat, i < 32 → bt r i = (decide (i < 10) && mtV (ppB (pmF ho hc hp hs d hn.toNatClampNeg)) i 11 i)) else r.toInt = -1000001
/-- the companies met so far, as bits -/
def mtQ (E : Nat → Nat → Bool) (c : Nat) (met : Int32) (i : Nat) : Prop := ∀ b : Nat, b < 32 → bt met b = mtV E c i b
/-- one turn, as far as place a, b -/
def mrQ (E : Nat → Nat → Bool) (c : Nat) (more : Int32) (i a b : Nat) : Prop := ∀ x : Nat, x < 32 → bt more x = (mtV E c i x || (anyP (fun y => (mtV E c i y || decide (y = c)) && E y x) a || ((mtV E c i a || decide (a = c)) && E a x && decide (x < b))))
theorem mrQ_0 {E : Nat → Nat → Bool} {c : Nat} {met : Int32} {i : Nat} (h : mtQ E c met i) : mrQ E c met i 0 0 := by
  intro x hx
  rw [h x hx, decide_eq_false (show ¬ x < 0 by omega), Bool.and_false]
  show _ = (mtV E c i x || (false || false))
  cases mtV E c i x <;> rfl
theorem mrQ_end {E : Nat → Nat → Bool} {c : Nat} {more : Int32} {i j : Nat} (h : mrQ E c more i 10 0) (e : j = i + 1) : mtQ E c more j := by
  intro b hb
  rw [h b hb, e, mtV_s, decide_eq_false (show ¬ b < 0 by omega), Bool.and_false, Bool.or_false]
theorem mrQ_row {E : Nat → Nat → Bool} {c : Nat} {more : Int32} {i a a' b : Nat} (hE : ∀ x y, E x y = true → y < 10) (h : mrQ E c more i a b) (hb : 10 ≤ b ∨ (mtV E c i a || decide (a = c)) = false) (e : a' = a + 1) : mrQ E c more i a' 0 := by
  intro x hx
  rw [h x hx, e, anyP_s, decide_eq_false (show ¬ x < 0 by omega), Bool.and_false, Bool.or_false]
  congr 2
  rcases hb with hb | hb
  · cases q : E a x with
    | false => rw [Bool.and_false]; rfl
    | true => rw [decide_eq_true (show x < b by have := hE a x q; omega), Bool.and_true]
  · rw [hb]; rfl
theorem mrQ_up {E : Nat → Nat → Bool} {c : Nat} {more w : Int32} {i a b b' : Nat} {y : Int32} (h : mrQ E c more i a b) (hg : (mtV E c i a || decide (a = c)) = true) (hy : y.toInt = b) (h9 : b < 10) (e : b' = b + 1) (hE : E a b = true) (hw : w = more ||| ((1 : Int32) <<< (y &&& 31))) : mrQ E c w i a b' := by
  have cy := i_cl (x := y) (by omega)
  intro x hx
  rw [hw, bt_set (by omega) (by omega) hx, h x hx, hg, e, show y.toNatClampNeg = b by omega]
  by_cases q : x = b
  · rw [q, hE, decide_eq_true rfl, decide_eq_true (show b < b + 1 by omega), decide_eq_false (show ¬ b < b by omega)]
    cases mtV E c i b <;> cases anyP (fun y => (mtV E c i y || decide (y = c)) && E y b) a <;> rfl
  · rw [decide_eq_false q, show decide (x < b + 1) = decide (x < b) from decide_eq_decide.mpr ⟨fun z => by omega, fun z => by omega⟩, Bool.or_false]
theorem mrQ_no {E : Nat → Nat → Bool} {c : Nat} {more : Int32} {i a b b' : Nat} (h : mrQ E c more i a b) (e : b' = b + 1) (hE : E a b = false) : mrQ E c more i a b' := by
  intro x hx
  rw [h x hx, e]
  by_cases q : x = b
  · rw [q, hE, Bool.and_false]; rfl
  · rw [show decide (x < b + 1) = decide (x < b) from decide_eq_decide.mpr ⟨fun z => by omega, fun z => by omega⟩]
theorem ppB_10 {p : Nat → Nat → Int} : ∀ x y, ppB p x y = true → y < 10 := fun x y h => (of_decide_eq_true h).1

set_option maxHeartbeats 4000000 in
set_option maxRecDepth 100000 in
theorem ct_X11_findHas (l : Launch) (D : va_G) (cI cY cJ cQ : ClassId) (sz : Nat) (md : Nat → Nat) (sd : Int32) (mth mst hn cn pn mq gn mln mnn ln mlt msz mcu mtk mfr mti mfa mfb an un lc td mtn : Int32) (ho hc hp hs mh : Nat → Int32) (d : Int32)  (h1 : 0 ≤ hn.toInt) (h2 : hn.toInt ≤ 40) (h3 : okV hn hp)  : Met l yX11_findHas wsX11_findHas ({ frames := 1, cells := 0, slots := 0, locals := 25 }) (cPre D (ty4 cI cY cJ cQ) [(moC md sd mth mst hn cn pn mq gn mln mnn ln mlt msz mcu mtk mfr mti mfa mfb an un lc td mtn), (aI cI (md 7) 40 ho), (aI cI (md 8) 40 hc), (aI cI (md 9) 40 hp), (aI cI (md 10) 40 hs), (aI cI (md 11) 200 mh)] sz [.ref (md 64), .int d]) (va_Qv (fun (u : (Nat → Int32)) => fhQ ho hc hp hs d hn.toNatClampNeg u 20 0 ∧ okE u) (cB D (ty4 cI cY cJ cQ) (fun (u : (Nat → Int32)) => [(moC md sd mth mst hn cn pn mq gn mln mnn ln mlt msz mcu mtk mfr mti mfa mfb an un lc td mtn), (aI cI (md 7) 40 ho), (aI cI (md 8) 40 hc), (aI cI (md 9) 40 hp), (aI cI (md 10) 40 hs), (aI cI (md 11) 200 u)]) (va_A [(moC md sd mth mst hn cn pn mq gn mln mnn ln mlt msz mcu mtk mfr mti mfa mfb an un lc td mtn), (aI cI (md 7) 40 ho), (aI cI (md 8) 40 hc), (aI cI (md 9) 40 hp), (aI cI (md 10) 40 hs), (aI cI (md 11) 200 mh)] sz)) (va_A [(moC md sd mth mst hn cn pn mq gn mln mnn ln mlt msz mcu mtk mfr mti mfa mfb an un lc td mtn), (aI cI (md 7) 40 ho), (aI cI (md 8) 40 hc), (aI cI (md 9) 40 hp), (aI cI (md 10) 40 hs), (aI cI (md 11) 200 mh)] sz)) 0 0 (va_A [(moC md sd mth mst hn cn pn mq gn mln mnn ln mlt msz mcu mtk mfr mti mfa mfb an un lc td mtn), (aI cI (md 7) 40 ho), (aI cI (md 8) 40 hc), (aI cI (md 9) 40 hp), (aI cI (md 10) 40 hs), (aI cI (md 11) 200 mh)] sz) := by
  refine Met.ofW (cc := cX11_findHas) (maxL := 4) (ret := none) (by decide) rfl ?_
  intro p e s m args below meth c s₁ B hml hv
  obtain ⟨rfl, hsz, hP, hK, hD0, hN⟩ := hv
  have hx := B.exec
  have hb := B.bytes
  have hr := B.returns
  have hts := atoms_spec (ws := wsX11_findHas) B.pre
  have hown : s.vm.findClass RX11 = some m.cls := findClass_of_methodNamed B.named
  have hlocks := B.notSynchronized
  subst hsz
  have hD := hD0.self (sz := s.heap.size)
  generalize hAe : va_A [(moC md sd mth mst hn cn pn mq gn mln mnn ln mlt msz mcu mtk mfr mti mfa mfb an un lc td mtn), (aI cI (md 7) 40 ho), (aI cI (md 8) 40 hc), (aI cI (md 9) 40 hp), (aI cI (md 10) 40 hs), (aI cI (md 11) 200 mh)] s.heap.size = A at hD ⊢
  have hA : ∀ q : Nat, s.heap.size ≤ q → A q := fun q h => by rw [← hAe]; exact Or.inr h
  have hS : va_S A s.heap s.heap [] := va_S.rf
  have hP : va_P D vwCl [(moC md sd mth mst hn cn pn mq gn mln mnn ln mlt msz mcu mtk mfr mti mfa mfb an un lc td mtn), (aI cI (md 7) 40 ho), (aI cI (md 8) 40 hc), (aI cI (md 9) 40 hp), (aI cI (md 10) 40 hs), (aI cI (md 11) 200 mh)] s.heap := hP
  have hl := lv_entry ([.ref (md 64), .int d]) (n := 4) (Nat.le_of_ble_eq_true rfl)
  rw [lg_entry_eq]
  generalize (lg_sl ([.ref (md 64), .int d]) ++ List.replicate (4 - (lg_sl ([.ref (md 64), .int d])).length) Slot.unset).toArray = ls at hl ⊢
  have hl : lv_has ls 4 [(0, .ref (md 64)), (1, .int d)] := hl
  have k0 : (0 : Int32).toInt = 0 := by decide
  have k1 : (1 : Int32).toInt = 1 := by decide
  have k10 : (10 : Int32).toInt = 10 := by decide
  have k20 : (20 : Int32).toInt = 20 := by decide
  refine lv_iconst (v := 0) hx hb dX11_findHas_0 (by decide) ?_
  refine lv_istore_n (lv' := [(2, .int 0), (0, .ref (md 64)), (1, .int d)]) hx hb dX11_findHas_1 rfl hl (by decide) rfl (fun ls hl => ?_)
  refine st_loop 2 (fun _ => []) (fun (z : Int32 × (Nat → Int32)) (ls : Array Slot) (H : Heap) (locs : List Loc) => match z with | (q2_2, mhq) => (0 ≤ q2_2.toInt) ∧ (q2_2.toInt ≤ 20) ∧ (fhQ ho hc hp hs d hn.toNatClampNeg mhq q2_2.toNatClampNeg 0) ∧ lv_has ls 4 [(0, .ref (md 64)), (1, .int d), (2, .int q2_2)] ∧ va_P D vwCl [(moC md sd mth mst hn cn pn mq gn mln mnn ln mlt msz mcu mtk mfr mti mfa mfb an un lc td mtn), (aI cI (md 7) 40 ho), (aI cI (md 8) 40 hc), (aI cI (md 9) 40 hp), (aI cI (md 10) 40 hs), (aI cI (md 11) 200 mhq)] H ∧ va_D A [(moC md sd mth mst hn cn pn mq gn mln mnn ln mlt msz mcu mtk mfr mti mfa mfb an un lc td mtn), (aI cI (md 7) 40 ho), (aI cI (md 8) 40 hc), (aI cI (md 9) 40 hp), (aI cI (md 10) 40 hs), (aI cI (md 11) 200 mhq)] ∧ va_S A s.heap H locs) (fun (z : Int32 × (Nat → Int32)) => match z with | (q2_2, mhq) => 20 - q2_2.toInt) ?_ ?_ ((0 : Int32), mh) ⟨(by omega), (by omega), (by exact fhQ_0), lv_sub hl [1, 2, 0] rfl, hP, hD, hS⟩
  · rintro ⟨q2_2, mhq⟩ ls H locs ⟨g1, g2, g3, hl, hP, hD, hS⟩
    show (0 : Int) ≤ 20 - q2_2.toInt
    omega
  · rintro n6 ih4 ⟨q2_2, mhq⟩ ls H locs ⟨g1, g2, g3, hl, hP, hD, hS⟩ hm5
    have hm5 : 20 - q2_2.toInt < (n6 : Int) + 1 := hm5
    replace hl : lv_has ls 4 [(0, .ref (md 64)), (1, .int d), (2, .int q2_2)] := hl
    replace hP : va_P D vwCl [(moC md sd mth mst hn cn pn mq gn mln mnn ln mlt msz mcu mtk mfr mti mfa mfb an un lc td mtn), (aI cI (md 7) 40 ho), (aI cI (md 8) 40 hc), (aI cI (md 9) 40 hp), (aI cI (md 10) 40 hs), (aI cI (md 11) 200 mhq)] H := hP
    replace hD : va_D A [(moC md sd mth mst hn cn pn mq gn mln mnn ln mlt msz mcu mtk mfr mti mfa mfb an un lc td mtn), (aI cI (md 7) 40 ho), (aI cI (md 8) 40 hc), (aI cI (md 9) 40 hp), (aI cI (md 10) 40 hs), (aI cI (md 11) 200 mhq)] := hD
    show W _ _ _ _ _ _ _ _ _ _ _ _ _ _ _ (F0 m 2 ls [])
    refine lv_iload_n hx hb dX11_findHas_2 rfl (lv_at hl 2 rfl) ?_
    refine lv_bipush (v := 20) hx hb dX11_findHas_3 (by decide) ?_
    refine lv_icmp_ge (tgt := 59) hx hb dX11_findHas_5 (by decide) (fun c7 => ?_) (fun c7 => ?_)
    · skip
      have f8 := i_le c7
      have ce9 := i_cl (x := q2_2) (by omega)
      have hz9 := g3
      rw [show q2_2.toNatClampNeg = 20 by omega] at hz9
      have hP9 := hP
      have hD9 := hD
      exact W.vret hx hb hr (fun t ht hW => ⟨⟨mhq, rfl, ⟨hz9, okE_of hz9 h3 (by omega) (by omega)⟩, by rw [ht]; exact hP9, va_K.moved hW.alike hK, hD9⟩, hS.F ht⟩) hS.2.2 dX11_findHas_59
    · skip
      have f9 := i_nle c7
      refine lv_bipush (v := 10) hx hb dX11_findHas_8 (by decide) ?_
      refine lv_istore_n (lv' := [(3, .int 10), (0, .ref (md 64)), (1, .int d), (2, .int q2_2)]) hx hb dX11_findHas_10 rfl hl (by decide) rfl (fun ls hl => ?_)
      refine st_loop 11 (fun _ => []) (fun (z : Int32 × (Nat → Int32)) (ls : Array Slot) (H : Heap) (locs : List Loc) => match z with | (q11_3, mhr) => (10 ≤ q11_3.toInt) ∧ (q11_3.toInt ≤ 20) ∧ (fhQ ho hc hp hs d hn.toNatClampNeg mhr q2_2.toNatClampNeg (q11_3.toNatClampNeg - 10)) ∧ lv_has ls 4 [(0, .ref (md 64)), (1, .int d), (2, .int q2_2), (3, .int q11_3)] ∧ va_P D vwCl [(moC md sd mth mst hn cn pn mq gn mln mnn ln mlt msz mcu mtk mfr mti mfa mfb an un lc td mtn), (aI cI (md 7) 40 ho), (aI cI (md 8) 40 hc), (aI cI (md 9) 40 hp), (aI cI (md 10) 40 hs), (aI cI (md 11) 200 mhr)] H ∧ va_D A [(moC md sd mth mst hn cn pn mq gn mln mnn ln mlt msz mcu mtk mfr mti mfa mfb an un lc td mtn), (aI cI (md 7) 40 ho), (aI cI (md 8) 40 hc), (aI cI (md 9) 40 hp), (aI cI (md 10) 40 hs), (aI cI (md 11) 200 mhr)] ∧ va_S A s.heap H locs) (fun (z : Int32 × (Nat → Int32)) => match z with | (q11_3, mhr) => 20 - q11_3.toInt) ?_ ?_ ((10 : Int32), mhq) ⟨(by omega), (by omega), (by exact g3), lv_sub hl [1, 2, 3, 0] rfl, hP, hD, hS⟩
      · rintro ⟨q11_3, mhr⟩ ls H locs ⟨g10, g11, g12, hl, hP, hD, hS⟩
        show (0 : Int) ≤ 20 - q11_3.toInt
        omega
      · rintro n15 ih13 ⟨q11_3, mhr⟩ ls H locs ⟨g10, g11, g12, hl, hP, hD, hS⟩ hm14
        have hm14 : 20 - q11_3.toInt < (n15 : Int) + 1 := hm14
        replace hl : lv_has ls 4 [(0, .ref (md 64)), (1, .int d), (2, .int q2_2), (3, .int q11_3)] := hl
        replace hP : va_P D vwCl [(moC md sd mth mst hn cn pn mq gn mln mnn ln mlt msz mcu mtk mfr mti mfa mfb an un lc td mtn), (aI cI (md 7) 40 ho), (aI cI (md 8) 40 hc), (aI cI (md 9) 40 hp), (aI cI (md 10) 40 hs), (aI cI (md 11) 200 mhr)] H := hP
        replace hD : va_D A [(moC md sd mth mst hn cn pn mq gn mln mnn ln mlt msz mcu mtk mfr mti mfa mfb an un lc td mtn), (aI cI (md 7) 40 ho), (aI cI (md 8) 40 hc), (aI cI (md 9) 40 hp), (aI cI (md 10) 40 hs), (aI cI (md 11) 200 mhr)] := hD
        show W _ _ _ _ _ _ _ _ _ _ _ _ _ _ _ (F0 m 11 ls [])
        refine lv_iload_n hx hb dX11_findHas_11 rfl (lv_at hl 3 rfl) ?_
        refine lv_bipush (v := 20) hx hb dX11_findHas_12 (by decide) ?_
        refine lv_icmp_ge (tgt := 53) hx hb dX11_findHas_14 (by decide) (fun c16 => ?_) (fun c16 => ?_)
        · skip
          have f17 := i_le c16
          obtain ⟨v18, ev18⟩ : ∃ y : Int32, y = q2_2 + 1 := ⟨_, rfl⟩
          try have tv18 : v18.toInt = q2_2.toInt + 1 := by rw [ev18]; exact (i_add (x := q2_2) (y := (1 : Int32)) (by rw [k1]; omega) (by rw [k1]; omega)).trans (by rw [k1])
          refine lv_iinc (v := v18) (lv' := [(2, .int v18), (0, .ref (md 64)), (1, .int d), (3, .int q11_3)]) hx hb dX11_findHas_53 hl (k := 2) rfl (by rw [ev18]; rfl) (by decide) rfl (fun ls hl => ?_)
          refine lv_goto (tgt := 2) hx hb dX11_findHas_56 (by decide) ?_
          have clc19 := i_cl (x := q2_2) (by omega)
          have clc20 := i_cl (x := q11_3) (by omega)
          have clc21 := i_cl (x := v18) (by omega)
          exact ih4 (v18, mhr) ls H locs ⟨(by omega), (by omega), (by exact fhQ_nx (O := q2_2.toNatClampNeg) (by have h9 := g12; rw [show q11_3.toNatClampNeg - 10 = 10 by omega] at h9; exact h9) (by omega)), lv_sub hl [1, 2, 0] rfl, hP.sub [0, 1, 2, 3, 4, 5] rfl, hD.sub [0, 1, 2, 3, 4, 5] (by decide +kernel) rfl, hS⟩ (by show 20 - v18.toInt < _; omega)
        · skip
          have f22 := i_nle c16
          refine lv_aload_n hx hb dX11_findHas_17 rfl (lv_at hl 0 rfl) ?_
          refine va_get (D := D) (ci := 11) (v := .ref (md 11)) (C := RX11) (T := TX11) (N := 64) hx hb hts inX11_findHas_X11 hown hK hP 0 rfl rfl 11 (by decide) (hts (Cond.fieldLink RX11 35 "PortRoomsModel" "has" "[I") (wm_t (wm_l (wm_i 0 rfl)))) (fun _ h9 => h9) rfl dX11_findHas_18 ?_
          refine lv_bipush (v := 10) hx hb dX11_findHas_21 (by decide) ?_
          refine lv_iload_n hx hb dX11_findHas_23 rfl (lv_at hl 2 rfl) ?_
          refine lv_imul hx hb dX11_findHas_24 ?_
          refine lv_topi (fun v23 ev23 => ?_)
          try have tv23 : v23.toInt = 10 * q2_2.toInt := by rw [ev23]; exact (i_mul (x := (10 : Int32)) (y := q2_2) (by rw [k10]; omega) (by rw [k10]; omega)).trans (by rw [k10])
          refine lv_iload_n hx hb dX11_findHas_25 rfl (lv_at hl 3 rfl) ?_
          refine lv_iadd hx hb dX11_findHas_26 ?_
          refine lv_topi (fun v24 ev24 => ?_)
          try have tv24 : v24.toInt = v23.toInt + q11_3.toInt := by rw [ev24]; exact (i_add (x := v23) (y := q11_3) (by omega) (by omega))
          refine lv_bipush (v := 10) hx hb dX11_findHas_27 (by decide) ?_
          refine lv_isub hx hb dX11_findHas_29 ?_
          refine lv_topi (fun v25 ev25 => ?_)
          try have tv25 : v25.toInt = v24.toInt - 10 := by rw [ev25]; exact (i_sub (x := v24) (y := (10 : Int32)) (by rw [k10]; omega) (by rw [k10]; omega)).trans (by rw [k10])
          refine lv_iload_n hx hb dX11_findHas_30 rfl (lv_at hl 2 rfl) ?_
          refine lv_iload_n hx hb dX11_findHas_31 rfl (lv_at hl 3 rfl) ?_
          refine lv_icmp_ne (tgt := 39) hx hb dX11_findHas_32 (by decide) (fun c26 => ?_) (fun c26 => ?_)
          · skip
            have f27 := i_ne c26
            refine lv_aload_n hx hb dX11_findHas_39 rfl (lv_at hl 0 rfl) ?_
            refine lv_iload_n hx hb dX11_findHas_40 rfl (lv_at hl 2 rfl) ?_
            refine lv_iload_n hx hb dX11_findHas_41 rfl (lv_at hl 3 rfl) ?_
            refine lv_iload_n hx hb dX11_findHas_42 rfl (lv_at hl 1 rfl) ?_
            refine st_i1 (va_runV (C := RX11) (As := [.int q2_2, .int q11_3, .int d]) (rest := [.int v25, .ref (md 11)]) ⟨hx, hb, hml, hown, hts⟩ (ct_X11_percentOf l D cI cY cJ cQ _ md sd mth mst hn cn pn mq gn mln mnn ln mlt msz mcu mtk mfr mti mfa mfb an un lc td mtn ho hc hp hs q2_2 q11_3 d h1 h2) (cwV 3 hts gX11_findHas_X11_percentOf rfl rfl rfl ⟨rfl, cdX11_percentOf⟩ ⟨Nat.le_of_ble_eq_true rfl, Nat.le_of_ble_eq_true rfl⟩) (cPreV (hP.sub [0, 1, 2, 3, 4] rfl) hK (hD.sub [0, 1, 2, 3, 4] (by decide +kernel) rfl) hN (ci := 11) (q0 := 0) rfl rfl) rfl rfl hl.1 rfl (lv_room (Nat.le_of_ble_eq_true rfl)) dX11_findHas_43 ⟨Nat.le_of_ble_eq_true rfl, Nat.le_of_ble_eq_true rfl⟩) hP hD hS hA [0, 1, 2, 3, 4] rfl (fun _ => rfl) (fun r30 u28 H locs hw29 => ?_)
            clear hP hS
            intro hP hS
            replace hw29 : r30 = pmV ho hc hp hs d q2_2 q11_3 hn.toNatClampNeg := hw29
            subst hw29
            refine va_iast hx hb hK hP hD hS 5 0 rfl rfl (i_in (by omega) (by omega)) dX11_findHas_46 (fun H locs => ?_)
            clear hP hD hS
            intro hP hD hS
            replace hP : va_P D vwCl [(moC md sd mth mst hn cn pn mq gn mln mnn ln mlt msz mcu mtk mfr mti mfa mfb an un lc td mtn), (aI cI (md 7) 40 ho), (aI cI (md 8) 40 hc), (aI cI (md 9) 40 hp), (aI cI (md 10) 40 hs), (aI cI (md 11) 200 (upd mhr v25.toNatClampNeg (pmV ho hc hp hs d q2_2 q11_3 hn.toNatClampNeg)))] H := hP
            replace hD : va_D A [(moC md sd mth mst hn cn pn mq gn mln mnn ln mlt msz mcu mtk mfr mti mfa mfb an un lc td mtn), (aI cI (md 7) 40 ho), (aI cI (md 8) 40 hc), (aI cI (md 9) 40 hp), (aI cI (md 10) 40 hs), (aI cI (md 11) 200 (upd mhr v25.toNatClampNeg (pmV ho hc hp hs d q2_2 q11_3 hn.toNatClampNeg)))] := hD
            obtain ⟨v31, ev31⟩ : ∃ y : Int32, y = q11_3 + 1 := ⟨_, rfl⟩
            try have tv31 : v31.toInt = q11_3.toInt + 1 := by rw [ev31]; exact (i_add (x := q11_3) (y := (1 : Int32)) (by rw [k1]; omega) (by rw [k1]; omega)).trans (by rw [k1])
            refine lv_iinc (v := v31) (lv' := [(3, .int v31), (0, .ref (md 64)), (1, .int d), (2, .int q2_2)]) hx hb dX11_findHas_47 hl (k := 3) rfl (by rw [ev31]; rfl) (by decide) rfl (fun ls hl => ?_)
            refine lv_goto (tgt := 11) hx hb dX11_findHas_50 (by decide) ?_
            have clc32 := i_cl (x := q2_2) (by omega)
            have clc33 := i_cl (x := q11_3) (by omega)
            have clc34 := i_cl (x := v31) (by omega)
            have clc35 := i_cl (x := v25) (by omega)
            have n1 : nI q2_2.toNatClampNeg = q2_2 := i_nI (by omega)
            have n2 : nI (q11_3.toNatClampNeg - 10 + 10) = q11_3 := by rw [show q11_3.toNatClampNeg - 10 + 10 = q11_3.toNatClampNeg by omega]; exact i_nI (by omega)
            exact ih13 (v31, upd mhr v25.toNatClampNeg (pmV ho hc hp hs d q2_2 q11_3 hn.toNatClampNeg)) ls H locs ⟨(by omega), (by omega), (by rw [show v31.toNatClampNeg - 10 = (q11_3.toNatClampNeg - 10) + 1 by omega]; exact fhQ_up (C := q11_3.toNatClampNeg - 10) g12 (by omega) (by omega) rfl (by unfold pmF; rw [if_neg (by omega), n1, n2])), lv_sub hl [1, 2, 3, 0] rfl, hP.sub [0, 1, 2, 3, 4, 5] rfl, hD.sub [0, 1, 2, 3, 4, 5] (by decide +kernel) rfl, hS⟩ (by show 20 - v31.toInt < _; omega)
          · skip
            have f36 := i_eq c26
            refine lv_iconst (v := 0) hx hb dX11_findHas_35 (by decide) ?_
            refine lv_goto (tgt := 46) hx hb dX11_findHas_36 (by decide) ?_
            refine va_iast hx hb hK hP hD hS 5 0 rfl rfl (i_in (by omega) (by omega)) dX11_findHas_46 (fun H locs => ?_)
            clear hP hD hS
            intro hP hD hS
            replace hP : va_P D vwCl [(moC md sd mth mst hn cn pn mq gn mln mnn ln mlt msz mcu mtk mfr mti mfa mfb an un lc td mtn), (aI cI (md 7) 40 ho), (aI cI (md 8) 40 hc), (aI cI (md 9) 40 hp), (aI cI (md 10) 40 hs), (aI cI (md 11) 200 (upd mhr v25.toNatClampNeg 0))] H := hP
            replace hD : va_D A [(moC md sd mth mst hn cn pn mq gn mln mnn ln mlt msz mcu mtk mfr mti mfa mfb an un lc td mtn), (aI cI (md 7) 40 ho), (aI cI (md 8) 40 hc), (aI cI (md 9) 40 hp), (aI cI (md 10) 40 hs), (aI cI (md 11) 200 (upd mhr v25.toNatClampNeg 0))] := hD
            obtain ⟨v37, ev37⟩ : ∃ y : Int32, y = q11_3 + 1 := ⟨_, rfl⟩
            try have tv37 : v37.toInt = q11_3.toInt + 1 := by rw [ev37]; exact (i_add (x := q11_3) (y := (1 : Int32)) (by rw [k1]; omega) (by rw [k1]; omega)).trans (by rw [k1])
            refine lv_iinc (v := v37) (lv' := [(3, .int v37), (0, .ref (md 64)), (1, .int d), (2, .int q2_2)]) hx hb dX11_findHas_47 hl (k := 3) rfl (by rw [ev37]; rfl) (by decide) rfl (fun ls hl => ?_)
            refine lv_goto (tgt := 11) hx hb dX11_findHas_50 (by decide) ?_
            have clc38 := i_cl (x := q2_2) (by omega)
            have clc39 := i_cl (x := q11_3) (by omega)
            have clc40 := i_cl (x := v37) (by omega)
            have clc41 := i_cl (x := v25) (by omega)
            have n1 : nI q2_2.toNatClampNeg = q2_2 := i_nI (by omega)
            have n2 : nI (q11_3.toNatClampNeg - 10 + 10) = q11_3 := by rw [show q11_3.toNatClampNeg - 10 + 10 = q11_3.toNatClampNeg by omega]; exact i_nI (by omega)
            exact ih13 (v37, upd mhr v25.toNatClampNeg 0) ls H locs ⟨(by omega), (by omega), (by rw [show v37.toNatClampNeg - 10 = (q11_3.toNatClampNeg - 10) + 1 by omega]; exact fhQ_up (C := q11_3.toNatClampNeg - 10) g12 (by omega) (by omega) rfl (by unfold pmF; rw [if_pos (by omega)]; decide)), lv_sub hl [1, 2, 3, 0] rfl, hP.sub [0, 1, 2, 3, 4, 5] rfl, hD.sub [0, 1, 2, 3, 4, 5] (by decide +kernel) rfl, hS⟩ (by show 20 - v37.toInt < _; omega)
