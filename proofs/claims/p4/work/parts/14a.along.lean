theorem cdX3_along : yX3_along.cls ≠ "java/lang/invoke/MethodHandle" ∧ yX3_along.cls ≠ "java/lang/invoke/VarHandle" ∧ (parseMethodDescriptor yX3_along.desc).map (fun d => d.parameters.length) = some 6 := by decide +kernel
theorem Gd_X3_along : gdA wsX3_along := gd_cons (by decide +kernel) (gd_app (gd_all (ws := wsX3_along_o1) (by decide +kernel)) (gd_app (gd_app Gd_X30 Gd_X10_hasBit) Gd_X3_partOf))
theorem inX3_along_X3 : ∀ w ∈ u_ws RX3 TX3 9, w ∈ wsX3_along := fun _ h => (List.mem_cons_of_mem _ (List.mem_append_right _ (List.mem_append_left _ (List.mem_append_left _ h))))
theorem ggX3_along_X10_hasBit : GoodIn wsX3_along wsX10_hasBit := goodIn_s (fun _ h => wm_t (wm_r (wm_l (wm_r h)))) Gd_X10_hasBit
set_option maxRecDepth 20000 in
theorem gX3_along_X10_hasBit_n62 : GoodIn wsX3_along (wsX10_hasBit) := ggX3_along_X10_hasBit
theorem ggX3_along_X3_partOf : GoodIn wsX3_along wsX3_partOf := goodIn_s (fun _ h => wm_t (wm_r (wm_r h))) Gd_X3_partOf
theorem gX3_along_X3_partOf : GoodIn wsX3_along (wsV RX3 83 RX3 yX3_partOf wsX3_partOf) := goodIn_V (own := RX3) (idx := 83) (C := RX3) (y := yX3_partOf) (wm_t (wm_l (wm_i 3 rfl))) (wm_t (wm_l (wm_i 4 rfl))) (wm_t (wm_l (wm_i 5 rfl))) (wm_t (wm_l (wm_i 6 rfl))) ggX3_along_X3_partOf
theorem ggX3_along_X3_along : GoodIn wsX3_along wsX3_along := goodIn_s (fun _ h => h) Gd_X3_along
theorem gX3_along_X3_along : GoodIn wsX3_along (va_wsS RX3 71 yX3_along wsX3_along) := goodIn_S (own := RX3) (idx := 71) (y := yX3_along) (wm_t (wm_l (wm_i 7 rfl))) (wm_t (wm_l (wm_i 8 rfl))) (wm_t (wm_l (wm_i 6 rfl))) ggX3_along_X3_along
theorem dX3_along_all0 : decode cX3_along 0 = .ok (.aload_n 0, 1) ∧ decode cX3_along 1 = .ok (.getfield 30, 3) ∧ decode cX3_along 4 = .ok (.iload_n 1, 1) ∧ decode cX3_along 5 = .ok (.iaload, 1) ∧ decode cX3_along 6 = .ok (.iload 4, 2) ∧ decode cX3_along 8 = .ok (.iand, 1) ∧ decode cX3_along 9 = .ok (.istore 6, 2) ∧ decode cX3_along 11 = .ok (.iload 6, 2) ∧ decode cX3_along 13 = .ok (.ifCond .eq 14, 3) ∧ decode cX3_along 16 = .ok (.iload_n 3, 1) ∧ decode cX3_along 17 = .ok (.ifCond .eq 10, 3) ∧ decode cX3_along 20 = .ok (.iload 5, 2) := by decide +kernel
theorem dX3_along_0 : decode cX3_along 0 = .ok (.aload_n 0, 1) := dX3_along_all0.1
theorem dX3_along_1 : decode cX3_along 1 = .ok (.getfield 30, 3) := dX3_along_all0.2.1
theorem dX3_along_4 : decode cX3_along 4 = .ok (.iload_n 1, 1) := dX3_along_all0.2.2.1
theorem dX3_along_5 : decode cX3_along 5 = .ok (.iaload, 1) := dX3_along_all0.2.2.2.1
theorem dX3_along_6 : decode cX3_along 6 = .ok (.iload 4, 2) := dX3_along_all0.2.2.2.2.1
theorem dX3_along_8 : decode cX3_along 8 = .ok (.iand, 1) := dX3_along_all0.2.2.2.2.2.1
theorem dX3_along_9 : decode cX3_along 9 = .ok (.istore 6, 2) := dX3_along_all0.2.2.2.2.2.2.1
theorem dX3_along_11 : decode cX3_along 11 = .ok (.iload 6, 2) := dX3_along_all0.2.2.2.2.2.2.2.1
theorem dX3_along_13 : decode cX3_along 13 = .ok (.ifCond .eq 14, 3) := dX3_along_all0.2.2.2.2.2.2.2.2.1
theorem dX3_along_16 : decode cX3_along 16 = .ok (.iload_n 3, 1) := dX3_along_all0.2.2.2.2.2.2.2.2.2.1
theorem dX3_along_17 : decode cX3_along 17 = .ok (.ifCond .eq 10, 3) := dX3_along_all0.2.2.2.2.2.2.2.2.2.2.1
theorem dX3_along_20 : decode cX3_along 20 = .ok (.iload 5, 2) := dX3_along_all0.2.2.2.2.2.2.2.2.2.2.2
theorem dX3_along_all1 : decode cX3_along 22 = .ok (.bipush 10, 2) ∧ decode cX3_along 24 = .ok (.if_icmp .le 5, 3) ∧ decode cX3_along 27 = .ok (.lconst 0, 1) ∧ decode cX3_along 28 = .ok (.lreturn, 1) ∧ decode cX3_along 29 = .ok (.lconst 0, 1) ∧ decode cX3_along 30 = .ok (.lstore 7, 2) ∧ decode cX3_along 32 = .ok (.iconst 0, 1) ∧ decode cX3_along 33 = .ok (.istore 9, 2) ∧ decode cX3_along 35 = .ok (.iload 9, 2) ∧ decode cX3_along 37 = .ok (.bipush 10, 2) ∧ decode cX3_along 39 = .ok (.if_icmp .ge 86, 3) ∧ decode cX3_along 42 = .ok (.iload 6, 2) := by decide +kernel
theorem dX3_along_22 : decode cX3_along 22 = .ok (.bipush 10, 2) := dX3_along_all1.1
theorem dX3_along_24 : decode cX3_along 24 = .ok (.if_icmp .le 5, 3) := dX3_along_all1.2.1
theorem dX3_along_27 : decode cX3_along 27 = .ok (.lconst 0, 1) := dX3_along_all1.2.2.1
theorem dX3_along_28 : decode cX3_along 28 = .ok (.lreturn, 1) := dX3_along_all1.2.2.2.1
theorem dX3_along_29 : decode cX3_along 29 = .ok (.lconst 0, 1) := dX3_along_all1.2.2.2.2.1
theorem dX3_along_30 : decode cX3_along 30 = .ok (.lstore 7, 2) := dX3_along_all1.2.2.2.2.2.1
theorem dX3_along_32 : decode cX3_along 32 = .ok (.iconst 0, 1) := dX3_along_all1.2.2.2.2.2.2.1
theorem dX3_along_33 : decode cX3_along 33 = .ok (.istore 9, 2) := dX3_along_all1.2.2.2.2.2.2.2.1
theorem dX3_along_35 : decode cX3_along 35 = .ok (.iload 9, 2) := dX3_along_all1.2.2.2.2.2.2.2.2.1
theorem dX3_along_37 : decode cX3_along 37 = .ok (.bipush 10, 2) := dX3_along_all1.2.2.2.2.2.2.2.2.2.1
theorem dX3_along_39 : decode cX3_along 39 = .ok (.if_icmp .ge 86, 3) := dX3_along_all1.2.2.2.2.2.2.2.2.2.2.1
theorem dX3_along_42 : decode cX3_along 42 = .ok (.iload 6, 2) := dX3_along_all1.2.2.2.2.2.2.2.2.2.2.2
theorem dX3_along_all2 : decode cX3_along 44 = .ok (.iload 9, 2) ∧ decode cX3_along 46 = .ok (.iushr, 1) ∧ decode cX3_along 47 = .ok (.ifCond .eq 78, 3) ∧ decode cX3_along 50 = .ok (.iload 6, 2) ∧ decode cX3_along 52 = .ok (.iload 9, 2) ∧ decode cX3_along 54 = .ok (.invokestatic 62, 3) ∧ decode cX3_along 57 = .ok (.ifCond .eq 62, 3) ∧ decode cX3_along 60 = .ok (.iload_n 3, 1) ∧ decode cX3_along 61 = .ok (.aload_n 0, 1) ∧ decode cX3_along 62 = .ok (.iload_n 1, 1) ∧ decode cX3_along 63 = .ok (.bipush 10, 2) ∧ decode cX3_along 65 = .ok (.iload 9, 2) := by decide +kernel
theorem dX3_along_44 : decode cX3_along 44 = .ok (.iload 9, 2) := dX3_along_all2.1
theorem dX3_along_46 : decode cX3_along 46 = .ok (.iushr, 1) := dX3_along_all2.2.1
theorem dX3_along_47 : decode cX3_along 47 = .ok (.ifCond .eq 78, 3) := dX3_along_all2.2.2.1
theorem dX3_along_50 : decode cX3_along 50 = .ok (.iload 6, 2) := dX3_along_all2.2.2.2.1
theorem dX3_along_52 : decode cX3_along 52 = .ok (.iload 9, 2) := dX3_along_all2.2.2.2.2.1
theorem dX3_along_54 : decode cX3_along 54 = .ok (.invokestatic 62, 3) := dX3_along_all2.2.2.2.2.2.1
theorem dX3_along_57 : decode cX3_along 57 = .ok (.ifCond .eq 62, 3) := dX3_along_all2.2.2.2.2.2.2.1
theorem dX3_along_60 : decode cX3_along 60 = .ok (.iload_n 3, 1) := dX3_along_all2.2.2.2.2.2.2.2.1
theorem dX3_along_61 : decode cX3_along 61 = .ok (.aload_n 0, 1) := dX3_along_all2.2.2.2.2.2.2.2.2.1
theorem dX3_along_62 : decode cX3_along 62 = .ok (.iload_n 1, 1) := dX3_along_all2.2.2.2.2.2.2.2.2.2.1
theorem dX3_along_63 : decode cX3_along 63 = .ok (.bipush 10, 2) := dX3_along_all2.2.2.2.2.2.2.2.2.2.2.1
theorem dX3_along_65 : decode cX3_along 65 = .ok (.iload 9, 2) := dX3_along_all2.2.2.2.2.2.2.2.2.2.2.2
theorem dX3_along_all3 : decode cX3_along 67 = .ok (.iadd, 1) ∧ decode cX3_along 68 = .ok (.invokevirtual 83, 3) ∧ decode cX3_along 71 = .ok (.imul, 1) ∧ decode cX3_along 72 = .ok (.bipush 100, 2) ∧ decode cX3_along 74 = .ok (.idiv, 1) ∧ decode cX3_along 75 = .ok (.istore 10, 2) ∧ decode cX3_along 77 = .ok (.lload 7, 2) ∧ decode cX3_along 79 = .ok (.iload 9, 2) ∧ decode cX3_along 81 = .ok (.iload_n 2, 1) ∧ decode cX3_along 82 = .ok (.if_icmp .ne 9, 3) ∧ decode cX3_along 85 = .ok (.iload 10, 2) ∧ decode cX3_along 87 = .ok (.i2l, 1) := by decide +kernel
theorem dX3_along_67 : decode cX3_along 67 = .ok (.iadd, 1) := dX3_along_all3.1
theorem dX3_along_68 : decode cX3_along 68 = .ok (.invokevirtual 83, 3) := dX3_along_all3.2.1
theorem dX3_along_71 : decode cX3_along 71 = .ok (.imul, 1) := dX3_along_all3.2.2.1
theorem dX3_along_72 : decode cX3_along 72 = .ok (.bipush 100, 2) := dX3_along_all3.2.2.2.1
theorem dX3_along_74 : decode cX3_along 74 = .ok (.idiv, 1) := dX3_along_all3.2.2.2.2.1
theorem dX3_along_75 : decode cX3_along 75 = .ok (.istore 10, 2) := dX3_along_all3.2.2.2.2.2.1
theorem dX3_along_77 : decode cX3_along 77 = .ok (.lload 7, 2) := dX3_along_all3.2.2.2.2.2.2.1
theorem dX3_along_79 : decode cX3_along 79 = .ok (.iload 9, 2) := dX3_along_all3.2.2.2.2.2.2.2.1
theorem dX3_along_81 : decode cX3_along 81 = .ok (.iload_n 2, 1) := dX3_along_all3.2.2.2.2.2.2.2.2.1
theorem dX3_along_82 : decode cX3_along 82 = .ok (.if_icmp .ne 9, 3) := dX3_along_all3.2.2.2.2.2.2.2.2.2.1
theorem dX3_along_85 : decode cX3_along 85 = .ok (.iload 10, 2) := dX3_along_all3.2.2.2.2.2.2.2.2.2.2.1
theorem dX3_along_87 : decode cX3_along 87 = .ok (.i2l, 1) := dX3_along_all3.2.2.2.2.2.2.2.2.2.2.2
theorem dX3_along_all4 : decode cX3_along 88 = .ok (.goto 28, 3) ∧ decode cX3_along 91 = .ok (.aload_n 0, 1) ∧ decode cX3_along 92 = .ok (.bipush 10, 2) ∧ decode cX3_along 94 = .ok (.iload 9, 2) ∧ decode cX3_along 96 = .ok (.iadd, 1) ∧ decode cX3_along 97 = .ok (.iload_n 2, 1) ∧ decode cX3_along 98 = .ok (.iload 10, 2) ∧ decode cX3_along 100 = .ok (.iload 4, 2) ∧ decode cX3_along 102 = .ok (.iconst 1, 1) ∧ decode cX3_along 103 = .ok (.iload 9, 2) ∧ decode cX3_along 105 = .ok (.ishl, 1) ∧ decode cX3_along 106 = .ok (.iconst (-1), 1) := by decide +kernel
theorem dX3_along_88 : decode cX3_along 88 = .ok (.goto 28, 3) := dX3_along_all4.1
theorem dX3_along_91 : decode cX3_along 91 = .ok (.aload_n 0, 1) := dX3_along_all4.2.1
theorem dX3_along_92 : decode cX3_along 92 = .ok (.bipush 10, 2) := dX3_along_all4.2.2.1
theorem dX3_along_94 : decode cX3_along 94 = .ok (.iload 9, 2) := dX3_along_all4.2.2.2.1
theorem dX3_along_96 : decode cX3_along 96 = .ok (.iadd, 1) := dX3_along_all4.2.2.2.2.1
theorem dX3_along_97 : decode cX3_along 97 = .ok (.iload_n 2, 1) := dX3_along_all4.2.2.2.2.2.1
theorem dX3_along_98 : decode cX3_along 98 = .ok (.iload 10, 2) := dX3_along_all4.2.2.2.2.2.2.1
theorem dX3_along_100 : decode cX3_along 100 = .ok (.iload 4, 2) := dX3_along_all4.2.2.2.2.2.2.2.1
theorem dX3_along_102 : decode cX3_along 102 = .ok (.iconst 1, 1) := dX3_along_all4.2.2.2.2.2.2.2.2.1
theorem dX3_along_103 : decode cX3_along 103 = .ok (.iload 9, 2) := dX3_along_all4.2.2.2.2.2.2.2.2.2.1
theorem dX3_along_105 : decode cX3_along 105 = .ok (.ishl, 1) := dX3_along_all4.2.2.2.2.2.2.2.2.2.2.1
theorem dX3_along_106 : decode cX3_along 106 = .ok (.iconst (-1), 1) := dX3_along_all4.2.2.2.2.2.2.2.2.2.2.2
theorem dX3_along_all5 : decode cX3_along 107 = .ok (.ixor, 1) ∧ decode cX3_along 108 = .ok (.iand, 1) ∧ decode cX3_along 109 = .ok (.iload 5, 2) ∧ decode cX3_along 111 = .ok (.iconst 1, 1) ∧ decode cX3_along 112 = .ok (.iadd, 1) ∧ decode cX3_along 113 = .ok (.invokestatic 71, 3) ∧ decode cX3_along 116 = .ok (.ladd, 1) ∧ decode cX3_along 117 = .ok (.lstore 7, 2) ∧ decode cX3_along 119 = .ok (.iinc 9 1, 3) ∧ decode cX3_along 122 = .ok (.goto (-87), 3) ∧ decode cX3_along 125 = .ok (.lload 7, 2) ∧ decode cX3_along 127 = .ok (.lreturn, 1) := by decide +kernel
theorem dX3_along_107 : decode cX3_along 107 = .ok (.ixor, 1) := dX3_along_all5.1
theorem dX3_along_108 : decode cX3_along 108 = .ok (.iand, 1) := dX3_along_all5.2.1
theorem dX3_along_109 : decode cX3_along 109 = .ok (.iload 5, 2) := dX3_along_all5.2.2.1
theorem dX3_along_111 : decode cX3_along 111 = .ok (.iconst 1, 1) := dX3_along_all5.2.2.2.1
theorem dX3_along_112 : decode cX3_along 112 = .ok (.iadd, 1) := dX3_along_all5.2.2.2.2.1
theorem dX3_along_113 : decode cX3_along 113 = .ok (.invokestatic 71, 3) := dX3_along_all5.2.2.2.2.2.1
theorem dX3_along_116 : decode cX3_along 116 = .ok (.ladd, 1) := dX3_along_all5.2.2.2.2.2.2.1
theorem dX3_along_117 : decode cX3_along 117 = .ok (.lstore 7, 2) := dX3_along_all5.2.2.2.2.2.2.2.1
theorem dX3_along_119 : decode cX3_along 119 = .ok (.iinc 9 1, 3) := dX3_along_all5.2.2.2.2.2.2.2.2.1
theorem dX3_along_122 : decode cX3_along 122 = .ok (.goto (-87), 3) := dX3_along_all5.2.2.2.2.2.2.2.2.2.1
theorem dX3_along_125 : decode cX3_along 125 = .ok (.lload 7, 2) := dX3_along_all5.2.2.2.2.2.2.2.2.2.2.1
theorem dX3_along_127 : decode cX3_along 127 = .ok (.lreturn, 1) := dX3_along_all5.2.2.2.2.2.2.2.2.2.2.2
set_option maxHeartbeats 4000000 in
set_option maxRecDepth 100000 in
theorem ct_X3_along_0 (l : Launch) (D : va_G) (cI cY cJ cQ : ClassId) (sz : Nat) (ad : Nat → Nat) (hn : Int32) (pt ha : Nat → Int32) (q o v f d : Int32)  (h1 : 0 ≤ q.toInt) (h2 : q.toInt < 20) (h3 : d.toInt = 11 - ((0 : Nat) : Int)) (h4 : okA pt ha) (h5 : 0 ≤ v.toInt) (h6 : v.toInt ≤ 1000000) (h7 : 0 ≤ o.toInt) (h8 : (0 : Nat) ≤ 11) : Met l yX3_along wsX3_along ({ frames := 0 + 2, cells := 0, slots := 0, locals := 30 * 0 + 60 }) (cPre D (ty4 cI cY cJ cQ) [(oC3 ad hn), (aI cI (ad 27) 200 pt), (aI cI (ad 29) 20 ha)] sz [.ref (ad 2), .int q, .int o, .int v, .int f, .int d]) (va_Ql (fun (r : Int64) (u : Unit) => r.toInt = alG (ptF pt) o.toNatClampNeg 0 q.toNatClampNeg v.toInt (fun x9 => bt f x9)) (cB D (ty4 cI cY cJ cQ) (fun (u : Unit) => [(oC3 ad hn), (aI cI (ad 27) 200 pt), (aI cI (ad 29) 20 ha)]) (va_A [(oC3 ad hn), (aI cI (ad 27) 200 pt), (aI cI (ad 29) 20 ha)] sz)) (va_A [(oC3 ad hn), (aI cI (ad 27) 200 pt), (aI cI (ad 29) 20 ha)] sz)) 0 0 (va_A [(oC3 ad hn), (aI cI (ad 27) 200 pt), (aI cI (ad 29) 20 ha)] sz) := by
  refine Met.ofW (cc := cX3_along) (maxL := 11) (ret := (some .long)) (by decide) rfl ?_
  intro p e s m args below meth c s₁ B hml hv
  obtain ⟨rfl, hsz, hP, hK, hD0, hN⟩ := hv
  have hx := B.exec
  have hb := B.bytes
  have hr := B.returns
  have hts := atoms_spec (ws := wsX3_along) B.pre
  have hown : s.vm.findClass RX3 = some m.cls := findClass_of_methodNamed B.named
  have hlocks := B.notSynchronized
  subst hsz
  have hD := hD0.self (sz := s.heap.size)
  generalize hAe : va_A [(oC3 ad hn), (aI cI (ad 27) 200 pt), (aI cI (ad 29) 20 ha)] s.heap.size = A at hD ⊢
  have hA : ∀ q : Nat, s.heap.size ≤ q → A q := fun q h => by rw [← hAe]; exact Or.inr h
  have hS : va_S A s.heap s.heap [] := va_S.rf
  have hP : va_P D vwCl [(oC3 ad hn), (aI cI (ad 27) 200 pt), (aI cI (ad 29) 20 ha)] s.heap := hP
  have hl := lv_entry ([.ref (ad 2), .int q, .int o, .int v, .int f, .int d]) (n := 11) (Nat.le_of_ble_eq_true rfl)
  rw [lg_entry_eq]
  generalize (lg_sl ([.ref (ad 2), .int q, .int o, .int v, .int f, .int d]) ++ List.replicate (11 - (lg_sl ([.ref (ad 2), .int q, .int o, .int v, .int f, .int d])).length) Slot.unset).toArray = ls at hl ⊢
  have hl : lv_has ls 11 [(0, .ref (ad 2)), (1, .int q), (2, .int o), (3, .int v), (4, .int f), (5, .int d)] := hl
  have k0 : (0 : Int32).toInt = 0 := by decide
  have k10 : (10 : Int32).toInt = 10 := by decide
  have hd9 := i_rng d
  refine lv_aload_n hx hb dX3_along_0 rfl (lv_at hl 0 rfl) ?_
  refine va_get (D := D) (ci := 3) (v := .ref (ad 29)) (C := RX3) (T := TX3) (N := 9) hx hb hts inX3_along_X3 hown hK hP 0 rfl rfl 7 (by decide) (hts (Cond.fieldLink RX3 30 "PortRooms$Holdings" "has" "[I") (wm_t (wm_l (wm_i 0 rfl)))) (fun _ h9 => h9) rfl dX3_along_1 ?_
  refine lv_iload_n hx hb dX3_along_4 rfl (lv_at hl 1 rfl) ?_
  refine va_iald hx hb hK hP 2 0 rfl rfl (i_in (by omega) (by omega)) dX3_along_5 ?_
  refine lv_topi (fun v1 ev1 => ?_)
  have tlv1 : v1.toInt = (ha q.toNatClampNeg).toInt := by rw [ev1]
  refine lv_iload hx hb dX3_along_6 (lv_at hl 4 rfl) ?_
  refine lv_iand hx hb dX3_along_8 ?_
  refine lv_topi (fun v2 ev2 => ?_)
  refine lv_istore (lv' := [(6, .int v2), (0, .ref (ad 2)), (1, .int q), (2, .int o), (3, .int v), (4, .int f), (5, .int d)]) hx hb dX3_along_9 hl (by decide) rfl (fun ls hl => ?_)
  refine lv_iload hx hb dX3_along_11 (lv_at hl 0 rfl) ?_
  refine lv_if_eq (tgt := 27) hx hb dX3_along_13 (by decide) (fun c3 => ?_) (fun c3 => ?_)
  · skip
    have f4 := i_eq c3
    refine lv_lconst (v := 0) hx hb dX3_along_27 (by decide) ?_
    have hP9 := hP
    have hD9 := hD
    exact W.lret (v := 0) hx hb hr (fun t ht hW => ⟨⟨0, (), rfl, (by rw [alG_z]; decide), by rw [ht]; exact hP9, va_K.moved hW.alike hK, hD9⟩, hS.F ht⟩) hS.2.2 dX3_along_28
  · skip
    have f5 := i_ne c3
    refine lv_iload_n hx hb dX3_along_16 rfl (lv_at hl 4 rfl) ?_
    refine lv_if_eq (tgt := 27) hx hb dX3_along_17 (by decide) (fun c6 => ?_) (fun c6 => ?_)
    · skip
      have f7 := i_eq c6
      refine lv_lconst (v := 0) hx hb dX3_along_27 (by decide) ?_
      have hP9 := hP
      have hD9 := hD
      exact W.lret (v := 0) hx hb hr (fun t ht hW => ⟨⟨0, (), rfl, (by rw [alG_z]; decide), by rw [ht]; exact hP9, va_K.moved hW.alike hK, hD9⟩, hS.F ht⟩) hS.2.2 dX3_along_28
    · skip
      have f8 := i_ne c6
      refine lv_iload hx hb dX3_along_20 (lv_at hl 6 rfl) ?_
      refine lv_bipush (v := 10) hx hb dX3_along_22 (by decide) ?_
      refine lv_icmp_le (tgt := 29) hx hb dX3_along_24 (by decide) (fun c9 => by exfalso; have := i_le c9; omega) (fun _ => ?_)
      refine lv_lconst (v := 0) hx hb dX3_along_27 (by decide) ?_
      have hP9 := hP
      have hD9 := hD
      exact W.lret (v := 0) hx hb hr (fun t ht hW => ⟨⟨0, (), rfl, (by rw [alG_z]; decide), by rw [ht]; exact hP9, va_K.moved hW.alike hK, hD9⟩, hS.F ht⟩) hS.2.2 dX3_along_28

set_option maxHeartbeats 4000000 in
set_option maxRecDepth 100000 in
theorem ct_X3_along_s (l : Launch) (D : va_G) (cI cY cJ cQ : ClassId) (sz : Nat) (n : Nat) (ad : Nat → Nat) (hn : Int32) (pt ha : Nat → Int32) (q o v f d : Int32)  (h1 : 0 ≤ q.toInt) (h2 : q.toInt < 20) (h3 : d.toInt = 11 - (((n + 1) : Nat) : Int)) (h4 : okA pt ha) (h5 : 0 ≤ v.toInt) (h6 : v.toInt ≤ 1000000) (h7 : 0 ≤ o.toInt) (h8 : ((n + 1) : Nat) ≤ 11) (ih : ∀ (l : Launch) (D : va_G) (cI cY cJ cQ : ClassId) (sz : Nat) (ad : Nat → Nat) (hn : Int32) (pt ha : Nat → Int32) (q o v f d : Int32) (h1 : 0 ≤ q.toInt) (h2 : q.toInt < 20) (h3 : d.toInt = 11 - (n : Int)) (h4 : okA pt ha) (h5 : 0 ≤ v.toInt) (h6 : v.toInt ≤ 1000000) (h7 : 0 ≤ o.toInt) (h8 : n ≤ 11), Met l yX3_along wsX3_along ({ frames := n + 2, cells := 0, slots := 0, locals := 30 * n + 60 }) (cPre D (ty4 cI cY cJ cQ) [(oC3 ad hn), (aI cI (ad 27) 200 pt), (aI cI (ad 29) 20 ha)] sz [.ref (ad 2), .int q, .int o, .int v, .int f, .int d]) (va_Ql (fun (r : Int64) (u : Unit) => r.toInt = alG (ptF pt) o.toNatClampNeg n q.toNatClampNeg v.toInt (fun x9 => bt f x9)) (cB D (ty4 cI cY cJ cQ) (fun (u : Unit) => [(oC3 ad hn), (aI cI (ad 27) 200 pt), (aI cI (ad 29) 20 ha)]) (va_A [(oC3 ad hn), (aI cI (ad 27) 200 pt), (aI cI (ad 29) 20 ha)] sz)) (va_A [(oC3 ad hn), (aI cI (ad 27) 200 pt), (aI cI (ad 29) 20 ha)] sz)) 0 0 (va_A [(oC3 ad hn), (aI cI (ad 27) 200 pt), (aI cI (ad 29) 20 ha)] sz)) : Met l yX3_along wsX3_along ({ frames := (n + 1) + 2, cells := 0, slots := 0, locals := 30 * (n + 1) + 60 }) (cPre D (ty4 cI cY cJ cQ) [(oC3 ad hn), (aI cI (ad 27) 200 pt), (aI cI (ad 29) 20 ha)] sz [.ref (ad 2), .int q, .int o, .int v, .int f, .int d]) (va_Ql (fun (r : Int64) (u : Unit) => r.toInt = alG (ptF pt) o.toNatClampNeg (n + 1) q.toNatClampNeg v.toInt (fun x9 => bt f x9)) (cB D (ty4 cI cY cJ cQ) (fun (u : Unit) => [(oC3 ad hn), (aI cI (ad 27) 200 pt), (aI cI (ad 29) 20 ha)]) (va_A [(oC3 ad hn), (aI cI (ad 27) 200 pt), (aI cI (ad 29) 20 ha)] sz)) (va_A [(oC3 ad hn), (aI cI (ad 27) 200 pt), (aI cI (ad 29) 20 ha)] sz)) 0 0 (va_A [(oC3 ad hn), (aI cI (ad 27) 200 pt), (aI cI (ad 29) 20 ha)] sz) := by
  refine Met.ofW (cc := cX3_along) (maxL := 11) (ret := (some .long)) (by decide) rfl ?_
  intro p e s m args below meth c s₁ B hml hv
  obtain ⟨rfl, hsz, hP, hK, hD0, hN⟩ := hv
  have hx := B.exec
  have hb := B.bytes
  have hr := B.returns
  have hts := atoms_spec (ws := wsX3_along) B.pre
  have hown : s.vm.findClass RX3 = some m.cls := findClass_of_methodNamed B.named
  have hlocks := B.notSynchronized
  subst hsz
  have hD := hD0.self (sz := s.heap.size)
  generalize hAe : va_A [(oC3 ad hn), (aI cI (ad 27) 200 pt), (aI cI (ad 29) 20 ha)] s.heap.size = A at hD ⊢
  have hA : ∀ q : Nat, s.heap.size ≤ q → A q := fun q h => by rw [← hAe]; exact Or.inr h
  have hS : va_S A s.heap s.heap [] := va_S.rf
  have hP : va_P D vwCl [(oC3 ad hn), (aI cI (ad 27) 200 pt), (aI cI (ad 29) 20 ha)] s.heap := hP
  have hl := lv_entry ([.ref (ad 2), .int q, .int o, .int v, .int f, .int d]) (n := 11) (Nat.le_of_ble_eq_true rfl)
  rw [lg_entry_eq]
  generalize (lg_sl ([.ref (ad 2), .int q, .int o, .int v, .int f, .int d]) ++ List.replicate (11 - (lg_sl ([.ref (ad 2), .int q, .int o, .int v, .int f, .int d])).length) Slot.unset).toArray = ls at hl ⊢
  have hl : lv_has ls 11 [(0, .ref (ad 2)), (1, .int q), (2, .int o), (3, .int v), (4, .int f), (5, .int d)] := hl
  have km1 : (-1 : Int32).toInt = -1 := by decide
  have k0 : (0 : Int32).toInt = 0 := by decide
  have k1 : (1 : Int32).toInt = 1 := by decide
  have k10 : (10 : Int32).toInt = 10 := by decide
  have kl0 : (0 : Int64).toInt = 0 := by decide
  have hd9 := i_rng d
  refine lv_aload_n hx hb dX3_along_0 rfl (lv_at hl 0 rfl) ?_
  refine va_get (D := D) (ci := 3) (v := .ref (ad 29)) (C := RX3) (T := TX3) (N := 9) hx hb hts inX3_along_X3 hown hK hP 0 rfl rfl 7 (by decide) (hts (Cond.fieldLink RX3 30 "PortRooms$Holdings" "has" "[I") (wm_t (wm_l (wm_i 0 rfl)))) (fun _ h9 => h9) rfl dX3_along_1 ?_
  refine lv_iload_n hx hb dX3_along_4 rfl (lv_at hl 1 rfl) ?_
  refine va_iald hx hb hK hP 2 0 rfl rfl (i_in (by omega) (by omega)) dX3_along_5 ?_
  refine lv_topi (fun v1 ev1 => ?_)
  have tlv1 : v1.toInt = (ha q.toNatClampNeg).toInt := by rw [ev1]
  refine lv_iload hx hb dX3_along_6 (lv_at hl 4 rfl) ?_
  refine lv_iand hx hb dX3_along_8 ?_
  refine lv_topi (fun v2 ev2 => ?_)
  refine lv_istore (lv' := [(6, .int v2), (0, .ref (ad 2)), (1, .int q), (2, .int o), (3, .int v), (4, .int f), (5, .int d)]) hx hb dX3_along_9 hl (by decide) rfl (fun ls hl => ?_)
  refine lv_iload hx hb dX3_along_11 (lv_at hl 0 rfl) ?_
  refine lv_if_eq (tgt := 27) hx hb dX3_along_13 (by decide) (fun c3 => ?_) (fun c3 => ?_)
  · skip
    have f4 := i_eq c3
    refine lv_lconst (v := 0) hx hb dX3_along_27 (by decide) ?_
    have clq7 := i_cl (x := q) (by omega)
    have z0 : (0 : Int64).toInt = 0 := by decide
    have hP9 := hP
    have hD9 := hD
    exact W.lret (v := 0) hx hb hr (fun t ht hW => ⟨⟨0, (), rfl, (by first | (exfalso; omega) | (show (0 : Int64).toInt = alG (ptF pt) o.toNatClampNeg (n + 1) q.toNatClampNeg v.toInt (fun x9 => bt f x9); rw [z0, alG_s]; exact (smC_0 10 (fun c hc => al_none (c := 0) (nx := v2) (f := f) (q := q.toNatClampNeg) h4 (by omega) (by rw [ev2, ev1]) (fun x _ => by rw [show v2 = 0 from i_of (by omega), b_0]) c (by omega) hc)).symm) | (show (0 : Int64).toInt = alG (ptF pt) o.toNatClampNeg (n + 1) q.toNatClampNeg v.toInt (fun x9 => bt f x9); rw [z0, show v.toInt = 0 by omega]; exact (alG_v0 _ _ _ _ _).symm)), by rw [ht]; exact hP9, va_K.moved hW.alike hK, hD9⟩, hS.F ht⟩) hS.2.2 dX3_along_28
  · skip
    have f5 := i_ne c3
    refine lv_iload_n hx hb dX3_along_16 rfl (lv_at hl 4 rfl) ?_
    refine lv_if_eq (tgt := 27) hx hb dX3_along_17 (by decide) (fun c6 => ?_) (fun c6 => ?_)
    · skip
      have f7 := i_eq c6
      refine lv_lconst (v := 0) hx hb dX3_along_27 (by decide) ?_
      have clq7 := i_cl (x := q) (by omega)
      have z0 : (0 : Int64).toInt = 0 := by decide
      have hP9 := hP
      have hD9 := hD
      exact W.lret (v := 0) hx hb hr (fun t ht hW => ⟨⟨0, (), rfl, (by first | (exfalso; omega) | (show (0 : Int64).toInt = alG (ptF pt) o.toNatClampNeg (n + 1) q.toNatClampNeg v.toInt (fun x9 => bt f x9); rw [z0, alG_s]; exact (smC_0 10 (fun c hc => al_none (c := 0) (nx := v2) (f := f) (q := q.toNatClampNeg) h4 (by omega) (by rw [ev2, ev1]) (fun x _ => by rw [show v2 = 0 from i_of (by omega), b_0]) c (by omega) hc)).symm) | (show (0 : Int64).toInt = alG (ptF pt) o.toNatClampNeg (n + 1) q.toNatClampNeg v.toInt (fun x9 => bt f x9); rw [z0, show v.toInt = 0 by omega]; exact (alG_v0 _ _ _ _ _).symm)), by rw [ht]; exact hP9, va_K.moved hW.alike hK, hD9⟩, hS.F ht⟩) hS.2.2 dX3_along_28
    · skip
      have f8 := i_ne c6
      refine lv_iload hx hb dX3_along_20 (lv_at hl 6 rfl) ?_
      refine lv_bipush (v := 10) hx hb dX3_along_22 (by decide) ?_
      refine lv_icmp_le (tgt := 29) hx hb dX3_along_24 (by decide) (fun c9 => ?_) (fun c9 => ?_)
      · skip
        have f10 := i_le c9
        refine lv_lconst (v := 0) hx hb dX3_along_29 (by decide) ?_
        refine lv_lstore (lv' := [(7, .long 0), (6, .int v2), (0, .ref (ad 2)), (1, .int q), (2, .int o), (3, .int v), (4, .int f), (5, .int d)]) hx hb dX3_along_30 hl (by decide) rfl (fun ls hl => ?_)
        refine lv_iconst (v := 0) hx hb dX3_along_32 (by decide) ?_
        refine lv_istore (lv' := [(9, .int 0), (7, .long 0), (6, .int v2), (0, .ref (ad 2)), (1, .int q), (2, .int o), (3, .int v), (4, .int f), (5, .int d)]) hx hb dX3_along_33 hl (by decide) rfl (fun ls hl => ?_)
        refine st_loop 35 (fun _ => []) (fun (z : Int32 × Int64) (ls : Array Slot) (H : Heap) (locs : List Loc) => match z with | (q35_9, q35_7) => (0 ≤ q35_9.toInt) ∧ (q35_9.toInt ≤ 10) ∧ (q35_7.toInt = smC (alT (ptF pt) o.toNatClampNeg n q.toNatClampNeg v.toInt (fun x9 => bt f x9)) q35_9.toNatClampNeg) ∧ lv_has ls 11 [(0, .ref (ad 2)), (1, .int q), (2, .int o), (3, .int v), (4, .int f), (5, .int d), (6, .int v2), (7, .long q35_7), (9, .int q35_9)] ∧ va_P D vwCl [(oC3 ad hn), (aI cI (ad 27) 200 pt), (aI cI (ad 29) 20 ha)] H ∧ va_D A [(oC3 ad hn), (aI cI (ad 27) 200 pt), (aI cI (ad 29) 20 ha)] ∧ va_S A s.heap H locs) (fun (z : Int32 × Int64) => match z with | (q35_9, q35_7) => 10 - q35_9.toInt) ?_ ?_ ((0 : Int32), (0 : Int64)) ⟨(by omega), (by omega), (by rfl), lv_sub hl [3, 4, 5, 6, 7, 8, 2, 1, 0] rfl, hP, hD, hS⟩
        · rintro ⟨q35_9, q35_7⟩ ls H locs ⟨g11, g12, g13, hl, hP, hD, hS⟩
          show (0 : Int) ≤ 10 - q35_9.toInt
          omega
        · rintro n16 ih14 ⟨q35_9, q35_7⟩ ls H locs ⟨g11, g12, g13, hl, hP, hD, hS⟩ hm15
          have hm15 : 10 - q35_9.toInt < (n16 : Int) + 1 := hm15
          replace hl : lv_has ls 11 [(0, .ref (ad 2)), (1, .int q), (2, .int o), (3, .int v), (4, .int f), (5, .int d), (6, .int v2), (7, .long q35_7), (9, .int q35_9)] := hl
          replace hP : va_P D vwCl [(oC3 ad hn), (aI cI (ad 27) 200 pt), (aI cI (ad 29) 20 ha)] H := hP
          replace hD : va_D A [(oC3 ad hn), (aI cI (ad 27) 200 pt), (aI cI (ad 29) 20 ha)] := hD
          show W _ _ _ _ _ _ _ _ _ _ _ _ _ _ _ (F0 m 35 ls [])
          refine lv_iload hx hb dX3_along_35 (lv_at hl 8 rfl) ?_
          refine lv_bipush (v := 10) hx hb dX3_along_37 (by decide) ?_
          refine lv_icmp_ge (tgt := 125) hx hb dX3_along_39 (by decide) (fun c17 => ?_) (fun c17 => ?_)
          · skip
            have f18 := i_le c17
            refine lv_lload hx hb dX3_along_125 (lv_at hl 7 rfl) ?_
            have clq7 := i_cl (x := q) (by omega)
            have cle7 := i_cl (x := q35_9) (by omega)
            have hP9 := hP
            have hD9 := hD
            exact W.lret (v := q35_7) hx hb hr (fun t ht hW => ⟨⟨q35_7, (), rfl, (by first | (show q35_7.toInt = alG (ptF pt) o.toNatClampNeg (n + 1) q.toNatClampNeg v.toInt (fun x9 => bt f x9); rw [alG_s]; have h9 := g13; rw [show q35_9.toNatClampNeg = 10 by omega] at h9; exact h9) | (show q35_7.toInt = alG (ptF pt) o.toNatClampNeg (n + 1) q.toNatClampNeg v.toInt (fun x9 => bt f x9); rw [alG_s, smC_tail 10 (c := q35_9.toNatClampNeg) (by omega) (al_none h4 (by omega) (by rw [ev2, ev1]) (ush_0 (by omega) (by omega) ev20 (by omega)))]; exact g13)), by rw [ht]; exact hP9, va_K.moved hW.alike hK, hD9⟩, hS.F ht⟩) hS.2.2 dX3_along_127
          · skip
            have f19 := i_nle c17
            refine lv_iload hx hb dX3_along_42 (lv_at hl 6 rfl) ?_
            refine lv_iload hx hb dX3_along_44 (lv_at hl 8 rfl) ?_
            obtain ⟨v20, ev20⟩ : ∃ q : Int32, q = (v2.toUInt32 >>> (q35_9.toUInt32 &&& Int32.toUInt32 31)).toInt32 := ⟨_, rfl⟩
            refine lv_iushr (v := v20) hx hb dX3_along_46 ev20.symm ?_
            refine lv_if_eq (tgt := 125) hx hb dX3_along_47 (by decide) (fun c21 => ?_) (fun c21 => ?_)
            · skip
              have f22 := i_eq c21
              refine lv_lload hx hb dX3_along_125 (lv_at hl 7 rfl) ?_
              have clq7 := i_cl (x := q) (by omega)
              have cle7 := i_cl (x := q35_9) (by omega)
              have hP9 := hP
              have hD9 := hD
              exact W.lret (v := q35_7) hx hb hr (fun t ht hW => ⟨⟨q35_7, (), rfl, (by first | (show q35_7.toInt = alG (ptF pt) o.toNatClampNeg (n + 1) q.toNatClampNeg v.toInt (fun x9 => bt f x9); rw [alG_s]; have h9 := g13; rw [show q35_9.toNatClampNeg = 10 by omega] at h9; exact h9) | (show q35_7.toInt = alG (ptF pt) o.toNatClampNeg (n + 1) q.toNatClampNeg v.toInt (fun x9 => bt f x9); rw [alG_s, smC_tail 10 (c := q35_9.toNatClampNeg) (by omega) (al_none h4 (by omega) (by rw [ev2, ev1]) (ush_0 (by omega) (by omega) ev20 (by omega)))]; exact g13)), by rw [ht]; exact hP9, va_K.moved hW.alike hK, hD9⟩, hS.F ht⟩) hS.2.2 dX3_along_127
            · skip
              have f23 := i_ne c21
              have clc24 := i_cl (x := q) (by omega)
              have clc25 := i_cl (x := q35_9) (by omega)
              have hB9 := smT_bd (okA_p h4) (t := o.toNatClampNeg) (n := n) (o := q.toNatClampNeg) (c := q35_9.toNatClampNeg) (v := v.toInt) (fr := (fun x9 => bt f x9)) (by omega) (by omega) (by omega) (by omega) (by omega)
              rw [← g13] at hB9
              refine lv_iload hx hb dX3_along_50 (lv_at hl 6 rfl) ?_
              refine lv_iload hx hb dX3_along_52 (lv_at hl 8 rfl) ?_
              refine st_i1 (va_runSN (As := [.int v2, .int q35_9]) (rest := []) ⟨hx, hb, hml, hown, hts⟩ (ct_X10_hasBit l D cI cY cJ cQ _ v2 q35_9) ⟨va_cnB 2 hts gX3_along_X10_hasBit_n62 rfl rfl rfl (hN.1 (RX3, 62, yX10_hasBit, "PortRooms") (by decide +kernel)) (hts (Cond.initialized RX10) (wm_t (wm_l (wm_i 2 rfl)))) cdX10_hasBit ⟨(by first | (simp only [headSpec]; omega) | omega), (by first | (simp only [headSpec]; omega) | omega)⟩, (hts (Cond.static yX10_hasBit) (wm_t (wm_l (wm_i 1 rfl)))), trivial⟩ (cPreS (hP.sub [] rfl) hK (hD.sub [] (by decide +kernel) rfl) hN) rfl rfl hl.1 rfl (lv_room (Nat.le_of_ble_eq_true rfl)) dX3_along_54 ⟨(by first | (simp only [headSpec]; omega) | omega), (by first | (simp only [headSpec]; omega) | omega)⟩) hP hD hS hA [] rfl (fun _ => rfl) (fun r28 u26 H locs hw27 => ?_)
              clear hP hS
              intro hP hS
              replace hw27 : r28 = if hbP v2 q35_9 then 1 else 0 := hw27
              refine lv_if_eq (tgt := 119) hx hb dX3_along_57 (by decide) (fun c29 => ?_) (fun c29 => ?_)
              · skip
                have f30 := bo_f hw27 c29
                obtain ⟨v31, ev31⟩ : ∃ y : Int32, y = q35_9 + 1 := ⟨_, rfl⟩
                try have tv31 : v31.toInt = q35_9.toInt + 1 := by rw [ev31]; exact (i_add (x := q35_9) (y := (1 : Int32)) (by rw [k1]; omega) (by rw [k1]; omega)).trans (by rw [k1])
                refine lv_iinc (v := v31) (lv' := [(9, .int v31), (0, .ref (ad 2)), (1, .int q), (2, .int o), (3, .int v), (4, .int f), (5, .int d), (6, .int v2), (7, .long q35_7)]) hx hb dX3_along_119 hl (k := 8) rfl (by rw [ev31]; rfl) (by decide) rfl (fun ls hl => ?_)
                refine lv_goto (tgt := 35) hx hb dX3_along_122 (by decide) ?_
                have cla8 := i_cl (x := q35_9) (by omega)
                have clq8 := i_cl (x := q) (by omega)
                have clo8 := i_cl (x := o) (by omega)
                have cla9 := i_cl (x := v31) (by omega)
                have ek9 : v31.toNatClampNeg = q35_9.toNatClampNeg + 1 := by omega
                exact ih14 (v31, q35_7) ls H locs ⟨(by omega), (by omega), (by rw [ek9, smC_s, ← g13, alT_0 (al_nobit h4 (by omega) (by omega) (by rw [ev2, ev1]) (hbn (by omega) (by omega) f30)), Int.add_zero]), lv_sub hl [1, 2, 3, 4, 5, 6, 7, 8, 0] rfl, hP.sub [0, 1, 2] rfl, hD.sub [0, 1, 2] (by decide +kernel) rfl, hS⟩ (by show 10 - v31.toInt < _; omega)
              · skip
                have f32 := bo_t hw27 c29
                refine lv_iload_n hx hb dX3_along_60 rfl (lv_at hl 3 rfl) ?_
                refine lv_aload_n hx hb dX3_along_61 rfl (lv_at hl 0 rfl) ?_
                refine lv_iload_n hx hb dX3_along_62 rfl (lv_at hl 1 rfl) ?_
                refine lv_bipush (v := 10) hx hb dX3_along_63 (by decide) ?_
                refine lv_iload hx hb dX3_along_65 (lv_at hl 8 rfl) ?_
                refine lv_iadd hx hb dX3_along_67 ?_
                refine lv_topi (fun v33 ev33 => ?_)
                try have tv33 : v33.toInt = 10 + q35_9.toInt := by rw [ev33]; exact (i_add (x := (10 : Int32)) (y := q35_9) (by rw [k10]; omega) (by rw [k10]; omega)).trans (by rw [k10])
                refine st_i1 (va_runV (C := RX3) (As := [.int q, .int v33]) (rest := [.int v]) ⟨hx, hb, hml, hown, hts⟩ (ct_X3_partOf l D cI cY cJ cQ _ ad hn pt q v33 (by omega) (by omega) (by omega) (by omega)) (cwV 2 hts gX3_along_X3_partOf rfl rfl rfl ⟨rfl, cdX3_partOf⟩ ⟨(by first | (simp only [headSpec]; omega) | omega), (by first | (simp only [headSpec]; omega) | omega)⟩) (cPreV (hP.sub [0, 1] rfl) hK (hD.sub [0, 1] (by decide +kernel) rfl) hN (ci := 3) (q0 := 0) rfl rfl) rfl rfl hl.1 rfl (lv_room (Nat.le_of_ble_eq_true rfl)) dX3_along_68 ⟨(by first | (simp only [headSpec]; omega) | omega), (by first | (simp only [headSpec]; omega) | omega)⟩) hP hD hS hA [0, 1] rfl (fun _ => rfl) (fun r36 u34 H locs hw35 => ?_)
                clear hP hS
                intro hP hS
                replace hw35 : r36 = pt (q.toNatClampNeg * 10 + v33.toNatClampNeg - 10) := hw35
                have clc37 := i_cl (x := q) (by omega)
                have clc38 := i_cl (x := q35_9) (by omega)
                have clc39 := i_cl (x := v33) (by omega)
                rw [show q.toNatClampNeg * 10 + v33.toNatClampNeg - 10 = q.toNatClampNeg * 10 + q35_9.toNatClampNeg by omega] at hw35
                have hp9 : r36.toInt = ptF pt q.toNatClampNeg q35_9.toNatClampNeg := by rw [hw35]; rfl
                have hq9 := okA_p h4 q.toNatClampNeg q35_9.toNatClampNeg (by omega) (by omega)
                refine lv_imul hx hb dX3_along_71 ?_
                refine lv_topi (fun v40 ev40 => ?_)
                refine lv_bipush (v := 100) hx hb dX3_along_72 (by decide) ?_
                refine lv_idiv hx hb dX3_along_74 (by decide) ?_
                refine lv_topi (fun v41 ev41 => ?_)
                have hv9 := pdiv ev40 ev41 (by omega) (by omega) (by omega) (by omega)
                rw [hp9] at hv9
                have hd9 := pd_bd (v := v.toInt) (q := ptF pt q.toNatClampNeg q35_9.toNatClampNeg) (by omega) (by omega) (by omega)
                refine lv_istore (lv' := [(10, .int v41), (0, .ref (ad 2)), (1, .int q), (2, .int o), (3, .int v), (4, .int f), (5, .int d), (6, .int v2), (7, .long q35_7), (9, .int q35_9)]) hx hb dX3_along_75 hl (by decide) rfl (fun ls hl => ?_)
                refine lv_lload hx hb dX3_along_77 (lv_at hl 8 rfl) ?_
                refine lv_iload hx hb dX3_along_79 (lv_at hl 9 rfl) ?_
                refine lv_iload_n hx hb dX3_along_81 rfl (lv_at hl 3 rfl) ?_
                refine lv_icmp_ne (tgt := 91) hx hb dX3_along_82 (by decide) (fun c42 => ?_) (fun c42 => ?_)
                · skip
                  have f43 := i_ne c42
                  refine lv_aload_n hx hb dX3_along_91 rfl (lv_at hl 1 rfl) ?_
                  refine lv_bipush (v := 10) hx hb dX3_along_92 (by decide) ?_
                  refine lv_iload hx hb dX3_along_94 (lv_at hl 9 rfl) ?_
                  refine lv_iadd hx hb dX3_along_96 ?_
                  refine lv_topi (fun v44 ev44 => ?_)
                  try have tv44 : v44.toInt = 10 + q35_9.toInt := by rw [ev44]; exact (i_add (x := (10 : Int32)) (y := q35_9) (by rw [k10]; omega) (by rw [k10]; omega)).trans (by rw [k10])
                  refine lv_iload_n hx hb dX3_along_97 rfl (lv_at hl 3 rfl) ?_
                  refine lv_iload hx hb dX3_along_98 (lv_at hl 0 rfl) ?_
                  refine lv_iload hx hb dX3_along_100 (lv_at hl 5 rfl) ?_
                  refine lv_iconst (v := 1) hx hb dX3_along_102 (by decide) ?_
                  refine lv_iload hx hb dX3_along_103 (lv_at hl 9 rfl) ?_
                  refine lv_ishl hx hb dX3_along_105 ?_
                  refine lv_topi (fun v45 ev45 => ?_)
                  refine lv_iconst (v := (-1)) hx hb dX3_along_106 (by decide) ?_
                  refine lv_ixor hx hb dX3_along_107 ?_
                  refine lv_topi (fun v46 ev46 => ?_)
                  refine lv_iand hx hb dX3_along_108 ?_
                  refine lv_topi (fun v47 ev47 => ?_)
                  refine lv_iload hx hb dX3_along_109 (lv_at hl 6 rfl) ?_
                  refine lv_iconst (v := 1) hx hb dX3_along_111 (by decide) ?_
                  refine lv_iadd hx hb dX3_along_112 ?_
                  refine lv_topi (fun v48 ev48 => ?_)
                  try have tv48 : v48.toInt = d.toInt + 1 := by rw [ev48]; exact (i_add (x := d) (y := (1 : Int32)) (by rw [k1]; omega) (by rw [k1]; omega)).trans (by rw [k1])
                  refine st_l (wr := []) (va_runS (As := [.ref (ad 2), .int v44, .int o, .int v41, .int v47, .int v48]) (rest := [.long q35_7]) ⟨hx, hb, hml, hown, hts⟩ (ih l D cI cY cJ cQ _ ad hn pt ha v44 o v41 v47 v48 (by omega) (by omega) (by omega) h4 (by omega) (by omega) (by omega) (by omega)) (va_cwS 6 hts gX3_along_X3_along rfl rfl rfl cdX3_along ⟨(by first | (simp only [headSpec]; omega) | omega), (by first | (simp only [headSpec]; omega) | omega)⟩) (cPreS (hP.sub [0, 1, 2] rfl) hK (hD.sub [0, 1, 2] (by decide +kernel) rfl) hN) rfl rfl hl.1 rfl (lv_room (Nat.le_of_ble_eq_true rfl)) dX3_along_113 ⟨(by first | (simp only [headSpec]; omega) | omega), (by first | (simp only [headSpec]; omega) | omega)⟩) hP hD hS hA [0, 1, 2] [] rfl rfl (by decide +kernel) (by decide +kernel) (fun r51 u49 H locs hw50 => ?_)
                  clear hP hD hS
                  intro hP hD hS
                  replace hw50 : r51.toInt = alG (ptF pt) o.toNatClampNeg n v44.toNatClampNeg v41.toInt (fun x9 => bt v47 x9) := hw50
                  replace hP : va_P D vwCl [(oC3 ad hn), (aI cI (ad 27) 200 pt), (aI cI (ad 29) 20 ha)] H := hP
                  replace hD : va_D A [(oC3 ad hn), (aI cI (ad 27) 200 pt), (aI cI (ad 29) 20 ha)] := hD
                  have clc52 := i_cl (x := v44) (by omega)
                  have hr9 : r51.toInt = alG (ptF pt) o.toNatClampNeg n (10 + q35_9.toNatClampNeg) (v.toInt * ptF pt q.toNatClampNeg q35_9.toNatClampNeg / 100) (fun x9 => bt f x9 && !decide (x9 = q35_9.toNatClampNeg)) := hw50.trans (by rw [show v44.toNatClampNeg = 10 + q35_9.toNatClampNeg by omega, hv9]; exact alG_c (fun _ _ _ _ => rfl) _ n _ _ _ _ (by omega) (fun x hx => by rw [ev47, ev46, ev45]; exact bt_clr (by omega) (by omega) (by omega)))
                  have hs9 := alG_bd (okA_p h4) o.toNatClampNeg n (10 + q35_9.toNatClampNeg) (v.toInt * ptF pt q.toNatClampNeg q35_9.toNatClampNeg / 100) (fun x9 => bt f x9 && !decide (x9 = q35_9.toNatClampNeg)) (by omega) (by omega)
                  have hs8 := big_bd (n := n) (v := v.toInt * ptF pt q.toNatClampNeg q35_9.toNatClampNeg / 100) (by omega) (by omega) (by omega)
                  rw [← hr9] at hs9
                  refine lv_ladd hx hb dX3_along_116 ?_
                  refine lv_topl (fun z53 ez53 => ?_)
                  have tz53 : z53.toInt = q35_7.toInt + r51.toInt := by rw [ez53]; exact l_add (by omega) (by omega)
                  refine lv_lstore (lv' := [(7, .long z53), (10, .int v41), (0, .ref (ad 2)), (1, .int q), (2, .int o), (3, .int v), (4, .int f), (5, .int d), (6, .int v2), (9, .int q35_9)]) hx hb dX3_along_117 hl (by decide) rfl (fun ls hl => ?_)
                  obtain ⟨v54, ev54⟩ : ∃ y : Int32, y = q35_9 + 1 := ⟨_, rfl⟩
                  try have tv54 : v54.toInt = q35_9.toInt + 1 := by rw [ev54]; exact (i_add (x := q35_9) (y := (1 : Int32)) (by rw [k1]; omega) (by rw [k1]; omega)).trans (by rw [k1])
                  refine lv_iinc (v := v54) (lv' := [(9, .int v54), (7, .long z53), (10, .int v41), (0, .ref (ad 2)), (1, .int q), (2, .int o), (3, .int v), (4, .int f), (5, .int d), (6, .int v2)]) hx hb dX3_along_119 hl (k := 9) rfl (by rw [ev54]; rfl) (by decide) rfl (fun ls hl => ?_)
                  refine lv_goto (tgt := 35) hx hb dX3_along_122 (by decide) ?_
                  have cla8 := i_cl (x := q35_9) (by omega)
                  have clq8 := i_cl (x := q) (by omega)
                  have clo8 := i_cl (x := o) (by omega)
                  have cla9 := i_cl (x := v54) (by omega)
                  have ek9 : v54.toNatClampNeg = q35_9.toNatClampNeg + 1 := by omega
                  have hbit9 := al_bit (c := q35_9.toNatClampNeg) h4 (q := q.toNatClampNeg) (by omega) (by omega) (by rw [ev2, ev1]) ((hbb (by omega) (by omega)).mp f32)
                  exact ih14 (v54, z53) ls H locs ⟨(by omega), (by omega), (by rw [ek9, smC_s, ← g13, alT_n hbit9 (by omega), ← hr9]; omega), lv_sub hl [3, 4, 5, 6, 7, 8, 9, 1, 0] rfl, hP.sub [0, 1, 2] rfl, hD.sub [0, 1, 2] (by decide +kernel) rfl, hS⟩ (by show 10 - v54.toInt < _; omega)
                · skip
                  have f55 := i_eq c42
                  refine lv_iload hx hb dX3_along_85 (lv_at hl 0 rfl) ?_
                  refine lv_i2l hx hb dX3_along_87 rfl ?_
                  have w56 := i_w v41
                  have w57 := i_rng v41
                  refine lv_goto (tgt := 116) hx hb dX3_along_88 (by decide) ?_
                  refine lv_ladd hx hb dX3_along_116 ?_
                  refine lv_topl (fun z58 ez58 => ?_)
                  have tz58 : z58.toInt = q35_7.toInt + v41.toInt64.toInt := by rw [ez58]; exact l_add (by omega) (by omega)
                  refine lv_lstore (lv' := [(7, .long z58), (10, .int v41), (0, .ref (ad 2)), (1, .int q), (2, .int o), (3, .int v), (4, .int f), (5, .int d), (6, .int v2), (9, .int q35_9)]) hx hb dX3_along_117 hl (by decide) rfl (fun ls hl => ?_)
                  obtain ⟨v59, ev59⟩ : ∃ y : Int32, y = q35_9 + 1 := ⟨_, rfl⟩
                  try have tv59 : v59.toInt = q35_9.toInt + 1 := by rw [ev59]; exact (i_add (x := q35_9) (y := (1 : Int32)) (by rw [k1]; omega) (by rw [k1]; omega)).trans (by rw [k1])
                  refine lv_iinc (v := v59) (lv' := [(9, .int v59), (7, .long z58), (10, .int v41), (0, .ref (ad 2)), (1, .int q), (2, .int o), (3, .int v), (4, .int f), (5, .int d), (6, .int v2)]) hx hb dX3_along_119 hl (k := 9) rfl (by rw [ev59]; rfl) (by decide) rfl (fun ls hl => ?_)
                  refine lv_goto (tgt := 35) hx hb dX3_along_122 (by decide) ?_
                  have cla8 := i_cl (x := q35_9) (by omega)
                  have clq8 := i_cl (x := q) (by omega)
                  have clo8 := i_cl (x := o) (by omega)
                  have cla9 := i_cl (x := v59) (by omega)
                  have ek9 : v59.toNatClampNeg = q35_9.toNatClampNeg + 1 := by omega
                  have hbit9 := al_bit (c := q35_9.toNatClampNeg) h4 (q := q.toNatClampNeg) (by omega) (by omega) (by rw [ev2, ev1]) ((hbb (by omega) (by omega)).mp f32)
                  exact ih14 (v59, z58) ls H locs ⟨(by omega), (by omega), (by rw [ek9, smC_s, ← g13, alT_t hbit9 (by omega)]; omega), lv_sub hl [3, 4, 5, 6, 7, 8, 9, 1, 0] rfl, hP.sub [0, 1, 2] rfl, hD.sub [0, 1, 2] (by decide +kernel) rfl, hS⟩ (by show 10 - v59.toInt < _; omega)
      · skip
        have f60 := i_nle c9
        refine lv_lconst (v := 0) hx hb dX3_along_27 (by decide) ?_
        have clq7 := i_cl (x := q) (by omega)
        have z0 : (0 : Int64).toInt = 0 := by decide
        have hP9 := hP
        have hD9 := hD
        exact W.lret (v := 0) hx hb hr (fun t ht hW => ⟨⟨0, (), rfl, (by first | (exfalso; omega) | (show (0 : Int64).toInt = alG (ptF pt) o.toNatClampNeg (n + 1) q.toNatClampNeg v.toInt (fun x9 => bt f x9); rw [z0, alG_s]; exact (smC_0 10 (fun c hc => al_none (c := 0) (nx := v2) (f := f) (q := q.toNatClampNeg) h4 (by omega) (by rw [ev2, ev1]) (fun x _ => by rw [show v2 = 0 from i_of (by omega), b_0]) c (by omega) hc)).symm) | (show (0 : Int64).toInt = alG (ptF pt) o.toNatClampNeg (n + 1) q.toNatClampNeg v.toInt (fun x9 => bt f x9); rw [z0, show v.toInt = 0 by omega]; exact (alG_v0 _ _ _ _ _).symm)), by rw [ht]; exact hP9, va_K.moved hW.alike hK, hD9⟩, hS.F ht⟩) hS.2.2 dX3_along_28

theorem ct_X3_along (n : Nat) : ∀ (l : Launch) (D : va_G) (cI cY cJ cQ : ClassId) (sz : Nat) (ad : Nat → Nat) (hn : Int32) (pt ha : Nat → Int32) (q o v f d : Int32) (h1 : 0 ≤ q.toInt) (h2 : q.toInt < 20) (h3 : d.toInt = 11 - (n : Int)) (h4 : okA pt ha) (h5 : 0 ≤ v.toInt) (h6 : v.toInt ≤ 1000000) (h7 : 0 ≤ o.toInt) (h8 : n ≤ 11), Met l yX3_along wsX3_along ({ frames := n + 2, cells := 0, slots := 0, locals := 30 * n + 60 }) (cPre D (ty4 cI cY cJ cQ) [(oC3 ad hn), (aI cI (ad 27) 200 pt), (aI cI (ad 29) 20 ha)] sz [.ref (ad 2), .int q, .int o, .int v, .int f, .int d]) (va_Ql (fun (r : Int64) (u : Unit) => r.toInt = alG (ptF pt) o.toNatClampNeg n q.toNatClampNeg v.toInt (fun x9 => bt f x9)) (cB D (ty4 cI cY cJ cQ) (fun (u : Unit) => [(oC3 ad hn), (aI cI (ad 27) 200 pt), (aI cI (ad 29) 20 ha)]) (va_A [(oC3 ad hn), (aI cI (ad 27) 200 pt), (aI cI (ad 29) 20 ha)] sz)) (va_A [(oC3 ad hn), (aI cI (ad 27) 200 pt), (aI cI (ad 29) 20 ha)] sz)) 0 0 (va_A [(oC3 ad hn), (aI cI (ad 27) 200 pt), (aI cI (ad 29) 20 ha)] sz) := by
  induction n with
  | zero => exact fun l D cI cY cJ cQ sz ad hn pt ha q o v f d h1 h2 h3 h4 h5 h6 h7 h8 => ct_X3_along_0 l D cI cY cJ cQ sz ad hn pt ha q o v f d h1 h2 h3 h4 h5 h6 h7 h8
  | succ n ih => exact fun l D cI cY cJ cQ sz ad hn pt ha q o v f d h1 h2 h3 h4 h5 h6 h7 h8 => ct_X3_along_s l D cI cY cJ cQ sz n ad hn pt ha q o v f d h1 h2 h3 h4 h5 h6 h7 h8 ih
