theorem cdX10_count : yX10_count.cls ≠ "java/lang/invoke/MethodHandle" ∧ yX10_count.cls ≠ "java/lang/invoke/VarHandle" ∧ (parseMethodDescriptor yX10_count.desc).map (fun d => d.parameters.length) = some 1 := by decide +kernel
theorem cdX10_status : yX10_status.cls ≠ "java/lang/invoke/MethodHandle" ∧ yX10_status.cls ≠ "java/lang/invoke/VarHandle" ∧ (parseMethodDescriptor yX10_status.desc).map (fun d => d.parameters.length) = some 0 := by decide +kernel
theorem cdX11_count : yX11_count.cls ≠ "java/lang/invoke/MethodHandle" ∧ yX11_count.cls ≠ "java/lang/invoke/VarHandle" ∧ (parseMethodDescriptor yX11_count.desc).map (fun d => d.parameters.length) = some 1 := by decide +kernel
theorem cdX11_status : yX11_status.cls ≠ "java/lang/invoke/MethodHandle" ∧ yX11_status.cls ≠ "java/lang/invoke/VarHandle" ∧ (parseMethodDescriptor yX11_status.desc).map (fun d => d.parameters.length) = some 0 := by decide +kernel
theorem Gd_X10_count : gdA wsX10_count := gd_cons (by decide +kernel) (gd_app (gd_all (ws := wsX10_count_o1) (by decide +kernel)) (gd_app (gd_app (gd_app (gd_app Gd_X100 Gd_X30) Gd_X10) (gd_app (gd_app Gd_X70 Gd_X80) Gd_X20)) (gd_app (gd_app (gd_app Gd_X00 Gd_X60) Gd_X40) (gd_app Gd_X90 Gd_X9_howMany))))
theorem Gd_X10_status : gdA wsX10_status := gd_cons (by decide +kernel) (gd_app (gd_all (ws := wsX10_status_o1) (by decide +kernel)) Gd_X100)
theorem Gd_X11_count : gdA wsX11_count := gd_cons (by decide +kernel) (gd_app (gd_all (ws := wsX11_count_o1) (by decide +kernel)) Gd_X110)
theorem Gd_X11_status : gdA wsX11_status := gd_cons (by decide +kernel) (gd_app (gd_all (ws := wsX11_status_o1) (by decide +kernel)) Gd_X110)
theorem ggL_law_X10_count : GoodIn wsL_law wsX10_count := goodIn_s (fun _ h => (wm_r (wm_r (wm_r (wm_r (wm_r (wm_l (wm_l (wm_r h))))))))) Gd_X10_count
theorem gL_law_X10_count : GoodIn wsL_law (wsV RL 174 RX10 yX10_count wsX10_count) := goodIn_V (own := RL) (idx := 174) (C := RX10) (y := yX10_count) (wm_l (wm_r (wm_r (wm_l (wm_i 13 rfl))))) (wm_l (wm_r (wm_r (wm_l (wm_i 14 rfl))))) (wm_l (wm_r (wm_r (wm_l (wm_i 15 rfl))))) (wm_l (wm_l (wm_l (wm_l (wm_l (wm_i 2 rfl)))))) ggL_law_X10_count
theorem ggL_law_X11_count : GoodIn wsL_law wsX11_count := goodIn_s (fun _ h => (wm_r (wm_r (wm_r (wm_r (wm_r (wm_l (wm_r h)))))))) Gd_X11_count
theorem gL_law_X11_count : GoodIn wsL_law (wsV RL 177 RX11 yX11_count wsX11_count) := goodIn_V (own := RL) (idx := 177) (C := RX11) (y := yX11_count) (wm_l (wm_r (wm_r (wm_l (wm_i 16 rfl))))) (wm_l (wm_r (wm_r (wm_l (wm_i 17 rfl))))) (wm_l (wm_r (wm_r (wm_l (wm_i 18 rfl))))) (wm_l (wm_l (wm_l (wm_l (wm_l (wm_i 5 rfl)))))) ggL_law_X11_count
theorem ggL_law_X10_status : GoodIn wsL_law wsX10_status := goodIn_s (fun _ h => (wm_r (wm_r (wm_r (wm_r (wm_r (wm_r (wm_l h)))))))) Gd_X10_status
theorem gL_law_X10_status : GoodIn wsL_law (wsV RL 178 RX10 yX10_status wsX10_status) := goodIn_V (own := RL) (idx := 178) (C := RX10) (y := yX10_status) (wm_l (wm_r (wm_r (wm_l (wm_i 19 rfl))))) (wm_l (wm_r (wm_r (wm_l (wm_i 20 rfl))))) (wm_l (wm_r (wm_r (wm_l (wm_i 21 rfl))))) (wm_l (wm_l (wm_l (wm_l (wm_l (wm_i 2 rfl)))))) ggL_law_X10_status
theorem ggL_law_X11_status : GoodIn wsL_law wsX11_status := goodIn_s (fun _ h => (wm_r (wm_r (wm_r (wm_r (wm_r (wm_r (wm_r h)))))))) Gd_X11_status
theorem sB_68 : dqA cL_law 1632 sL_68 := dq_next sB_67 24 rfl
theorem sB_69 : dqA cL_law 1656 sL_69 := dq_next sB_68 24 rfl
theorem gL_law_X11_status : GoodIn wsL_law (wsV RL 181 RX11 yX11_status wsX11_status) := goodIn_V (own := RL) (idx := 181) (C := RX11) (y := yX11_status) (wm_l (wm_r (wm_r (wm_l (wm_i 22 rfl))))) (wm_l (wm_r (wm_r (wm_l (wm_i 23 rfl))))) (wm_l (wm_r (wm_r (wm_r (wm_i 0 rfl))))) (wm_l (wm_l (wm_l (wm_l (wm_l (wm_i 5 rfl)))))) ggL_law_X11_status
theorem dL_law_1616 : decode cL_law 1616 = .ok (.aload_n 1, 1) := dL_law_all101.2.2.1
theorem dL_law_1617 : decode cL_law 1617 = .ok (.aload_n 0, 1) := dL_law_all101.2.2.2.1
theorem dL_law_1618 : decode cL_law 1618 = .ok (.iload_n 3, 1) := dL_law_all101.2.2.2.2.1
theorem dL_law_1619 : decode cL_law 1619 = .ok (.iconst 1, 1) := dL_law_all101.2.2.2.2.2.1
theorem dL_law_1620 : decode cL_law 1620 = .ok (.iadd, 1) := dL_law_all101.2.2.2.2.2.2.1
theorem dL_law_1621 : decode cL_law 1621 = .ok (.iaload, 1) := dL_law_all101.2.2.2.2.2.2.2.1
theorem dL_law_1622 : decode cL_law 1622 = .ok (.invokevirtual 174, 3) := dL_law_all101.2.2.2.2.2.2.2.2.1
theorem dL_law_1625 : decode cL_law 1625 = .ok (.pop, 1) := dL_law_all101.2.2.2.2.2.2.2.2.2.1
theorem dL_law_1626 : decode cL_law 1626 = .ok (.aload_n 2, 1) := dL_law_all101.2.2.2.2.2.2.2.2.2.2.1
theorem dL_law_1627 : decode cL_law 1627 = .ok (.aload_n 0, 1) := dL_law_all101.2.2.2.2.2.2.2.2.2.2.2
theorem dL_law_all102 : decode cL_law 1628 = .ok (.iload_n 3, 1) ∧ decode cL_law 1629 = .ok (.iconst 1, 1) ∧ decode cL_law 1630 = .ok (.iadd, 1) ∧ decode cL_law 1631 = .ok (.iaload, 1) ∧ decode cL_law 1632 = .ok (.invokevirtual 177, 3) ∧ decode cL_law 1635 = .ok (.pop, 1) ∧ decode cL_law 1636 = .ok (.goto 16, 3) ∧ decode cL_law 1639 = .ok (.aload_n 1, 1) ∧ decode cL_law 1640 = .ok (.invokevirtual 178, 3) ∧ decode cL_law 1643 = .ok (.pop, 1) ∧ decode cL_law 1644 = .ok (.aload_n 2, 1) ∧ decode cL_law 1645 = .ok (.invokevirtual 181, 3) := ⟨dq_29 sB_67 20 rfl, dq_4 sB_67 21 rfl, dq_96 sB_67 22 rfl, dq_46 sB_67 23 rfl, dq_182 sB_68 0 rfl 177 (by decide), dq_87 sB_68 3 rfl, dq_167 sB_68 4 rfl 16 (by decide), dq_43 sB_68 7 rfl, dq_182 sB_68 8 rfl 178 (by decide), dq_87 sB_68 11 rfl, dq_44 sB_68 12 rfl, dq_182 sB_68 13 rfl 181 (by decide)⟩
theorem dL_law_1628 : decode cL_law 1628 = .ok (.iload_n 3, 1) := dL_law_all102.1
theorem dL_law_1629 : decode cL_law 1629 = .ok (.iconst 1, 1) := dL_law_all102.2.1
theorem dL_law_1630 : decode cL_law 1630 = .ok (.iadd, 1) := dL_law_all102.2.2.1
theorem dL_law_1631 : decode cL_law 1631 = .ok (.iaload, 1) := dL_law_all102.2.2.2.1
theorem dL_law_1632 : decode cL_law 1632 = .ok (.invokevirtual 177, 3) := dL_law_all102.2.2.2.2.1
theorem dL_law_1635 : decode cL_law 1635 = .ok (.pop, 1) := dL_law_all102.2.2.2.2.2.1
theorem dL_law_1636 : decode cL_law 1636 = .ok (.goto 16, 3) := dL_law_all102.2.2.2.2.2.2.1
theorem dL_law_1639 : decode cL_law 1639 = .ok (.aload_n 1, 1) := dL_law_all102.2.2.2.2.2.2.2.1
theorem dL_law_1640 : decode cL_law 1640 = .ok (.invokevirtual 178, 3) := dL_law_all102.2.2.2.2.2.2.2.2.1
theorem dL_law_1643 : decode cL_law 1643 = .ok (.pop, 1) := dL_law_all102.2.2.2.2.2.2.2.2.2.1
theorem dL_law_1644 : decode cL_law 1644 = .ok (.aload_n 2, 1) := dL_law_all102.2.2.2.2.2.2.2.2.2.2.1
theorem dL_law_1645 : decode cL_law 1645 = .ok (.invokevirtual 181, 3) := dL_law_all102.2.2.2.2.2.2.2.2.2.2.2
theorem dL_law_all103 : decode cL_law 1648 = .ok (.pop, 1) ∧ decode cL_law 1649 = .ok (.goto 3, 3) ∧ decode cL_law 1652 = .ok (.iinc 3 6, 3) ∧ decode cL_law 1655 = .ok (.goto (-1627), 3) ∧ decode cL_law 1658 = .ok (.iconst 1, 1) ∧ decode cL_law 1659 = .ok (.ireturn, 1) := ⟨dq_87 sB_68 16 rfl, dq_167 sB_68 17 rfl 3 (by decide), by decide +kernel, dq_167 sB_68 23 rfl (-1627) (by decide), dq_4 sB_69 2 rfl, by decide +kernel⟩
theorem dL_law_1648 : decode cL_law 1648 = .ok (.pop, 1) := dL_law_all103.1
theorem dL_law_1649 : decode cL_law 1649 = .ok (.goto 3, 3) := dL_law_all103.2.1
set_option maxHeartbeats 4000000 in
set_option maxRecDepth 100000 in
theorem law_case_36 {p : Program} {l : Launch} {e : Env} {s : State} {m : MethodId} {below : List Frame} {meth : Method} {c : Code} {D : va_G} {cI cY cJ cQ : ClassId} {b L aK aV : Nat} {xs : Nat → Int32} {ad rw md : Nat → Nat} {sd i : Int32} {nx : Nat → Int32} {fx rs : Nat → Nat → Int32} {lo : Nat → Int64} {ny : Nat → Int32} {fy : Nat → Nat → Int32} {fl : Nat → Int64} {H : Heap} {locs : List Loc} {ls : Array Slot} (C0 : lawC p s m meth c b L xs D cI cY cJ cQ aK aV) (I : inv nx fx rs ny fy) (hP : va_P D vwCl (wX ad rw sd cI cY cJ cQ nx fx rs lo ++ wM md sd cI cY cJ cQ ny fy fl) H) (hD : va_D (fun q : Nat => s.heap.size ≤ q) (wX ad rw sd cI cY cJ cQ nx fx rs lo ++ wM md sd cI cY cJ cQ ny fy fl)) (hS : va_S (fun q : Nat => s.heap.size ≤ q) s.heap H locs) (hl : lv_has ls 4 [(0, .ref b), (1, .ref (ad 0)), (2, .ref (md 64)), (3, .int i)]) (hi1 : 1 ≤ i.toInt) (hi2 : i.toInt + 5 < L) (kk : ∀ (nx : Nat → Int32) (fx rs : Nat → Nat → Int32) (lo : Nat → Int64) (ny : Nat → Int32) (fy : Nat → Nat → Int32) (fl : Nat → Int64) (H : Heap) (locs : List Loc) (ls : Array Slot), inv nx fx rs ny fy → va_P D vwCl (wX ad rw sd cI cY cJ cQ nx fx rs lo ++ wM md sd cI cY cJ cQ ny fy fl) H → va_D (fun q : Nat => s.heap.size ≤ q) (wX ad rw sd cI cY cJ cQ nx fx rs lo ++ wM md sd cI cY cJ cQ ny fy fl) → va_S (fun q : Nat => s.heap.size ≤ q) s.heap H locs → lv_has ls 4 [(0, .ref b), (1, .ref (ad 0)), (2, .ref (md 64)), (3, .int i)] → W p l e room_1 s m #[Value.ref b] below meth c H locs 107 4890 (lw_Z below #[Value.ref b] s) (F0 m 1652 ls [])) : W p l e room_1 s m #[Value.ref b] below meth c H locs 107 4890 (lw_Z below #[Value.ref b] s) (F0 m 1616 ls []) := by
  obtain ⟨C1, hK, hN, hT, hL⟩ := C0
  obtain ⟨hx, hb, hr, hml, hown, hts0, hX, hbl, hlocks, hgv⟩ := C1
  have hA : ∀ q : Nat, s.heap.size ≤ q → (fun q : Nat => s.heap.size ≤ q) q := fun _ h => h
  have hbA : ¬ (fun q : Nat => s.heap.size ≤ q) b := Nat.not_le.mpr hbl
  have hts : ∀ w ∈ wsL_law, w.before #[Value.ref b] s = true := fun w h => hts0 w (wsL_law_in w h)
  replace hown : s.vm.findClass RL = some m.cls := hown
  replace hb : c.code = cL_law := hb
  have hak1 : vp_in (i + 1) L := law_in hi1 hi2 hL (by decide)
  obtain ⟨xk1, exk1⟩ : ∃ y : Int32, y = xs (i + 1).toNatClampNeg := ⟨_, rfl⟩
  refine inv_el I ?_
  intro Xhna Xhnb XH XD XV XN Xcna Xcnb XF Xpna Xpnb XG XO XW Xgna Xgnb XJ Xlna Xlnb Xdla Xdlb Xana Xanb Xuna Xunb XU Xlca Xlcb Xtna Xtnb XS Mhna Mhnb MH MS Mmlna Mmlnb Mmtna Mmtnb Chn Cho Chc Chp Chs Ccn Cfo Cwo Cpn Cpk Cpf Cpo Cpd Cpe Cgn Cgk Cgs Cgd Cge Can Cak Cah Cay Caz Cun Cuk Cuy Cuw Cum Clc Clp Cla Clb Caw Ciw Cln Ctd Cro Cmtn Cmtr Cmst Csh
  have Tcn := i_eq Ccn
  have Tpn := i_eq Cpn
  have Tgn := i_eq Cgn
  have Tan := i_eq Can
  have Tun := i_eq Cun
  have Tlc := i_eq Clc
  have Tln := i_eq Cln
  refine lv_aload_n hx hb dL_law_1616 rfl (lv_at hl 1 rfl) ?_
  refine law_arg (v := 1) hx hb hX hbl hbA hS (lv_at hl 0 rfl) (lv_at hl 3 rfl) (by decide) hak1 exk1 dL_law_1617 dL_law_1618 dL_law_1619 dL_law_1620 dL_law_1621 ?_
  refine st_iU (va_runV (C := RX10) (As := [.int xk1]) (rest := []) ⟨hx, hb, hml, hown, hts⟩ (ct_X10_count l D cI cY cJ cQ _ ad (nx 0) (nx 1) (nx 2) (nx 3) (nx 4) (nx 5) (nx 6) (nx 7) (nx 8) (nx 9) (nx 10) (nx 11) (nx 12) (nx 13) (nx 14) (nx 15) (nx 16) (nx 17) (fx 2) xk1) (cwV 1 hts gL_law_X10_count rfl rfl rfl ⟨rfl, cdX10_count⟩ ⟨Nat.le_of_ble_eq_true rfl, Nat.le_of_ble_eq_true rfl⟩) (cPreV (hP.sub [0, 10, 13, 14, 23, 29, 36, 42, 50, 57, 62] rfl) hK (hD.sub [0, 10, 13, 14, 23, 29, 36, 42, 50, 57, 62] (by decide +kernel) rfl) hN (ci := 10) (q0 := 0) rfl rfl) rfl rfl hl.1 rfl (lv_room (Nat.le_of_ble_eq_true rfl)) dL_law_1622 ⟨Nat.le_of_ble_eq_true rfl, Nat.le_of_ble_eq_true rfl⟩) hP hD hS hA [0, 10, 13, 14, 23, 29, 36, 42, 50, 57, 62] rfl (fun _ => rfl) (fun r3 u1 H locs hw2 => ?_)
  clear hP hS
  intro hP hS
  replace hw2 : True := hw2
  refine lv_pop hx hb dL_law_1625 rfl ?_
  have hPx : va_P D vwCl (wX ad rw sd cI cY cJ cQ nx fx rs lo ++ wM md sd cI cY cJ cQ ny fy fl) H := hP
  have hDx : va_D (fun q : Nat => s.heap.size ≤ q) (wX ad rw sd cI cY cJ cQ nx fx rs lo ++ wM md sd cI cY cJ cQ ny fy fl) := wXM_D hD
  have hP := hPx.comm
  have hD := hDx.comm
  refine lv_aload_n hx hb dL_law_1626 rfl (lv_at hl 2 rfl) ?_
  refine law_arg (v := 1) hx hb hX hbl hbA hS (lv_at hl 0 rfl) (lv_at hl 3 rfl) (by decide) hak1 exk1 dL_law_1627 dL_law_1628 dL_law_1629 dL_law_1630 dL_law_1631 ?_
  refine st_iU (va_runV (C := RX11) (As := [.int xk1]) (rest := []) ⟨hx, hb, hml, hown, hts⟩ (ct_X11_count l D cI cY cJ cQ _ md sd (ny 0) (ny 1) (ny 2) (ny 3) (ny 4) (ny 5) (ny 6) (ny 7) (ny 8) (ny 9) (ny 10) (ny 11) (ny 12) (ny 13) (ny 14) (ny 15) (ny 16) (ny 17) (ny 18) (ny 19) (ny 20) (ny 21) (ny 22) (fy 0) xk1) (cwV 1 hts gL_law_X11_count rfl rfl rfl ⟨rfl, cdX11_count⟩ ⟨Nat.le_of_ble_eq_true rfl, Nat.le_of_ble_eq_true rfl⟩) (cPreV (hP.sub [0, 1] rfl) hK (hD.sub [0, 1] (by decide +kernel) rfl) hN (ci := 11) (q0 := 0) rfl rfl) rfl rfl hl.1 rfl (lv_room (Nat.le_of_ble_eq_true rfl)) dL_law_1632 ⟨Nat.le_of_ble_eq_true rfl, Nat.le_of_ble_eq_true rfl⟩) hP hD hS hA [0, 1] rfl (fun _ => rfl) (fun r6 u4 H locs hw5 => ?_)
  clear hP hS
  intro hP hS
  replace hw5 : True := hw5
  refine lv_pop hx hb dL_law_1635 rfl ?_
  refine lv_goto (tgt := 1652) hx hb dL_law_1636 (by decide) ?_
  have hPm : va_P D vwCl (wM md sd cI cY cJ cQ (upd ny 0 0) fy fl ++ wX ad rw sd cI cY cJ cQ nx fx rs lo) H := hP
  have hDm : va_D (fun q : Nat => s.heap.size ≤ q) (wM md sd cI cY cJ cQ (upd ny 0 0) fy fl ++ wX ad rw sd cI cY cJ cQ nx fx rs lo) := wMX_D hD
  exact kk nx fx rs lo (upd ny 0 0) fy fl H locs ls ⟨Xhna, Xhnb, XH, XD, XV, XN, Xcna, Xcnb, XF, Xpna, Xpnb, XG, XO, XW, Xgna, Xgnb, XJ, Xlna, Xlnb, Xdla, Xdlb, Xana, Xanb, Xuna, Xunb, XU, Xlca, Xlcb, Xtna, Xtnb, XS, Mhna, Mhnb, MH, MS, Mmlna, Mmlnb, Mmtna, Mmtnb, Chn, Cho, Chc, Chp, Chs, Ccn, Cfo, Cwo, Cpn, Cpk, Cpf, Cpo, Cpd, Cpe, Cgn, Cgk, Cgs, Cgd, Cge, Can, Cak, Cah, Cay, Caz, Cun, Cuk, Cuy, Cuw, Cum, Clc, Clp, Cla, Clb, Caw, Ciw, Cln, Ctd, Cro, Cmtn, Cmtr, Cmst, Csh⟩ hPm.comm hDm.comm hS hl

set_option maxHeartbeats 4000000 in
set_option maxRecDepth 100000 in
theorem law_case_37 {p : Program} {l : Launch} {e : Env} {s : State} {m : MethodId} {below : List Frame} {meth : Method} {c : Code} {D : va_G} {cI cY cJ cQ : ClassId} {b L aK aV : Nat} {xs : Nat → Int32} {ad rw md : Nat → Nat} {sd i : Int32} {nx : Nat → Int32} {fx rs : Nat → Nat → Int32} {lo : Nat → Int64} {ny : Nat → Int32} {fy : Nat → Nat → Int32} {fl : Nat → Int64} {H : Heap} {locs : List Loc} {ls : Array Slot} (C0 : lawC p s m meth c b L xs D cI cY cJ cQ aK aV) (I : inv nx fx rs ny fy) (hP : va_P D vwCl (wX ad rw sd cI cY cJ cQ nx fx rs lo ++ wM md sd cI cY cJ cQ ny fy fl) H) (hD : va_D (fun q : Nat => s.heap.size ≤ q) (wX ad rw sd cI cY cJ cQ nx fx rs lo ++ wM md sd cI cY cJ cQ ny fy fl)) (hS : va_S (fun q : Nat => s.heap.size ≤ q) s.heap H locs) (hl : lv_has ls 4 [(0, .ref b), (1, .ref (ad 0)), (2, .ref (md 64)), (3, .int i)]) (hi1 : 1 ≤ i.toInt) (hi2 : i.toInt + 5 < L) (kk : ∀ (nx : Nat → Int32) (fx rs : Nat → Nat → Int32) (lo : Nat → Int64) (ny : Nat → Int32) (fy : Nat → Nat → Int32) (fl : Nat → Int64) (H : Heap) (locs : List Loc) (ls : Array Slot), inv nx fx rs ny fy → va_P D vwCl (wX ad rw sd cI cY cJ cQ nx fx rs lo ++ wM md sd cI cY cJ cQ ny fy fl) H → va_D (fun q : Nat => s.heap.size ≤ q) (wX ad rw sd cI cY cJ cQ nx fx rs lo ++ wM md sd cI cY cJ cQ ny fy fl) → va_S (fun q : Nat => s.heap.size ≤ q) s.heap H locs → lv_has ls 4 [(0, .ref b), (1, .ref (ad 0)), (2, .ref (md 64)), (3, .int i)] → W p l e room_1 s m #[Value.ref b] below meth c H locs 107 4890 (lw_Z below #[Value.ref b] s) (F0 m 1652 ls [])) : W p l e room_1 s m #[Value.ref b] below meth c H locs 107 4890 (lw_Z below #[Value.ref b] s) (F0 m 1639 ls []) := by
  obtain ⟨C1, hK, hN, hT, hL⟩ := C0
  obtain ⟨hx, hb, hr, hml, hown, hts0, hX, hbl, hlocks, hgv⟩ := C1
  have hA : ∀ q : Nat, s.heap.size ≤ q → (fun q : Nat => s.heap.size ≤ q) q := fun _ h => h
  have hbA : ¬ (fun q : Nat => s.heap.size ≤ q) b := Nat.not_le.mpr hbl
  have hts : ∀ w ∈ wsL_law, w.before #[Value.ref b] s = true := fun w h => hts0 w (wsL_law_in w h)
  replace hown : s.vm.findClass RL = some m.cls := hown
  replace hb : c.code = cL_law := hb
  refine inv_el I ?_
  intro Xhna Xhnb XH XD XV XN Xcna Xcnb XF Xpna Xpnb XG XO XW Xgna Xgnb XJ Xlna Xlnb Xdla Xdlb Xana Xanb Xuna Xunb XU Xlca Xlcb Xtna Xtnb XS Mhna Mhnb MH MS Mmlna Mmlnb Mmtna Mmtnb Chn Cho Chc Chp Chs Ccn Cfo Cwo Cpn Cpk Cpf Cpo Cpd Cpe Cgn Cgk Cgs Cgd Cge Can Cak Cah Cay Caz Cun Cuk Cuy Cuw Cum Clc Clp Cla Clb Caw Ciw Cln Ctd Cro Cmtn Cmtr Cmst Csh
  have Tcn := i_eq Ccn
  have Tpn := i_eq Cpn
  have Tgn := i_eq Cgn
  have Tan := i_eq Can
  have Tun := i_eq Cun
  have Tlc := i_eq Clc
  have Tln := i_eq Cln
  refine lv_aload_n hx hb dL_law_1639 rfl (lv_at hl 1 rfl) ?_
  refine st_iU (va_runV (C := RX10) (As := []) (rest := []) ⟨hx, hb, hml, hown, hts⟩ (ct_X10_status l D cI cY cJ cQ _ ad (nx 0) (nx 1) (nx 2)) (cwV 0 hts gL_law_X10_status rfl rfl rfl ⟨rfl, cdX10_status⟩ ⟨Nat.le_of_ble_eq_true rfl, Nat.le_of_ble_eq_true rfl⟩) (cPreV (hP.sub [0] rfl) hK (hD.sub [0] (by decide +kernel) rfl) hN (ci := 10) (q0 := 0) rfl rfl) rfl rfl hl.1 rfl (lv_room (Nat.le_of_ble_eq_true rfl)) dL_law_1640 ⟨Nat.le_of_ble_eq_true rfl, Nat.le_of_ble_eq_true rfl⟩) hP hD hS hA [0] rfl (fun _ => rfl) (fun r3 u1 H locs hw2 => ?_)
  clear hP hS
  intro hP hS
  replace hw2 : r3 = (nx 2) := hw2
  refine lv_pop hx hb dL_law_1643 rfl ?_
  have hPx : va_P D vwCl (wX ad rw sd cI cY cJ cQ nx fx rs lo ++ wM md sd cI cY cJ cQ ny fy fl) H := hP
  have hDx : va_D (fun q : Nat => s.heap.size ≤ q) (wX ad rw sd cI cY cJ cQ nx fx rs lo ++ wM md sd cI cY cJ cQ ny fy fl) := wXM_D hD
  have hP := hPx.comm
  have hD := hDx.comm
  refine lv_aload_n hx hb dL_law_1644 rfl (lv_at hl 2 rfl) ?_
  refine st_iU (va_runV (C := RX11) (As := []) (rest := []) ⟨hx, hb, hml, hown, hts⟩ (ct_X11_status l D cI cY cJ cQ _ md sd (ny 0) (ny 1) (ny 2) (ny 3) (ny 4) (ny 5) (ny 6) (ny 7) (ny 8) (ny 9) (ny 10) (ny 11) (ny 12) (ny 13) (ny 14) (ny 15) (ny 16) (ny 17) (ny 18) (ny 19) (ny 20) (ny 21) (ny 22)) (cwV 0 hts gL_law_X11_status rfl rfl rfl ⟨rfl, cdX11_status⟩ ⟨Nat.le_of_ble_eq_true rfl, Nat.le_of_ble_eq_true rfl⟩) (cPreV (hP.sub [0] rfl) hK (hD.sub [0] (by decide +kernel) rfl) hN (ci := 11) (q0 := 0) rfl rfl) rfl rfl hl.1 rfl (lv_room (Nat.le_of_ble_eq_true rfl)) dL_law_1645 ⟨Nat.le_of_ble_eq_true rfl, Nat.le_of_ble_eq_true rfl⟩) hP hD hS hA [0] rfl (fun _ => rfl) (fun r6 u4 H locs hw5 => ?_)
  clear hP hS
  intro hP hS
  replace hw5 : r6 = (ny 1) := hw5
  have e90 := hw2.trans (hw5.trans Cmst).symm
  refine lv_pop hx hb dL_law_1648 rfl ?_
  refine lv_goto (tgt := 1652) hx hb dL_law_1649 (by decide) ?_
  have hPm : va_P D vwCl (wM md sd cI cY cJ cQ (upd ny 0 0) fy fl ++ wX ad rw sd cI cY cJ cQ nx fx rs lo) H := hP
  have hDm : va_D (fun q : Nat => s.heap.size ≤ q) (wM md sd cI cY cJ cQ (upd ny 0 0) fy fl ++ wX ad rw sd cI cY cJ cQ nx fx rs lo) := wMX_D hD
  exact kk nx fx rs lo (upd ny 0 0) fy fl H locs ls ⟨Xhna, Xhnb, XH, XD, XV, XN, Xcna, Xcnb, XF, Xpna, Xpnb, XG, XO, XW, Xgna, Xgnb, XJ, Xlna, Xlnb, Xdla, Xdlb, Xana, Xanb, Xuna, Xunb, XU, Xlca, Xlcb, Xtna, Xtnb, XS, Mhna, Mhnb, MH, MS, Mmlna, Mmlnb, Mmtna, Mmtnb, Chn, Cho, Chc, Chp, Chs, Ccn, Cfo, Cwo, Cpn, Cpk, Cpf, Cpo, Cpd, Cpe, Cgn, Cgk, Cgs, Cgd, Cge, Can, Cak, Cah, Cay, Caz, Cun, Cuk, Cuy, Cuw, Cum, Clc, Clp, Cla, Clb, Caw, Ciw, Cln, Ctd, Cro, Cmtn, Cmtr, Cmst, Csh⟩ hPm.comm hDm.comm hS hl
