theorem cdX10_ask : yX10_ask.cls ≠ "java/lang/invoke/MethodHandle" ∧ yX10_ask.cls ≠ "java/lang/invoke/VarHandle" ∧ (parseMethodDescriptor yX10_ask.desc).map (fun d => d.parameters.length) = some 2 := by decide +kernel
theorem cdX11_ask : yX11_ask.cls ≠ "java/lang/invoke/MethodHandle" ∧ yX11_ask.cls ≠ "java/lang/invoke/VarHandle" ∧ (parseMethodDescriptor yX11_ask.desc).map (fun d => d.parameters.length) = some 2 := by decide +kernel
set_option maxRecDepth 20000 in
theorem ggL_law_X10_ask : GoodIn wsL_law wsX10_ask := goodIn_ch _ [(43, 13), (8, 8), (43, 14), (19, 9), (19, 10), (19, 11), (0, 2), (19, 12), (1, 4), (18, 16), (8, 9), (8, 10), (8, 11), (41, 23), (42, 0), (42, 1), (42, 2), (41, 13), (1, 12), (22, 16), (40, 15), (40, 16), (40, 17), (40, 18), (2, 4), (1, 8), (20, 14), (1, 0), (40, 19), (40, 20), (40, 21), (40, 22), (2, 3), (40, 23), (40, 5), (5, 20), (5, 21), (5, 19), (20, 15), (20, 16), (20, 17), (1, 7), (20, 18), (19, 20), (4, 6), (4, 4), (4, 2), (4, 3), (20, 19), (20, 20), (20, 21), (20, 22), (4, 1), (4, 5), (14, 12), (14, 13), (14, 14), (0, 23), (14, 15), (3, 6), (3, 7), (12, 22), (3, 2), (3, 3), (3, 5), (3, 4), (14, 16), (2, 20), (2, 21), (2, 22), (14, 17), (14, 18), (14, 19), (14, 20), (14, 21), (14, 22), (14, 23), (3, 8), (15, 0), (15, 1), (15, 2), (15, 3), (3, 9), (15, 4), (11, 1), (11, 2), (11, 3), (15, 5), (15, 6), (18, 6), (15, 23), (16, 0), (16, 1), (16, 2), (16, 3), (16, 4), (16, 5), (16, 6), (16, 7), (16, 8), (16, 9), (16, 10), (16, 11), (16, 12), (16, 13), (16, 14), (16, 15), (16, 16), (15, 8), (15, 9), (15, 10), (42, 3), (42, 4), (42, 5), (1, 11), (42, 6), (22, 5), (4, 11), (22, 21), (22, 22), (22, 23), (23, 0), (4, 10), (4, 13), (43, 15), (43, 16), (43, 17), (43, 18), (43, 19), (43, 20), (43, 21), (43, 22), (43, 23), (44, 0), (44, 1), (44, 2), (2, 6), (44, 3), (44, 4), (44, 5), (44, 6), (44, 7), (44, 8), (44, 9), (44, 10), (44, 11), (44, 12), (44, 13), (44, 14), (44, 15), (44, 16), (44, 17), (44, 18), (44, 19), (44, 20), (44, 21), (44, 22), (44, 23), (45, 0), (45, 1), (45, 2), (45, 3), (45, 4), (45, 5), (45, 6), (45, 7), (45, 8), (45, 9), (45, 10), (48, 0), (48, 1), (48, 2), (48, 3), (48, 4), (48, 5), (48, 6), (48, 7), (48, 8), (48, 9), (48, 10), (48, 11), (48, 12), (48, 13), (52, 0), (52, 1), (52, 2), (52, 3), (52, 4), (52, 5), (58, 0), (58, 1), (58, 2), (58, 3), (53, 0), (53, 1), (53, 2), (53, 3), (53, 4), (53, 5), (53, 6), (51, 0), (51, 1), (51, 2), (51, 3), (51, 4), (51, 5), (51, 6), (51, 7), (51, 8), (54, 0), (54, 1), (54, 2), (54, 3), (54, 4), (54, 5)] rfl (by decide +kernel)
set_option maxRecDepth 20000 in
theorem gL_law_X10_ask : GoodIn wsL_law (wsV RL 166 RX10 yX10_ask wsX10_ask) := goodIn_app (goodIn_ch _ [(43, 10), (43, 11), (43, 12), (0, 2)] rfl (by decide +kernel)) ggL_law_X10_ask
set_option maxRecDepth 20000 in
theorem ggL_law_X11_ask : GoodIn wsL_law wsX11_ask := goodIn_ch _ [(45, 14), (9, 6), (9, 8), (45, 15), (20, 6), (20, 7), (20, 8), (0, 5), (20, 9), (19, 3), (9, 14), (9, 15), (9, 16), (42, 11), (42, 12), (42, 13), (42, 14), (41, 18), (6, 21), (42, 15), (42, 16), (42, 17), (42, 18), (22, 10), (7, 3), (7, 6), (7, 4), (41, 4), (41, 5), (41, 6), (41, 7), (40, 10), (7, 22), (7, 23), (7, 21), (41, 8), (21, 3), (21, 4), (21, 5), (21, 6), (6, 20), (21, 7), (8, 2), (20, 5), (6, 22), (7, 2), (7, 1), (6, 23), (7, 0), (17, 1), (17, 2), (17, 3), (17, 4), (17, 5), (17, 6), (17, 7), (17, 8), (17, 9), (6, 16), (15, 15), (15, 16), (15, 17), (15, 18), (13, 8), (6, 12), (6, 13), (6, 15), (6, 14), (17, 10), (17, 11), (17, 12), (17, 13), (6, 17), (6, 19), (17, 14), (6, 18), (13, 7), (17, 15), (45, 16), (45, 17), (45, 18), (45, 19), (45, 20), (45, 21), (45, 22), (45, 23), (8, 0), (46, 0), (46, 1), (46, 2), (46, 3), (43, 7), (43, 8), (43, 9), (46, 4), (46, 5), (46, 6), (46, 7), (49, 0), (49, 1), (49, 2), (49, 3), (49, 4), (49, 5), (49, 6), (49, 7), (49, 8), (49, 9), (49, 10), (49, 11), (49, 12), (49, 13), (49, 14), (49, 15), (49, 16), (49, 17), (49, 18), (49, 19), (49, 20), (49, 21), (49, 22), (49, 23), (49, 24), (49, 25), (49, 26), (49, 27), (49, 28), (49, 29), (49, 30), (49, 31), (49, 32), (49, 33), (49, 34), (49, 35), (49, 36), (49, 37), (49, 38), (49, 39), (49, 40), (49, 41), (49, 42), (49, 43), (49, 44), (49, 45), (49, 46), (49, 47), (49, 48), (49, 49), (49, 50), (49, 51), (49, 52), (49, 53), (49, 54), (49, 55), (49, 56), (49, 57), (49, 58), (49, 59), (49, 60), (49, 61), (49, 62), (49, 63)] rfl (by decide +kernel)
set_option maxRecDepth 20000 in
theorem gL_law_X11_ask : GoodIn wsL_law (wsV RL 169 RX11 yX11_ask wsX11_ask) := goodIn_app (goodIn_ch _ [(45, 11), (45, 12), (45, 13), (0, 5)] rfl (by decide +kernel)) ggL_law_X11_ask
theorem dL_law_1560 : decode cL_law 1560 = .ok (.aload_n 1, 1) := dL_law_all97.2.2.2.2.2.2.1
theorem dL_law_1561 : decode cL_law 1561 = .ok (.aload_n 0, 1) := dL_law_all97.2.2.2.2.2.2.2.1
theorem dL_law_1562 : decode cL_law 1562 = .ok (.iload_n 3, 1) := dL_law_all97.2.2.2.2.2.2.2.2.1
theorem dL_law_1563 : decode cL_law 1563 = .ok (.iconst 1, 1) := dL_law_all97.2.2.2.2.2.2.2.2.2.1
theorem dL_law_1564 : decode cL_law 1564 = .ok (.iadd, 1) := dL_law_all97.2.2.2.2.2.2.2.2.2.2.1
theorem dL_law_1565 : decode cL_law 1565 = .ok (.iaload, 1) := dL_law_all97.2.2.2.2.2.2.2.2.2.2.2
theorem dL_law_all98 : decode cL_law 1566 = .ok (.aload_n 0, 1) ∧ decode cL_law 1567 = .ok (.iload_n 3, 1) ∧ decode cL_law 1568 = .ok (.iconst 2, 1) ∧ decode cL_law 1569 = .ok (.iadd, 1) ∧ decode cL_law 1570 = .ok (.iaload, 1) ∧ decode cL_law 1571 = .ok (.invokevirtual 166, 3) ∧ decode cL_law 1574 = .ok (.pop, 1) ∧ decode cL_law 1575 = .ok (.aload_n 2, 1) ∧ decode cL_law 1576 = .ok (.aload_n 0, 1) ∧ decode cL_law 1577 = .ok (.iload_n 3, 1) ∧ decode cL_law 1578 = .ok (.iconst 1, 1) ∧ decode cL_law 1579 = .ok (.iadd, 1) := by decide +kernel
theorem dL_law_1566 : decode cL_law 1566 = .ok (.aload_n 0, 1) := dL_law_all98.1
theorem dL_law_1567 : decode cL_law 1567 = .ok (.iload_n 3, 1) := dL_law_all98.2.1
theorem dL_law_1568 : decode cL_law 1568 = .ok (.iconst 2, 1) := dL_law_all98.2.2.1
theorem dL_law_1569 : decode cL_law 1569 = .ok (.iadd, 1) := dL_law_all98.2.2.2.1
theorem dL_law_1570 : decode cL_law 1570 = .ok (.iaload, 1) := dL_law_all98.2.2.2.2.1
theorem dL_law_1571 : decode cL_law 1571 = .ok (.invokevirtual 166, 3) := dL_law_all98.2.2.2.2.2.1
theorem dL_law_1574 : decode cL_law 1574 = .ok (.pop, 1) := dL_law_all98.2.2.2.2.2.2.1
theorem dL_law_1575 : decode cL_law 1575 = .ok (.aload_n 2, 1) := dL_law_all98.2.2.2.2.2.2.2.1
theorem dL_law_1576 : decode cL_law 1576 = .ok (.aload_n 0, 1) := dL_law_all98.2.2.2.2.2.2.2.2.1
theorem dL_law_1577 : decode cL_law 1577 = .ok (.iload_n 3, 1) := dL_law_all98.2.2.2.2.2.2.2.2.2.1
theorem dL_law_1578 : decode cL_law 1578 = .ok (.iconst 1, 1) := dL_law_all98.2.2.2.2.2.2.2.2.2.2.1
theorem dL_law_1579 : decode cL_law 1579 = .ok (.iadd, 1) := dL_law_all98.2.2.2.2.2.2.2.2.2.2.2
theorem dL_law_all99 : decode cL_law 1580 = .ok (.iaload, 1) ∧ decode cL_law 1581 = .ok (.aload_n 0, 1) ∧ decode cL_law 1582 = .ok (.iload_n 3, 1) ∧ decode cL_law 1583 = .ok (.iconst 2, 1) ∧ decode cL_law 1584 = .ok (.iadd, 1) ∧ decode cL_law 1585 = .ok (.iaload, 1) ∧ decode cL_law 1586 = .ok (.invokevirtual 169, 3) ∧ decode cL_law 1589 = .ok (.pop, 1) ∧ decode cL_law 1590 = .ok (.goto 62, 3) ∧ decode cL_law 1593 = .ok (.aload_n 1, 1) ∧ decode cL_law 1594 = .ok (.aload_n 0, 1) ∧ decode cL_law 1595 = .ok (.iload_n 3, 1) := by decide +kernel
theorem dL_law_1580 : decode cL_law 1580 = .ok (.iaload, 1) := dL_law_all99.1
theorem dL_law_1581 : decode cL_law 1581 = .ok (.aload_n 0, 1) := dL_law_all99.2.1
theorem dL_law_1582 : decode cL_law 1582 = .ok (.iload_n 3, 1) := dL_law_all99.2.2.1
theorem dL_law_1583 : decode cL_law 1583 = .ok (.iconst 2, 1) := dL_law_all99.2.2.2.1
theorem dL_law_1584 : decode cL_law 1584 = .ok (.iadd, 1) := dL_law_all99.2.2.2.2.1
theorem dL_law_1585 : decode cL_law 1585 = .ok (.iaload, 1) := dL_law_all99.2.2.2.2.2.1
theorem dL_law_1586 : decode cL_law 1586 = .ok (.invokevirtual 169, 3) := dL_law_all99.2.2.2.2.2.2.1
theorem dL_law_1589 : decode cL_law 1589 = .ok (.pop, 1) := dL_law_all99.2.2.2.2.2.2.2.1
theorem dL_law_1590 : decode cL_law 1590 = .ok (.goto 62, 3) := dL_law_all99.2.2.2.2.2.2.2.2.1
set_option maxHeartbeats 4000000 in
set_option maxRecDepth 100000 in
theorem law_case_34 {p : Program} {l : Launch} {e : Env} {s : State} {m : MethodId} {below : List Frame} {meth : Method} {c : Code} {D : va_G} {cI cY cJ cQ : ClassId} {b L aK aV : Nat} {xs : Nat → Int32} {ad rw md : Nat → Nat} {sd i : Int32} {nx : Nat → Int32} {fx rs : Nat → Nat → Int32} {lo : Nat → Int64} {ny : Nat → Int32} {fy : Nat → Nat → Int32} {fl : Nat → Int64} {H : Heap} {locs : List Loc} {ls : Array Slot} (C0 : lawC p s m meth c b L xs D cI cY cJ cQ aK aV) (I : inv nx fx ny fy) (hP : va_P D vwCl (wX ad rw sd cI cY cJ cQ nx fx rs lo ++ wM md sd cI cY cJ cQ ny fy fl) H) (hD : va_D (fun q : Nat => s.heap.size ≤ q) (wX ad rw sd cI cY cJ cQ nx fx rs lo ++ wM md sd cI cY cJ cQ ny fy fl)) (hS : va_S (fun q : Nat => s.heap.size ≤ q) s.heap H locs) (hl : lv_has ls 4 [(0, .ref b), (1, .ref (ad 0)), (2, .ref (md 64)), (3, .int i)]) (hi1 : 1 ≤ i.toInt) (hi2 : i.toInt + 5 < L) (kk : ∀ (nx : Nat → Int32) (fx rs : Nat → Nat → Int32) (lo : Nat → Int64) (ny : Nat → Int32) (fy : Nat → Nat → Int32) (fl : Nat → Int64) (H : Heap) (locs : List Loc) (ls : Array Slot), inv nx fx ny fy → va_P D vwCl (wX ad rw sd cI cY cJ cQ nx fx rs lo ++ wM md sd cI cY cJ cQ ny fy fl) H → va_D (fun q : Nat => s.heap.size ≤ q) (wX ad rw sd cI cY cJ cQ nx fx rs lo ++ wM md sd cI cY cJ cQ ny fy fl) → va_S (fun q : Nat => s.heap.size ≤ q) s.heap H locs → lv_has ls 4 [(0, .ref b), (1, .ref (ad 0)), (2, .ref (md 64)), (3, .int i)] → W p l e room_1 s m #[Value.ref b] below meth c H locs 107 4890 (lw_Z below #[Value.ref b] s) (F0 m 1652 ls [])) : W p l e room_1 s m #[Value.ref b] below meth c H locs 107 4890 (lw_Z below #[Value.ref b] s) (F0 m 1560 ls []) := by
  obtain ⟨C1, hK, hN, hT, hL⟩ := C0
  obtain ⟨hx, hb, hr, hml, hown, hts0, hX, hbl, hlocks, hgv⟩ := C1
  have hA : ∀ q : Nat, s.heap.size ≤ q → (fun q : Nat => s.heap.size ≤ q) q := fun _ h => h
  have hbA : ¬ (fun q : Nat => s.heap.size ≤ q) b := Nat.not_le.mpr hbl
  have hts : ∀ w ∈ wsL_law, w.before #[Value.ref b] s = true := fun w h => hts0 w (wsL_law_in w h)
  replace hown : s.vm.findClass RL = some m.cls := hown
  replace hb : c.code = cL_law := hb
  obtain ⟨Xhna, Xhnb, XH, Xcna, Xcnb, Xpna, Xpnb, XO, Xgna, Xgnb, Xlna, Xlnb, Xdla, Xdlb, Xana, Xanb, Xuna, Xunb, Xlca, Xlcb, Xtna, Xtnb, XS, Mhna, Mhnb, MH, MS, Mmlna, Mmlnb, Mmtna, Mmtnb, Ccn, Cfo, Cwo, Cpn, Cpk, Cpf, Cpo, Cpd, Cpe, Cgn, Cgk, Cgs, Cgd, Cge, Can, Cak, Cah, Cay, Caz, Cun, Cuk, Cuy, Cuw, Cum, Clc, Clp, Cla, Clb, Caw, Ciw, Cln, Ctd⟩ := I
  have Tcn := i_eq Ccn
  have Tpn := i_eq Cpn
  have Tgn := i_eq Cgn
  have Tan := i_eq Can
  have Tun := i_eq Cun
  have Tlc := i_eq Clc
  have Tln := i_eq Cln
  have k1 : (1 : Int32).toInt = 1 := by decide
  have k2 : (2 : Int32).toInt = 2 := by decide
  obtain ⟨xk1, exk1⟩ : ∃ y : Int32, y = xs (i.toNatClampNeg + 1) := ⟨_, rfl⟩
  obtain ⟨xk2, exk2⟩ : ∃ y : Int32, y = xs (i.toNatClampNeg + 2) := ⟨_, rfl⟩
  refine lv_aload_n hx hb dL_law_1560 rfl (lv_at hl 1 rfl) ?_
  refine lv_aload_n hx hb dL_law_1561 rfl (lv_at hl 0 rfl) ?_
  refine lv_iload_n hx hb dL_law_1562 rfl (lv_at hl 3 rfl) ?_
  refine lv_iconst (v := 1) hx hb dL_law_1563 (by decide) ?_
  refine lv_iadd hx hb dL_law_1564 ?_
  refine lv_topi (fun v1 ev1 => ?_)
  try have tv1 : v1.toInt = i.toInt + 1 := by rw [ev1]; exact (i_add (x := i) (y := (1 : Int32)) (by rw [k1]; omega) (by rw [k1]; omega)).trans (by rw [k1])
  refine va_sld hx hb hX hbl hbA hS (i_in (by omega) (by omega)) dL_law_1565 ?_
  refine lv_topi (fun a2 ea2 => ?_)
  replace ea2 : xk1 = a2 := (ea2.trans (by rw [exk1]; congr 1; have := i_cl (x := v1) (by omega); have := i_cl (x := i) (by omega); omega)).symm
  subst ea2
  refine lv_aload_n hx hb dL_law_1566 rfl (lv_at hl 0 rfl) ?_
  refine lv_iload_n hx hb dL_law_1567 rfl (lv_at hl 3 rfl) ?_
  refine lv_iconst (v := 2) hx hb dL_law_1568 (by decide) ?_
  refine lv_iadd hx hb dL_law_1569 ?_
  refine lv_topi (fun v3 ev3 => ?_)
  try have tv3 : v3.toInt = i.toInt + 2 := by rw [ev3]; exact (i_add (x := i) (y := (2 : Int32)) (by rw [k2]; omega) (by rw [k2]; omega)).trans (by rw [k2])
  refine va_sld hx hb hX hbl hbA hS (i_in (by omega) (by omega)) dL_law_1570 ?_
  refine lv_topi (fun a4 ea4 => ?_)
  replace ea4 : xk2 = a4 := (ea4.trans (by rw [exk2]; congr 1; have := i_cl (x := v3) (by omega); have := i_cl (x := i) (by omega); omega)).symm
  subst ea4
  refine st_iQ (wr := [((rw 0), .inl (cI, 60, .inl (rs 0))), ((rw 1), .inl (cI, 60, .inl (rs 1))), ((rw 2), .inl (cI, 60, .inl (rs 2))), ((rw 3), .inl (cI, 60, .inl (rs 3))), ((rw 4), .inl (cI, 60, .inl (rs 4))), ((rw 5), .inl (cI, 60, .inl (rs 5))), ((rw 6), .inl (cI, 60, .inl (rs 6))), ((rw 7), .inl (cI, 60, .inl (rs 7))), ((ad 1), .inr (9, [.ref (ad 12), .ref (ad 13), .ref (ad 14)])), ((ad 12), .inl (cQ, 8, .inr (.inr (.inr (.inr (fun i => if i < 8 then some (rw i) else none)))))), ((ad 13), .inl (cI, 8, .inl (fx 1))), ((ad 14), .inl (cI, 8, .inl (fx 2))), ((ad 33), .inl (cI, 12, .inl (fx 13))), ((ad 34), .inl (cI, 6, .inl (fx 14))), ((ad 35), .inl (cI, 6, .inl (fx 15))), ((ad 46), .inl (cI, 40, .inl (fx 26))), ((ad 6), .inr (2, [.ref (ad 47), .int (nx 7), .int (nx 8), .ref (ad 48), .ref (ad 49), .ref (ad 50), .int (nx 9), .ref (ad 51), .ref (ad 52), .ref (ad 53), .int (nx 10), .int (nx 11), .int (nx 12), .int (nx 13), .int (nx 14)])), ((ad 47), .inl (cY, 300, .inl (fx 27))), ((ad 48), .inl (cI, 12, .inl (fx 28))), ((ad 49), .inl (cI, 12, .inl (fx 29))), ((ad 50), .inl (cI, 12, .inl (fx 30))), ((ad 51), .inl (cI, 12, .inl (fx 31))), ((ad 52), .inl (cI, 12, .inl (fx 32))), ((ad 53), .inl (cI, 12, .inl (fx 33))), ((ad 7), .inr (0, [.ref (ad 54), .ref (ad 55), .ref (ad 56), .ref (ad 57), .int (nx 15)])), ((ad 54), .inl (cI, 60, .inl (fx 34))), ((ad 55), .inl (cI, 60, .inl (fx 35))), ((ad 56), .inl (cI, 60, .inl (fx 36))), ((ad 57), .inl (cI, 60, .inl (fx 37))), ((ad 8), .inr (5, [.int sd, .ref (ad 58)])), ((ad 58), .inl (cJ, 12, .inr (.inl lo))), ((ad 9), .inr (6, [.ref (ad 59), .ref (ad 60), .ref (ad 61), .ref (ad 62), .int (nx 16)])), ((ad 59), .inl (cI, 60, .inl (fx 38))), ((ad 60), .inl (cI, 60, .inl (fx 39))), ((ad 61), .inl (cI, 60, .inl (fx 40))), ((ad 62), .inl (cI, 60, .inl (fx 41)))]) (va_runV (C := RX10) (As := [.int xk1, .int xk2]) (rest := []) ⟨hx, hb, hml, hown, hts⟩ (ct_X10_ask l D cI cY cJ cQ _ ad (nx 0) (nx 1) (nx 2) (nx 4) (nx 5) (nx 3) (nx 17) (nx 6) (fx 11) (fx 16) (fx 17) (fx 18) (fx 19) (fx 20) (fx 21) (fx 3) (fx 4) (fx 5) (fx 6) (fx 7) (fx 8) (fx 9) (fx 10) (fx 42) (fx 43) (fx 44) (fx 12) (fx 22) (fx 23) (fx 24) (fx 25) (fx 0) xk1 xk2 (by omega) (by omega) (by omega) (by omega) (by assumption) (by omega) (by omega) (by assumption) (by omega) (by omega) (by omega) (by omega) (by omega) (by omega)) (cwV 2 hts gL_law_X10_ask rfl rfl rfl ⟨rfl, cdX10_ask⟩ ⟨Nat.le_of_ble_eq_true rfl, Nat.le_of_ble_eq_true rfl⟩) (cPreV (hP.sub [0, 23, 24, 29, 30, 31, 32, 33, 34, 35, 14, 15, 16, 17, 18, 19, 20, 21, 22, 62, 63, 64, 65, 25, 36, 37, 38, 39, 40, 1] rfl) hK (hD.sub [0, 23, 24, 29, 30, 31, 32, 33, 34, 35, 14, 15, 16, 17, 18, 19, 20, 21, 22, 62, 63, 64, 65, 25, 36, 37, 38, 39, 40, 1] (by decide +kernel) rfl) hN (ci := 10) (q0 := 0) rfl rfl) rfl rfl hl.1 rfl (lv_room (Nat.le_of_ble_eq_true rfl)) dL_law_1571 ⟨Nat.le_of_ble_eq_true rfl, Nat.le_of_ble_eq_true rfl⟩) hP hD hS hA [0, 23, 24, 29, 30, 31, 32, 33, 34, 35, 14, 15, 16, 17, 18, 19, 20, 21, 22, 62, 63, 64, 65, 25, 36, 37, 38, 39, 40, 1] [2, 3, 4, 5, 6, 7, 8, 9, 10, 11, 12, 13, 26, 27, 28, 41, 42, 43, 44, 45, 46, 47, 48, 49, 50, 51, 52, 53, 54, 55, 56, 57, 58, 59, 60, 61] rfl rfl (by decide +kernel) (by decide +kernel) (fun r7 u5 H locs hw6 hP hD hS => ?_)
  obtain ⟨tn_8, tr_9, pt_10, ps_11, ha_12, re_13⟩ := u5
  replace hw6 : 0 ≤ tn_8.toInt ∧ tn_8.toInt ≤ 16 := hw6
  refine lv_pop hx hb dL_law_1574 rfl ?_
  have hPx : va_P D vwCl (wX ad rw sd cI cY cJ cQ (upd nx 0 tn_8) (upR (upR (upR (upR (upR fx 0 tr_9) 7 pt_10) 8 ps_11) 9 ha_12) 10 re_13) rs lo ++ wM md sd cI cY cJ cQ ny fy fl) H := hP.part [36, 65, 0, 1, 2, 3, 4, 5, 6, 7, 8, 9, 10, 11, 46, 47, 48, 49, 50, 51, 52, 53, 54, 37, 38, 59, 12, 13, 14, 39, 40, 41, 42, 43, 44, 45, 60, 61, 62, 63, 64, 15, 16, 17, 18, 19, 20, 21, 22, 23, 24, 25, 26, 27, 28, 29, 30, 31, 32, 33, 34, 35, 55, 56, 57, 58] rfl
  have hDx : va_D (fun q : Nat => s.heap.size ≤ q) (wX ad rw sd cI cY cJ cQ (upd nx 0 tn_8) (upR (upR (upR (upR (upR fx 0 tr_9) 7 pt_10) 8 ps_11) 9 ha_12) 10 re_13) rs lo ++ wM md sd cI cY cJ cQ ny fy fl) := hD.part [36, 65, 0, 1, 2, 3, 4, 5, 6, 7, 8, 9, 10, 11, 46, 47, 48, 49, 50, 51, 52, 53, 54, 37, 38, 59, 12, 13, 14, 39, 40, 41, 42, 43, 44, 45, 60, 61, 62, 63, 64, 15, 16, 17, 18, 19, 20, 21, 22, 23, 24, 25, 26, 27, 28, 29, 30, 31, 32, 33, 34, 35, 55, 56, 57, 58] (by decide +kernel) rfl
  have hP := hPx.comm
  have hD := hDx.comm
  refine lv_aload_n hx hb dL_law_1575 rfl (lv_at hl 2 rfl) ?_
  refine lv_aload_n hx hb dL_law_1576 rfl (lv_at hl 0 rfl) ?_
  refine lv_iload_n hx hb dL_law_1577 rfl (lv_at hl 3 rfl) ?_
  refine lv_iconst (v := 1) hx hb dL_law_1578 (by decide) ?_
  refine lv_iadd hx hb dL_law_1579 ?_
  refine lv_topi (fun v14 ev14 => ?_)
  try have tv14 : v14.toInt = i.toInt + 1 := by rw [ev14]; exact (i_add (x := i) (y := (1 : Int32)) (by rw [k1]; omega) (by rw [k1]; omega)).trans (by rw [k1])
  refine va_sld hx hb hX hbl hbA hS (i_in (by omega) (by omega)) dL_law_1580 ?_
  refine lv_topi (fun a15 ea15 => ?_)
  replace ea15 : xk1 = a15 := (ea15.trans (by rw [exk1]; congr 1; have := i_cl (x := v14) (by omega); have := i_cl (x := i) (by omega); omega)).symm
  subst ea15
  refine lv_aload_n hx hb dL_law_1581 rfl (lv_at hl 0 rfl) ?_
  refine lv_iload_n hx hb dL_law_1582 rfl (lv_at hl 3 rfl) ?_
  refine lv_iconst (v := 2) hx hb dL_law_1583 (by decide) ?_
  refine lv_iadd hx hb dL_law_1584 ?_
  refine lv_topi (fun v16 ev16 => ?_)
  try have tv16 : v16.toInt = i.toInt + 2 := by rw [ev16]; exact (i_add (x := i) (y := (2 : Int32)) (by rw [k2]; omega) (by rw [k2]; omega)).trans (by rw [k2])
  refine va_sld hx hb hX hbl hbA hS (i_in (by omega) (by omega)) dL_law_1585 ?_
  refine lv_topi (fun a17 ea17 => ?_)
  replace ea17 : xk2 = a17 := (ea17.trans (by rw [exk2]; congr 1; have := i_cl (x := v16) (by omega); have := i_cl (x := i) (by omega); omega)).symm
  subst ea17
  refine st_iQ (wr := [((md 3), .inl (cI, 8, .inl (fy 0))), ((md 4), .inl (cI, 8, .inl (fy 1))), ((md 5), .inl (cI, 480, .inl (fy 2))), ((md 31), .inl (cI, 36, .inl (fy 21))), ((md 33), .inl (cI, 36, .inl (fy 22))), ((md 34), .inl (cI, 300, .inl (fy 23))), ((md 45), .inl (cI, 60, .inl (fy 24))), ((md 46), .inl (cI, 60, .inl (fy 25))), ((md 47), .inl (cI, 60, .inl (fy 26))), ((md 48), .inl (cI, 60, .inl (fy 27))), ((md 49), .inl (cI, 6, .inl (fy 28))), ((md 50), .inl (cI, 6, .inl (fy 29))), ((md 51), .inl (cI, 12, .inl (fy 30))), ((md 53), .inl (cI, 60, .inl (fy 31))), ((md 54), .inl (cI, 60, .inl (fy 32))), ((md 55), .inl (cI, 60, .inl (fy 33))), ((md 56), .inl (cI, 60, .inl (fy 34)))]) (va_runV (C := RX11) (As := [.int xk1, .int xk2]) (rest := []) ⟨hx, hb, hml, hown, hts⟩ (ct_X11_ask l D cI cY cJ cQ _ md sd (ny 0) (ny 1) (ny 2) (ny 3) (ny 4) (ny 5) (ny 6) (ny 7) (ny 8) (ny 9) (ny 10) (ny 11) (ny 12) (ny 13) (ny 14) (ny 15) (ny 16) (ny 17) (ny 18) (ny 19) (ny 20) (ny 21) (ny 22) (fy 10) (fy 12) (fy 13) (fy 14) (fy 15) (fy 16) (fy 35) (fy 36) (fy 37) (fy 3) (fy 4) (fy 5) (fy 6) (fy 7) (fy 8) (fy 9) (fy 11) (fy 17) (fy 18) (fy 19) (fy 20) (fy 38) fl xk1 xk2 (by omega) (by omega) (by omega) (by omega) (by omega) (by omega) (by omega) (by omega) (by omega) (by omega) (by omega) (by omega)) (cwV 2 hts gL_law_X11_ask rfl rfl rfl ⟨rfl, cdX11_ask⟩ ⟨Nat.le_of_ble_eq_true rfl, Nat.le_of_ble_eq_true rfl⟩) (cPreV (hP.sub [0, 12, 14, 15, 16, 17, 18, 37, 38, 39, 4, 5, 6, 7, 8, 9, 10, 11, 13, 19, 20, 21, 22, 40] rfl) hK (hD.sub [0, 12, 14, 15, 16, 17, 18, 37, 38, 39, 4, 5, 6, 7, 8, 9, 10, 11, 13, 19, 20, 21, 22, 40] (by decide +kernel) rfl) hN (ci := 11) (q0 := 0) rfl rfl) rfl rfl hl.1 rfl (lv_room (Nat.le_of_ble_eq_true rfl)) dL_law_1586 ⟨Nat.le_of_ble_eq_true rfl, Nat.le_of_ble_eq_true rfl⟩) hP hD hS hA [0, 12, 14, 15, 16, 17, 18, 37, 38, 39, 4, 5, 6, 7, 8, 9, 10, 11, 13, 19, 20, 21, 22, 40] [1, 2, 3, 23, 24, 25, 26, 27, 28, 29, 30, 31, 32, 33, 34, 35, 36] rfl rfl (by decide +kernel) (by decide +kernel) (fun r20 u18 H locs hw19 hP hD hS => ?_)
  obtain ⟨mtn_21, mtr_22, mq_23, mh_24, mp_25, mt_26, mf_27⟩ := u18
  replace hw19 : 0 ≤ mtn_21.toInt ∧ mtn_21.toInt ≤ 16 := hw19
  refine lv_pop hx hb dL_law_1589 rfl ?_
  refine lv_goto (tgt := 1652) hx hb dL_law_1590 (by decide) ?_
  have hPm : va_P D vwCl (wM md sd cI cY cJ cQ (upd (upd (upd ny 0 0) 5 mq_23) 22 mtn_21) (upR (upR (upR (upR fy 7 mh_24) 8 mp_25) 9 mt_26) 38 mtr_22) mf_27 ++ wX ad rw sd cI cY cJ cQ (upd nx 0 tn_8) (upR (upR (upR (upR (upR fx 0 tr_9) 7 pt_10) 8 ps_11) 9 ha_12) 10 re_13) rs lo) H := hP.part [17, 0, 1, 2, 27, 28, 29, 30, 31, 32, 33, 34, 18, 35, 19, 20, 21, 22, 23, 36, 37, 38, 39, 3, 4, 5, 6, 7, 8, 9, 10, 11, 12, 13, 14, 15, 16, 24, 25, 26, 40] rfl
  have hDm : va_D (fun q : Nat => s.heap.size ≤ q) (wM md sd cI cY cJ cQ (upd (upd (upd ny 0 0) 5 mq_23) 22 mtn_21) (upR (upR (upR (upR fy 7 mh_24) 8 mp_25) 9 mt_26) 38 mtr_22) mf_27 ++ wX ad rw sd cI cY cJ cQ (upd nx 0 tn_8) (upR (upR (upR (upR (upR fx 0 tr_9) 7 pt_10) 8 ps_11) 9 ha_12) 10 re_13) rs lo) := hD.part [17, 0, 1, 2, 27, 28, 29, 30, 31, 32, 33, 34, 18, 35, 19, 20, 21, 22, 23, 36, 37, 38, 39, 3, 4, 5, 6, 7, 8, 9, 10, 11, 12, 13, 14, 15, 16, 24, 25, 26, 40] (by decide +kernel) rfl
  exact kk (upd nx 0 tn_8) (upR (upR (upR (upR (upR fx 0 tr_9) 7 pt_10) 8 ps_11) 9 ha_12) 10 re_13) rs lo (upd (upd (upd ny 0 0) 5 mq_23) 22 mtn_21) (upR (upR (upR (upR fy 7 mh_24) 8 mp_25) 9 mt_26) 38 mtr_22) mf_27 H locs ls ⟨Xhna, Xhnb, XH, Xcna, Xcnb, Xpna, Xpnb, XO, Xgna, Xgnb, Xlna, Xlnb, Xdla, Xdlb, Xana, Xanb, Xuna, Xunb, Xlca, Xlcb, (by show 0 ≤ (tn_8).toInt; omega), (by show (tn_8).toInt ≤ 16; omega), XS, Mhna, Mhnb, MH, MS, Mmlna, Mmlnb, (by show 0 ≤ (mtn_21).toInt; omega), (by show (mtn_21).toInt ≤ 16; omega), Ccn, Cfo, Cwo, Cpn, Cpk, Cpf, Cpo, Cpd, Cpe, Cgn, Cgk, Cgs, Cgd, Cge, Can, Cak, Cah, Cay, Caz, Cun, Cuk, Cuy, Cuw, Cum, Clc, Clp, Cla, Clb, Caw, Ciw, Cln, Ctd⟩ hPm.comm hDm.comm hS hl
