set_option maxRecDepth 20000 in
theorem ggL_law_X10_ask : GoodIn wsL_law wsX10_ask := goodIn_r _ [1045, 200, 1046, 465, 466, 467, 2, 468, 28, 448, 201, 202, 203, 1007, 1008, 1009, 1010, 997, 36, 544, 975, 976, 977, 978, 52, 32, 494, 24, 979, 980, 981, 982, 51, 983, 965, 140, 141, 139, 495, 496, 497, 31, 498, 476, 102, 100, 98, 99, 499, 500, 501, 502, 97, 101, 348, 349, 350, 23, 351, 78, 79, 310, 74, 75, 77, 76, 352, 68, 69, 70, 353, 354, 355, 356, 357, 358, 359, 80, 360, 361, 362, 363, 81, 364, 265, 266, 267, 365, 366, 438, 383, 384, 385, 386, 387, 388, 389, 390, 391, 392, 393, 394, 395, 396, 397, 398, 399, 400, 368, 369, 370, 1011, 1012, 1013, 35, 1014, 533, 107, 549, 550, 551, 552, 106, 109, 1047, 1048, 1049, 1050, 1051, 1052, 1053, 1054, 1055, 1056, 1057, 1058, 54, 1059, 1060, 1061, 1062, 1063, 1064, 1065, 1066, 1067, 1068, 1069, 1070, 1071, 1072, 1073, 1074, 1075, 1076, 1077, 1078, 1079, 1080, 1081, 1082, 1083, 1084, 1085, 1086, 1087, 1088, 1089, 1090, 1142, 1143, 1144, 1145, 1146, 1147, 1148, 1149, 1150, 1151, 1152, 1153, 1154, 1155, 1232, 1233, 1234, 1235, 1236, 1237, 1276, 1277, 1278, 1279, 1238, 1239, 1240, 1241, 1242, 1243, 1244, 1223, 1224, 1225, 1226, 1227, 1228, 1229, 1230, 1231, 1245, 1246, 1247, 1248, 1249, 1250] (by decide +kernel) (by decide +kernel)
set_option maxRecDepth 20000 in
theorem gL_law_X10_ask : GoodIn wsL_law (wsV RL 166 RX10 yX10_ask wsX10_ask) := goodIn_app (goodIn_of _ (by decide +kernel)) ggL_law_X10_ask
set_option maxRecDepth 20000 in
theorem ggL_law_X11_ask : GoodIn wsL_law wsX11_ask := goodIn_r _ [1094, 222, 224, 1095, 486, 487, 488, 5, 489, 459, 230, 231, 232, 1019, 1020, 1021, 1022, 1002, 165, 1023, 1024, 1025, 1026, 538, 171, 174, 172, 988, 989, 990, 991, 970, 190, 191, 189, 992, 507, 508, 509, 510, 164, 511, 194, 485, 166, 170, 169, 167, 168, 409, 410, 411, 412, 413, 414, 415, 416, 417, 160, 375, 376, 377, 378, 320, 156, 157, 159, 158, 418, 419, 420, 421, 161, 163, 422, 162, 319, 423, 1096, 1097, 1098, 1099, 1100, 1101, 1102, 1103, 192, 1104, 1105, 1106, 1107, 1039, 1040, 1041, 1108, 1109, 1110, 1111, 1156, 1157, 1158, 1159, 1160, 1161, 1162, 1163, 1164, 1165, 1166, 1167, 1168, 1169, 1170, 1171, 1172, 1173, 1174, 1175, 1176, 1177, 1178, 1179, 1180, 1181, 1182, 1183, 1184, 1185, 1186, 1187, 1188, 1189, 1190, 1191, 1192, 1193, 1194, 1195, 1196, 1197, 1198, 1199, 1200, 1201, 1202, 1203, 1204, 1205, 1206, 1207, 1208, 1209, 1210, 1211, 1212, 1213, 1214, 1215, 1216, 1217, 1218, 1219] (by decide +kernel) (by decide +kernel)
set_option maxRecDepth 20000 in
theorem gL_law_X11_ask : GoodIn wsL_law (wsV RL 169 RX11 yX11_ask wsX11_ask) := goodIn_app (goodIn_of _ (by decide +kernel)) ggL_law_X11_ask
theorem dL_law_1560 : decode cL_law 1560 = .ok (.aload_n 1, 1) := by decide +kernel
theorem dL_law_1561 : decode cL_law 1561 = .ok (.aload_n 0, 1) := by decide +kernel
theorem dL_law_1562 : decode cL_law 1562 = .ok (.iload_n 3, 1) := by decide +kernel
theorem dL_law_1563 : decode cL_law 1563 = .ok (.iconst 1, 1) := by decide +kernel
theorem dL_law_1564 : decode cL_law 1564 = .ok (.iadd, 1) := by decide +kernel
theorem dL_law_1565 : decode cL_law 1565 = .ok (.iaload, 1) := by decide +kernel
theorem dL_law_1566 : decode cL_law 1566 = .ok (.aload_n 0, 1) := by decide +kernel
theorem dL_law_1567 : decode cL_law 1567 = .ok (.iload_n 3, 1) := by decide +kernel
theorem dL_law_1568 : decode cL_law 1568 = .ok (.iconst 2, 1) := by decide +kernel
theorem dL_law_1569 : decode cL_law 1569 = .ok (.iadd, 1) := by decide +kernel
theorem dL_law_1570 : decode cL_law 1570 = .ok (.iaload, 1) := by decide +kernel
theorem dL_law_1571 : decode cL_law 1571 = .ok (.invokevirtual 166, 3) := by decide +kernel
theorem dL_law_1574 : decode cL_law 1574 = .ok (.pop, 1) := by decide +kernel
theorem dL_law_1575 : decode cL_law 1575 = .ok (.aload_n 2, 1) := by decide +kernel
theorem dL_law_1576 : decode cL_law 1576 = .ok (.aload_n 0, 1) := by decide +kernel
theorem dL_law_1577 : decode cL_law 1577 = .ok (.iload_n 3, 1) := by decide +kernel
theorem dL_law_1578 : decode cL_law 1578 = .ok (.iconst 1, 1) := by decide +kernel
theorem dL_law_1579 : decode cL_law 1579 = .ok (.iadd, 1) := by decide +kernel
theorem dL_law_1580 : decode cL_law 1580 = .ok (.iaload, 1) := by decide +kernel
theorem dL_law_1581 : decode cL_law 1581 = .ok (.aload_n 0, 1) := by decide +kernel
theorem dL_law_1582 : decode cL_law 1582 = .ok (.iload_n 3, 1) := by decide +kernel
theorem dL_law_1583 : decode cL_law 1583 = .ok (.iconst 2, 1) := by decide +kernel
theorem dL_law_1584 : decode cL_law 1584 = .ok (.iadd, 1) := by decide +kernel
theorem dL_law_1585 : decode cL_law 1585 = .ok (.iaload, 1) := by decide +kernel
theorem dL_law_1586 : decode cL_law 1586 = .ok (.invokevirtual 169, 3) := by decide +kernel
theorem dL_law_1589 : decode cL_law 1589 = .ok (.pop, 1) := by decide +kernel
theorem dL_law_1590 : decode cL_law 1590 = .ok (.goto 62, 3) := by decide +kernel
set_option maxHeartbeats 4000000 in
set_option maxRecDepth 100000 in
theorem law_case_34 {p : Program} {l : Launch} {e : Env} {s : State} {m : MethodId} {below : List Frame} {meth : Method} {c : Code} {D : va_G} {cI cY cJ cQ : ClassId} {b L aK aV : Nat} {xs : Nat → Int32} {ad rw md : Nat → Nat} {sd i : Int32} {nx : Nat → Int32} {fx rs : Nat → Nat → Int32} {lo : Nat → Int64} {ny : Nat → Int32} {fy : Nat → Nat → Int32} {fl : Nat → Int64} {H : Heap} {locs : List Loc} {ls : Array Slot} (C0 : lawC p s m meth c b L xs D cI cY cJ cQ aK aV) (I : inv nx fx ny fy) (hP : va_P D vwCl (wX ad rw sd cI cY cJ cQ nx fx rs lo ++ wM md sd cI cY cJ cQ ny fy fl) H) (hD : va_D (fun q : Nat => s.heap.size ≤ q) (wX ad rw sd cI cY cJ cQ nx fx rs lo ++ wM md sd cI cY cJ cQ ny fy fl)) (hS : va_S (fun q : Nat => s.heap.size ≤ q) s.heap H locs) (hl : lv_has ls 4 [(0, .ref b), (1, .ref (ad 0)), (2, .ref (md 64)), (3, .int i)]) (hi1 : 1 ≤ i.toInt) (hi2 : i.toInt + 5 < L) (kk : ∀ (nx : Nat → Int32) (fx rs : Nat → Nat → Int32) (lo : Nat → Int64) (ny : Nat → Int32) (fy : Nat → Nat → Int32) (fl : Nat → Int64) (H : Heap) (locs : List Loc) (ls : Array Slot), inv nx fx ny fy → va_P D vwCl (wX ad rw sd cI cY cJ cQ nx fx rs lo ++ wM md sd cI cY cJ cQ ny fy fl) H → va_D (fun q : Nat => s.heap.size ≤ q) (wX ad rw sd cI cY cJ cQ nx fx rs lo ++ wM md sd cI cY cJ cQ ny fy fl) → va_S (fun q : Nat => s.heap.size ≤ q) s.heap H locs → lv_has ls 4 [(0, .ref b), (1, .ref (ad 0)), (2, .ref (md 64)), (3, .int i)] → W p l e room_1 s m #[Value.ref b] below meth c H locs 107 4890 (lw_Z below #[Value.ref b] s) (F0 m 1652 ls [])) : W p l e room_1 s m #[Value.ref b] below meth c H locs 107 4890 (lw_Z below #[Value.ref b] s) (F0 m 1560 ls []) := by
  obtain ⟨C1, hK, hN, hT, hL⟩ := C0
  obtain ⟨hx, hb, hr, hml, hown, hts0, hX, hbl, hlocks, hgv⟩ := C1
  have hA : ∀ q : Nat, s.heap.size ≤ q → (fun q : Nat => s.heap.size ≤ q) q := fun _ h => h
  have hbA : ¬ (fun q : Nat => s.heap.size ≤ q) b := Nat.not_le.mpr hbl
  have hts : ∀ w ∈ wsL_law, w.before #[Value.ref b] s = true := fun w h => hts0 w (wsL_law_in w h)
  replace hown : s.vm.findClass RL = some m.cls := hown
  replace hb : c.code = cL_law := hb
  obtain ⟨Xhna, Xhnb, XH, Xcna, Xcnb, Xpna, Xpnb, XO, Xgna, Xgnb, Xlna, Xlnb, Xdla, Xdlb, Xana, Xanb, Xuna, Xunb, Xlca, Xlcb, Xtna, Xtnb, XS, Mhna, Mhnb, MH, MS, Mmlna, Mmlnb, Mmtna, Mmtnb, Ccn, Cfo, Cwo, Cpn, Cpk, Cpf, Cpo, Cpd, Cpe, Cgn, Cgk, Cgs, Cgd, Cge, Can, Cak, Cah, Cay, Caz, Cun, Cuk, Cuy, Cuw, Cum, Clc, Clp, Cla, Clb, Caw, Ciw, Cln, Ctd⟩ := I
  have Tcn := i_eq Ccn
  have Tpn := i_eq Cpn
  have Tgn := i_eq Cgn
  have Tan := i_eq Can
  have Tun := i_eq Cun
  have Tlc := i_eq Clc
  have Tln := i_eq Cln
  have k1 : (1 : Int32).toInt = 1 := by decide
  have k2 : (2 : Int32).toInt = 2 := by decide
  obtain ⟨xk1, exk1⟩ : ∃ y : Int32, y = xs (i.toNatClampNeg + 1) := ⟨_, rfl⟩
  obtain ⟨xk2, exk2⟩ : ∃ y : Int32, y = xs (i.toNatClampNeg + 2) := ⟨_, rfl⟩
  refine lv_aload_n hx hb dL_law_1560 rfl (lv_at hl 1 rfl) ?_
  refine lv_aload_n hx hb dL_law_1561 rfl (lv_at hl 0 rfl) ?_
  refine lv_iload_n hx hb dL_law_1562 rfl (lv_at hl 3 rfl) ?_
  refine lv_iconst (v := 1) hx hb dL_law_1563 (by decide) ?_
  refine lv_iadd hx hb dL_law_1564 ?_
  refine lv_topi (fun v1 ev1 => ?_)
  try have tv1 : v1.toInt = i.toInt + 1 := by rw [ev1]; exact (i_add (x := i) (y := (1 : Int32)) (by rw [k1]; omega) (by rw [k1]; omega)).trans (by rw [k1])
  refine va_sld hx hb hX hbl hbA hS (i_in (by omega) (by omega)) dL_law_1565 ?_
  refine lv_topi (fun a2 ea2 => ?_)
  replace ea2 : xk1 = a2 := (ea2.trans (by rw [exk1]; congr 1; have := i_cl (x := v1) (by omega); have := i_cl (x := i) (by omega); omega)).symm
  subst ea2
  refine lv_aload_n hx hb dL_law_1566 rfl (lv_at hl 0 rfl) ?_
  refine lv_iload_n hx hb dL_law_1567 rfl (lv_at hl 3 rfl) ?_
  refine lv_iconst (v := 2) hx hb dL_law_1568 (by decide) ?_
  refine lv_iadd hx hb dL_law_1569 ?_
  refine lv_topi (fun v3 ev3 => ?_)
  try have tv3 : v3.toInt = i.toInt + 2 := by rw [ev3]; exact (i_add (x := i) (y := (2 : Int32)) (by rw [k2]; omega) (by rw [k2]; omega)).trans (by rw [k2])
  refine va_sld hx hb hX hbl hbA hS (i_in (by omega) (by omega)) dL_law_1570 ?_
  refine lv_topi (fun a4 ea4 => ?_)
  replace ea4 : xk2 = a4 := (ea4.trans (by rw [exk2]; congr 1; have := i_cl (x := v3) (by omega); have := i_cl (x := i) (by omega); omega)).symm
  subst ea4
  refine st_iQ (wr := [((rw 0), .inl (cI, 60, .inl (rs 0))), ((rw 1), .inl (cI, 60, .inl (rs 1))), ((rw 2), .inl (cI, 60, .inl (rs 2))), ((rw 3), .inl (cI, 60, .inl (rs 3))), ((rw 4), .inl (cI, 60, .inl (rs 4))), ((rw 5), .inl (cI, 60, .inl (rs 5))), ((rw 6), .inl (cI, 60, .inl (rs 6))), ((rw 7), .inl (cI, 60, .inl (rs 7))), ((ad 1), .inr (9, [.ref (ad 12), .ref (ad 13), .ref (ad 14)])), ((ad 12), .inl (cQ, 8, .inr (.inr (.inr (.inr (fun i => if i < 8 then some (rw i) else none)))))), ((ad 13), .inl (cI, 8, .inl (fx 1))), ((ad 14), .inl (cI, 8, .inl (fx 2))), ((ad 33), .inl (cI, 12, .inl (fx 13))), ((ad 34), .inl (cI, 6, .inl (fx 14))), ((ad 35), .inl (cI, 6, .inl (fx 15))), ((ad 46), .inl (cI, 40, .inl (fx 26))), ((ad 6), .inr (2, [.ref (ad 47), .int (nx 7), .int (nx 8), .ref (ad 48), .ref (ad 49), .ref (ad 50), .int (nx 9), .ref (ad 51), .ref (ad 52), .ref (ad 53), .int (nx 10), .int (nx 11), .int (nx 12), .int (nx 13), .int (nx 14)])), ((ad 47), .inl (cY, 300, .inl (fx 27))), ((ad 48), .inl (cI, 12, .inl (fx 28))), ((ad 49), .inl (cI, 12, .inl (fx 29))), ((ad 50), .inl (cI, 12, .inl (fx 30))), ((ad 51), .inl (cI, 12, .inl (fx 31))), ((ad 52), .inl (cI, 12, .inl (fx 32))), ((ad 53), .inl (cI, 12, .inl (fx 33))), ((ad 7), .inr (0, [.ref (ad 54), .ref (ad 55), .ref (ad 56), .ref (ad 57), .int (nx 15)])), ((ad 54), .inl (cI, 60, .inl (fx 34))), ((ad 55), .inl (cI, 60, .inl (fx 35))), ((ad 56), .inl (cI, 60, .inl (fx 36))), ((ad 57), .inl (cI, 60, .inl (fx 37))), ((ad 8), .inr (5, [.int sd, .ref (ad 58)])), ((ad 58), .inl (cJ, 12, .inr (.inl lo))), ((ad 9), .inr (6, [.ref (ad 59), .ref (ad 60), .ref (ad 61), .ref (ad 62), .int (nx 16)])), ((ad 59), .inl (cI, 60, .inl (fx 38))), ((ad 60), .inl (cI, 60, .inl (fx 39))), ((ad 61), .inl (cI, 60, .inl (fx 40))), ((ad 62), .inl (cI, 60, .inl (fx 41)))]) (va_runV (C := RX10) (As := [.int xk1, .int xk2]) (rest := []) ⟨hx, hb, hml, hown, hts⟩ (ct_X10_ask l D cI cY cJ cQ _ ad (nx 0) (nx 1) (nx 2) (nx 4) (nx 5) (nx 3) (nx 17) (nx 6) (fx 11) (fx 16) (fx 17) (fx 18) (fx 19) (fx 20) (fx 21) (fx 3) (fx 4) (fx 5) (fx 6) (fx 7) (fx 8) (fx 9) (fx 10) (fx 42) (fx 43) (fx 44) (fx 12) (fx 22) (fx 23) (fx 24) (fx 25) (fx 0) xk1 xk2 (by omega) (by omega) (by omega) (by omega) (by assumption) (by omega) (by omega) (by assumption) (by omega) (by omega) (by omega) (by omega) (by omega) (by omega)) (cwV 2 hts gL_law_X10_ask rfl rfl rfl (by decide +kernel) ⟨Nat.le_of_ble_eq_true rfl, Nat.le_of_ble_eq_true rfl⟩) (cPreV (hP.sub [0, 23, 24, 29, 30, 31, 32, 33, 34, 35, 14, 15, 16, 17, 18, 19, 20, 21, 22, 62, 63, 64, 65, 25, 36, 37, 38, 39, 40, 1] rfl) hK (hD.sub [0, 23, 24, 29, 30, 31, 32, 33, 34, 35, 14, 15, 16, 17, 18, 19, 20, 21, 22, 62, 63, 64, 65, 25, 36, 37, 38, 39, 40, 1] (by decide) rfl) hN (ci := 10) (q0 := 0) rfl rfl) rfl rfl hl.1 rfl (lv_room (Nat.le_of_ble_eq_true rfl)) dL_law_1571 ⟨Nat.le_of_ble_eq_true rfl, Nat.le_of_ble_eq_true rfl⟩) hP hD hS hA [0, 23, 24, 29, 30, 31, 32, 33, 34, 35, 14, 15, 16, 17, 18, 19, 20, 21, 22, 62, 63, 64, 65, 25, 36, 37, 38, 39, 40, 1] [2, 3, 4, 5, 6, 7, 8, 9, 10, 11, 12, 13, 26, 27, 28, 41, 42, 43, 44, 45, 46, 47, 48, 49, 50, 51, 52, 53, 54, 55, 56, 57, 58, 59, 60, 61] rfl rfl (by decide) (by decide) (fun r7 u5 H locs hw6 hP hD hS => ?_)
  obtain ⟨tn_8, tr_9, pt_10, ps_11, ha_12, re_13⟩ := u5
  replace hw6 : 0 ≤ tn_8.toInt ∧ tn_8.toInt ≤ 16 := hw6
  refine lv_pop hx hb dL_law_1574 rfl ?_
  have hPx : va_P D vwCl (wX ad rw sd cI cY cJ cQ (upd nx 0 tn_8) (upR (upR (upR (upR (upR fx 0 tr_9) 7 pt_10) 8 ps_11) 9 ha_12) 10 re_13) rs lo ++ wM md sd cI cY cJ cQ ny fy fl) H := hP.part [36, 65, 0, 1, 2, 3, 4, 5, 6, 7, 8, 9, 10, 11, 46, 47, 48, 49, 50, 51, 52, 53, 54, 37, 38, 59, 12, 13, 14, 39, 40, 41, 42, 43, 44, 45, 60, 61, 62, 63, 64, 15, 16, 17, 18, 19, 20, 21, 22, 23, 24, 25, 26, 27, 28, 29, 30, 31, 32, 33, 34, 35, 55, 56, 57, 58] rfl
  have hDx : va_D (fun q : Nat => s.heap.size ≤ q) (wX ad rw sd cI cY cJ cQ (upd nx 0 tn_8) (upR (upR (upR (upR (upR fx 0 tr_9) 7 pt_10) 8 ps_11) 9 ha_12) 10 re_13) rs lo ++ wM md sd cI cY cJ cQ ny fy fl) := hD.part [36, 65, 0, 1, 2, 3, 4, 5, 6, 7, 8, 9, 10, 11, 46, 47, 48, 49, 50, 51, 52, 53, 54, 37, 38, 59, 12, 13, 14, 39, 40, 41, 42, 43, 44, 45, 60, 61, 62, 63, 64, 15, 16, 17, 18, 19, 20, 21, 22, 23, 24, 25, 26, 27, 28, 29, 30, 31, 32, 33, 34, 35, 55, 56, 57, 58] (by decide) rfl
  have hP := hPx.comm
  have hD := hDx.comm
  refine lv_aload_n hx hb dL_law_1575 rfl (lv_at hl 2 rfl) ?_
  refine lv_aload_n hx hb dL_law_1576 rfl (lv_at hl 0 rfl) ?_
  refine lv_iload_n hx hb dL_law_1577 rfl (lv_at hl 3 rfl) ?_
  refine lv_iconst (v := 1) hx hb dL_law_1578 (by decide) ?_
  refine lv_iadd hx hb dL_law_1579 ?_
  refine lv_topi (fun v14 ev14 => ?_)
  try have tv14 : v14.toInt = i.toInt + 1 := by rw [ev14]; exact (i_add (x := i) (y := (1 : Int32)) (by rw [k1]; omega) (by rw [k1]; omega)).trans (by rw [k1])
  refine va_sld hx hb hX hbl hbA hS (i_in (by omega) (by omega)) dL_law_1580 ?_
  refine lv_topi (fun a15 ea15 => ?_)
  replace ea15 : xk1 = a15 := (ea15.trans (by rw [exk1]; congr 1; have := i_cl (x := v14) (by omega); have := i_cl (x := i) (by omega); omega)).symm
  subst ea15
  refine lv_aload_n hx hb dL_law_1581 rfl (lv_at hl 0 rfl) ?_
  refine lv_iload_n hx hb dL_law_1582 rfl (lv_at hl 3 rfl) ?_
  refine lv_iconst (v := 2) hx hb dL_law_1583 (by decide) ?_
  refine lv_iadd hx hb dL_law_1584 ?_
  refine lv_topi (fun v16 ev16 => ?_)
  try have tv16 : v16.toInt = i.toInt + 2 := by rw [ev16]; exact (i_add (x := i) (y := (2 : Int32)) (by rw [k2]; omega) (by rw [k2]; omega)).trans (by rw [k2])
  refine va_sld hx hb hX hbl hbA hS (i_in (by omega) (by omega)) dL_law_1585 ?_
  refine lv_topi (fun a17 ea17 => ?_)
  replace ea17 : xk2 = a17 := (ea17.trans (by rw [exk2]; congr 1; have := i_cl (x := v16) (by omega); have := i_cl (x := i) (by omega); omega)).symm
  subst ea17
  refine st_iQ (wr := [((md 3), .inl (cI, 8, .inl (fy 0))), ((md 4), .inl (cI, 8, .inl (fy 1))), ((md 5), .inl (cI, 480, .inl (fy 2))), ((md 31), .inl (cI, 36, .inl (fy 21))), ((md 33), .inl (cI, 36, .inl (fy 22))), ((md 34), .inl (cI, 300, .inl (fy 23))), ((md 45), .inl (cI, 60, .inl (fy 24))), ((md 46), .inl (cI, 60, .inl (fy 25))), ((md 47), .inl (cI, 60, .inl (fy 26))), ((md 48), .inl (cI, 60, .inl (fy 27))), ((md 49), .inl (cI, 6, .inl (fy 28))), ((md 50), .inl (cI, 6, .inl (fy 29))), ((md 51), .inl (cI, 12, .inl (fy 30))), ((md 53), .inl (cI, 60, .inl (fy 31))), ((md 54), .inl (cI, 60, .inl (fy 32))), ((md 55), .inl (cI, 60, .inl (fy 33))), ((md 56), .inl (cI, 60, .inl (fy 34)))]) (va_runV (C := RX11) (As := [.int xk1, .int xk2]) (rest := []) ⟨hx, hb, hml, hown, hts⟩ (ct_X11_ask l D cI cY cJ cQ _ md sd (ny 0) (ny 1) (ny 2) (ny 3) (ny 4) (ny 5) (ny 6) (ny 7) (ny 8) (ny 9) (ny 10) (ny 11) (ny 12) (ny 13) (ny 14) (ny 15) (ny 16) (ny 17) (ny 18) (ny 19) (ny 20) (ny 21) (ny 22) (fy 10) (fy 12) (fy 13) (fy 14) (fy 15) (fy 16) (fy 35) (fy 36) (fy 37) (fy 3) (fy 4) (fy 5) (fy 6) (fy 7) (fy 8) (fy 9) (fy 11) (fy 17) (fy 18) (fy 19) (fy 20) (fy 38) fl xk1 xk2 (by omega) (by omega) (by omega) (by omega) (by omega) (by omega) (by omega) (by omega) (by omega) (by omega) (by omega) (by omega)) (cwV 2 hts gL_law_X11_ask rfl rfl rfl (by decide +kernel) ⟨Nat.le_of_ble_eq_true rfl, Nat.le_of_ble_eq_true rfl⟩) (cPreV (hP.sub [0, 12, 14, 15, 16, 17, 18, 37, 38, 39, 4, 5, 6, 7, 8, 9, 10, 11, 13, 19, 20, 21, 22, 40] rfl) hK (hD.sub [0, 12, 14, 15, 16, 17, 18, 37, 38, 39, 4, 5, 6, 7, 8, 9, 10, 11, 13, 19, 20, 21, 22, 40] (by decide) rfl) hN (ci := 11) (q0 := 0) rfl rfl) rfl rfl hl.1 rfl (lv_room (Nat.le_of_ble_eq_true rfl)) dL_law_1586 ⟨Nat.le_of_ble_eq_true rfl, Nat.le_of_ble_eq_true rfl⟩) hP hD hS hA [0, 12, 14, 15, 16, 17, 18, 37, 38, 39, 4, 5, 6, 7, 8, 9, 10, 11, 13, 19, 20, 21, 22, 40] [1, 2, 3, 23, 24, 25, 26, 27, 28, 29, 30, 31, 32, 33, 34, 35, 36] rfl rfl (by decide) (by decide) (fun r20 u18 H locs hw19 hP hD hS => ?_)
  obtain ⟨mtn_21, mtr_22, mq_23, mh_24, mp_25, mt_26, mf_27⟩ := u18
  replace hw19 : 0 ≤ mtn_21.toInt ∧ mtn_21.toInt ≤ 16 := hw19
  refine lv_pop hx hb dL_law_1589 rfl ?_
  refine lv_goto (tgt := 1652) hx hb dL_law_1590 (by decide) ?_
  have hPm : va_P D vwCl (wM md sd cI cY cJ cQ (upd (upd (upd ny 0 0) 5 mq_23) 22 mtn_21) (upR (upR (upR (upR fy 7 mh_24) 8 mp_25) 9 mt_26) 38 mtr_22) mf_27 ++ wX ad rw sd cI cY cJ cQ (upd nx 0 tn_8) (upR (upR (upR (upR (upR fx 0 tr_9) 7 pt_10) 8 ps_11) 9 ha_12) 10 re_13) rs lo) H := hP.part [17, 0, 1, 2, 27, 28, 29, 30, 31, 32, 33, 34, 18, 35, 19, 20, 21, 22, 23, 36, 37, 38, 39, 3, 4, 5, 6, 7, 8, 9, 10, 11, 12, 13, 14, 15, 16, 24, 25, 26, 40] rfl
  have hDm : va_D (fun q : Nat => s.heap.size ≤ q) (wM md sd cI cY cJ cQ (upd (upd (upd ny 0 0) 5 mq_23) 22 mtn_21) (upR (upR (upR (upR fy 7 mh_24) 8 mp_25) 9 mt_26) 38 mtr_22) mf_27 ++ wX ad rw sd cI cY cJ cQ (upd nx 0 tn_8) (upR (upR (upR (upR (upR fx 0 tr_9) 7 pt_10) 8 ps_11) 9 ha_12) 10 re_13) rs lo) := hD.part [17, 0, 1, 2, 27, 28, 29, 30, 31, 32, 33, 34, 18, 35, 19, 20, 21, 22, 23, 36, 37, 38, 39, 3, 4, 5, 6, 7, 8, 9, 10, 11, 12, 13, 14, 15, 16, 24, 25, 26, 40] (by decide) rfl
  exact kk (upd nx 0 tn_8) (upR (upR (upR (upR (upR fx 0 tr_9) 7 pt_10) 8 ps_11) 9 ha_12) 10 re_13) rs lo (upd (upd (upd ny 0 0) 5 mq_23) 22 mtn_21) (upR (upR (upR (upR fy 7 mh_24) 8 mp_25) 9 mt_26) 38 mtr_22) mf_27 H locs ls ⟨Xhna, Xhnb, XH, Xcna, Xcnb, Xpna, Xpnb, XO, Xgna, Xgnb, Xlna, Xlnb, Xdla, Xdlb, Xana, Xanb, Xuna, Xunb, Xlca, Xlcb, (by show 0 ≤ (tn_8).toInt; omega), (by show (tn_8).toInt ≤ 16; omega), XS, Mhna, Mhnb, MH, MS, Mmlna, Mmlnb, (by show 0 ≤ (mtn_21).toInt; omega), (by show (mtn_21).toInt ≤ 16; omega), Ccn, Cfo, Cwo, Cpn, Cpk, Cpf, Cpo, Cpd, Cpe, Cgn, Cgk, Cgs, Cgd, Cge, Can, Cak, Cah, Cay, Caz, Cun, Cuk, Cuy, Cuw, Cum, Clc, Clp, Cla, Clb, Caw, Ciw, Cln, Ctd⟩ hPm.comm hDm.comm hS hl
