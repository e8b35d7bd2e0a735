theorem inlX0 : ∀ w ∈ wsX00, w ∈ wsL_law := fun _ h => List.mem_append_left _ (List.mem_append_left _ (List.mem_append_left _ (List.mem_append_left _ (List.mem_append_right _ h))))
theorem inX0 : ∀ w ∈ wsX00, w ∈ lw_tbl := fun w h => wsL_law_in w (inlX0 w h)
theorem inlX1 : ∀ w ∈ wsX10, w ∈ wsL_law := fun _ h => List.mem_append_left _ (List.mem_append_left _ (List.mem_append_left _ (List.mem_append_left _ (List.mem_append_left _ (List.mem_append_left _ (List.mem_append_left _ (List.mem_append_left _ (List.mem_append_right _ h))))))))
theorem inX1 : ∀ w ∈ wsX10, w ∈ lw_tbl := fun w h => wsL_law_in w (inlX1 w h)
theorem inlX2 : ∀ w ∈ wsX20, w ∈ wsL_law := fun _ h => List.mem_append_left _ (List.mem_append_left _ (List.mem_append_left _ (List.mem_append_left _ (List.mem_append_left _ (List.mem_append_right _ h)))))
theorem inX2 : ∀ w ∈ wsX20, w ∈ lw_tbl := fun w h => wsL_law_in w (inlX2 w h)
theorem inlX3 : ∀ w ∈ wsX30, w ∈ wsL_law := fun _ h => List.mem_append_left _ (List.mem_append_left _ (List.mem_append_left _ (List.mem_append_left _ (List.mem_append_left _ (List.mem_append_left _ (List.mem_append_left _ (List.mem_append_left _ (List.mem_append_left _ (List.mem_append_right _ h)))))))))
theorem inX3 : ∀ w ∈ wsX30, w ∈ lw_tbl := fun w h => wsL_law_in w (inlX3 w h)
theorem inlX4 : ∀ w ∈ wsX40, w ∈ wsL_law := fun _ h => List.mem_append_left _ (List.mem_append_left _ (List.mem_append_right _ h))
theorem inX4 : ∀ w ∈ wsX40, w ∈ lw_tbl := fun w h => wsL_law_in w (inlX4 w h)
theorem inlX5 : ∀ w ∈ wsX50, w ∈ wsL_law := fun _ h => List.mem_append_left _ (List.mem_append_right _ h)
theorem inX5 : ∀ w ∈ wsX50, w ∈ lw_tbl := fun w h => wsL_law_in w (inlX5 w h)
theorem inlX6 : ∀ w ∈ wsX60, w ∈ wsL_law := fun _ h => List.mem_append_left _ (List.mem_append_left _ (List.mem_append_left _ (List.mem_append_right _ h)))
theorem inX6 : ∀ w ∈ wsX60, w ∈ lw_tbl := fun w h => wsL_law_in w (inlX6 w h)
theorem inlX7 : ∀ w ∈ wsX70, w ∈ wsL_law := fun _ h => List.mem_append_left _ (List.mem_append_left _ (List.mem_append_left _ (List.mem_append_left _ (List.mem_append_left _ (List.mem_append_left _ (List.mem_append_left _ (List.mem_append_right _ h)))))))
theorem inX7 : ∀ w ∈ wsX70, w ∈ lw_tbl := fun w h => wsL_law_in w (inlX7 w h)
theorem inlX8 : ∀ w ∈ wsX80, w ∈ wsL_law := fun _ h => List.mem_append_left _ (List.mem_append_left _ (List.mem_append_left _ (List.mem_append_left _ (List.mem_append_left _ (List.mem_append_left _ (List.mem_append_right _ h))))))
theorem inX8 : ∀ w ∈ wsX80, w ∈ lw_tbl := fun w h => wsL_law_in w (inlX8 w h)
theorem inlX9 : ∀ w ∈ wsX90, w ∈ wsL_law := fun _ h => List.mem_append_left _ (List.mem_append_left _ (List.mem_append_left _ (List.mem_append_left _ (List.mem_append_left _ (List.mem_append_left _ (List.mem_append_left _ (List.mem_append_left _ (List.mem_append_left _ (List.mem_append_left _ (List.mem_append_right _ h))))))))))
theorem inX9 : ∀ w ∈ wsX90, w ∈ lw_tbl := fun w h => wsL_law_in w (inlX9 w h)
theorem inlX10 : ∀ w ∈ wsX100, w ∈ wsL_law := fun _ h => List.mem_append_left _ (List.mem_append_left _ (List.mem_append_left _ (List.mem_append_left _ (List.mem_append_left _ (List.mem_append_left _ (List.mem_append_left _ (List.mem_append_left _ (List.mem_append_left _ (List.mem_append_left _ (List.mem_append_left _ (List.mem_append_left _ (List.mem_append_right _ h))))))))))))
theorem inX10 : ∀ w ∈ wsX100, w ∈ lw_tbl := fun w h => wsL_law_in w (inlX10 w h)
theorem inlX11 : ∀ w ∈ wsX110, w ∈ wsL_law := fun _ h => List.mem_append_left _ (List.mem_append_left _ (List.mem_append_left _ (List.mem_append_left _ (List.mem_append_left _ (List.mem_append_left _ (List.mem_append_left _ (List.mem_append_left _ (List.mem_append_left _ (List.mem_append_left _ (List.mem_append_left _ (List.mem_append_right _ h)))))))))))
theorem inX11 : ∀ w ∈ wsX110, w ∈ lw_tbl := fun w h => wsL_law_in w (inlX11 w h)
set_option maxRecDepth 20000 in
theorem ggL_law_L_cell : GoodIn wsL_law wsL_cell := goodIn_r _ [10] (by decide +kernel) (by decide +kernel)
set_option maxRecDepth 20000 in
theorem gL_law_L_cell : GoodIn wsL_law (va_wsS RL 9 yL_cell wsL_cell) := goodIn_app (goodIn_of _ (by decide +kernel)) ggL_law_L_cell
set_option maxRecDepth 20000 in
theorem ggL_law_X10_init : GoodIn wsL_law wsX10_init := goodIn_r _ [13, 14, 15, 16, 17, 18, 19, 20, 21, 22, 23, 24, 25, 26, 27, 28, 29, 30, 31, 32, 33, 34, 35, 36, 37, 38, 39, 40, 41, 42, 43, 44, 45, 46, 47, 48, 49, 50, 51, 52, 53, 54, 55, 56, 57, 58, 59, 60, 61, 62, 63, 64, 65, 66, 67, 68, 69, 70, 71, 72, 73, 74, 75, 76, 77, 78, 79, 80, 81, 82, 83, 84, 85, 86, 87, 88, 89, 90, 91, 92, 93, 94, 95, 96, 97, 98, 99, 100, 101, 102, 103, 104, 105, 106, 107, 108, 109, 110, 111, 112, 113, 114, 115, 116, 117, 118, 119, 120, 121, 122, 123, 124, 125, 126, 127, 128, 129, 130, 131, 132, 133, 134, 135, 136, 137, 138, 139, 140, 141, 142, 143, 144, 145, 146, 147, 148, 1220, 1221, 1222, 1142, 1143, 1144, 1145, 1146, 1147, 1148, 1149, 1150, 1151, 1152, 1153, 1154, 1155, 1223, 1224, 1225, 1226, 1227, 1228, 1229, 1230, 1231, 1232, 1233, 1234, 1235, 1236, 1237, 1238, 1239, 1240, 1241, 1242, 1243, 1244, 1245, 1246, 1247, 1248, 1249, 1250, 1251, 1252, 1253, 1254, 1255, 1256, 1257, 1258, 1259, 1260, 1261, 1262, 1263, 1264, 1265, 1266, 1267, 1268, 1269, 1270, 1271, 1272, 1273, 1274, 1275, 1276, 1277, 1278, 1279, 1280, 1281] (by decide +kernel) (by decide +kernel)
set_option maxRecDepth 20000 in
theorem gL_law_X10_init : GoodIn wsL_law (wsX10_init) := ggL_law_X10_init
set_option maxRecDepth 20000 in
theorem ggL_law_X11_init : GoodIn wsL_law wsX11_init := goodIn_r _ [151, 152, 15, 16, 53, 153, 154, 155, 156, 157, 158, 159, 160, 161, 162, 146, 163, 164, 165, 166, 167, 168, 169, 170, 171, 172, 173, 174, 175, 176, 177, 178, 179, 180, 181, 182, 183, 184, 185, 186, 187, 188, 189, 190, 191, 192, 193, 194, 195, 1156, 1157, 1158, 1159, 1160, 1161, 1162, 1163, 1164, 1165, 1166, 1167, 1168, 1169, 1170, 1171, 1172, 1173, 1174, 1175, 1176, 1177, 1178, 1179, 1180, 1181, 1182, 1183, 1184, 1185, 1186, 1187, 1188, 1189, 1190, 1191, 1192, 1193, 1194, 1195, 1196, 1197, 1198, 1199, 1200, 1201, 1202, 1203, 1204, 1205, 1206, 1207, 1208, 1209, 1210, 1211, 1212, 1213, 1214, 1215, 1216, 1217, 1218, 1219] (by decide +kernel) (by decide +kernel)
set_option maxRecDepth 20000 in
theorem gL_law_X11_init : GoodIn wsL_law (wsX11_init) := ggL_law_X11_init
theorem dL_law_0 : decode cL_law 0 = .ok (.new 7, 3) := by decide +kernel
theorem dL_law_3 : decode cL_law 3 = .ok (.dup, 1) := by decide +kernel
theorem dL_law_4 : decode cL_law 4 = .ok (.aload_n 0, 1) := by decide +kernel
theorem dL_law_5 : decode cL_law 5 = .ok (.iconst 0, 1) := by decide +kernel
theorem dL_law_6 : decode cL_law 6 = .ok (.invokestatic 9, 3) := by decide +kernel
theorem dL_law_9 : decode cL_law 9 = .ok (.invokespecial 15, 3) := by decide +kernel
theorem dL_law_12 : decode cL_law 12 = .ok (.astore_n 1, 1) := by decide +kernel
theorem dL_law_13 : decode cL_law 13 = .ok (.new 18, 3) := by decide +kernel
theorem dL_law_16 : decode cL_law 16 = .ok (.dup, 1) := by decide +kernel
theorem dL_law_17 : decode cL_law 17 = .ok (.aload_n 0, 1) := by decide +kernel
theorem dL_law_18 : decode cL_law 18 = .ok (.iconst 0, 1) := by decide +kernel
theorem dL_law_19 : decode cL_law 19 = .ok (.invokestatic 9, 3) := by decide +kernel
theorem dL_law_22 : decode cL_law 22 = .ok (.invokespecial 20, 3) := by decide +kernel
theorem dL_law_25 : decode cL_law 25 = .ok (.astore_n 2, 1) := by decide +kernel
theorem dL_law_26 : decode cL_law 26 = .ok (.iconst 1, 1) := by decide +kernel
theorem dL_law_27 : decode cL_law 27 = .ok (.istore_n 3, 1) := by decide +kernel
theorem dL_law_37 : decode cL_law 37 = .ok (.aload_n 0, 1) := by decide +kernel
theorem dL_law_38 : decode cL_law 38 = .ok (.iload_n 3, 1) := by decide +kernel
theorem dL_law_39 : decode cL_law 39 = .ok (.iaload, 1) := by decide +kernel
theorem dL_law_40 : decode cL_law 40 = .ok (.bipush 63, 2) := by decide +kernel
theorem dL_law_42 : decode cL_law 42 = .ok (.iand, 1) := by decide +kernel
theorem dL_law_43 : decode cL_law 43 = .ok (.tableswitch 1609 0 37 #[165, 208, 251, 314, 337, 390, 433, 476, 519, 552, 575, 608, 671, 714, 747, 810, 873, 936, 949, 962, 1015, 1048, 1091, 1124, 1157, 1200, 1233, 1286, 1339, 1362, 1405, 1438, 1461, 1484, 1517, 1550, 1573, 1596], 165) := by decide +kernel
set_option maxHeartbeats 4000000 in
set_option maxRecDepth 100000 in
theorem whole_start {p : Program} {e : Env} {s : State} {m : MethodId} {below : List Frame} {meth : Method} {c : Code} (l : Launch) {b L : Nat} {xs : Nat → Int32} (hL : L ≤ 7) (C0 : lw_At p s m meth c b L xs) : W p l e room_1 s m #[Value.ref b] below meth c s.heap [] 0 0 (lw_Z below #[Value.ref b] s) (entryFrame m ([Value.ref b] : List Value).toArray 4) := by
  obtain ⟨hx, hb, hr, hml, hown, hts0, hX, hbl, hlocks, hgv⟩ := id C0
  have hA : ∀ q : Nat, s.heap.size ≤ q → (fun q : Nat => s.heap.size ≤ q) q := fun _ h => h
  have hbA : ¬ (fun q : Nat => s.heap.size ≤ q) b := Nat.not_le.mpr hbl
  obtain ⟨c0, iS0, hKn0⟩ := u_known (C := RX0) (T := TX0) (N := 5) (n := 5) hts0 inX0 (hts0 (.instantiable RX0 5) (by decide +kernel))
  obtain ⟨c1, iS1, hKn1⟩ := u_known (C := RX1) (T := TX1) (N := 6) (n := 6) hts0 inX1 (hts0 (.instantiable RX1 6) (by decide +kernel))
  obtain ⟨c2, iS2, hKn2⟩ := u_known (C := RX2) (T := TX2) (N := 15) (n := 15) hts0 inX2 (hts0 (.instantiable RX2 15) (by decide +kernel))
  obtain ⟨c3, iS3, hKn3⟩ := u_known (C := RX3) (T := TX3) (N := 9) (n := 9) hts0 inX3 (hts0 (.instantiable RX3 9) (by decide +kernel))
  obtain ⟨c4, iS4, hKn4⟩ := u_known (C := RX4) (T := TX4) (N := 4) (n := 4) hts0 inX4 (hts0 (.instantiable RX4 4) (by decide +kernel))
  obtain ⟨c5, iS5, hKn5⟩ := u_known (C := RX5) (T := TX5) (N := 2) (n := 2) hts0 inX5 (hts0 (.instantiable RX5 2) (by decide +kernel))
  obtain ⟨c6, iS6, hKn6⟩ := u_known (C := RX6) (T := TX6) (N := 5) (n := 5) hts0 inX6 (hts0 (.instantiable RX6 5) (by decide +kernel))
  obtain ⟨c7, iS7, hKn7⟩ := u_known (C := RX7) (T := TX7) (N := 7) (n := 7) hts0 inX7 (hts0 (.instantiable RX7 7) (by decide +kernel))
  obtain ⟨c8, iS8, hKn8⟩ := u_known (C := RX8) (T := TX8) (N := 6) (n := 6) hts0 inX8 (hts0 (.instantiable RX8 6) (by decide +kernel))
  obtain ⟨c9, iS9, hKn9⟩ := u_known (C := RX9) (T := TX9) (N := 3) (n := 3) hts0 inX9 (hts0 (.instantiable RX9 3) (by decide +kernel))
  obtain ⟨c10, iS10, hKn10⟩ := u_known (C := RX10) (T := TX10) (N := 14) (n := 14) hts0 inX10 (hts0 (.instantiable RX10 14) (by decide +kernel))
  obtain ⟨c11, iS11, hKn11⟩ := u_known (C := RX11) (T := TX11) (N := 64) (n := 64) hts0 inX11 (hts0 (.instantiable RX11 64) (by decide +kernel))
  obtain ⟨dC, dI, hKc⟩ : ∃ (dC : Nat → ClassId) (dI : Nat → Nat → Nat), ∀ (k : Nat) (q : vw_C), vwCl[k]? = some q → u_Kn s q.1 q.2.1 q.2.2 (dC k) (dI k) := by
    refine ⟨fun k => if k = 0 then c0 else if k = 1 then c1 else if k = 2 then c2 else if k = 3 then c3 else if k = 4 then c4 else if k = 5 then c5 else if k = 6 then c6 else if k = 7 then c7 else if k = 8 then c8 else if k = 9 then c9 else if k = 10 then c10 else c11, fun k => if k = 0 then iS0 else if k = 1 then iS1 else if k = 2 then iS2 else if k = 3 then iS3 else if k = 4 then iS4 else if k = 5 then iS5 else if k = 6 then iS6 else if k = 7 then iS7 else if k = 8 then iS8 else if k = 9 then iS9 else if k = 10 then iS10 else iS11, ?_⟩
    intro k q hq
    match k, hq with
    | 0, hq => cases hq; exact hKn0
    | 1, hq => cases hq; exact hKn1
    | 2, hq => cases hq; exact hKn2
    | 3, hq => cases hq; exact hKn3
    | 4, hq => cases hq; exact hKn4
    | 5, hq => cases hq; exact hKn5
    | 6, hq => cases hq; exact hKn6
    | 7, hq => cases hq; exact hKn7
    | 8, hq => cases hq; exact hKn8
    | 9, hq => cases hq; exact hKn9
    | 10, hq => cases hq; exact hKn10
    | 11, hq => cases hq; exact hKn11
    | k + 12, hq => simp [vwCl] at hq
  obtain ⟨cI, aI⟩ := arr_i (hts0 (.arrayClass .int) (by decide +kernel))
  obtain ⟨cY, aY⟩ := arr_y (hts0 (.arrayClass .byte) (by decide +kernel))
  obtain ⟨cJ, aJ⟩ := arr_j (hts0 (.arrayClass .long) (by decide +kernel))
  obtain ⟨cQ, aQ⟩ := arr_q (hts0 (.arrayOver (.array .int)) (by decide +kernel))
  obtain ⟨D, hK⟩ : ∃ D : va_G, va_K D vwCl (ty4 cI cY cJ cQ) s := by
    refine ⟨(dC, dI), hKc, ?_⟩
    intro k q h
    match k, h with
    | 0, h => cases h; exact aI
    | 1, h => cases h; exact aY
    | 2, h => cases h; exact aJ
    | 3, h => cases h; exact aQ
    | k + 4, h => simp at h
  have hN : nw s := by
    refine ⟨?_, hts0 (.arrayOver (.array .int)) (by decide +kernel)⟩
    refine List.forall_mem_cons.mpr ⟨?_, List.forall_mem_cons.mpr ⟨?_, List.forall_mem_cons.mpr ⟨?_, List.forall_mem_cons.mpr ⟨?_, List.forall_mem_cons.mpr ⟨?_, List.forall_mem_cons.mpr ⟨?_, List.forall_mem_cons.mpr ⟨?_, List.forall_mem_cons.mpr ⟨?_, List.forall_mem_cons.mpr ⟨?_, List.forall_mem_cons.mpr ⟨?_, fun _ h => absurd h List.not_mem_nil⟩⟩⟩⟩⟩⟩⟩⟩⟩⟩
    · exact va_Nw.of rfl (hts0 (.methodLinkNest RX10 18 yX3_init "PortRooms") (by decide +kernel))
    · exact va_Nw.of rfl (hts0 (.methodLinkNest RX10 32 yX7_init "PortRooms") (by decide +kernel))
    · exact va_Nw.of rfl (hts0 (.methodLinkNest RX10 39 yX8_init "PortRooms") (by decide +kernel))
    · exact va_Nw.of rfl (hts0 (.methodLinkNest RX10 46 yX2_init "PortRooms") (by decide +kernel))
    · exact va_Nw.of rfl (hts0 (.methodLinkNest RX10 53 yX0_init "PortRooms") (by decide +kernel))
    · exact va_Nw.of rfl (hts0 (.methodLinkNest RX10 60 yX6_init "PortRooms") (by decide +kernel))
    · exact va_Nw.of rfl (hts0 (.methodLinkNest RX10 67 yX4_init "PortRooms") (by decide +kernel))
    · exact va_Nw.of rfl (hts0 (.methodLinkNest RX1 43 yX10_hasBit "PortRooms") (by decide +kernel))
    · exact va_Nw.of rfl (hts0 (.methodLinkNest RX3 62 yX10_hasBit "PortRooms") (by decide +kernel))
    · exact va_Nw.of rfl (hts0 (.methodLinkNest RX5 29 yX10_hasBit "PortRooms") (by decide +kernel))
  have hts : ∀ w ∈ wsL_law, w.before #[Value.ref b] s = true := fun w h => hts0 w (wsL_law_in w h)
  replace hown : s.vm.findClass RL = some m.cls := hown
  replace hb : c.code = cL_law := hb
  have hS : va_S (fun q : Nat => s.heap.size ≤ q) s.heap s.heap [] := va_S.rf
  have hP : va_P D vwCl [] s.heap := va_P.nil
  have hD : va_D (fun q : Nat => s.heap.size ≤ q) [] := va_D.nil
  obtain ⟨sd, esd⟩ : ∃ y : Int32, y = cellv L xs := ⟨_, rfl⟩
  have hLI : (Int32.ofNat L).toInt = (L : Int) := nI_toInt (by omega)
  have hl := lv_entry ([.ref b]) (n := 4) (Nat.le_of_ble_eq_true rfl)
  rw [lg_entry_eq]
  generalize (lg_sl ([.ref b]) ++ List.replicate (4 - (lg_sl ([.ref b])).length) Slot.unset).toArray = ls at hl ⊢
  have hl : lv_has ls 4 [(0, .ref b)] := hl
  have k1 : (1 : Int32).toInt = 1 := by decide
  have k6 : (6 : Int32).toInt = 6 := by decide
  have k63 : (63 : Int32).toInt = 63 := by decide
  refine va_new (ci := 10) (fs := [.null, .null, .null, .null, .null, .null, .null, .null, .null, .null, .null, .int 0, .int 0, .int 0]) (C := RX10) (T := TX10) (N := 14) hx hb hts inlX10 tyX10 tyX10_ok hown (hts (.classLink RL 7 RX10) (by decide +kernel)) (hts (.instantiable RX10 14) (by decide +kernel)) (hts (.initialized RX10) (by decide +kernel)) hK hP hD hS hA rfl (fun j hj => by rcases (show j = 0 ∨ j = 1 ∨ j = 2 ∨ j = 3 ∨ j = 4 ∨ j = 5 ∨ j = 6 ∨ j = 7 ∨ j = 8 ∨ j = 9 ∨ j = 10 ∨ j = 11 ∨ j = 12 ∨ j = 13 by omega) with rfl | rfl | rfl | rfl | rfl | rfl | rfl | rfl | rfl | rfl | rfl | rfl | rfl | rfl <;> rfl) (Nat.le_of_ble_eq_true rfl) (Nat.le_of_ble_eq_true rfl) dL_law_0 (fun q1 H hP hD hS => ?_)
  replace hP : va_P D vwCl [(q1, .inr (10, [.null, .null, .null, .null, .null, .null, .null, .null, .null, .null, .null, .int 0, .int 0, .int 0]))] H := hP
  replace hD : va_D (fun q : Nat => s.heap.size ≤ q) [(q1, .inr (10, [.null, .null, .null, .null, .null, .null, .null, .null, .null, .null, .null, .int 0, .int 0, .int 0]))] := hD
  refine W.widen (k := 1) (n := 14) (by omega) (by omega) ?_
  refine lv_dup hx hb dL_law_3 rfl ?_
  refine lv_aload_n hx hb dL_law_4 rfl (lv_at hl 0 rfl) ?_
  refine lv_iconst (v := 0) hx hb dL_law_5 (by decide) ?_
  refine st_i (wr := [(q1, .inr (10, [.null, .null, .null, .null, .null, .null, .null, .null, .null, .null, .null, .int 0, .int 0, .int 0]))]) (va_runS (As := [.ref b, .int 0]) (rest := [.ref q1, .ref q1]) ⟨hx, hb, hml, hown, hts⟩ (ct_L_cell l D cI cY cJ cQ _ b L hL xs) (va_cwS 2 hts gL_law_L_cell rfl rfl rfl (by decide +kernel) ⟨Nat.le_of_ble_eq_true rfl, Nat.le_of_ble_eq_true rfl⟩) ⟨cellBlind, fun U hU hW => ⟨rfl, by rw [hU], va_X.moved hW.alike (by rw [hU]; exact hX.kept (hS.2.1 b hbl hbA)), by rw [hU]; exact Nat.lt_of_lt_of_le hbl hS.1, va_K.moved hW.alike hK⟩⟩ rfl rfl hl.1 rfl (lv_room (Nat.le_of_ble_eq_true rfl)) dL_law_6 ⟨Nat.le_of_ble_eq_true rfl, Nat.le_of_ble_eq_true rfl⟩) hP hD hS hA [] [0] rfl rfl (by decide) (by decide) (fun r2 u3 H locs hw4 hP hD hS => ?_)
  replace hw4 : sd = r2 := (hw4.trans esd.symm).symm
  subst hw4
  replace hP : va_P D vwCl [(q1, .inr (10, [.null, .null, .null, .null, .null, .null, .null, .null, .null, .null, .null, .int 0, .int 0, .int 0]))] H := hP
  replace hD : va_D (fun q : Nat => s.heap.size ≤ q) [(q1, .inr (10, [.null, .null, .null, .null, .null, .null, .null, .null, .null, .null, .null, .int 0, .int 0, .int 0]))] := hD
  refine st_v (wr := []) (va_runI (As := [.int sd]) (rest := [.ref q1]) ⟨hx, hb, hml, hown, hts⟩ (ct_X10_init l D cI cY cJ cQ _ q1 sd) (cwI 1 hts gL_law_X10_init rfl rfl rfl (hts (.initialized RX10) (by decide +kernel)) (hts (.methodLink RL 15 yX10_init) (by decide +kernel)) (hts (.instanceMethod yX10_init) (by decide +kernel)) rfl (by decide +kernel) ⟨Nat.le_of_ble_eq_true rfl, Nat.le_of_ble_eq_true rfl⟩) (cPreS (hP.sub [0] rfl) hK (hD.sub [0] (by decide) rfl) hN) rfl rfl hl.1 rfl (lv_room (Nat.le_of_ble_eq_true rfl)) dL_law_9 ⟨Nat.le_of_ble_eq_true rfl, Nat.le_of_ble_eq_true rfl⟩) hP hD hS hA [0] [] rfl rfl (by decide) (by decide) (fun u5 H locs hw6 hP hD hS => ?_)
  obtain ⟨ad, rw⟩ := u5
  replace hw6 : ad 0 = q1 := hw6
  subst hw6
  replace hP : va_P D vwCl [((ad 0), .inr (10, [.ref (ad 1), .ref (ad 2), .ref (ad 3), .ref (ad 4), .ref (ad 5), .ref (ad 6), .ref (ad 7), .ref (ad 8), .ref (ad 9), .ref (ad 10), .ref (ad 11), .int 0, .int 0, .int 0])), ((ad 1), .inr (9, [.ref (ad 12), .ref (ad 13), .ref (ad 14)])), ((ad 12), .inl (cQ, 8, .inr (.inr (.inr (.inr (fun i => if i < 8 then some (rw i) else none)))))), ((rw 0), .inl (cI, 60, .inl (fun _ => 0))), ((rw 1), .inl (cI, 60, .inl (fun _ => 0))), ((rw 2), .inl (cI, 60, .inl (fun _ => 0))), ((rw 3), .inl (cI, 60, .inl (fun _ => 0))), ((rw 4), .inl (cI, 60, .inl (fun _ => 0))), ((rw 5), .inl (cI, 60, .inl (fun _ => 0))), ((rw 6), .inl (cI, 60, .inl (fun _ => 0))), ((rw 7), .inl (cI, 60, .inl (fun _ => 0))), ((ad 13), .inl (cI, 8, .inl (fun _ => 0))), ((ad 14), .inl (cI, 8, .inl (fun _ => (-1)))), ((ad 2), .inr (3, [.ref (ad 23), .ref (ad 24), .ref (ad 25), .ref (ad 26), .int 0, .ref (ad 27), .ref (ad 28), .ref (ad 29), .ref (ad 30)])), ((ad 23), .inl (cI, 40, .inl (fun _ => 0))), ((ad 24), .inl (cI, 40, .inl (fun _ => 0))), ((ad 25), .inl (cI, 40, .inl (fun _ => 0))), ((ad 26), .inl (cI, 40, .inl (fun _ => 0))), ((ad 27), .inl (cI, 200, .inl (fun _ => 0))), ((ad 28), .inl (cI, 200, .inl (fun _ => 0))), ((ad 29), .inl (cI, 20, .inl (fun _ => 0))), ((ad 30), .inl (cI, 10, .inl (fun _ => 0))), ((ad 3), .inr (1, [.ref (ad 31), .ref (ad 32), .ref (ad 33), .int 0, .ref (ad 34), .ref (ad 35)])), ((ad 31), .inl (cI, 12, .inl (fun _ => 0))), ((ad 32), .inl (cI, 12, .inl (fun _ => 0))), ((ad 34), .inl (cI, 6, .inl (fun _ => 4))), ((ad 35), .inl (cI, 6, .inl (fun _ => 100000))), ((ad 4), .inr (7, [.ref (ad 36), .ref (ad 37), .ref (ad 38), .ref (ad 39), .ref (ad 40), .ref (ad 41), .int 0])), ((ad 5), .inr (8, [.ref (ad 42), .ref (ad 43), .ref (ad 44), .ref (ad 45), .int 0, .ref (ad 46)])), ((ad 6), .inr (2, [.ref (ad 47), .int 0, .int 0, .ref (ad 48), .ref (ad 49), .ref (ad 50), .int 0, .ref (ad 51), .ref (ad 52), .ref (ad 53), .int 0, .int 0, .int 0, .int 0, .int 0])), ((ad 47), .inl (cY, 300, .inl (fun _ => 0))), ((ad 48), .inl (cI, 12, .inl (fun _ => 0))), ((ad 49), .inl (cI, 12, .inl (fun _ => 0))), ((ad 50), .inl (cI, 12, .inl (fun _ => 0))), ((ad 51), .inl (cI, 12, .inl (fun _ => 0))), ((ad 52), .inl (cI, 12, .inl (fun _ => 0))), ((ad 53), .inl (cI, 12, .inl (fun _ => 0))), ((ad 7), .inr (0, [.ref (ad 54), .ref (ad 55), .ref (ad 56), .ref (ad 57), .int 0])), ((ad 8), .inr (5, [.int sd, .ref (ad 58)])), ((ad 9), .inr (6, [.ref (ad 59), .ref (ad 60), .ref (ad 61), .ref (ad 62), .int 0])), ((ad 10), .inr (4, [.ref (ad 63), .ref (ad 64), .ref (ad 65), .int 0])), ((ad 63), .inl (cI, 20, .inl (fun _ => 0))), ((ad 64), .inl (cI, 20, .inl (fun _ => 0))), ((ad 65), .inl (cI, 20, .inl (fun _ => 0)))] H := hP
  replace hD : va_D (fun q : Nat => s.heap.size ≤ q) [((ad 0), .inr (10, [.ref (ad 1), .ref (ad 2), .ref (ad 3), .ref (ad 4), .ref (ad 5), .ref (ad 6), .ref (ad 7), .ref (ad 8), .ref (ad 9), .ref (ad 10), .ref (ad 11), .int 0, .int 0, .int 0])), ((ad 1), .inr (9, [.ref (ad 12), .ref (ad 13), .ref (ad 14)])), ((ad 12), .inl (cQ, 8, .inr (.inr (.inr (.inr (fun i => if i < 8 then some (rw i) else none)))))), ((rw 0), .inl (cI, 60, .inl (fun _ => 0))), ((rw 1), .inl (cI, 60, .inl (fun _ => 0))), ((rw 2), .inl (cI, 60, .inl (fun _ => 0))), ((rw 3), .inl (cI, 60, .inl (fun _ => 0))), ((rw 4), .inl (cI, 60, .inl (fun _ => 0))), ((rw 5), .inl (cI, 60, .inl (fun _ => 0))), ((rw 6), .inl (cI, 60, .inl (fun _ => 0))), ((rw 7), .inl (cI, 60, .inl (fun _ => 0))), ((ad 13), .inl (cI, 8, .inl (fun _ => 0))), ((ad 14), .inl (cI, 8, .inl (fun _ => (-1)))), ((ad 2), .inr (3, [.ref (ad 23), .ref (ad 24), .ref (ad 25), .ref (ad 26), .int 0, .ref (ad 27), .ref (ad 28), .ref (ad 29), .ref (ad 30)])), ((ad 23), .inl (cI, 40, .inl (fun _ => 0))), ((ad 24), .inl (cI, 40, .inl (fun _ => 0))), ((ad 25), .inl (cI, 40, .inl (fun _ => 0))), ((ad 26), .inl (cI, 40, .inl (fun _ => 0))), ((ad 27), .inl (cI, 200, .inl (fun _ => 0))), ((ad 28), .inl (cI, 200, .inl (fun _ => 0))), ((ad 29), .inl (cI, 20, .inl (fun _ => 0))), ((ad 30), .inl (cI, 10, .inl (fun _ => 0))), ((ad 3), .inr (1, [.ref (ad 31), .ref (ad 32), .ref (ad 33), .int 0, .ref (ad 34), .ref (ad 35)])), ((ad 31), .inl (cI, 12, .inl (fun _ => 0))), ((ad 32), .inl (cI, 12, .inl (fun _ => 0))), ((ad 34), .inl (cI, 6, .inl (fun _ => 4))), ((ad 35), .inl (cI, 6, .inl (fun _ => 100000))), ((ad 4), .inr (7, [.ref (ad 36), .ref (ad 37), .ref (ad 38), .ref (ad 39), .ref (ad 40), .ref (ad 41), .int 0])), ((ad 5), .inr (8, [.ref (ad 42), .ref (ad 43), .ref (ad 44), .ref (ad 45), .int 0, .ref (ad 46)])), ((ad 6), .inr (2, [.ref (ad 47), .int 0, .int 0, .ref (ad 48), .ref (ad 49), .ref (ad 50), .int 0, .ref (ad 51), .ref (ad 52), .ref (ad 53), .int 0, .int 0, .int 0, .int 0, .int 0])), ((ad 47), .inl (cY, 300, .inl (fun _ => 0))), ((ad 48), .inl (cI, 12, .inl (fun _ => 0))), ((ad 49), .inl (cI, 12, .inl (fun _ => 0))), ((ad 50), .inl (cI, 12, .inl (fun _ => 0))), ((ad 51), .inl (cI, 12, .inl (fun _ => 0))), ((ad 52), .inl (cI, 12, .inl (fun _ => 0))), ((ad 53), .inl (cI, 12, .inl (fun _ => 0))), ((ad 7), .inr (0, [.ref (ad 54), .ref (ad 55), .ref (ad 56), .ref (ad 57), .int 0])), ((ad 8), .inr (5, [.int sd, .ref (ad 58)])), ((ad 9), .inr (6, [.ref (ad 59), .ref (ad 60), .ref (ad 61), .ref (ad 62), .int 0])), ((ad 10), .inr (4, [.ref (ad 63), .ref (ad 64), .ref (ad 65), .int 0])), ((ad 63), .inl (cI, 20, .inl (fun _ => 0))), ((ad 64), .inl (cI, 20, .inl (fun _ => 0))), ((ad 65), .inl (cI, 20, .inl (fun _ => 0)))] := hD
  refine W.widen (k := 66) (n := 2598) (by omega) (by omega) ?_
  refine lv_astore_n (lv' := [(1, .ref (ad 0)), (0, .ref b)]) hx hb dL_law_12 rfl hl (by decide) rfl (fun ls hl => ?_)
  refine va_new (ci := 11) (fs := [.int 0, .long 0, .int 0, .null, .null, .null, .int 0, .null, .null, .null, .null, .null, .null, .null, .null, .int 0, .null, .null, .int 0, .null, .null, .null, .null, .null, .int 0, .int 0, .null, .null, .null, .null, .int 0, .null, .int 0, .null, .null, .int 0, .int 0, .int 0, .int 0, .int 0, .int 0, .int 0, .int 0, .int 0, .int 0, .null, .null, .null, .null, .null, .null, .null, .int 0, .null, .null, .null, .null, .int 0, .null, .null, .null, .int 0, .null, .int 0]) (C := RX11) (T := TX11) (N := 64) hx hb hts inlX11 tyX11 tyX11_ok hown (hts (.classLink RL 18 RX11) (by decide +kernel)) (hts (.instantiable RX11 64) (by decide +kernel)) (hts (.initialized RX11) (by decide +kernel)) hK hP hD hS hA rfl (fun j hj => by rcases (show j = 0 ∨ j = 1 ∨ j = 2 ∨ j = 3 ∨ j = 4 ∨ j = 5 ∨ j = 6 ∨ j = 7 ∨ j = 8 ∨ j = 9 ∨ j = 10 ∨ j = 11 ∨ j = 12 ∨ j = 13 ∨ j = 14 ∨ j = 15 ∨ j = 16 ∨ j = 17 ∨ j = 18 ∨ j = 19 ∨ j = 20 ∨ j = 21 ∨ j = 22 ∨ j = 23 ∨ j = 24 ∨ j = 25 ∨ j = 26 ∨ j = 27 ∨ j = 28 ∨ j = 29 ∨ j = 30 ∨ j = 31 ∨ j = 32 ∨ j = 33 ∨ j = 34 ∨ j = 35 ∨ j = 36 ∨ j = 37 ∨ j = 38 ∨ j = 39 ∨ j = 40 ∨ j = 41 ∨ j = 42 ∨ j = 43 ∨ j = 44 ∨ j = 45 ∨ j = 46 ∨ j = 47 ∨ j = 48 ∨ j = 49 ∨ j = 50 ∨ j = 51 ∨ j = 52 ∨ j = 53 ∨ j = 54 ∨ j = 55 ∨ j = 56 ∨ j = 57 ∨ j = 58 ∨ j = 59 ∨ j = 60 ∨ j = 61 ∨ j = 62 ∨ j = 63 by omega) with rfl | rfl | rfl | rfl | rfl | rfl | rfl | rfl | rfl | rfl | rfl | rfl | rfl | rfl | rfl | rfl | rfl | rfl | rfl | rfl | rfl | rfl | rfl | rfl | rfl | rfl | rfl | rfl | rfl | rfl | rfl | rfl | rfl | rfl | rfl | rfl | rfl | rfl | rfl | rfl | rfl | rfl | rfl | rfl | rfl | rfl | rfl | rfl | rfl | rfl | rfl | rfl | rfl | rfl | rfl | rfl | rfl | rfl | rfl | rfl | rfl | rfl | rfl | rfl <;> rfl) (Nat.le_of_ble_eq_true rfl) (Nat.le_of_ble_eq_true rfl) dL_law_13 (fun q8 H hP hD hS => ?_)
  replace hP : va_P D vwCl [((ad 0), .inr (10, [.ref (ad 1), .ref (ad 2), .ref (ad 3), .ref (ad 4), .ref (ad 5), .ref (ad 6), .ref (ad 7), .ref (ad 8), .ref (ad 9), .ref (ad 10), .ref (ad 11), .int 0, .int 0, .int 0])), ((ad 1), .inr (9, [.ref (ad 12), .ref (ad 13), .ref (ad 14)])), ((ad 12), .inl (cQ, 8, .inr (.inr (.inr (.inr (fun i => if i < 8 then some (rw i) else none)))))), ((rw 0), .inl (cI, 60, .inl (fun _ => 0))), ((rw 1), .inl (cI, 60, .inl (fun _ => 0))), ((rw 2), .inl (cI, 60, .inl (fun _ => 0))), ((rw 3), .inl (cI, 60, .inl (fun _ => 0))), ((rw 4), .inl (cI, 60, .inl (fun _ => 0))), ((rw 5), .inl (cI, 60, .inl (fun _ => 0))), ((rw 6), .inl (cI, 60, .inl (fun _ => 0))), ((rw 7), .inl (cI, 60, .inl (fun _ => 0))), ((ad 13), .inl (cI, 8, .inl (fun _ => 0))), ((ad 14), .inl (cI, 8, .inl (fun _ => (-1)))), ((ad 2), .inr (3, [.ref (ad 23), .ref (ad 24), .ref (ad 25), .ref (ad 26), .int 0, .ref (ad 27), .ref (ad 28), .ref (ad 29), .ref (ad 30)])), ((ad 23), .inl (cI, 40, .inl (fun _ => 0))), ((ad 24), .inl (cI, 40, .inl (fun _ => 0))), ((ad 25), .inl (cI, 40, .inl (fun _ => 0))), ((ad 26), .inl (cI, 40, .inl (fun _ => 0))), ((ad 27), .inl (cI, 200, .inl (fun _ => 0))), ((ad 28), .inl (cI, 200, .inl (fun _ => 0))), ((ad 29), .inl (cI, 20, .inl (fun _ => 0))), ((ad 30), .inl (cI, 10, .inl (fun _ => 0))), ((ad 3), .inr (1, [.ref (ad 31), .ref (ad 32), .ref (ad 33), .int 0, .ref (ad 34), .ref (ad 35)])), ((ad 31), .inl (cI, 12, .inl (fun _ => 0))), ((ad 32), .inl (cI, 12, .inl (fun _ => 0))), ((ad 34), .inl (cI, 6, .inl (fun _ => 4))), ((ad 35), .inl (cI, 6, .inl (fun _ => 100000))), ((ad 4), .inr (7, [.ref (ad 36), .ref (ad 37), .ref (ad 38), .ref (ad 39), .ref (ad 40), .ref (ad 41), .int 0])), ((ad 5), .inr (8, [.ref (ad 42), .ref (ad 43), .ref (ad 44), .ref (ad 45), .int 0, .ref (ad 46)])), ((ad 6), .inr (2, [.ref (ad 47), .int 0, .int 0, .ref (ad 48), .ref (ad 49), .ref (ad 50), .int 0, .ref (ad 51), .ref (ad 52), .ref (ad 53), .int 0, .int 0, .int 0, .int 0, .int 0])), ((ad 47), .inl (cY, 300, .inl (fun _ => 0))), ((ad 48), .inl (cI, 12, .inl (fun _ => 0))), ((ad 49), .inl (cI, 12, .inl (fun _ => 0))), ((ad 50), .inl (cI, 12, .inl (fun _ => 0))), ((ad 51), .inl (cI, 12, .inl (fun _ => 0))), ((ad 52), .inl (cI, 12, .inl (fun _ => 0))), ((ad 53), .inl (cI, 12, .inl (fun _ => 0))), ((ad 7), .inr (0, [.ref (ad 54), .ref (ad 55), .ref (ad 56), .ref (ad 57), .int 0])), ((ad 8), .inr (5, [.int sd, .ref (ad 58)])), ((ad 9), .inr (6, [.ref (ad 59), .ref (ad 60), .ref (ad 61), .ref (ad 62), .int 0])), ((ad 10), .inr (4, [.ref (ad 63), .ref (ad 64), .ref (ad 65), .int 0])), ((ad 63), .inl (cI, 20, .inl (fun _ => 0))), ((ad 64), .inl (cI, 20, .inl (fun _ => 0))), ((ad 65), .inl (cI, 20, .inl (fun _ => 0))), (q8, .inr (11, [.int 0, .long 0, .int 0, .null, .null, .null, .int 0, .null, .null, .null, .null, .null, .null, .null, .null, .int 0, .null, .null, .int 0, .null, .null, .null, .null, .null, .int 0, .int 0, .null, .null, .null, .null, .int 0, .null, .int 0, .null, .null, .int 0, .int 0, .int 0, .int 0, .int 0, .int 0, .int 0, .int 0, .int 0, .int 0, .null, .null, .null, .null, .null, .null, .null, .int 0, .null, .null, .null, .null, .int 0, .null, .null, .null, .int 0, .null, .int 0]))] H := hP
  replace hD : va_D (fun q : Nat => s.heap.size ≤ q) [((ad 0), .inr (10, [.ref (ad 1), .ref (ad 2), .ref (ad 3), .ref (ad 4), .ref (ad 5), .ref (ad 6), .ref (ad 7), .ref (ad 8), .ref (ad 9), .ref (ad 10), .ref (ad 11), .int 0, .int 0, .int 0])), ((ad 1), .inr (9, [.ref (ad 12), .ref (ad 13), .ref (ad 14)])), ((ad 12), .inl (cQ, 8, .inr (.inr (.inr (.inr (fun i => if i < 8 then some (rw i) else none)))))), ((rw 0), .inl (cI, 60, .inl (fun _ => 0))), ((rw 1), .inl (cI, 60, .inl (fun _ => 0))), ((rw 2), .inl (cI, 60, .inl (fun _ => 0))), ((rw 3), .inl (cI, 60, .inl (fun _ => 0))), ((rw 4), .inl (cI, 60, .inl (fun _ => 0))), ((rw 5), .inl (cI, 60, .inl (fun _ => 0))), ((rw 6), .inl (cI, 60, .inl (fun _ => 0))), ((rw 7), .inl (cI, 60, .inl (fun _ => 0))), ((ad 13), .inl (cI, 8, .inl (fun _ => 0))), ((ad 14), .inl (cI, 8, .inl (fun _ => (-1)))), ((ad 2), .inr (3, [.ref (ad 23), .ref (ad 24), .ref (ad 25), .ref (ad 26), .int 0, .ref (ad 27), .ref (ad 28), .ref (ad 29), .ref (ad 30)])), ((ad 23), .inl (cI, 40, .inl (fun _ => 0))), ((ad 24), .inl (cI, 40, .inl (fun _ => 0))), ((ad 25), .inl (cI, 40, .inl (fun _ => 0))), ((ad 26), .inl (cI, 40, .inl (fun _ => 0))), ((ad 27), .inl (cI, 200, .inl (fun _ => 0))), ((ad 28), .inl (cI, 200, .inl (fun _ => 0))), ((ad 29), .inl (cI, 20, .inl (fun _ => 0))), ((ad 30), .inl (cI, 10, .inl (fun _ => 0))), ((ad 3), .inr (1, [.ref (ad 31), .ref (ad 32), .ref (ad 33), .int 0, .ref (ad 34), .ref (ad 35)])), ((ad 31), .inl (cI, 12, .inl (fun _ => 0))), ((ad 32), .inl (cI, 12, .inl (fun _ => 0))), ((ad 34), .inl (cI, 6, .inl (fun _ => 4))), ((ad 35), .inl (cI, 6, .inl (fun _ => 100000))), ((ad 4), .inr (7, [.ref (ad 36), .ref (ad 37), .ref (ad 38), .ref (ad 39), .ref (ad 40), .ref (ad 41), .int 0])), ((ad 5), .inr (8, [.ref (ad 42), .ref (ad 43), .ref (ad 44), .ref (ad 45), .int 0, .ref (ad 46)])), ((ad 6), .inr (2, [.ref (ad 47), .int 0, .int 0, .ref (ad 48), .ref (ad 49), .ref (ad 50), .int 0, .ref (ad 51), .ref (ad 52), .ref (ad 53), .int 0, .int 0, .int 0, .int 0, .int 0])), ((ad 47), .inl (cY, 300, .inl (fun _ => 0))), ((ad 48), .inl (cI, 12, .inl (fun _ => 0))), ((ad 49), .inl (cI, 12, .inl (fun _ => 0))), ((ad 50), .inl (cI, 12, .inl (fun _ => 0))), ((ad 51), .inl (cI, 12, .inl (fun _ => 0))), ((ad 52), .inl (cI, 12, .inl (fun _ => 0))), ((ad 53), .inl (cI, 12, .inl (fun _ => 0))), ((ad 7), .inr (0, [.ref (ad 54), .ref (ad 55), .ref (ad 56), .ref (ad 57), .int 0])), ((ad 8), .inr (5, [.int sd, .ref (ad 58)])), ((ad 9), .inr (6, [.ref (ad 59), .ref (ad 60), .ref (ad 61), .ref (ad 62), .int 0])), ((ad 10), .inr (4, [.ref (ad 63), .ref (ad 64), .ref (ad 65), .int 0])), ((ad 63), .inl (cI, 20, .inl (fun _ => 0))), ((ad 64), .inl (cI, 20, .inl (fun _ => 0))), ((ad 65), .inl (cI, 20, .inl (fun _ => 0))), (q8, .inr (11, [.int 0, .long 0, .int 0, .null, .null, .null, .int 0, .null, .null, .null, .null, .null, .null, .null, .null, .int 0, .null, .null, .int 0, .null, .null, .null, .null, .null, .int 0, .int 0, .null, .null, .null, .null, .int 0, .null, .int 0, .null, .null, .int 0, .int 0, .int 0, .int 0, .int 0, .int 0, .int 0, .int 0, .int 0, .int 0, .null, .null, .null, .null, .null, .null, .null, .int 0, .null, .null, .null, .null, .int 0, .null, .null, .null, .int 0, .null, .int 0]))] := hD
  refine W.widen (k := 67) (n := 2662) (by omega) (by omega) ?_
  refine lv_dup hx hb dL_law_16 rfl ?_
  refine lv_aload_n hx hb dL_law_17 rfl (lv_at hl 1 rfl) ?_
  refine lv_iconst (v := 0) hx hb dL_law_18 (by decide) ?_
  refine st_i (wr := [((ad 0), .inr (10, [.ref (ad 1), .ref (ad 2), .ref (ad 3), .ref (ad 4), .ref (ad 5), .ref (ad 6), .ref (ad 7), .ref (ad 8), .ref (ad 9), .ref (ad 10), .ref (ad 11), .int 0, .int 0, .int 0])), ((ad 1), .inr (9, [.ref (ad 12), .ref (ad 13), .ref (ad 14)])), ((ad 12), .inl (cQ, 8, .inr (.inr (.inr (.inr (fun i => if i < 8 then some (rw i) else none)))))), ((rw 0), .inl (cI, 60, .inl (fun _ => 0))), ((rw 1), .inl (cI, 60, .inl (fun _ => 0))), ((rw 2), .inl (cI, 60, .inl (fun _ => 0))), ((rw 3), .inl (cI, 60, .inl (fun _ => 0))), ((rw 4), .inl (cI, 60, .inl (fun _ => 0))), ((rw 5), .inl (cI, 60, .inl (fun _ => 0))), ((rw 6), .inl (cI, 60, .inl (fun _ => 0))), ((rw 7), .inl (cI, 60, .inl (fun _ => 0))), ((ad 13), .inl (cI, 8, .inl (fun _ => 0))), ((ad 14), .inl (cI, 8, .inl (fun _ => (-1)))), ((ad 2), .inr (3, [.ref (ad 23), .ref (ad 24), .ref (ad 25), .ref (ad 26), .int 0, .ref (ad 27), .ref (ad 28), .ref (ad 29), .ref (ad 30)])), ((ad 23), .inl (cI, 40, .inl (fun _ => 0))), ((ad 24), .inl (cI, 40, .inl (fun _ => 0))), ((ad 25), .inl (cI, 40, .inl (fun _ => 0))), ((ad 26), .inl (cI, 40, .inl (fun _ => 0))), ((ad 27), .inl (cI, 200, .inl (fun _ => 0))), ((ad 28), .inl (cI, 200, .inl (fun _ => 0))), ((ad 29), .inl (cI, 20, .inl (fun _ => 0))), ((ad 30), .inl (cI, 10, .inl (fun _ => 0))), ((ad 3), .inr (1, [.ref (ad 31), .ref (ad 32), .ref (ad 33), .int 0, .ref (ad 34), .ref (ad 35)])), ((ad 31), .inl (cI, 12, .inl (fun _ => 0))), ((ad 32), .inl (cI, 12, .inl (fun _ => 0))), ((ad 34), .inl (cI, 6, .inl (fun _ => 4))), ((ad 35), .inl (cI, 6, .inl (fun _ => 100000))), ((ad 4), .inr (7, [.ref (ad 36), .ref (ad 37), .ref (ad 38), .ref (ad 39), .ref (ad 40), .ref (ad 41), .int 0])), ((ad 5), .inr (8, [.ref (ad 42), .ref (ad 43), .ref (ad 44), .ref (ad 45), .int 0, .ref (ad 46)])), ((ad 6), .inr (2, [.ref (ad 47), .int 0, .int 0, .ref (ad 48), .ref (ad 49), .ref (ad 50), .int 0, .ref (ad 51), .ref (ad 52), .ref (ad 53), .int 0, .int 0, .int 0, .int 0, .int 0])), ((ad 47), .inl (cY, 300, .inl (fun _ => 0))), ((ad 48), .inl (cI, 12, .inl (fun _ => 0))), ((ad 49), .inl (cI, 12, .inl (fun _ => 0))), ((ad 50), .inl (cI, 12, .inl (fun _ => 0))), ((ad 51), .inl (cI, 12, .inl (fun _ => 0))), ((ad 52), .inl (cI, 12, .inl (fun _ => 0))), ((ad 53), .inl (cI, 12, .inl (fun _ => 0))), ((ad 7), .inr (0, [.ref (ad 54), .ref (ad 55), .ref (ad 56), .ref (ad 57), .int 0])), ((ad 8), .inr (5, [.int sd, .ref (ad 58)])), ((ad 9), .inr (6, [.ref (ad 59), .ref (ad 60), .ref (ad 61), .ref (ad 62), .int 0])), ((ad 10), .inr (4, [.ref (ad 63), .ref (ad 64), .ref (ad 65), .int 0])), ((ad 63), .inl (cI, 20, .inl (fun _ => 0))), ((ad 64), .inl (cI, 20, .inl (fun _ => 0))), ((ad 65), .inl (cI, 20, .inl (fun _ => 0))), (q8, .inr (11, [.int 0, .long 0, .int 0, .null, .null, .null, .int 0, .null, .null, .null, .null, .null, .null, .null, .null, .int 0, .null, .null, .int 0, .null, .null, .null, .null, .null, .int 0, .int 0, .null, .null, .null, .null, .int 0, .null, .int 0, .null, .null, .int 0, .int 0, .int 0, .int 0, .int 0, .int 0, .int 0, .int 0, .int 0, .int 0, .null, .null, .null, .null, .null, .null, .null, .int 0, .null, .null, .null, .null, .int 0, .null, .null, .null, .int 0, .null, .int 0]))]) (va_runS (As := [.ref b, .int 0]) (rest := [.ref q8, .ref q8]) ⟨hx, hb, hml, hown, hts⟩ (ct_L_cell l D cI cY cJ cQ _ b L hL xs) (va_cwS 2 hts gL_law_L_cell rfl rfl rfl (by decide +kernel) ⟨Nat.le_of_ble_eq_true rfl, Nat.le_of_ble_eq_true rfl⟩) ⟨cellBlind, fun U hU hW => ⟨rfl, by rw [hU], va_X.moved hW.alike (by rw [hU]; exact hX.kept (hS.2.1 b hbl hbA)), by rw [hU]; exact Nat.lt_of_lt_of_le hbl hS.1, va_K.moved hW.alike hK⟩⟩ rfl rfl hl.1 rfl (lv_room (Nat.le_of_ble_eq_true rfl)) dL_law_19 ⟨Nat.le_of_ble_eq_true rfl, Nat.le_of_ble_eq_true rfl⟩) hP hD hS hA [] [0, 1, 2, 3, 4, 5, 6, 7, 8, 9, 10, 11, 12, 13, 14, 15, 16, 17, 18, 19, 20, 21, 22, 23, 24, 25, 26, 27, 28, 29, 30, 31, 32, 33, 34, 35, 36, 37, 38, 39, 40, 41, 42, 43, 44] rfl rfl (by decide) (by decide) (fun r9 u10 H locs hw11 hP hD hS => ?_)
  replace hw11 : sd = r9 := (hw11.trans esd.symm).symm
  subst hw11
  replace hP : va_P D vwCl [((ad 0), .inr (10, [.ref (ad 1), .ref (ad 2), .ref (ad 3), .ref (ad 4), .ref (ad 5), .ref (ad 6), .ref (ad 7), .ref (ad 8), .ref (ad 9), .ref (ad 10), .ref (ad 11), .int 0, .int 0, .int 0])), ((ad 1), .inr (9, [.ref (ad 12), .ref (ad 13), .ref (ad 14)])), ((ad 12), .inl (cQ, 8, .inr (.inr (.inr (.inr (fun i => if i < 8 then some (rw i) else none)))))), ((rw 0), .inl (cI, 60, .inl (fun _ => 0))), ((rw 1), .inl (cI, 60, .inl (fun _ => 0))), ((rw 2), .inl (cI, 60, .inl (fun _ => 0))), ((rw 3), .inl (cI, 60, .inl (fun _ => 0))), ((rw 4), .inl (cI, 60, .inl (fun _ => 0))), ((rw 5), .inl (cI, 60, .inl (fun _ => 0))), ((rw 6), .inl (cI, 60, .inl (fun _ => 0))), ((rw 7), .inl (cI, 60, .inl (fun _ => 0))), ((ad 13), .inl (cI, 8, .inl (fun _ => 0))), ((ad 14), .inl (cI, 8, .inl (fun _ => (-1)))), ((ad 2), .inr (3, [.ref (ad 23), .ref (ad 24), .ref (ad 25), .ref (ad 26), .int 0, .ref (ad 27), .ref (ad 28), .ref (ad 29), .ref (ad 30)])), ((ad 23), .inl (cI, 40, .inl (fun _ => 0))), ((ad 24), .inl (cI, 40, .inl (fun _ => 0))), ((ad 25), .inl (cI, 40, .inl (fun _ => 0))), ((ad 26), .inl (cI, 40, .inl (fun _ => 0))), ((ad 27), .inl (cI, 200, .inl (fun _ => 0))), ((ad 28), .inl (cI, 200, .inl (fun _ => 0))), ((ad 29), .inl (cI, 20, .inl (fun _ => 0))), ((ad 30), .inl (cI, 10, .inl (fun _ => 0))), ((ad 3), .inr (1, [.ref (ad 31), .ref (ad 32), .ref (ad 33), .int 0, .ref (ad 34), .ref (ad 35)])), ((ad 31), .inl (cI, 12, .inl (fun _ => 0))), ((ad 32), .inl (cI, 12, .inl (fun _ => 0))), ((ad 34), .inl (cI, 6, .inl (fun _ => 4))), ((ad 35), .inl (cI, 6, .inl (fun _ => 100000))), ((ad 4), .inr (7, [.ref (ad 36), .ref (ad 37), .ref (ad 38), .ref (ad 39), .ref (ad 40), .ref (ad 41), .int 0])), ((ad 5), .inr (8, [.ref (ad 42), .ref (ad 43), .ref (ad 44), .ref (ad 45), .int 0, .ref (ad 46)])), ((ad 6), .inr (2, [.ref (ad 47), .int 0, .int 0, .ref (ad 48), .ref (ad 49), .ref (ad 50), .int 0, .ref (ad 51), .ref (ad 52), .ref (ad 53), .int 0, .int 0, .int 0, .int 0, .int 0])), ((ad 47), .inl (cY, 300, .inl (fun _ => 0))), ((ad 48), .inl (cI, 12, .inl (fun _ => 0))), ((ad 49), .inl (cI, 12, .inl (fun _ => 0))), ((ad 50), .inl (cI, 12, .inl (fun _ => 0))), ((ad 51), .inl (cI, 12, .inl (fun _ => 0))), ((ad 52), .inl (cI, 12, .inl (fun _ => 0))), ((ad 53), .inl (cI, 12, .inl (fun _ => 0))), ((ad 7), .inr (0, [.ref (ad 54), .ref (ad 55), .ref (ad 56), .ref (ad 57), .int 0])), ((ad 8), .inr (5, [.int sd, .ref (ad 58)])), ((ad 9), .inr (6, [.ref (ad 59), .ref (ad 60), .ref (ad 61), .ref (ad 62), .int 0])), ((ad 10), .inr (4, [.ref (ad 63), .ref (ad 64), .ref (ad 65), .int 0])), ((ad 63), .inl (cI, 20, .inl (fun _ => 0))), ((ad 64), .inl (cI, 20, .inl (fun _ => 0))), ((ad 65), .inl (cI, 20, .inl (fun _ => 0))), (q8, .inr (11, [.int 0, .long 0, .int 0, .null, .null, .null, .int 0, .null, .null, .null, .null, .null, .null, .null, .null, .int 0, .null, .null, .int 0, .null, .null, .null, .null, .null, .int 0, .int 0, .null, .null, .null, .null, .int 0, .null, .int 0, .null, .null, .int 0, .int 0, .int 0, .int 0, .int 0, .int 0, .int 0, .int 0, .int 0, .int 0, .null, .null, .null, .null, .null, .null, .null, .int 0, .null, .null, .null, .null, .int 0, .null, .null, .null, .int 0, .null, .int 0]))] H := hP
  replace hD : va_D (fun q : Nat => s.heap.size ≤ q) [((ad 0), .inr (10, [.ref (ad 1), .ref (ad 2), .ref (ad 3), .ref (ad 4), .ref (ad 5), .ref (ad 6), .ref (ad 7), .ref (ad 8), .ref (ad 9), .ref (ad 10), .ref (ad 11), .int 0, .int 0, .int 0])), ((ad 1), .inr (9, [.ref (ad 12), .ref (ad 13), .ref (ad 14)])), ((ad 12), .inl (cQ, 8, .inr (.inr (.inr (.inr (fun i => if i < 8 then some (rw i) else none)))))), ((rw 0), .inl (cI, 60, .inl (fun _ => 0))), ((rw 1), .inl (cI, 60, .inl (fun _ => 0))), ((rw 2), .inl (cI, 60, .inl (fun _ => 0))), ((rw 3), .inl (cI, 60, .inl (fun _ => 0))), ((rw 4), .inl (cI, 60, .inl (fun _ => 0))), ((rw 5), .inl (cI, 60, .inl (fun _ => 0))), ((rw 6), .inl (cI, 60, .inl (fun _ => 0))), ((rw 7), .inl (cI, 60, .inl (fun _ => 0))), ((ad 13), .inl (cI, 8, .inl (fun _ => 0))), ((ad 14), .inl (cI, 8, .inl (fun _ => (-1)))), ((ad 2), .inr (3, [.ref (ad 23), .ref (ad 24), .ref (ad 25), .ref (ad 26), .int 0, .ref (ad 27), .ref (ad 28), .ref (ad 29), .ref (ad 30)])), ((ad 23), .inl (cI, 40, .inl (fun _ => 0))), ((ad 24), .inl (cI, 40, .inl (fun _ => 0))), ((ad 25), .inl (cI, 40, .inl (fun _ => 0))), ((ad 26), .inl (cI, 40, .inl (fun _ => 0))), ((ad 27), .inl (cI, 200, .inl (fun _ => 0))), ((ad 28), .inl (cI, 200, .inl (fun _ => 0))), ((ad 29), .inl (cI, 20, .inl (fun _ => 0))), ((ad 30), .inl (cI, 10, .inl (fun _ => 0))), ((ad 3), .inr (1, [.ref (ad 31), .ref (ad 32), .ref (ad 33), .int 0, .ref (ad 34), .ref (ad 35)])), ((ad 31), .inl (cI, 12, .inl (fun _ => 0))), ((ad 32), .inl (cI, 12, .inl (fun _ => 0))), ((ad 34), .inl (cI, 6, .inl (fun _ => 4))), ((ad 35), .inl (cI, 6, .inl (fun _ => 100000))), ((ad 4), .inr (7, [.ref (ad 36), .ref (ad 37), .ref (ad 38), .ref (ad 39), .ref (ad 40), .ref (ad 41), .int 0])), ((ad 5), .inr (8, [.ref (ad 42), .ref (ad 43), .ref (ad 44), .ref (ad 45), .int 0, .ref (ad 46)])), ((ad 6), .inr (2, [.ref (ad 47), .int 0, .int 0, .ref (ad 48), .ref (ad 49), .ref (ad 50), .int 0, .ref (ad 51), .ref (ad 52), .ref (ad 53), .int 0, .int 0, .int 0, .int 0, .int 0])), ((ad 47), .inl (cY, 300, .inl (fun _ => 0))), ((ad 48), .inl (cI, 12, .inl (fun _ => 0))), ((ad 49), .inl (cI, 12, .inl (fun _ => 0))), ((ad 50), .inl (cI, 12, .inl (fun _ => 0))), ((ad 51), .inl (cI, 12, .inl (fun _ => 0))), ((ad 52), .inl (cI, 12, .inl (fun _ => 0))), ((ad 53), .inl (cI, 12, .inl (fun _ => 0))), ((ad 7), .inr (0, [.ref (ad 54), .ref (ad 55), .ref (ad 56), .ref (ad 57), .int 0])), ((ad 8), .inr (5, [.int sd, .ref (ad 58)])), ((ad 9), .inr (6, [.ref (ad 59), .ref (ad 60), .ref (ad 61), .ref (ad 62), .int 0])), ((ad 10), .inr (4, [.ref (ad 63), .ref (ad 64), .ref (ad 65), .int 0])), ((ad 63), .inl (cI, 20, .inl (fun _ => 0))), ((ad 64), .inl (cI, 20, .inl (fun _ => 0))), ((ad 65), .inl (cI, 20, .inl (fun _ => 0))), (q8, .inr (11, [.int 0, .long 0, .int 0, .null, .null, .null, .int 0, .null, .null, .null, .null, .null, .null, .null, .null, .int 0, .null, .null, .int 0, .null, .null, .null, .null, .null, .int 0, .int 0, .null, .null, .null, .null, .int 0, .null, .int 0, .null, .null, .int 0, .int 0, .int 0, .int 0, .int 0, .int 0, .int 0, .int 0, .int 0, .int 0, .null, .null, .null, .null, .null, .null, .null, .int 0, .null, .null, .null, .null, .int 0, .null, .null, .null, .int 0, .null, .int 0]))] := hD
  refine st_v (wr := [((ad 0), .inr (10, [.ref (ad 1), .ref (ad 2), .ref (ad 3), .ref (ad 4), .ref (ad 5), .ref (ad 6), .ref (ad 7), .ref (ad 8), .ref (ad 9), .ref (ad 10), .ref (ad 11), .int 0, .int 0, .int 0])), ((ad 1), .inr (9, [.ref (ad 12), .ref (ad 13), .ref (ad 14)])), ((ad 12), .inl (cQ, 8, .inr (.inr (.inr (.inr (fun i => if i < 8 then some (rw i) else none)))))), ((rw 0), .inl (cI, 60, .inl (fun _ => 0))), ((rw 1), .inl (cI, 60, .inl (fun _ => 0))), ((rw 2), .inl (cI, 60, .inl (fun _ => 0))), ((rw 3), .inl (cI, 60, .inl (fun _ => 0))), ((rw 4), .inl (cI, 60, .inl (fun _ => 0))), ((rw 5), .inl (cI, 60, .inl (fun _ => 0))), ((rw 6), .inl (cI, 60, .inl (fun _ => 0))), ((rw 7), .inl (cI, 60, .inl (fun _ => 0))), ((ad 13), .inl (cI, 8, .inl (fun _ => 0))), ((ad 14), .inl (cI, 8, .inl (fun _ => (-1)))), ((ad 2), .inr (3, [.ref (ad 23), .ref (ad 24), .ref (ad 25), .ref (ad 26), .int 0, .ref (ad 27), .ref (ad 28), .ref (ad 29), .ref (ad 30)])), ((ad 23), .inl (cI, 40, .inl (fun _ => 0))), ((ad 24), .inl (cI, 40, .inl (fun _ => 0))), ((ad 25), .inl (cI, 40, .inl (fun _ => 0))), ((ad 26), .inl (cI, 40, .inl (fun _ => 0))), ((ad 27), .inl (cI, 200, .inl (fun _ => 0))), ((ad 28), .inl (cI, 200, .inl (fun _ => 0))), ((ad 29), .inl (cI, 20, .inl (fun _ => 0))), ((ad 30), .inl (cI, 10, .inl (fun _ => 0))), ((ad 3), .inr (1, [.ref (ad 31), .ref (ad 32), .ref (ad 33), .int 0, .ref (ad 34), .ref (ad 35)])), ((ad 31), .inl (cI, 12, .inl (fun _ => 0))), ((ad 32), .inl (cI, 12, .inl (fun _ => 0))), ((ad 34), .inl (cI, 6, .inl (fun _ => 4))), ((ad 35), .inl (cI, 6, .inl (fun _ => 100000))), ((ad 4), .inr (7, [.ref (ad 36), .ref (ad 37), .ref (ad 38), .ref (ad 39), .ref (ad 40), .ref (ad 41), .int 0])), ((ad 5), .inr (8, [.ref (ad 42), .ref (ad 43), .ref (ad 44), .ref (ad 45), .int 0, .ref (ad 46)])), ((ad 6), .inr (2, [.ref (ad 47), .int 0, .int 0, .ref (ad 48), .ref (ad 49), .ref (ad 50), .int 0, .ref (ad 51), .ref (ad 52), .ref (ad 53), .int 0, .int 0, .int 0, .int 0, .int 0])), ((ad 47), .inl (cY, 300, .inl (fun _ => 0))), ((ad 48), .inl (cI, 12, .inl (fun _ => 0))), ((ad 49), .inl (cI, 12, .inl (fun _ => 0))), ((ad 50), .inl (cI, 12, .inl (fun _ => 0))), ((ad 51), .inl (cI, 12, .inl (fun _ => 0))), ((ad 52), .inl (cI, 12, .inl (fun _ => 0))), ((ad 53), .inl (cI, 12, .inl (fun _ => 0))), ((ad 7), .inr (0, [.ref (ad 54), .ref (ad 55), .ref (ad 56), .ref (ad 57), .int 0])), ((ad 8), .inr (5, [.int sd, .ref (ad 58)])), ((ad 9), .inr (6, [.ref (ad 59), .ref (ad 60), .ref (ad 61), .ref (ad 62), .int 0])), ((ad 10), .inr (4, [.ref (ad 63), .ref (ad 64), .ref (ad 65), .int 0])), ((ad 63), .inl (cI, 20, .inl (fun _ => 0))), ((ad 64), .inl (cI, 20, .inl (fun _ => 0))), ((ad 65), .inl (cI, 20, .inl (fun _ => 0)))]) (va_runI (As := [.int sd]) (rest := [.ref q8]) ⟨hx, hb, hml, hown, hts⟩ (ct_X11_init l D cI cY cJ cQ _ q8 sd) (cwI 1 hts gL_law_X11_init rfl rfl rfl (hts (.initialized RX11) (by decide +kernel)) (hts (.methodLink RL 20 yX11_init) (by decide +kernel)) (hts (.instanceMethod yX11_init) (by decide +kernel)) rfl (by decide +kernel) ⟨Nat.le_of_ble_eq_true rfl, Nat.le_of_ble_eq_true rfl⟩) (cPreS (hP.sub [44] rfl) hK (hD.sub [44] (by decide) rfl) hN) rfl rfl hl.1 rfl (lv_room (Nat.le_of_ble_eq_true rfl)) dL_law_22 ⟨Nat.le_of_ble_eq_true rfl, Nat.le_of_ble_eq_true rfl⟩) hP hD hS hA [44] [0, 1, 2, 3, 4, 5, 6, 7, 8, 9, 10, 11, 12, 13, 14, 15, 16, 17, 18, 19, 20, 21, 22, 23, 24, 25, 26, 27, 28, 29, 30, 31, 32, 33, 34, 35, 36, 37, 38, 39, 40, 41, 42, 43] rfl rfl (by decide) (by decide) (fun u12 H locs hw13 hP hD hS => ?_)
  obtain ⟨md, emd⟩ : ∃ f : Nat → Nat, f = u12 := ⟨_, rfl⟩
  subst emd
  replace hw13 : md 64 = q8 := hw13
  subst hw13
  replace hP : va_P D vwCl [((ad 0), .inr (10, [.ref (ad 1), .ref (ad 2), .ref (ad 3), .ref (ad 4), .ref (ad 5), .ref (ad 6), .ref (ad 7), .ref (ad 8), .ref (ad 9), .ref (ad 10), .ref (ad 11), .int 0, .int 0, .int 0])), ((ad 1), .inr (9, [.ref (ad 12), .ref (ad 13), .ref (ad 14)])), ((ad 12), .inl (cQ, 8, .inr (.inr (.inr (.inr (fun i => if i < 8 then some (rw i) else none)))))), ((rw 0), .inl (cI, 60, .inl (fun _ => 0))), ((rw 1), .inl (cI, 60, .inl (fun _ => 0))), ((rw 2), .inl (cI, 60, .inl (fun _ => 0))), ((rw 3), .inl (cI, 60, .inl (fun _ => 0))), ((rw 4), .inl (cI, 60, .inl (fun _ => 0))), ((rw 5), .inl (cI, 60, .inl (fun _ => 0))), ((rw 6), .inl (cI, 60, .inl (fun _ => 0))), ((rw 7), .inl (cI, 60, .inl (fun _ => 0))), ((ad 13), .inl (cI, 8, .inl (fun _ => 0))), ((ad 14), .inl (cI, 8, .inl (fun _ => (-1)))), ((ad 2), .inr (3, [.ref (ad 23), .ref (ad 24), .ref (ad 25), .ref (ad 26), .int 0, .ref (ad 27), .ref (ad 28), .ref (ad 29), .ref (ad 30)])), ((ad 23), .inl (cI, 40, .inl (fun _ => 0))), ((ad 24), .inl (cI, 40, .inl (fun _ => 0))), ((ad 25), .inl (cI, 40, .inl (fun _ => 0))), ((ad 26), .inl (cI, 40, .inl (fun _ => 0))), ((ad 27), .inl (cI, 200, .inl (fun _ => 0))), ((ad 28), .inl (cI, 200, .inl (fun _ => 0))), ((ad 29), .inl (cI, 20, .inl (fun _ => 0))), ((ad 30), .inl (cI, 10, .inl (fun _ => 0))), ((ad 3), .inr (1, [.ref (ad 31), .ref (ad 32), .ref (ad 33), .int 0, .ref (ad 34), .ref (ad 35)])), ((ad 31), .inl (cI, 12, .inl (fun _ => 0))), ((ad 32), .inl (cI, 12, .inl (fun _ => 0))), ((ad 34), .inl (cI, 6, .inl (fun _ => 4))), ((ad 35), .inl (cI, 6, .inl (fun _ => 100000))), ((ad 4), .inr (7, [.ref (ad 36), .ref (ad 37), .ref (ad 38), .ref (ad 39), .ref (ad 40), .ref (ad 41), .int 0])), ((ad 5), .inr (8, [.ref (ad 42), .ref (ad 43), .ref (ad 44), .ref (ad 45), .int 0, .ref (ad 46)])), ((ad 6), .inr (2, [.ref (ad 47), .int 0, .int 0, .ref (ad 48), .ref (ad 49), .ref (ad 50), .int 0, .ref (ad 51), .ref (ad 52), .ref (ad 53), .int 0, .int 0, .int 0, .int 0, .int 0])), ((ad 47), .inl (cY, 300, .inl (fun _ => 0))), ((ad 48), .inl (cI, 12, .inl (fun _ => 0))), ((ad 49), .inl (cI, 12, .inl (fun _ => 0))), ((ad 50), .inl (cI, 12, .inl (fun _ => 0))), ((ad 51), .inl (cI, 12, .inl (fun _ => 0))), ((ad 52), .inl (cI, 12, .inl (fun _ => 0))), ((ad 53), .inl (cI, 12, .inl (fun _ => 0))), ((ad 7), .inr (0, [.ref (ad 54), .ref (ad 55), .ref (ad 56), .ref (ad 57), .int 0])), ((ad 8), .inr (5, [.int sd, .ref (ad 58)])), ((ad 9), .inr (6, [.ref (ad 59), .ref (ad 60), .ref (ad 61), .ref (ad 62), .int 0])), ((ad 10), .inr (4, [.ref (ad 63), .ref (ad 64), .ref (ad 65), .int 0])), ((ad 63), .inl (cI, 20, .inl (fun _ => 0))), ((ad 64), .inl (cI, 20, .inl (fun _ => 0))), ((ad 65), .inl (cI, 20, .inl (fun _ => 0))), ((md 64), .inr (11, [.int 0, .long (sd.toInt64), .int 0, .ref (md 3), .ref (md 4), .ref (md 5), .int 0, .ref (md 7), .ref (md 8), .ref (md 9), .ref (md 10), .ref (md 11), .ref (md 12), .ref (md 13), .ref (md 14), .int 0, .ref (md 16), .ref (md 17), .int 0, .ref (md 19), .ref (md 20), .ref (md 21), .ref (md 22), .ref (md 23), .int 0, .int 0, .ref (md 26), .ref (md 27), .ref (md 28), .ref (md 29), .int 0, .ref (md 31), .int 0, .ref (md 33), .ref (md 34), .int 0, .int 0, .int 0, .int 0, .int 0, .int 0, .int 0, .int 0, .int 0, .int 0, .ref (md 45), .ref (md 46), .ref (md 47), .ref (md 48), .ref (md 49), .ref (md 50), .ref (md 51), .int 0, .ref (md 53), .ref (md 54), .ref (md 55), .ref (md 56), .int 0, .ref (md 58), .ref (md 59), .ref (md 60), .int 0, .ref (md 62), .int 0])), ((md 3), .inl (cI, 8, .inl (fun _ => (-1)))), ((md 4), .inl (cI, 8, .inl (fun _ => 0))), ((md 5), .inl (cI, 480, .inl (fun _ => 0))), ((md 7), .inl (cI, 40, .inl (fun _ => 0))), ((md 8), .inl (cI, 40, .inl (fun _ => 0))), ((md 9), .inl (cI, 40, .inl (fun _ => 0))), ((md 10), .inl (cI, 40, .inl (fun _ => 0))), ((md 11), .inl (cI, 200, .inl (fun _ => 0))), ((md 12), .inl (cI, 12, .inl (fun _ => 0))), ((md 13), .inl (cI, 12, .inl (fun _ => 0))), ((md 14), .inl (cJ, 12, .inr (.inl (fun _ => 0)))), ((md 16), .inl (cI, 12, .inl (fun _ => 0))), ((md 17), .inl (cI, 12, .inl (fun _ => 0))), ((md 58), .inl (cI, 20, .inl (fun _ => 0))), ((md 59), .inl (cI, 20, .inl (fun _ => 0))), ((md 60), .inl (cI, 20, .inl (fun _ => 0))), ((md 49), .inl (cI, 6, .inl (fun _ => 4))), ((md 50), .inl (cI, 6, .inl (fun _ => 100000))), ((md 34), .inl (cI, 300, .inl (fun _ => 0))), ((md 31), .inl (cI, 36, .inl (fun _ => 0))), ((md 33), .inl (cI, 36, .inl (fun _ => 0)))] H := hP
  replace hD : va_D (fun q : Nat => s.heap.size ≤ q) [((ad 0), .inr (10, [.ref (ad 1), .ref (ad 2), .ref (ad 3), .ref (ad 4), .ref (ad 5), .ref (ad 6), .ref (ad 7), .ref (ad 8), .ref (ad 9), .ref (ad 10), .ref (ad 11), .int 0, .int 0, .int 0])), ((ad 1), .inr (9, [.ref (ad 12), .ref (ad 13), .ref (ad 14)])), ((ad 12), .inl (cQ, 8, .inr (.inr (.inr (.inr (fun i => if i < 8 then some (rw i) else none)))))), ((rw 0), .inl (cI, 60, .inl (fun _ => 0))), ((rw 1), .inl (cI, 60, .inl (fun _ => 0))), ((rw 2), .inl (cI, 60, .inl (fun _ => 0))), ((rw 3), .inl (cI, 60, .inl (fun _ => 0))), ((rw 4), .inl (cI, 60, .inl (fun _ => 0))), ((rw 5), .inl (cI, 60, .inl (fun _ => 0))), ((rw 6), .inl (cI, 60, .inl (fun _ => 0))), ((rw 7), .inl (cI, 60, .inl (fun _ => 0))), ((ad 13), .inl (cI, 8, .inl (fun _ => 0))), ((ad 14), .inl (cI, 8, .inl (fun _ => (-1)))), ((ad 2), .inr (3, [.ref (ad 23), .ref (ad 24), .ref (ad 25), .ref (ad 26), .int 0, .ref (ad 27), .ref (ad 28), .ref (ad 29), .ref (ad 30)])), ((ad 23), .inl (cI, 40, .inl (fun _ => 0))), ((ad 24), .inl (cI, 40, .inl (fun _ => 0))), ((ad 25), .inl (cI, 40, .inl (fun _ => 0))), ((ad 26), .inl (cI, 40, .inl (fun _ => 0))), ((ad 27), .inl (cI, 200, .inl (fun _ => 0))), ((ad 28), .inl (cI, 200, .inl (fun _ => 0))), ((ad 29), .inl (cI, 20, .inl (fun _ => 0))), ((ad 30), .inl (cI, 10, .inl (fun _ => 0))), ((ad 3), .inr (1, [.ref (ad 31), .ref (ad 32), .ref (ad 33), .int 0, .ref (ad 34), .ref (ad 35)])), ((ad 31), .inl (cI, 12, .inl (fun _ => 0))), ((ad 32), .inl (cI, 12, .inl (fun _ => 0))), ((ad 34), .inl (cI, 6, .inl (fun _ => 4))), ((ad 35), .inl (cI, 6, .inl (fun _ => 100000))), ((ad 4), .inr (7, [.ref (ad 36), .ref (ad 37), .ref (ad 38), .ref (ad 39), .ref (ad 40), .ref (ad 41), .int 0])), ((ad 5), .inr (8, [.ref (ad 42), .ref (ad 43), .ref (ad 44), .ref (ad 45), .int 0, .ref (ad 46)])), ((ad 6), .inr (2, [.ref (ad 47), .int 0, .int 0, .ref (ad 48), .ref (ad 49), .ref (ad 50), .int 0, .ref (ad 51), .ref (ad 52), .ref (ad 53), .int 0, .int 0, .int 0, .int 0, .int 0])), ((ad 47), .inl (cY, 300, .inl (fun _ => 0))), ((ad 48), .inl (cI, 12, .inl (fun _ => 0))), ((ad 49), .inl (cI, 12, .inl (fun _ => 0))), ((ad 50), .inl (cI, 12, .inl (fun _ => 0))), ((ad 51), .inl (cI, 12, .inl (fun _ => 0))), ((ad 52), .inl (cI, 12, .inl (fun _ => 0))), ((ad 53), .inl (cI, 12, .inl (fun _ => 0))), ((ad 7), .inr (0, [.ref (ad 54), .ref (ad 55), .ref (ad 56), .ref (ad 57), .int 0])), ((ad 8), .inr (5, [.int sd, .ref (ad 58)])), ((ad 9), .inr (6, [.ref (ad 59), .ref (ad 60), .ref (ad 61), .ref (ad 62), .int 0])), ((ad 10), .inr (4, [.ref (ad 63), .ref (ad 64), .ref (ad 65), .int 0])), ((ad 63), .inl (cI, 20, .inl (fun _ => 0))), ((ad 64), .inl (cI, 20, .inl (fun _ => 0))), ((ad 65), .inl (cI, 20, .inl (fun _ => 0))), ((md 64), .inr (11, [.int 0, .long (sd.toInt64), .int 0, .ref (md 3), .ref (md 4), .ref (md 5), .int 0, .ref (md 7), .ref (md 8), .ref (md 9), .ref (md 10), .ref (md 11), .ref (md 12), .ref (md 13), .ref (md 14), .int 0, .ref (md 16), .ref (md 17), .int 0, .ref (md 19), .ref (md 20), .ref (md 21), .ref (md 22), .ref (md 23), .int 0, .int 0, .ref (md 26), .ref (md 27), .ref (md 28), .ref (md 29), .int 0, .ref (md 31), .int 0, .ref (md 33), .ref (md 34), .int 0, .int 0, .int 0, .int 0, .int 0, .int 0, .int 0, .int 0, .int 0, .int 0, .ref (md 45), .ref (md 46), .ref (md 47), .ref (md 48), .ref (md 49), .ref (md 50), .ref (md 51), .int 0, .ref (md 53), .ref (md 54), .ref (md 55), .ref (md 56), .int 0, .ref (md 58), .ref (md 59), .ref (md 60), .int 0, .ref (md 62), .int 0])), ((md 3), .inl (cI, 8, .inl (fun _ => (-1)))), ((md 4), .inl (cI, 8, .inl (fun _ => 0))), ((md 5), .inl (cI, 480, .inl (fun _ => 0))), ((md 7), .inl (cI, 40, .inl (fun _ => 0))), ((md 8), .inl (cI, 40, .inl (fun _ => 0))), ((md 9), .inl (cI, 40, .inl (fun _ => 0))), ((md 10), .inl (cI, 40, .inl (fun _ => 0))), ((md 11), .inl (cI, 200, .inl (fun _ => 0))), ((md 12), .inl (cI, 12, .inl (fun _ => 0))), ((md 13), .inl (cI, 12, .inl (fun _ => 0))), ((md 14), .inl (cJ, 12, .inr (.inl (fun _ => 0)))), ((md 16), .inl (cI, 12, .inl (fun _ => 0))), ((md 17), .inl (cI, 12, .inl (fun _ => 0))), ((md 58), .inl (cI, 20, .inl (fun _ => 0))), ((md 59), .inl (cI, 20, .inl (fun _ => 0))), ((md 60), .inl (cI, 20, .inl (fun _ => 0))), ((md 49), .inl (cI, 6, .inl (fun _ => 4))), ((md 50), .inl (cI, 6, .inl (fun _ => 100000))), ((md 34), .inl (cI, 300, .inl (fun _ => 0))), ((md 31), .inl (cI, 36, .inl (fun _ => 0))), ((md 33), .inl (cI, 36, .inl (fun _ => 0)))] := hD
  refine W.widen (k := 107) (n := 4890) (by omega) (by omega) ?_
  refine lv_astore_n (lv' := [(2, .ref (md 64)), (1, .ref (ad 0)), (0, .ref b)]) hx hb dL_law_25 rfl hl (by decide) rfl (fun ls hl => ?_)
  refine lv_iconst (v := 1) hx hb dL_law_26 (by decide) ?_
  refine lv_istore_n (lv' := [(3, .int 1), (2, .ref (md 64)), (1, .ref (ad 0)), (0, .ref b)]) hx hb dL_law_27 rfl hl (by decide) rfl (fun ls hl => ?_)
  refine lv_iload_n hx hb dL_law_28 rfl (lv_at hl 0 rfl) ?_
  refine lv_aload_n hx hb dL_law_29 rfl (lv_at hl 3 rfl) ?_
  refine va_slen hx hb hX hbl hbA hS dL_law_30 ?_
  refine lv_bipush (v := 6) hx hb dL_law_31 (by decide) ?_
  refine lv_isub hx hb dL_law_33 ?_
  refine lv_topi (fun v15 ev15 => ?_)
  have tv15 : v15.toInt = (Int32.ofNat L).toInt - 6 := by rw [ev15]; exact (i_sub (x := (Int32.ofNat L)) (y := (6 : Int32)) (by rw [k6]; omega) (by rw [k6]; omega)).trans (by rw [k6])
  refine lv_icmp_gt (tgt := 1658) hx hb dL_law_34 (by decide) (fun c1 => ?_) (fun c1 => ?_)
  · refine lv_iconst (v := 1) hx hb dL_law_1658 (by decide) ?_
    refine va_forget (fun q hq => hS.2.2 q hq) ?_
    refine W.widen (k := 600000) (n := 7302250) (Nat.le_of_ble_eq_true rfl) (Nat.le_of_ble_eq_true rfl) ?_
    exact lw_ret hx hb hr hlocks dL_law_1659
  · have f1 := i_nlt c1
    obtain rfl : L = 7 := by omega
    refine lv_aload_n hx hb dL_law_37 rfl (lv_at hl 3 rfl) ?_
    refine lv_iload_n hx hb dL_law_38 rfl (lv_at hl 0 rfl) ?_
    refine va_sld hx hb hX hbl hbA hS (i_in (by decide) (by decide)) dL_law_39 ?_
    refine lv_bipush (v := 63) hx hb dL_law_40 (by decide) ?_
    refine lv_iand hx hb dL_law_42 ?_
    refine lv_topi (fun v16 ev16 => ?_)
    by_cases g17 : v16.toInt < 0 ∨ 37 < v16.toInt
    · skip
      refine lv_tableOut (tgt := 1652) hx hb dL_law_43 g17 (by decide) ?_
      exact law_tail ⟨C0, hK, hN⟩ hS (lv_sub hl [3, 0] rfl)
    · skip
      rcases Int.lt_or_ge v16.toInt 19 with g18 | g18
      · skip
        rcases Int.lt_or_ge v16.toInt 10 with g19 | g19
        · skip
          rcases Int.lt_or_ge v16.toInt 5 with g20 | g20
          · skip
            rcases Int.lt_or_ge v16.toInt 3 with g21 | g21
            · skip
              rcases Int.lt_or_ge v16.toInt 2 with g22 | g22
              · skip
                rcases Int.lt_or_ge v16.toInt 1 with g23 | g23
                · skip
                  have h24 : v16.toInt = 0 := by omega
                  refine lv_tableIn (tgt := 208) (off := 165) hx hb dL_law_43 (by omega) (by omega) (by rw [h24]; rfl) (by decide) ?_
                  exact law_case_0 ⟨C0, hK, hN⟩ (hP.sub [0, 1, 2, 3, 4, 5, 6, 7, 8, 9, 10, 11, 12, 44, 45, 46, 47] rfl) (hD.sub [0, 1, 2, 3, 4, 5, 6, 7, 8, 9, 10, 11, 12, 44, 45, 46, 47] (by decide) rfl) hS (lv_sub hl [3, 2, 1, 0] rfl)
                · skip
                  have h25 : v16.toInt = 1 := by omega
                  refine lv_tableIn (tgt := 251) (off := 208) hx hb dL_law_43 (by omega) (by omega) (by rw [h25]; rfl) (by decide) ?_
                  exact law_case_1 ⟨C0, hK, hN⟩ (hP.sub [0, 1, 12, 44, 45] rfl) (hD.sub [0, 1, 12, 44, 45] (by decide) rfl) hS (lv_sub hl [3, 2, 1, 0] rfl)
              · skip
                have h26 : v16.toInt = 2 := by omega
                refine lv_tableIn (tgt := 294) (off := 251) hx hb dL_law_43 (by omega) (by omega) (by rw [h26]; rfl) (by decide) ?_
                exact law_case_2 ⟨C0, hK, hN⟩ (hP.sub [0, 1, 12, 44, 45] rfl) (hD.sub [0, 1, 12, 44, 45] (by decide) rfl) hS (lv_sub hl [3, 2, 1, 0] rfl)
            · skip
              rcases Int.lt_or_ge v16.toInt 4 with g27 | g27
              · skip
                have h28 : v16.toInt = 3 := by omega
                refine lv_tableIn (tgt := 357) (off := 314) hx hb dL_law_43 (by omega) (by omega) (by rw [h28]; rfl) (by decide) ?_
                exact law_case_3 ⟨C0, hK, hN⟩ (hP.sub [0, 1, 12, 44, 45] rfl) (hD.sub [0, 1, 12, 44, 45] (by decide) rfl) hS (lv_sub hl [3, 2, 1, 0] rfl)
              · skip
                have h29 : v16.toInt = 4 := by omega
                refine lv_tableIn (tgt := 380) (off := 337) hx hb dL_law_43 (by omega) (by omega) (by rw [h29]; rfl) (by decide) ?_
                exact law_case_4 ⟨C0, hK, hN⟩ (hP.sub [0, 13, 14, 15, 16, 17, 44, 48, 49, 50, 51] rfl) (hD.sub [0, 13, 14, 15, 16, 17, 44, 48, 49, 50, 51] (by decide) rfl) hS (lv_sub hl [3, 2, 1, 0] rfl)
          · skip
            rcases Int.lt_or_ge v16.toInt 8 with g30 | g30
            · skip
              rcases Int.lt_or_ge v16.toInt 7 with g31 | g31
              · skip
                rcases Int.lt_or_ge v16.toInt 6 with g32 | g32
                · skip
                  have h33 : v16.toInt = 5 := by omega
                  refine lv_tableIn (tgt := 433) (off := 390) hx hb dL_law_43 (by omega) (by omega) (by rw [h33]; rfl) (by decide) ?_
                  exact law_case_5 ⟨C0, hK, hN⟩ (hP.sub [0, 1, 12, 44, 45] rfl) (hD.sub [0, 1, 12, 44, 45] (by decide) rfl) hS (lv_sub hl [3, 2, 1, 0] rfl)
                · skip
                  have h34 : v16.toInt = 6 := by omega
                  refine lv_tableIn (tgt := 476) (off := 433) hx hb dL_law_43 (by omega) (by omega) (by rw [h34]; rfl) (by decide) ?_
                  exact law_case_6 ⟨C0, hK, hN⟩ (hP.sub [0, 13, 18, 19, 20, 21, 44] rfl) (hD.sub [0, 13, 18, 19, 20, 21, 44] (by decide) rfl) hS (lv_sub hl [3, 2, 1, 0] rfl)
              · skip
                have h35 : v16.toInt = 7 := by omega
                refine lv_tableIn (tgt := 519) (off := 476) hx hb dL_law_43 (by omega) (by omega) (by rw [h35]; rfl) (by decide) ?_
                exact law_case_7 ⟨C0, hK, hN⟩ (hP.sub [0, 13, 18, 19, 20, 21, 44, 52, 53, 54, 55] rfl) (hD.sub [0, 13, 18, 19, 20, 21, 44, 52, 53, 54, 55] (by decide) rfl) hS (lv_sub hl [3, 2, 1, 0] rfl)
            · skip
              rcases Int.lt_or_ge v16.toInt 9 with g36 | g36
              · skip
                have h37 : v16.toInt = 8 := by omega
                refine lv_tableIn (tgt := 562) (off := 519) hx hb dL_law_43 (by omega) (by omega) (by rw [h37]; rfl) (by decide) ?_
                exact law_case_8 ⟨C0, hK, hN⟩ (hP.sub [0, 13, 18, 19, 20, 21, 44, 52, 53, 54, 55] rfl) (hD.sub [0, 13, 18, 19, 20, 21, 44, 52, 53, 54, 55] (by decide) rfl) hS (lv_sub hl [3, 2, 1, 0] rfl)
              · skip
                have h38 : v16.toInt = 9 := by omega
                refine lv_tableIn (tgt := 595) (off := 552) hx hb dL_law_43 (by omega) (by omega) (by rw [h38]; rfl) (by decide) ?_
                exact law_case_9 ⟨C0, hK, hN⟩ (hP.sub [0, 13, 18, 19, 20, 21, 44, 52] rfl) (hD.sub [0, 13, 18, 19, 20, 21, 44, 52] (by decide) rfl) hS (lv_sub hl [3, 2, 1, 0] rfl)
        · skip
          rcases Int.lt_or_ge v16.toInt 15 with g39 | g39
          · skip
            rcases Int.lt_or_ge v16.toInt 13 with g40 | g40
            · skip
              rcases Int.lt_or_ge v16.toInt 12 with g41 | g41
              · skip
                rcases Int.lt_or_ge v16.toInt 11 with g42 | g42
                · skip
                  have h43 : v16.toInt = 10 := by omega
                  refine lv_tableIn (tgt := 618) (off := 575) hx hb dL_law_43 (by omega) (by omega) (by rw [h43]; rfl) (by decide) ?_
                  exact law_case_10 ⟨C0, hK, hN⟩ (hP.sub [0, 22, 23, 24, 44, 56, 57] rfl) (hD.sub [0, 22, 23, 24, 44, 56, 57] (by decide) rfl) hS (lv_sub hl [3, 2, 1, 0] rfl)
                · skip
                  have h44 : v16.toInt = 11 := by omega
                  refine lv_tableIn (tgt := 651) (off := 608) hx hb dL_law_43 (by omega) (by omega) (by rw [h44]; rfl) (by decide) ?_
                  exact law_case_11 ⟨C0, hK, hN⟩ (hP.sub [0, 22, 44] rfl) (hD.sub [0, 22, 44] (by decide) rfl) hS (lv_sub hl [3, 2, 1, 0] rfl)
              · skip
                have h45 : v16.toInt = 12 := by omega
                refine lv_tableIn (tgt := 714) (off := 671) hx hb dL_law_43 (by omega) (by omega) (by rw [h45]; rfl) (by decide) ?_
                exact law_case_12 ⟨C0, hK, hN⟩ (hP.sub [0, 22, 44] rfl) (hD.sub [0, 22, 44] (by decide) rfl) hS (lv_sub hl [3, 2, 1, 0] rfl)
            · skip
              rcases Int.lt_or_ge v16.toInt 14 with g46 | g46
              · skip
                have h47 : v16.toInt = 13 := by omega
                refine lv_tableIn (tgt := 757) (off := 714) hx hb dL_law_43 (by omega) (by omega) (by rw [h47]; rfl) (by decide) ?_
                exact law_case_13 ⟨C0, hK, hN⟩ (hP.sub [0, 22, 44] rfl) (hD.sub [0, 22, 44] (by decide) rfl) hS (lv_sub hl [3, 2, 1, 0] rfl)
              · skip
                have h48 : v16.toInt = 14 := by omega
                refine lv_tableIn (tgt := 790) (off := 747) hx hb dL_law_43 (by omega) (by omega) (by rw [h48]; rfl) (by decide) ?_
                exact law_case_14 ⟨C0, hK, hN⟩ (hP.sub [0, 22, 44] rfl) (hD.sub [0, 22, 44] (by decide) rfl) hS (lv_sub hl [3, 2, 1, 0] rfl)
          · skip
            rcases Int.lt_or_ge v16.toInt 17 with g49 | g49
            · skip
              rcases Int.lt_or_ge v16.toInt 16 with g50 | g50
              · skip
                have h51 : v16.toInt = 15 := by omega
                refine lv_tableIn (tgt := 853) (off := 810) hx hb dL_law_43 (by omega) (by omega) (by rw [h51]; rfl) (by decide) ?_
                exact law_case_15 ⟨C0, hK, hN⟩ (hP.sub [0, 22, 44] rfl) (hD.sub [0, 22, 44] (by decide) rfl) hS (lv_sub hl [3, 2, 1, 0] rfl)
              · skip
                have h52 : v16.toInt = 16 := by omega
                refine lv_tableIn (tgt := 916) (off := 873) hx hb dL_law_43 (by omega) (by omega) (by rw [h52]; rfl) (by decide) ?_
                exact law_case_16 ⟨C0, hK, hN⟩ (hP.sub [0, 29, 30, 44, 63] rfl) (hD.sub [0, 29, 30, 44, 63] (by decide) rfl) hS (lv_sub hl [3, 2, 1, 0] rfl)
            · skip
              rcases Int.lt_or_ge v16.toInt 18 with g53 | g53
              · skip
                have h54 : v16.toInt = 17 := by omega
                refine lv_tableIn (tgt := 979) (off := 936) hx hb dL_law_43 (by omega) (by omega) (by rw [h54]; rfl) (by decide) ?_
                exact law_case_17 ⟨C0, hK, hN⟩ (hP.sub [0, 29, 31, 32, 33, 34, 35, 36, 44, 64, 65] rfl) (hD.sub [0, 29, 31, 32, 33, 34, 35, 36, 44, 64, 65] (by decide) rfl) hS (lv_sub hl [3, 2, 1, 0] rfl)
              · skip
                have h55 : v16.toInt = 18 := by omega
                refine lv_tableIn (tgt := 992) (off := 949) hx hb dL_law_43 (by omega) (by omega) (by rw [h55]; rfl) (by decide) ?_
                exact law_case_18 ⟨C0, hK, hN⟩ (hP.sub [0, 29, 44] rfl) (hD.sub [0, 29, 44] (by decide) rfl) hS (lv_sub hl [3, 2, 1, 0] rfl)
      · skip
        rcases Int.lt_or_ge v16.toInt 29 with g56 | g56
        · skip
          rcases Int.lt_or_ge v16.toInt 24 with g57 | g57
          · skip
            rcases Int.lt_or_ge v16.toInt 22 with g58 | g58
            · skip
              rcases Int.lt_or_ge v16.toInt 21 with g59 | g59
              · skip
                rcases Int.lt_or_ge v16.toInt 20 with g60 | g60
                · skip
                  have h61 : v16.toInt = 19 := by omega
                  refine lv_tableIn (tgt := 1005) (off := 962) hx hb dL_law_43 (by omega) (by omega) (by rw [h61]; rfl) (by decide) ?_
                  exact law_case_19 ⟨C0, hK, hN⟩ (hP.sub [0, 22, 44] rfl) (hD.sub [0, 22, 44] (by decide) rfl) hS (lv_sub hl [3, 2, 1, 0] rfl)
                · skip
                  have h62 : v16.toInt = 20 := by omega
                  refine lv_tableIn (tgt := 1058) (off := 1015) hx hb dL_law_43 (by omega) (by omega) (by rw [h62]; rfl) (by decide) ?_
                  exact law_case_20 ⟨C0, hK, hN⟩ (hP.sub [0, 22, 44] rfl) (hD.sub [0, 22, 44] (by decide) rfl) hS (lv_sub hl [3, 2, 1, 0] rfl)
              · skip
                have h63 : v16.toInt = 21 := by omega
                refine lv_tableIn (tgt := 1091) (off := 1048) hx hb dL_law_43 (by omega) (by omega) (by rw [h63]; rfl) (by decide) ?_
                exact law_case_21 ⟨C0, hK, hN⟩ (hP.sub [0, 22, 25, 26, 44, 61, 62] rfl) (hD.sub [0, 22, 25, 26, 44, 61, 62] (by decide) rfl) hS (lv_sub hl [3, 2, 1, 0] rfl)
            · skip
              rcases Int.lt_or_ge v16.toInt 23 with g64 | g64
              · skip
                have h65 : v16.toInt = 22 := by omega
                refine lv_tableIn (tgt := 1134) (off := 1091) hx hb dL_law_43 (by omega) (by omega) (by rw [h65]; rfl) (by decide) ?_
                exact law_case_22 ⟨C0, hK, hN⟩ (hP.sub [0, 22, 44] rfl) (hD.sub [0, 22, 44] (by decide) rfl) hS (lv_sub hl [3, 2, 1, 0] rfl)
              · skip
                have h66 : v16.toInt = 23 := by omega
                refine lv_tableIn (tgt := 1167) (off := 1124) hx hb dL_law_43 (by omega) (by omega) (by rw [h66]; rfl) (by decide) ?_
                exact law_case_23 ⟨C0, hK, hN⟩ (hP.sub [0, 22, 44] rfl) (hD.sub [0, 22, 44] (by decide) rfl) hS (lv_sub hl [3, 2, 1, 0] rfl)
          · skip
            rcases Int.lt_or_ge v16.toInt 27 with g67 | g67
            · skip
              rcases Int.lt_or_ge v16.toInt 26 with g68 | g68
              · skip
                rcases Int.lt_or_ge v16.toInt 25 with g69 | g69
                · skip
                  have h70 : v16.toInt = 24 := by omega
                  refine lv_tableIn (tgt := 1200) (off := 1157) hx hb dL_law_43 (by omega) (by omega) (by rw [h70]; rfl) (by decide) ?_
                  exact law_case_24 ⟨C0, hK, hN⟩ (hP.sub [0, 38, 44] rfl) (hD.sub [0, 38, 44] (by decide) rfl) hS (lv_sub hl [3, 2, 1, 0] rfl)
                · skip
                  have h71 : v16.toInt = 25 := by omega
                  refine lv_tableIn (tgt := 1243) (off := 1200) hx hb dL_law_43 (by omega) (by omega) (by rw [h71]; rfl) (by decide) ?_
                  exact law_case_25 ⟨C0, hK, hN⟩ (hP.sub [0, 22, 38, 44] rfl) (hD.sub [0, 22, 38, 44] (by decide) rfl) hS (lv_sub hl [3, 2, 1, 0] rfl)
              · skip
                have h72 : v16.toInt = 26 := by omega
                refine lv_tableIn (tgt := 1276) (off := 1233) hx hb dL_law_43 (by omega) (by omega) (by rw [h72]; rfl) (by decide) ?_
                exact law_case_26 ⟨C0, hK, hN⟩ (hP.sub [0, 22, 44] rfl) (hD.sub [0, 22, 44] (by decide) rfl) hS (lv_sub hl [3, 2, 1, 0] rfl)
            · skip
              rcases Int.lt_or_ge v16.toInt 28 with g73 | g73
              · skip
                have h74 : v16.toInt = 27 := by omega
                refine lv_tableIn (tgt := 1329) (off := 1286) hx hb dL_law_43 (by omega) (by omega) (by rw [h74]; rfl) (by decide) ?_
                exact law_case_27 ⟨C0, hK, hN⟩ (hP.sub [0, 22, 44] rfl) (hD.sub [0, 22, 44] (by decide) rfl) hS (lv_sub hl [3, 2, 1, 0] rfl)
              · skip
                have h75 : v16.toInt = 28 := by omega
                refine lv_tableIn (tgt := 1382) (off := 1339) hx hb dL_law_43 (by omega) (by omega) (by rw [h75]; rfl) (by decide) ?_
                exact law_case_28 ⟨C0, hK, hN⟩ (hP.sub [0, 22, 44] rfl) (hD.sub [0, 22, 44] (by decide) rfl) hS (lv_sub hl [3, 2, 1, 0] rfl)
        · skip
          rcases Int.lt_or_ge v16.toInt 34 with g76 | g76
          · skip
            rcases Int.lt_or_ge v16.toInt 32 with g77 | g77
            · skip
              rcases Int.lt_or_ge v16.toInt 31 with g78 | g78
              · skip
                rcases Int.lt_or_ge v16.toInt 30 with g79 | g79
                · skip
                  have h80 : v16.toInt = 29 := by omega
                  refine lv_tableIn (tgt := 1405) (off := 1362) hx hb dL_law_43 (by omega) (by omega) (by rw [h80]; rfl) (by decide) ?_
                  exact law_case_29 ⟨C0, hK, hN⟩ (hP.sub [0, 40, 41, 42, 43, 44, 58, 59, 60] rfl) (hD.sub [0, 40, 41, 42, 43, 44, 58, 59, 60] (by decide) rfl) hS (lv_sub hl [3, 2, 1, 0] rfl)
                · skip
                  have h81 : v16.toInt = 30 := by omega
                  refine lv_tableIn (tgt := 1448) (off := 1405) hx hb dL_law_43 (by omega) (by omega) (by rw [h81]; rfl) (by decide) ?_
                  exact law_case_30 ⟨C0, hK, hN⟩ (hP.sub [0, 22, 44] rfl) (hD.sub [0, 22, 44] (by decide) rfl) hS (lv_sub hl [3, 2, 1, 0] rfl)
              · skip
                have h82 : v16.toInt = 31 := by omega
                refine lv_tableIn (tgt := 1481) (off := 1438) hx hb dL_law_43 (by omega) (by omega) (by rw [h82]; rfl) (by decide) ?_
                exact law_case_31 ⟨C0, hK, hN⟩ (hP.sub [0, 44] rfl) (hD.sub [0, 44] (by decide) rfl) hS (lv_sub hl [3, 2, 1, 0] rfl)
            · skip
              rcases Int.lt_or_ge v16.toInt 33 with g83 | g83
              · skip
                have h84 : v16.toInt = 32 := by omega
                refine lv_tableIn (tgt := 1504) (off := 1461) hx hb dL_law_43 (by omega) (by omega) (by rw [h84]; rfl) (by decide) ?_
                exact law_case_32 ⟨C0, hK, hN⟩ (hP.sub [0, 22, 44] rfl) (hD.sub [0, 22, 44] (by decide) rfl) hS (lv_sub hl [3, 2, 1, 0] rfl)
              · skip
                have h85 : v16.toInt = 33 := by omega
                refine lv_tableIn (tgt := 1527) (off := 1484) hx hb dL_law_43 (by omega) (by omega) (by rw [h85]; rfl) (by decide) ?_
                exact law_case_33 ⟨C0, hK, hN⟩ (hP.sub [0, 22, 44] rfl) (hD.sub [0, 22, 44] (by decide) rfl) hS (lv_sub hl [3, 2, 1, 0] rfl)
          · skip
            rcases Int.lt_or_ge v16.toInt 36 with g86 | g86
            · skip
              rcases Int.lt_or_ge v16.toInt 35 with g87 | g87
              · skip
                have h88 : v16.toInt = 34 := by omega
                refine lv_tableIn (tgt := 1560) (off := 1517) hx hb dL_law_43 (by omega) (by omega) (by rw [h88]; rfl) (by decide) ?_
                exact law_case_34 ⟨C0, hK, hN⟩ (hP.sub [0, 22, 44] rfl) (hD.sub [0, 22, 44] (by decide) rfl) hS (lv_sub hl [3, 2, 1, 0] rfl)
              · skip
                have h89 : v16.toInt = 35 := by omega
                refine lv_tableIn (tgt := 1593) (off := 1550) hx hb dL_law_43 (by omega) (by omega) (by rw [h89]; rfl) (by decide) ?_
                exact law_case_35 ⟨C0, hK, hN⟩ (hP.sub [0, 44] rfl) (hD.sub [0, 44] (by decide) rfl) hS (lv_sub hl [3, 2, 1, 0] rfl)
            · skip
              rcases Int.lt_or_ge v16.toInt 37 with g90 | g90
              · skip
                have h91 : v16.toInt = 36 := by omega
                refine lv_tableIn (tgt := 1616) (off := 1573) hx hb dL_law_43 (by omega) (by omega) (by rw [h91]; rfl) (by decide) ?_
                exact law_case_36 ⟨C0, hK, hN⟩ (hP.sub [0, 1, 12, 13, 22, 27, 28, 29, 37, 39, 40, 44, 45] rfl) (hD.sub [0, 1, 12, 13, 22, 27, 28, 29, 37, 39, 40, 44, 45] (by decide) rfl) hS (lv_sub hl [3, 2, 1, 0] rfl)
              · skip
                have h92 : v16.toInt = 37 := by omega
                refine lv_tableIn (tgt := 1639) (off := 1596) hx hb dL_law_43 (by omega) (by omega) (by rw [h92]; rfl) (by decide) ?_
                exact law_case_37 ⟨C0, hK, hN⟩ (hP.sub [0, 44] rfl) (hD.sub [0, 44] (by decide) rfl) hS (lv_sub hl [3, 2, 1, 0] rfl)
