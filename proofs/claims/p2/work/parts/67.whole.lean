theorem inlX0 : ∀ w ∈ wsX00, w ∈ wsL_law := fun _ h => List.mem_append_left _ (List.mem_append_left _ (List.mem_append_left _ (List.mem_append_left _ (List.mem_append_right _ h))))
theorem inX0 : ∀ w ∈ wsX00, w ∈ lw_tbl := fun w h => wsL_law_in w (inlX0 w h)
theorem inlX1 : ∀ w ∈ wsX10, w ∈ wsL_law := fun _ h => List.mem_append_left _ (List.mem_append_left _ (List.mem_append_left _ (List.mem_append_left _ (List.mem_append_left _ (List.mem_append_left _ (List.mem_append_left _ (List.mem_append_left _ (List.mem_append_right _ h))))))))
theorem inX1 : ∀ w ∈ wsX10, w ∈ lw_tbl := fun w h => wsL_law_in w (inlX1 w h)
theorem inlX2 : ∀ w ∈ wsX20, w ∈ wsL_law := fun _ h => List.mem_append_left _ (List.mem_append_left _ (List.mem_append_left _ (List.mem_append_left _ (List.mem_append_left _ (List.mem_append_right _ h)))))
theorem inX2 : ∀ w ∈ wsX20, w ∈ lw_tbl := fun w h => wsL_law_in w (inlX2 w h)
theorem inlX3 : ∀ w ∈ wsX30, w ∈ wsL_law := fun _ h => List.mem_append_left _ (List.mem_append_left _ (List.mem_append_left _ (List.mem_append_left _ (List.mem_append_left _ (List.mem_append_left _ (List.mem_append_left _ (List.mem_append_left _ (List.mem_append_left _ (List.mem_append_right _ h)))))))))
theorem inX3 : ∀ w ∈ wsX30, w ∈ lw_tbl := fun w h => wsL_law_in w (inlX3 w h)
theorem inlX4 : ∀ w ∈ wsX40, w ∈ wsL_law := fun _ h => List.mem_append_left _ (List.mem_append_left _ (List.mem_append_right _ h))
theorem inX4 : ∀ w ∈ wsX40, w ∈ lw_tbl := fun w h => wsL_law_in w (inlX4 w h)
theorem inlX5 : ∀ w ∈ wsX50, w ∈ wsL_law := fun _ h => List.mem_append_left _ (List.mem_append_right _ h)
theorem inX5 : ∀ w ∈ wsX50, w ∈ lw_tbl := fun w h => wsL_law_in w (inlX5 w h)
theorem inlX6 : ∀ w ∈ wsX60, w ∈ wsL_law := fun _ h => List.mem_append_left _ (List.mem_append_left _ (List.mem_append_left _ (List.mem_append_right _ h)))
theorem inX6 : ∀ w ∈ wsX60, w ∈ lw_tbl := fun w h => wsL_law_in w (inlX6 w h)
theorem inlX7 : ∀ w ∈ wsX70, w ∈ wsL_law := fun _ h => List.mem_append_left _ (List.mem_append_left _ (List.mem_append_left _ (List.mem_append_left _ (List.mem_append_left _ (List.mem_append_left _ (List.mem_append_left _ (List.mem_append_right _ h)))))))
theorem inX7 : ∀ w ∈ wsX70, w ∈ lw_tbl := fun w h => wsL_law_in w (inlX7 w h)
theorem inlX8 : ∀ w ∈ wsX80, w ∈ wsL_law := fun _ h => List.mem_append_left _ (List.mem_append_left _ (List.mem_append_left _ (List.mem_append_left _ (List.mem_append_left _ (List.mem_append_left _ (List.mem_append_right _ h))))))
theorem inX8 : ∀ w ∈ wsX80, w ∈ lw_tbl := fun w h => wsL_law_in w (inlX8 w h)
theorem inlX9 : ∀ w ∈ wsX90, w ∈ wsL_law := fun _ h => List.mem_append_left _ (List.mem_append_left _ (List.mem_append_left _ (List.mem_append_left _ (List.mem_append_left _ (List.mem_append_left _ (List.mem_append_left _ (List.mem_append_left _ (List.mem_append_left _ (List.mem_append_left _ (List.mem_append_right _ h))))))))))
theorem inX9 : ∀ w ∈ wsX90, w ∈ lw_tbl := fun w h => wsL_law_in w (inlX9 w h)
theorem inlX10 : ∀ w ∈ wsX100, w ∈ wsL_law := fun _ h => List.mem_append_left _ (List.mem_append_left _ (List.mem_append_left _ (List.mem_append_left _ (List.mem_append_left _ (List.mem_append_left _ (List.mem_append_left _ (List.mem_append_left _ (List.mem_append_left _ (List.mem_append_left _ (List.mem_append_left _ (List.mem_append_left _ (List.mem_append_right _ h))))))))))))
theorem inX10 : ∀ w ∈ wsX100, w ∈ lw_tbl := fun w h => wsL_law_in w (inlX10 w h)
theorem inX11 : ∀ w ∈ wsX110, w ∈ lw_tbl := fun w h => wsL_law_in w (inlX11 w h)
set_option maxRecDepth 20000 in
theorem ggL_law_X10_init : GoodIn wsL_law wsX10_init := goodIn_r _ [13, 14, 15, 16, 17, 18, 19, 20, 21, 22, 23, 24, 25, 26, 27, 28, 29, 30, 31, 32, 33, 34, 35, 36, 37, 38, 39, 40, 41, 42, 43, 44, 45, 46, 47, 48, 49, 50, 51, 52, 53, 54, 55, 56, 57, 58, 59, 60, 61, 62, 63, 64, 65, 66, 67, 68, 69, 70, 71, 72, 73, 74, 75, 76, 77, 78, 79, 80, 81, 82, 83, 84, 85, 86, 87, 88, 89, 90, 91, 92, 93, 94, 95, 96, 97, 98, 99, 100, 101, 102, 103, 104, 105, 106, 107, 108, 109, 110, 111, 112, 113, 114, 115, 116, 117, 118, 119, 120, 121, 122, 123, 124, 125, 126, 127, 128, 129, 130, 131, 132, 133, 134, 135, 136, 137, 138, 139, 140, 141, 142, 143, 144, 145, 146, 147, 148, 1220, 1221, 1222, 1142, 1143, 1144, 1145, 1146, 1147, 1148, 1149, 1150, 1151, 1152, 1153, 1154, 1155, 1223, 1224, 1225, 1226, 1227, 1228, 1229, 1230, 1231, 1232, 1233, 1234, 1235, 1236, 1237, 1238, 1239, 1240, 1241, 1242, 1243, 1244, 1245, 1246, 1247, 1248, 1249, 1250, 1251, 1252, 1253, 1254, 1255, 1256, 1257, 1258, 1259, 1260, 1261, 1262, 1263, 1264, 1265, 1266, 1267, 1268, 1269, 1270, 1271, 1272, 1273, 1274, 1275, 1276, 1277, 1278, 1279, 1280, 1281] (by decide +kernel) (by decide +kernel)
set_option maxRecDepth 20000 in
theorem gL_law_X10_init : GoodIn wsL_law (wsX10_init) := ggL_law_X10_init
theorem dL_law_0 : decode cL_law 0 = .ok (.new 7, 3) := by decide +kernel
theorem dL_law_3 : decode cL_law 3 = .ok (.dup, 1) := by decide +kernel
theorem dL_law_4 : decode cL_law 4 = .ok (.aload_n 0, 1) := by decide +kernel
theorem dL_law_5 : decode cL_law 5 = .ok (.iconst 0, 1) := by decide +kernel
theorem dL_law_6 : decode cL_law 6 = .ok (.invokestatic 9, 3) := by decide +kernel
theorem dL_law_9 : decode cL_law 9 = .ok (.invokespecial 15, 3) := by decide +kernel
set_option maxHeartbeats 4000000 in
set_option maxRecDepth 100000 in
theorem whole_start {p : Program} {e : Env} {s : State} {m : MethodId} {below : List Frame} {meth : Method} {c : Code} (l : Launch) {b L : Nat} {xs : Nat → Int32} (hL : L ≤ 3073) (C0 : lw_At p s m meth c b L xs) : W p l e room_1 s m #[Value.ref b] below meth c s.heap [] 0 0 (lw_Z below #[Value.ref b] s) (entryFrame m ([Value.ref b] : List Value).toArray 4) := by
  obtain ⟨hx, hb, hr, hml, hown, hts0, hX, hbl, hlocks, hgv⟩ := id C0
  have hA : ∀ q : Nat, s.heap.size ≤ q → (fun q : Nat => s.heap.size ≤ q) q := fun _ h => h
  have hbA : ¬ (fun q : Nat => s.heap.size ≤ q) b := Nat.not_le.mpr hbl
  obtain ⟨c0, iS0, hKn0⟩ := u_known (C := RX0) (T := TX0) (N := 5) (n := 5) hts0 inX0 (hts0 (.instantiable RX0 5) (by decide +kernel))
  obtain ⟨c1, iS1, hKn1⟩ := u_known (C := RX1) (T := TX1) (N := 6) (n := 6) hts0 inX1 (hts0 (.instantiable RX1 6) (by decide +kernel))
  obtain ⟨c2, iS2, hKn2⟩ := u_known (C := RX2) (T := TX2) (N := 15) (n := 15) hts0 inX2 (hts0 (.instantiable RX2 15) (by decide +kernel))
  obtain ⟨c3, iS3, hKn3⟩ := u_known (C := RX3) (T := TX3) (N := 9) (n := 9) hts0 inX3 (hts0 (.instantiable RX3 9) (by decide +kernel))
  obtain ⟨c4, iS4, hKn4⟩ := u_known (C := RX4) (T := TX4) (N := 4) (n := 4) hts0 inX4 (hts0 (.instantiable RX4 4) (by decide +kernel))
  obtain ⟨c5, iS5, hKn5⟩ := u_known (C := RX5) (T := TX5) (N := 2) (n := 2) hts0 inX5 (hts0 (.instantiable RX5 2) (by decide +kernel))
  obtain ⟨c6, iS6, hKn6⟩ := u_known (C := RX6) (T := TX6) (N := 5) (n := 5) hts0 inX6 (hts0 (.instantiable RX6 5) (by decide +kernel))
  obtain ⟨c7, iS7, hKn7⟩ := u_known (C := RX7) (T := TX7) (N := 7) (n := 7) hts0 inX7 (hts0 (.instantiable RX7 7) (by decide +kernel))
  obtain ⟨c8, iS8, hKn8⟩ := u_known (C := RX8) (T := TX8) (N := 6) (n := 6) hts0 inX8 (hts0 (.instantiable RX8 6) (by decide +kernel))
  obtain ⟨c9, iS9, hKn9⟩ := u_known (C := RX9) (T := TX9) (N := 3) (n := 3) hts0 inX9 (hts0 (.instantiable RX9 3) (by decide +kernel))
  obtain ⟨c10, iS10, hKn10⟩ := u_known (C := RX10) (T := TX10) (N := 14) (n := 14) hts0 inX10 (hts0 (.instantiable RX10 14) (by decide +kernel))
  obtain ⟨c11, iS11, hKn11⟩ := u_known (C := RX11) (T := TX11) (N := 64) (n := 64) hts0 inX11 (hts0 (.instantiable RX11 64) (by decide +kernel))
  obtain ⟨dC, dI, hKc⟩ : ∃ (dC : Nat → ClassId) (dI : Nat → Nat → Nat), ∀ (k : Nat) (q : vw_C), vwCl[k]? = some q → u_Kn s q.1 q.2.1 q.2.2 (dC k) (dI k) := by
    refine ⟨fun k => if k = 0 then c0 else if k = 1 then c1 else if k = 2 then c2 else if k = 3 then c3 else if k = 4 then c4 else if k = 5 then c5 else if k = 6 then c6 else if k = 7 then c7 else if k = 8 then c8 else if k = 9 then c9 else if k = 10 then c10 else c11, fun k => if k = 0 then iS0 else if k = 1 then iS1 else if k = 2 then iS2 else if k = 3 then iS3 else if k = 4 then iS4 else if k = 5 then iS5 else if k = 6 then iS6 else if k = 7 then iS7 else if k = 8 then iS8 else if k = 9 then iS9 else if k = 10 then iS10 else iS11, ?_⟩
    intro k q hq
    match k, hq with
    | 0, hq => cases hq; exact hKn0
    | 1, hq => cases hq; exact hKn1
    | 2, hq => cases hq; exact hKn2
    | 3, hq => cases hq; exact hKn3
    | 4, hq => cases hq; exact hKn4
    | 5, hq => cases hq; exact hKn5
    | 6, hq => cases hq; exact hKn6
    | 7, hq => cases hq; exact hKn7
    | 8, hq => cases hq; exact hKn8
    | 9, hq => cases hq; exact hKn9
    | 10, hq => cases hq; exact hKn10
    | 11, hq => cases hq; exact hKn11
    | k + 12, hq => simp [vwCl] at hq
  obtain ⟨cI, aI⟩ := arr_i (hts0 (.arrayClass .int) (by decide +kernel))
  obtain ⟨cY, aY⟩ := arr_y (hts0 (.arrayClass .byte) (by decide +kernel))
  obtain ⟨cJ, aJ⟩ := arr_j (hts0 (.arrayClass .long) (by decide +kernel))
  obtain ⟨cQ, aQ⟩ := arr_q (hts0 (.arrayOver (.array .int)) (by decide +kernel))
  obtain ⟨D, hK⟩ : ∃ D : va_G, va_K D vwCl (ty4 cI cY cJ cQ) s := by
    refine ⟨(dC, dI), hKc, ?_⟩
    intro k q h
    match k, h with
    | 0, h => cases h; exact aI
    | 1, h => cases h; exact aY
    | 2, h => cases h; exact aJ
    | 3, h => cases h; exact aQ
    | k + 4, h => simp at h
  have hN : nw s := by
    refine ⟨?_, hts0 (.arrayOver (.array .int)) (by decide +kernel)⟩
    refine List.forall_mem_cons.mpr ⟨?_, List.forall_mem_cons.mpr ⟨?_, List.forall_mem_cons.mpr ⟨?_, List.forall_mem_cons.mpr ⟨?_, List.forall_mem_cons.mpr ⟨?_, List.forall_mem_cons.mpr ⟨?_, List.forall_mem_cons.mpr ⟨?_, List.forall_mem_cons.mpr ⟨?_, List.forall_mem_cons.mpr ⟨?_, List.forall_mem_cons.mpr ⟨?_, fun _ h => absurd h List.not_mem_nil⟩⟩⟩⟩⟩⟩⟩⟩⟩⟩
    · exact va_Nw.of rfl (hts0 (.methodLinkNest RX10 18 yX3_init "PortRooms") (by decide +kernel))
    · exact va_Nw.of rfl (hts0 (.methodLinkNest RX10 32 yX7_init "PortRooms") (by decide +kernel))
    · exact va_Nw.of rfl (hts0 (.methodLinkNest RX10 39 yX8_init "PortRooms") (by decide +kernel))
    · exact va_Nw.of rfl (hts0 (.methodLinkNest RX10 46 yX2_init "PortRooms") (by decide +kernel))
    · exact va_Nw.of rfl (hts0 (.methodLinkNest RX10 53 yX0_init "PortRooms") (by decide +kernel))
    · exact va_Nw.of rfl (hts0 (.methodLinkNest RX10 60 yX6_init "PortRooms") (by decide +kernel))
    · exact va_Nw.of rfl (hts0 (.methodLinkNest RX10 67 yX4_init "PortRooms") (by decide +kernel))
    · exact va_Nw.of rfl (hts0 (.methodLinkNest RX1 43 yX10_hasBit "PortRooms") (by decide +kernel))
    · exact va_Nw.of rfl (hts0 (.methodLinkNest RX3 62 yX10_hasBit "PortRooms") (by decide +kernel))
    · exact va_Nw.of rfl (hts0 (.methodLinkNest RX5 29 yX10_hasBit "PortRooms") (by decide +kernel))
  have hts : ∀ w ∈ wsL_law, w.before #[Value.ref b] s = true := fun w h => hts0 w (wsL_law_in w h)
  replace hown : s.vm.findClass RL = some m.cls := hown
  replace hb : c.code = cL_law := hb
  obtain ⟨aK, aV, hT⟩ := str_0 (A := (fun q : Nat => s.heap.size ≤ q)) hgv hts0 (fun a ha => Nat.not_le.mpr ha)
  have C0k : lawC p s m meth c b L xs D cI cY cJ cQ aK aV := ⟨C0, hK, hN, hT, hL⟩
  have hS : va_S (fun q : Nat => s.heap.size ≤ q) s.heap s.heap [] := va_S.rf
  have hP : va_P D vwCl [] s.heap := va_P.nil
  have hD : va_D (fun q : Nat => s.heap.size ≤ q) [] := va_D.nil
  obtain ⟨sd, esd⟩ : ∃ y : Int32, y = cellv L xs := ⟨_, rfl⟩
  have hl := lv_entry ([.ref b]) (n := 4) (Nat.le_of_ble_eq_true rfl)
  rw [lg_entry_eq]
  generalize (lg_sl ([.ref b]) ++ List.replicate (4 - (lg_sl ([.ref b])).length) Slot.unset).toArray = ls at hl ⊢
  have hl : lv_has ls 4 [(0, .ref b)] := hl
  refine va_new (ci := 10) (fs := [.null, .null, .null, .null, .null, .null, .null, .null, .null, .null, .null, .int 0, .int 0, .int 0]) (C := RX10) (T := TX10) (N := 14) hx hb hts inlX10 tyX10 tyX10_ok hown (hts (.classLink RL 7 RX10) (by decide +kernel)) (hts (.instantiable RX10 14) (by decide +kernel)) (hts (.initialized RX10) (by decide +kernel)) hK hP hD hS hA rfl (fun j hj => by rcases (show j = 0 ∨ j = 1 ∨ j = 2 ∨ j = 3 ∨ j = 4 ∨ j = 5 ∨ j = 6 ∨ j = 7 ∨ j = 8 ∨ j = 9 ∨ j = 10 ∨ j = 11 ∨ j = 12 ∨ j = 13 by omega) with rfl | rfl | rfl | rfl | rfl | rfl | rfl | rfl | rfl | rfl | rfl | rfl | rfl | rfl <;> rfl) (Nat.le_of_ble_eq_true rfl) (Nat.le_of_ble_eq_true rfl) dL_law_0 (fun q1 H hP hD hS => ?_)
  replace hP : va_P D vwCl [(q1, .inr (10, [.null, .null, .null, .null, .null, .null, .null, .null, .null, .null, .null, .int 0, .int 0, .int 0]))] H := hP
  replace hD : va_D (fun q : Nat => s.heap.size ≤ q) [(q1, .inr (10, [.null, .null, .null, .null, .null, .null, .null, .null, .null, .null, .null, .int 0, .int 0, .int 0]))] := hD
  refine W.widen (k := 1) (n := 14) (by omega) (by omega) ?_
  refine lv_dup hx hb dL_law_3 rfl ?_
  refine lv_aload_n hx hb dL_law_4 rfl (lv_at hl 0 rfl) ?_
  refine lv_iconst (v := 0) hx hb dL_law_5 (by decide) ?_
  refine st_i (wr := [(q1, .inr (10, [.null, .null, .null, .null, .null, .null, .null, .null, .null, .null, .null, .int 0, .int 0, .int 0]))]) (va_runS (As := [.ref b, .int 0]) (rest := [.ref q1, .ref q1]) ⟨hx, hb, hml, hown, hts⟩ (ct_L_cell l D cI cY cJ cQ _ b L hL xs) (va_cwS 2 hts gL_law_L_cell rfl rfl rfl (by decide +kernel) ⟨Nat.le_of_ble_eq_true rfl, Nat.le_of_ble_eq_true rfl⟩) ⟨cellBlind, fun U hU hW => ⟨rfl, by rw [hU], va_X.moved hW.alike (by rw [hU]; exact hX.kept (hS.2.1 b hbl hbA)), by rw [hU]; exact Nat.lt_of_lt_of_le hbl hS.1, va_K.moved hW.alike hK⟩⟩ rfl rfl hl.1 rfl (lv_room (Nat.le_of_ble_eq_true rfl)) dL_law_6 ⟨Nat.le_of_ble_eq_true rfl, Nat.le_of_ble_eq_true rfl⟩) hP hD hS hA [] [0] rfl rfl (by decide) (by decide) (fun r2 u3 H locs hw4 hP hD hS => ?_)
  replace hw4 : sd = r2 := (hw4.trans esd.symm).symm
  subst hw4
  replace hP : va_P D vwCl [(q1, .inr (10, [.null, .null, .null, .null, .null, .null, .null, .null, .null, .null, .null, .int 0, .int 0, .int 0]))] H := hP
  replace hD : va_D (fun q : Nat => s.heap.size ≤ q) [(q1, .inr (10, [.null, .null, .null, .null, .null, .null, .null, .null, .null, .null, .null, .int 0, .int 0, .int 0]))] := hD
  refine st_v (wr := []) (va_runI (As := [.int sd]) (rest := [.ref q1]) ⟨hx, hb, hml, hown, hts⟩ (ct_X10_init l D cI cY cJ cQ _ q1 sd) (cwI 1 hts gL_law_X10_init rfl rfl rfl (hts (.initialized RX10) (by decide +kernel)) (hts (.methodLink RL 15 yX10_init) (by decide +kernel)) (hts (.instanceMethod yX10_init) (by decide +kernel)) rfl (by decide +kernel) ⟨Nat.le_of_ble_eq_true rfl, Nat.le_of_ble_eq_true rfl⟩) (cPreS (hP.sub [0] rfl) hK (hD.sub [0] (by decide) rfl) hN) rfl rfl hl.1 rfl (lv_room (Nat.le_of_ble_eq_true rfl)) dL_law_9 ⟨Nat.le_of_ble_eq_true rfl, Nat.le_of_ble_eq_true rfl⟩) hP hD hS hA [0] [] rfl rfl (by decide) (by decide) (fun u5 H locs hw6 hP hD hS => ?_)
  obtain ⟨ad, rw⟩ := u5
  replace hw6 : ad 0 = q1 := hw6
  have hPn := hP
  have hDn := hD
  subst hw6
  have hP := hPn
  have hD := hDn
  replace hP : va_P D vwCl [((ad 0), .inr (10, [.ref (ad 1), .ref (ad 2), .ref (ad 3), .ref (ad 4), .ref (ad 5), .ref (ad 6), .ref (ad 7), .ref (ad 8), .ref (ad 9), .ref (ad 10), .ref (ad 11), .int 0, .int 0, .int 0])), ((ad 11), .inl (cI, 16, .inl (fun _ => 0))), ((rw 0), .inl (cI, 60, .inl (fun _ => 0))), ((rw 1), .inl (cI, 60, .inl (fun _ => 0))), ((rw 2), .inl (cI, 60, .inl (fun _ => 0))), ((rw 3), .inl (cI, 60, .inl (fun _ => 0))), ((rw 4), .inl (cI, 60, .inl (fun _ => 0))), ((rw 5), .inl (cI, 60, .inl (fun _ => 0))), ((rw 6), .inl (cI, 60, .inl (fun _ => 0))), ((rw 7), .inl (cI, 60, .inl (fun _ => 0))), ((ad 1), .inr (9, [.ref (ad 12), .ref (ad 13), .ref (ad 14)])), ((ad 12), .inl (cQ, 8, .inr (.inr (.inr (.inr (fun i => if i < 8 then some (rw i) else none)))))), ((ad 13), .inl (cI, 8, .inl (fun _ => 0))), ((ad 14), .inl (cI, 8, .inl (fun _ => (-1)))), ((ad 2), .inr (3, [.ref (ad 23), .ref (ad 24), .ref (ad 25), .ref (ad 26), .int 0, .ref (ad 27), .ref (ad 28), .ref (ad 29), .ref (ad 30)])), ((ad 23), .inl (cI, 40, .inl (fun _ => 0))), ((ad 24), .inl (cI, 40, .inl (fun _ => 0))), ((ad 25), .inl (cI, 40, .inl (fun _ => 0))), ((ad 26), .inl (cI, 40, .inl (fun _ => 0))), ((ad 27), .inl (cI, 200, .inl (fun _ => 0))), ((ad 28), .inl (cI, 200, .inl (fun _ => 0))), ((ad 29), .inl (cI, 20, .inl (fun _ => 0))), ((ad 30), .inl (cI, 10, .inl (fun _ => 0))), ((ad 3), .inr (1, [.ref (ad 31), .ref (ad 32), .ref (ad 33), .int 0, .ref (ad 34), .ref (ad 35)])), ((ad 31), .inl (cI, 12, .inl (fun _ => 0))), ((ad 32), .inl (cI, 12, .inl (fun _ => 0))), ((ad 33), .inl (cI, 12, .inl (fun _ => (-1000000)))), ((ad 34), .inl (cI, 6, .inl (fun _ => 4))), ((ad 35), .inl (cI, 6, .inl (fun _ => 100000))), ((ad 4), .inr (7, [.ref (ad 36), .ref (ad 37), .ref (ad 38), .ref (ad 39), .ref (ad 40), .ref (ad 41), .int 0])), ((ad 36), .inl (cI, 40, .inl (fun _ => 0))), ((ad 37), .inl (cI, 40, .inl (fun _ => 0))), ((ad 38), .inl (cI, 40, .inl (fun _ => 0))), ((ad 39), .inl (cI, 40, .inl (fun _ => 0))), ((ad 40), .inl (cI, 40, .inl (fun _ => 0))), ((ad 41), .inl (cI, 40, .inl (fun _ => 0))), ((ad 5), .inr (8, [.ref (ad 42), .ref (ad 43), .ref (ad 44), .ref (ad 45), .int 0, .ref (ad 46)])), ((ad 42), .inl (cI, 40, .inl (fun _ => 0))), ((ad 43), .inl (cI, 40, .inl (fun _ => 0))), ((ad 44), .inl (cI, 40, .inl (fun _ => 0))), ((ad 45), .inl (cI, 40, .inl (fun _ => 0))), ((ad 46), .inl (cI, 40, .inl (fun _ => 0))), ((ad 6), .inr (2, [.ref (ad 47), .int 0, .int 0, .ref (ad 48), .ref (ad 49), .ref (ad 50), .int 0, .ref (ad 51), .ref (ad 52), .ref (ad 53), .int 0, .int 0, .int 0, .int 0, .int 0])), ((ad 47), .inl (cY, 300, .inl (fun _ => 0))), ((ad 48), .inl (cI, 12, .inl (fun _ => 0))), ((ad 49), .inl (cI, 12, .inl (fun _ => 0))), ((ad 50), .inl (cI, 12, .inl (fun _ => 0))), ((ad 51), .inl (cI, 12, .inl (fun _ => 0))), ((ad 52), .inl (cI, 12, .inl (fun _ => 0))), ((ad 53), .inl (cI, 12, .inl (fun _ => 0))), ((ad 7), .inr (0, [.ref (ad 54), .ref (ad 55), .ref (ad 56), .ref (ad 57), .int 0])), ((ad 54), .inl (cI, 60, .inl (fun _ => 0))), ((ad 55), .inl (cI, 60, .inl (fun _ => 0))), ((ad 56), .inl (cI, 60, .inl (fun _ => 0))), ((ad 57), .inl (cI, 60, .inl (fun _ => 0))), ((ad 8), .inr (5, [.int sd, .ref (ad 58)])), ((ad 58), .inl (cJ, 12, .inr (.inl (fun _ => 0)))), ((ad 9), .inr (6, [.ref (ad 59), .ref (ad 60), .ref (ad 61), .ref (ad 62), .int 0])), ((ad 59), .inl (cI, 60, .inl (fun _ => 0))), ((ad 60), .inl (cI, 60, .inl (fun _ => 0))), ((ad 61), .inl (cI, 60, .inl (fun _ => 0))), ((ad 62), .inl (cI, 60, .inl (fun _ => 0))), ((ad 10), .inr (4, [.ref (ad 63), .ref (ad 64), .ref (ad 65), .int 0])), ((ad 63), .inl (cI, 20, .inl (fun _ => 0))), ((ad 64), .inl (cI, 20, .inl (fun _ => 0))), ((ad 65), .inl (cI, 20, .inl (fun _ => 0)))] H := hP
  replace hD : va_D (fun q : Nat => s.heap.size ≤ q) [((ad 0), .inr (10, [.ref (ad 1), .ref (ad 2), .ref (ad 3), .ref (ad 4), .ref (ad 5), .ref (ad 6), .ref (ad 7), .ref (ad 8), .ref (ad 9), .ref (ad 10), .ref (ad 11), .int 0, .int 0, .int 0])), ((ad 11), .inl (cI, 16, .inl (fun _ => 0))), ((rw 0), .inl (cI, 60, .inl (fun _ => 0))), ((rw 1), .inl (cI, 60, .inl (fun _ => 0))), ((rw 2), .inl (cI, 60, .inl (fun _ => 0))), ((rw 3), .inl (cI, 60, .inl (fun _ => 0))), ((rw 4), .inl (cI, 60, .inl (fun _ => 0))), ((rw 5), .inl (cI, 60, .inl (fun _ => 0))), ((rw 6), .inl (cI, 60, .inl (fun _ => 0))), ((rw 7), .inl (cI, 60, .inl (fun _ => 0))), ((ad 1), .inr (9, [.ref (ad 12), .ref (ad 13), .ref (ad 14)])), ((ad 12), .inl (cQ, 8, .inr (.inr (.inr (.inr (fun i => if i < 8 then some (rw i) else none)))))), ((ad 13), .inl (cI, 8, .inl (fun _ => 0))), ((ad 14), .inl (cI, 8, .inl (fun _ => (-1)))), ((ad 2), .inr (3, [.ref (ad 23), .ref (ad 24), .ref (ad 25), .ref (ad 26), .int 0, .ref (ad 27), .ref (ad 28), .ref (ad 29), .ref (ad 30)])), ((ad 23), .inl (cI, 40, .inl (fun _ => 0))), ((ad 24), .inl (cI, 40, .inl (fun _ => 0))), ((ad 25), .inl (cI, 40, .inl (fun _ => 0))), ((ad 26), .inl (cI, 40, .inl (fun _ => 0))), ((ad 27), .inl (cI, 200, .inl (fun _ => 0))), ((ad 28), .inl (cI, 200, .inl (fun _ => 0))), ((ad 29), .inl (cI, 20, .inl (fun _ => 0))), ((ad 30), .inl (cI, 10, .inl (fun _ => 0))), ((ad 3), .inr (1, [.ref (ad 31), .ref (ad 32), .ref (ad 33), .int 0, .ref (ad 34), .ref (ad 35)])), ((ad 31), .inl (cI, 12, .inl (fun _ => 0))), ((ad 32), .inl (cI, 12, .inl (fun _ => 0))), ((ad 33), .inl (cI, 12, .inl (fun _ => (-1000000)))), ((ad 34), .inl (cI, 6, .inl (fun _ => 4))), ((ad 35), .inl (cI, 6, .inl (fun _ => 100000))), ((ad 4), .inr (7, [.ref (ad 36), .ref (ad 37), .ref (ad 38), .ref (ad 39), .ref (ad 40), .ref (ad 41), .int 0])), ((ad 36), .inl (cI, 40, .inl (fun _ => 0))), ((ad 37), .inl (cI, 40, .inl (fun _ => 0))), ((ad 38), .inl (cI, 40, .inl (fun _ => 0))), ((ad 39), .inl (cI, 40, .inl (fun _ => 0))), ((ad 40), .inl (cI, 40, .inl (fun _ => 0))), ((ad 41), .inl (cI, 40, .inl (fun _ => 0))), ((ad 5), .inr (8, [.ref (ad 42), .ref (ad 43), .ref (ad 44), .ref (ad 45), .int 0, .ref (ad 46)])), ((ad 42), .inl (cI, 40, .inl (fun _ => 0))), ((ad 43), .inl (cI, 40, .inl (fun _ => 0))), ((ad 44), .inl (cI, 40, .inl (fun _ => 0))), ((ad 45), .inl (cI, 40, .inl (fun _ => 0))), ((ad 46), .inl (cI, 40, .inl (fun _ => 0))), ((ad 6), .inr (2, [.ref (ad 47), .int 0, .int 0, .ref (ad 48), .ref (ad 49), .ref (ad 50), .int 0, .ref (ad 51), .ref (ad 52), .ref (ad 53), .int 0, .int 0, .int 0, .int 0, .int 0])), ((ad 47), .inl (cY, 300, .inl (fun _ => 0))), ((ad 48), .inl (cI, 12, .inl (fun _ => 0))), ((ad 49), .inl (cI, 12, .inl (fun _ => 0))), ((ad 50), .inl (cI, 12, .inl (fun _ => 0))), ((ad 51), .inl (cI, 12, .inl (fun _ => 0))), ((ad 52), .inl (cI, 12, .inl (fun _ => 0))), ((ad 53), .inl (cI, 12, .inl (fun _ => 0))), ((ad 7), .inr (0, [.ref (ad 54), .ref (ad 55), .ref (ad 56), .ref (ad 57), .int 0])), ((ad 54), .inl (cI, 60, .inl (fun _ => 0))), ((ad 55), .inl (cI, 60, .inl (fun _ => 0))), ((ad 56), .inl (cI, 60, .inl (fun _ => 0))), ((ad 57), .inl (cI, 60, .inl (fun _ => 0))), ((ad 8), .inr (5, [.int sd, .ref (ad 58)])), ((ad 58), .inl (cJ, 12, .inr (.inl (fun _ => 0)))), ((ad 9), .inr (6, [.ref (ad 59), .ref (ad 60), .ref (ad 61), .ref (ad 62), .int 0])), ((ad 59), .inl (cI, 60, .inl (fun _ => 0))), ((ad 60), .inl (cI, 60, .inl (fun _ => 0))), ((ad 61), .inl (cI, 60, .inl (fun _ => 0))), ((ad 62), .inl (cI, 60, .inl (fun _ => 0))), ((ad 10), .inr (4, [.ref (ad 63), .ref (ad 64), .ref (ad 65), .int 0])), ((ad 63), .inl (cI, 20, .inl (fun _ => 0))), ((ad 64), .inl (cI, 20, .inl (fun _ => 0))), ((ad 65), .inl (cI, 20, .inl (fun _ => 0)))] := hD
  refine W.widen (k := 66) (n := 2598) (by omega) (by omega) ?_
  exact law_mod (ad := ad) (rw := rw) (sd := sd) C0k esd hP hD hS hl
