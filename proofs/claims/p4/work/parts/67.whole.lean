theorem cdX10_init : yX10_init.cls ≠ "java/lang/invoke/MethodHandle" ∧ yX10_init.cls ≠ "java/lang/invoke/VarHandle" ∧ (parseMethodDescriptor yX10_init.desc).map (fun d => d.parameters.length) = some 1 := by decide +kernel
theorem Gd_X10_init : gdA wsX10_init := gd_cons (by decide +kernel) (gd_app (gd_app (gd_app (gd_all (ws := wsX10_init_o1) (by decide +kernel)) (gd_all (ws := wsX10_init_o2) (by decide +kernel))) (gd_all (ws := wsX10_init_o3) (by decide +kernel))) (gd_app (gd_app (gd_app (gd_app (gd_app Gd_X90 Gd_X100) Gd_X30) (gd_app (gd_app Gd_X10 Gd_X70) Gd_X80)) (gd_app (gd_app (gd_app Gd_X20 Gd_X00) Gd_X60) (gd_app Gd_X40 Gd_X50))) (gd_app (gd_app (gd_app (gd_app Gd_X9_init Gd_X3_init) Gd_X1_init) (gd_app Gd_X7_init Gd_X8_init)) (gd_app (gd_app (gd_app Gd_X2_init Gd_X0_init) Gd_X6_init) (gd_app Gd_X4_init Gd_X5_init)))))
theorem inlX0 : ∀ w ∈ wsX00, w ∈ wsL_law := fun _ h => (wm_r (wm_l (wm_l (wm_l (wm_r (wm_l (wm_r h)))))))
theorem inX0 : ∀ w ∈ wsX00, w ∈ lw_tbl := fun w h => wsL_law_in w (inlX0 w h)
theorem inlX1 : ∀ w ∈ wsX10, w ∈ wsL_law := fun _ h => (wm_r (wm_l (wm_l (wm_l (wm_l (wm_r (wm_l (wm_r h))))))))
theorem inX1 : ∀ w ∈ wsX10, w ∈ lw_tbl := fun w h => wsL_law_in w (inlX1 w h)
theorem inlX2 : ∀ w ∈ wsX20, w ∈ wsL_law := fun _ h => (wm_r (wm_l (wm_l (wm_l (wm_r (wm_l (wm_l (wm_r h))))))))
theorem inX2 : ∀ w ∈ wsX20, w ∈ lw_tbl := fun w h => wsL_law_in w (inlX2 w h)
theorem inlX3 : ∀ w ∈ wsX30, w ∈ wsL_law := fun _ h => (wm_r (wm_l (wm_l (wm_l (wm_l (wm_r (wm_l (wm_l h))))))))
theorem inX3 : ∀ w ∈ wsX30, w ∈ lw_tbl := fun w h => wsL_law_in w (inlX3 w h)
theorem inlX4 : ∀ w ∈ wsX40, w ∈ wsL_law := fun _ h => (wm_r (wm_l (wm_l (wm_l (wm_r (wm_r (wm_l (wm_r h))))))))
theorem inX4 : ∀ w ∈ wsX40, w ∈ lw_tbl := fun w h => wsL_law_in w (inlX4 w h)
theorem inlX5 : ∀ w ∈ wsX50, w ∈ wsL_law := fun _ h => (wm_r (wm_l (wm_l (wm_l (wm_r (wm_r (wm_r h)))))))
theorem inX5 : ∀ w ∈ wsX50, w ∈ lw_tbl := fun w h => wsL_law_in w (inlX5 w h)
theorem inlX6 : ∀ w ∈ wsX60, w ∈ wsL_law := fun _ h => (wm_r (wm_l (wm_l (wm_l (wm_r (wm_r (wm_l (wm_l h))))))))
theorem inX6 : ∀ w ∈ wsX60, w ∈ lw_tbl := fun w h => wsL_law_in w (inlX6 w h)
theorem inlX7 : ∀ w ∈ wsX70, w ∈ wsL_law := fun _ h => (wm_r (wm_l (wm_l (wm_l (wm_l (wm_r (wm_r h)))))))
theorem inX7 : ∀ w ∈ wsX70, w ∈ lw_tbl := fun w h => wsL_law_in w (inlX7 w h)
theorem inlX8 : ∀ w ∈ wsX80, w ∈ wsL_law := fun _ h => (wm_r (wm_l (wm_l (wm_l (wm_r (wm_l (wm_l (wm_l h))))))))
theorem inX8 : ∀ w ∈ wsX80, w ∈ lw_tbl := fun w h => wsL_law_in w (inlX8 w h)
theorem inlX9 : ∀ w ∈ wsX90, w ∈ wsL_law := fun _ h => (wm_r (wm_l (wm_l (wm_l (wm_l (wm_l (wm_r h)))))))
theorem inX9 : ∀ w ∈ wsX90, w ∈ lw_tbl := fun w h => wsL_law_in w (inlX9 w h)
theorem inlX10 : ∀ w ∈ wsX100, w ∈ wsL_law := fun _ h => (wm_r (wm_l (wm_l (wm_l (wm_l (wm_l (wm_l (wm_l h))))))))
theorem inX10 : ∀ w ∈ wsX100, w ∈ lw_tbl := fun w h => wsL_law_in w (inlX10 w h)
theorem inX11 : ∀ w ∈ wsX110, w ∈ lw_tbl := fun w h => wsL_law_in w (inlX11 w h)
theorem ggL_law_X10_init : GoodIn wsL_law wsX10_init := goodIn_s (fun _ h => (wm_r (wm_l (wm_l (wm_r (wm_l (wm_l (wm_l (wm_r h))))))))) Gd_X10_init
set_option maxRecDepth 20000 in
theorem gL_law_X10_init : GoodIn wsL_law (wsX10_init) := ggL_law_X10_init
theorem dL_law_0 : decode cL_law 0 = .ok (.new 7, 3) := dL_law_all0.1
theorem dL_law_3 : decode cL_law 3 = .ok (.dup, 1) := dL_law_all0.2.1
theorem dL_law_4 : decode cL_law 4 = .ok (.aload_n 0, 1) := dL_law_all0.2.2.1
theorem dL_law_5 : decode cL_law 5 = .ok (.iconst 0, 1) := dL_law_all0.2.2.2.1
theorem dL_law_6 : decode cL_law 6 = .ok (.invokestatic 9, 3) := dL_law_all0.2.2.2.2.1
theorem dL_law_9 : decode cL_law 9 = .ok (.invokespecial 15, 3) := dL_law_all0.2.2.2.2.2.1
set_option maxHeartbeats 4000000 in
set_option maxRecDepth 100000 in
theorem whole_start {p : Program} {e : Env} {s : State} {m : MethodId} {below : List Frame} {meth : Method} {c : Code} (l : Launch) {b L : Nat} {xs : Nat → Int32} (hL : L ≤ 3073) (C0 : lw_At p s m meth c b L xs) : W p l e room_1 s m #[Value.ref b] below meth c s.heap [] 0 0 (lw_Z below #[Value.ref b] s) (entryFrame m ([Value.ref b] : List Value).toArray 4) := by
  obtain ⟨hx, hb, hr, hml, hown, hts0, hX, hbl, hlocks, hgv⟩ := id C0
  have hA : ∀ q : Nat, s.heap.size ≤ q → (fun q : Nat => s.heap.size ≤ q) q := fun _ h => h
  have hbA : ¬ (fun q : Nat => s.heap.size ≤ q) b := Nat.not_le.mpr hbl
  obtain ⟨c0, iS0, hKn0⟩ := u_known (C := RX0) (T := TX0) (N := 5) (n := 5) hts0 inX0 (hts0 (.instantiable RX0 5) (by decide +kernel))
  obtain ⟨c1, iS1, hKn1⟩ := u_known (C := RX1) (T := TX1) (N := 6) (n := 6) hts0 inX1 (hts0 (.instantiable RX1 6) (by decide +kernel))
  obtain ⟨c2, iS2, hKn2⟩ := u_known (C := RX2) (T := TX2) (N := 15) (n := 15) hts0 inX2 (hts0 (.instantiable RX2 15) (by decide +kernel))
  obtain ⟨c3, iS3, hKn3⟩ := u_known (C := RX3) (T := TX3) (N := 9) (n := 9) hts0 inX3 (hts0 (.instantiable RX3 9) (by decide +kernel))
  obtain ⟨c4, iS4, hKn4⟩ := u_known (C := RX4) (T := TX4) (N := 4) (n := 4) hts0 inX4 (hts0 (.instantiable RX4 4) (by decide +kernel))
  obtain ⟨c5, iS5, hKn5⟩ := u_known (C := RX5) (T := TX5) (N := 2) (n := 2) hts0 inX5 (hts0 (.instantiable RX5 2) (by decide +kernel))
  obtain ⟨c6, iS6, hKn6⟩ := u_known (C := RX6) (T := TX6) (N := 5) (n := 5) hts0 inX6 (hts0 (.instantiable RX6 5) (by decide +kernel))
  obtain ⟨c7, iS7, hKn7⟩ := u_known (C := RX7) (T := TX7) (N := 7) (n := 7) hts0 inX7 (hts0 (.instantiable RX7 7) (by decide +kernel))
  obtain ⟨c8, iS8, hKn8⟩ := u_known (C := RX8) (T := TX8) (N := 6) (n := 6) hts0 inX8 (hts0 (.instantiable RX8 6) (by decide +kernel))
  obtain ⟨c9, iS9, hKn9⟩ := u_known (C := RX9) (T := TX9) (N := 3) (n := 3) hts0 inX9 (hts0 (.instantiable RX9 3) (by decide +kernel))
  obtain ⟨c10, iS10, hKn10⟩ := u_known (C := RX10) (T := TX10) (N := 14) (n := 14) hts0 inX10 (hts0 (.instantiable RX10 14) (by decide +kernel))
  obtain ⟨c11, iS11, hKn11⟩ := u_known (C := RX11) (T := TX11) (N := 64) (n := 64) hts0 inX11 (hts0 (.instantiable RX11 64) (by decide +kernel))
  obtain ⟨dC, dI, hKc⟩ : ∃ (dC : Nat → ClassId) (dI : Nat → Nat → Nat), ∀ (k : Nat) (q : vw_C), vwCl[k]? = some q → u_Kn s q.1 q.2.1 q.2.2 (dC k) (dI k) := by
    refine ⟨fun k => if k = 0 then c0 else if k = 1 then c1 else if k = 2 then c2 else if k = 3 then c3 else if k = 4 then c4 else if k = 5 then c5 else if k = 6 then c6 else if k = 7 then c7 else if k = 8 then c8 else if k = 9 then c9 else if k = 10 then c10 else c11, fun k => if k = 0 then iS0 else if k = 1 then iS1 else if k = 2 then iS2 else if k = 3 then iS3 else if k = 4 then iS4 else if k = 5 then iS5 else if k = 6 then iS6 else if k = 7 then iS7 else if k = 8 then iS8 else if k = 9 then iS9 else if k = 10 then iS10 else iS11, ?_⟩
    intro k q hq
    match k, hq with
    | 0, hq => cases hq; exact hKn0
    | 1, hq => cases hq; exact hKn1
    | 2, hq => cases hq; exact hKn2
    | 3, hq => cases hq; exact hKn3
    | 4, hq => cases hq; exact hKn4
    | 5, hq => cases hq; exact hKn5
    | 6, hq => cases hq; exact hKn6
    | 7, hq => cases hq; exact hKn7
    | 8, hq => cases hq; exact hKn8
    | 9, hq => cases hq; exact hKn9
    | 10, hq => cases hq; exact hKn10
    | 11, hq => cases hq; exact hKn11
    | k + 12, hq => simp [vwCl] at hq
  obtain ⟨cI, eI⟩ := arr_i (hts0 (.arrayClass .int) (by decide +kernel))
  obtain ⟨cY, aY⟩ := arr_y (hts0 (.arrayClass .byte) (by decide +kernel))
  obtain ⟨cJ, eJ⟩ := arr_j (hts0 (.arrayClass .long) (by decide +kernel))
  obtain ⟨cQ, aQ⟩ := arr_q (hts0 (.arrayOver (.array .int)) (by decide +kernel))
  obtain ⟨D, hK⟩ : ∃ D : va_G, va_K D vwCl (ty4 cI cY cJ cQ) s := by
    refine ⟨(dC, dI), hKc, ?_⟩
    intro k q h
    match k, h with
    | 0, h => cases h; exact eI
    | 1, h => cases h; exact aY
    | 2, h => cases h; exact eJ
    | 3, h => cases h; exact aQ
    | k + 4, h => simp at h
  have hN : nw s := by
    refine ⟨?_, hts0 (.arrayOver (.array .int)) (by decide +kernel)⟩
    refine List.forall_mem_cons.mpr ⟨?_, List.forall_mem_cons.mpr ⟨?_, List.forall_mem_cons.mpr ⟨?_, List.forall_mem_cons.mpr ⟨?_, List.forall_mem_cons.mpr ⟨?_, List.forall_mem_cons.mpr ⟨?_, List.forall_mem_cons.mpr ⟨?_, List.forall_mem_cons.mpr ⟨?_, List.forall_mem_cons.mpr ⟨?_, List.forall_mem_cons.mpr ⟨?_, fun _ h => absurd h List.not_mem_nil⟩⟩⟩⟩⟩⟩⟩⟩⟩⟩
    · exact va_Nw.of rfl (hts0 (.methodLinkNest RX10 18 yX3_init "PortRooms") (by decide +kernel))
    · exact va_Nw.of rfl (hts0 (.methodLinkNest RX10 32 yX7_init "PortRooms") (by decide +kernel))
    · exact va_Nw.of rfl (hts0 (.methodLinkNest RX10 39 yX8_init "PortRooms") (by decide +kernel))
    · exact va_Nw.of rfl (hts0 (.methodLinkNest RX10 46 yX2_init "PortRooms") (by decide +kernel))
    · exact va_Nw.of rfl (hts0 (.methodLinkNest RX10 53 yX0_init "PortRooms") (by decide +kernel))
    · exact va_Nw.of rfl (hts0 (.methodLinkNest RX10 60 yX6_init "PortRooms") (by decide +kernel))
    · exact va_Nw.of rfl (hts0 (.methodLinkNest RX10 67 yX4_init "PortRooms") (by decide +kernel))
    · exact va_Nw.of rfl (hts0 (.methodLinkNest RX1 43 yX10_hasBit "PortRooms") (by decide +kernel))
    · exact va_Nw.of rfl (hts0 (.methodLinkNest RX3 62 yX10_hasBit "PortRooms") (by decide +kernel))
    · exact va_Nw.of rfl (hts0 (.methodLinkNest RX5 29 yX10_hasBit "PortRooms") (by decide +kernel))
  have hts : ∀ w ∈ wsL_law, w.before #[Value.ref b] s = true := fun w h => hts0 w (wsL_law_in w h)
  replace hown : s.vm.findClass RL = some m.cls := hown
  replace hb : c.code = cL_law := hb
  obtain ⟨aK, aV, hT⟩ := str_0 (A := (fun q : Nat => s.heap.size ≤ q)) hgv hts0 (fun a ha => Nat.not_le.mpr ha)
  have C0k : lawC p s m meth c b L xs D cI cY cJ cQ aK aV := ⟨C0, hK, hN, hT, hL⟩
  have hS : va_S (fun q : Nat => s.heap.size ≤ q) s.heap s.heap [] := va_S.rf
  have hP : va_P D vwCl [] s.heap := va_P.nil
  have hD : va_D (fun q : Nat => s.heap.size ≤ q) [] := va_D.nil
  obtain ⟨sd, esd⟩ : ∃ y : Int32, y = cellv L xs := ⟨_, rfl⟩
  have hl := lv_entry ([.ref b]) (n := 4) (Nat.le_of_ble_eq_true rfl)
  rw [lg_entry_eq]
  generalize (lg_sl ([.ref b]) ++ List.replicate (4 - (lg_sl ([.ref b])).length) Slot.unset).toArray = ls at hl ⊢
  have hl : lv_has ls 4 [(0, .ref b)] := hl
  refine va_new (ci := 10) (fs := [.null, .null, .null, .null, .null, .null, .null, .null, .null, .null, .null, .int 0, .int 0, .int 0]) (C := RX10) (T := TX10) (N := 14) hx hb hts inlX10 tyX10 tyX10_ok hown (hts (Cond.classLink RL 7 RX10) (wm_l (wm_l (wm_l (wm_l (wm_l (wm_i 0 rfl))))))) (hts (Cond.instantiable RX10 14) (wm_l (wm_l (wm_l (wm_l (wm_l (wm_i 1 rfl))))))) (hts (Cond.initialized RX10) (wm_l (wm_l (wm_l (wm_l (wm_l (wm_i 2 rfl))))))) hK hP hD hS hA rfl (fun j hj => by rcases (show j = 0 ∨ j = 1 ∨ j = 2 ∨ j = 3 ∨ j = 4 ∨ j = 5 ∨ j = 6 ∨ j = 7 ∨ j = 8 ∨ j = 9 ∨ j = 10 ∨ j = 11 ∨ j = 12 ∨ j = 13 by omega) with rfl | rfl | rfl | rfl | rfl | rfl | rfl | rfl | rfl | rfl | rfl | rfl | rfl | rfl <;> rfl) (Nat.le_of_ble_eq_true rfl) (Nat.le_of_ble_eq_true rfl) dL_law_0 (fun q1 H => ?_)
  clear hP hD hS
  intro hP hD hS
  replace hP : va_P D vwCl [(q1, .inr (10, [.null, .null, .null, .null, .null, .null, .null, .null, .null, .null, .null, .int 0, .int 0, .int 0]))] H := hP
  replace hD : va_D (fun q : Nat => s.heap.size ≤ q) [(q1, .inr (10, [.null, .null, .null, .null, .null, .null, .null, .null, .null, .null, .null, .int 0, .int 0, .int 0]))] := hD
  refine W.widen (k := 1) (n := 14) (by first | exact Nat.le_of_ble_eq_true rfl | omega) (by first | exact Nat.le_of_ble_eq_true rfl | omega) ?_
  refine lv_dup hx hb dL_law_3 rfl ?_
  refine lv_aload_n hx hb dL_law_4 rfl (lv_at hl 0 rfl) ?_
  refine lv_iconst (v := 0) hx hb dL_law_5 (by decide) ?_
  refine st_i (wr := [(q1, .inr (10, [.null, .null, .null, .null, .null, .null, .null, .null, .null, .null, .null, .int 0, .int 0, .int 0]))]) (va_runS (As := [.ref b, .int 0]) (rest := [.ref q1, .ref q1]) ⟨hx, hb, hml, hown, hts⟩ (ct_L_cell l D cI cY cJ cQ _ b L hL xs) (va_cwS 2 hts gL_law_L_cell rfl rfl rfl (by decide +kernel) ⟨Nat.le_of_ble_eq_true rfl, Nat.le_of_ble_eq_true rfl⟩) ⟨cellBlind, fun U hU hW => ⟨rfl, by rw [hU], va_X.moved hW.alike (by rw [hU]; exact hX.kept (hS.2.1 b hbl hbA)), by rw [hU]; exact Nat.lt_of_lt_of_le hbl hS.1, va_K.moved hW.alike hK⟩⟩ rfl rfl hl.1 rfl (lv_room (Nat.le_of_ble_eq_true rfl)) dL_law_6 ⟨Nat.le_of_ble_eq_true rfl, Nat.le_of_ble_eq_true rfl⟩) hP hD hS hA [] [0] rfl rfl (by decide +kernel) (by decide +kernel) (fun r2 u3 H locs hw4 hP hD hS => ?_)
  replace hw4 : sd = r2 := (hw4.trans esd.symm).symm
  subst hw4
  replace hP : va_P D vwCl [(q1, .inr (10, [.null, .null, .null, .null, .null, .null, .null, .null, .null, .null, .null, .int 0, .int 0, .int 0]))] H := hP
  replace hD : va_D (fun q : Nat => s.heap.size ≤ q) [(q1, .inr (10, [.null, .null, .null, .null, .null, .null, .null, .null, .null, .null, .null, .int 0, .int 0, .int 0]))] := hD
  refine st_v (wr := []) (va_runI (As := [.int sd]) (rest := [.ref q1]) ⟨hx, hb, hml, hown, hts⟩ (ct_X10_init l D cI cY cJ cQ _ q1 sd) (cwI 1 hts gL_law_X10_init rfl rfl rfl (hts (Cond.initialized RX10) (wm_l (wm_l (wm_l (wm_l (wm_l (wm_i 2 rfl))))))) (hts (Cond.methodLink RL 15 yX10_init) (wm_l (wm_l (wm_l (wm_l (wm_l (wm_i 10 rfl))))))) (hts (Cond.instanceMethod yX10_init) (wm_l (wm_l (wm_l (wm_l (wm_l (wm_i 11 rfl))))))) rfl cdX10_init ⟨Nat.le_of_ble_eq_true rfl, Nat.le_of_ble_eq_true rfl⟩) (cPreS (hP.sub [0] rfl) hK (hD.sub [0] (by decide +kernel) rfl) hN) rfl rfl hl.1 rfl (lv_room (Nat.le_of_ble_eq_true rfl)) dL_law_9 ⟨Nat.le_of_ble_eq_true rfl, Nat.le_of_ble_eq_true rfl⟩) hP hD hS hA [0] [] rfl rfl (by decide +kernel) (by decide +kernel) (fun u5 H locs hw6 => ?_)
  clear hP hD hS
  intro hP hD hS
  obtain ⟨ad, rw⟩ := u5
  replace hw6 : ad 0 = q1 := hw6
  have hPn := hP
  have hDn := hD
  subst hw6
  have hP := hPn
  have hD := hDn
  replace hP : va_P D vwCl [(oC10 ad (0) (0) (0)), (aI cI (ad 11) 16 (fun _ => 0)), (aI cI (rw 0) 60 (fun _ => 0)), (aI cI (rw 1) 60 (fun _ => 0)), (aI cI (rw 2) 60 (fun _ => 0)), (aI cI (rw 3) 60 (fun _ => 0)), (aI cI (rw 4) 60 (fun _ => 0)), (aI cI (rw 5) 60 (fun _ => 0)), (aI cI (rw 6) 60 (fun _ => 0)), (aI cI (rw 7) 60 (fun _ => 0)), (oC9 ad ), ((ad 12), .inl (cQ, 8, .inr (.inr (.inr (.inr (fun i => if i < 8 then some (rw i) else none)))))), (aI cI (ad 13) 8 (fun _ => 0)), (aI cI (ad 14) 8 (fun _ => (-1))), (oC3 ad (0)), (aI cI (ad 23) 40 (fun _ => 0)), (aI cI (ad 24) 40 (fun _ => 0)), (aI cI (ad 25) 40 (fun _ => 0)), (aI cI (ad 26) 40 (fun _ => 0)), (aI cI (ad 27) 200 (fun _ => 0)), (aI cI (ad 28) 200 (fun _ => 0)), (aI cI (ad 29) 20 (fun _ => 0)), (aI cI (ad 30) 10 (fun _ => 0)), (oC1 ad (0)), (aI cI (ad 31) 12 (fun _ => 0)), (aI cI (ad 32) 12 (fun _ => 0)), (aI cI (ad 33) 12 (fun _ => (-1000000))), (aI cI (ad 34) 6 (fun _ => 4)), (aI cI (ad 35) 6 (fun _ => 100000)), (oC7 ad (0)), (aI cI (ad 36) 40 (fun _ => 0)), (aI cI (ad 37) 40 (fun _ => 0)), (aI cI (ad 38) 40 (fun _ => 0)), (aI cI (ad 39) 40 (fun _ => 0)), (aI cI (ad 40) 40 (fun _ => 0)), (aI cI (ad 41) 40 (fun _ => 0)), (oC8 ad (0)), (aI cI (ad 42) 40 (fun _ => 0)), (aI cI (ad 43) 40 (fun _ => 0)), (aI cI (ad 44) 40 (fun _ => 0)), (aI cI (ad 45) 40 (fun _ => 0)), (aI cI (ad 46) 40 (fun _ => 0)), (oC2 ad (0) (0) (0) (0) (0) (0) (0) (0)), (aI cY (ad 47) 300 (fun _ => 0)), (aI cI (ad 48) 12 (fun _ => 0)), (aI cI (ad 49) 12 (fun _ => 0)), (aI cI (ad 50) 12 (fun _ => 0)), (aI cI (ad 51) 12 (fun _ => 0)), (aI cI (ad 52) 12 (fun _ => 0)), (aI cI (ad 53) 12 (fun _ => 0)), (oC0 ad (0)), (aI cI (ad 54) 60 (fun _ => 0)), (aI cI (ad 55) 60 (fun _ => 0)), (aI cI (ad 56) 60 (fun _ => 0)), (aI cI (ad 57) 60 (fun _ => 0)), (oC5 ad sd), (aJ cJ (ad 58) 12 (fun _ => 0)), (oC6 ad (0)), (aI cI (ad 59) 60 (fun _ => 0)), (aI cI (ad 60) 60 (fun _ => 0)), (aI cI (ad 61) 60 (fun _ => 0)), (aI cI (ad 62) 60 (fun _ => 0)), (oC4 ad (0)), (aI cI (ad 63) 20 (fun _ => 0)), (aI cI (ad 64) 20 (fun _ => 0)), (aI cI (ad 65) 20 (fun _ => 0))] H := hP
  replace hD : va_D (fun q : Nat => s.heap.size ≤ q) [(oC10 ad (0) (0) (0)), (aI cI (ad 11) 16 (fun _ => 0)), (aI cI (rw 0) 60 (fun _ => 0)), (aI cI (rw 1) 60 (fun _ => 0)), (aI cI (rw 2) 60 (fun _ => 0)), (aI cI (rw 3) 60 (fun _ => 0)), (aI cI (rw 4) 60 (fun _ => 0)), (aI cI (rw 5) 60 (fun _ => 0)), (aI cI (rw 6) 60 (fun _ => 0)), (aI cI (rw 7) 60 (fun _ => 0)), (oC9 ad ), ((ad 12), .inl (cQ, 8, .inr (.inr (.inr (.inr (fun i => if i < 8 then some (rw i) else none)))))), (aI cI (ad 13) 8 (fun _ => 0)), (aI cI (ad 14) 8 (fun _ => (-1))), (oC3 ad (0)), (aI cI (ad 23) 40 (fun _ => 0)), (aI cI (ad 24) 40 (fun _ => 0)), (aI cI (ad 25) 40 (fun _ => 0)), (aI cI (ad 26) 40 (fun _ => 0)), (aI cI (ad 27) 200 (fun _ => 0)), (aI cI (ad 28) 200 (fun _ => 0)), (aI cI (ad 29) 20 (fun _ => 0)), (aI cI (ad 30) 10 (fun _ => 0)), (oC1 ad (0)), (aI cI (ad 31) 12 (fun _ => 0)), (aI cI (ad 32) 12 (fun _ => 0)), (aI cI (ad 33) 12 (fun _ => (-1000000))), (aI cI (ad 34) 6 (fun _ => 4)), (aI cI (ad 35) 6 (fun _ => 100000)), (oC7 ad (0)), (aI cI (ad 36) 40 (fun _ => 0)), (aI cI (ad 37) 40 (fun _ => 0)), (aI cI (ad 38) 40 (fun _ => 0)), (aI cI (ad 39) 40 (fun _ => 0)), (aI cI (ad 40) 40 (fun _ => 0)), (aI cI (ad 41) 40 (fun _ => 0)), (oC8 ad (0)), (aI cI (ad 42) 40 (fun _ => 0)), (aI cI (ad 43) 40 (fun _ => 0)), (aI cI (ad 44) 40 (fun _ => 0)), (aI cI (ad 45) 40 (fun _ => 0)), (aI cI (ad 46) 40 (fun _ => 0)), (oC2 ad (0) (0) (0) (0) (0) (0) (0) (0)), (aI cY (ad 47) 300 (fun _ => 0)), (aI cI (ad 48) 12 (fun _ => 0)), (aI cI (ad 49) 12 (fun _ => 0)), (aI cI (ad 50) 12 (fun _ => 0)), (aI cI (ad 51) 12 (fun _ => 0)), (aI cI (ad 52) 12 (fun _ => 0)), (aI cI (ad 53) 12 (fun _ => 0)), (oC0 ad (0)), (aI cI (ad 54) 60 (fun _ => 0)), (aI cI (ad 55) 60 (fun _ => 0)), (aI cI (ad 56) 60 (fun _ => 0)), (aI cI (ad 57) 60 (fun _ => 0)), (oC5 ad sd), (aJ cJ (ad 58) 12 (fun _ => 0)), (oC6 ad (0)), (aI cI (ad 59) 60 (fun _ => 0)), (aI cI (ad 60) 60 (fun _ => 0)), (aI cI (ad 61) 60 (fun _ => 0)), (aI cI (ad 62) 60 (fun _ => 0)), (oC4 ad (0)), (aI cI (ad 63) 20 (fun _ => 0)), (aI cI (ad 64) 20 (fun _ => 0)), (aI cI (ad 65) 20 (fun _ => 0))] := hD
  refine W.widen (k := 66) (n := 2598) (by first | exact Nat.le_of_ble_eq_true rfl | omega) (by first | exact Nat.le_of_ble_eq_true rfl | omega) ?_
  exact law_mod (ad := ad) (rw := rw) (sd := sd) C0k esd hP hD hS hl
