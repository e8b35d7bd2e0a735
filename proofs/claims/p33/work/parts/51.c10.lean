theorem cdX10_crate : yX10_crate.cls ≠ "java/lang/invoke/MethodHandle" ∧ yX10_crate.cls ≠ "java/lang/invoke/VarHandle" ∧ (parseMethodDescriptor yX10_crate.desc).map (fun d => d.parameters.length) = some 2 := by decide +kernel
theorem cdX11_crate : yX11_crate.cls ≠ "java/lang/invoke/MethodHandle" ∧ yX11_crate.cls ≠ "java/lang/invoke/VarHandle" ∧ (parseMethodDescriptor yX11_crate.desc).map (fun d => d.parameters.length) = some 2 := by decide +kernel
set_option maxRecDepth 20000 in
theorem ggL_law_X10_crate : GoodIn wsL_law wsX10_crate := goodIn_ch _ [(18, 14), (18, 15), (8, 8), (1, 4), (18, 16), (12, 2), (12, 6), (12, 7), (0, 2), (12, 8), (8, 9), (8, 10), (8, 11), (12, 12), (12, 13), (12, 14), (18, 17), (18, 18), (18, 19), (1, 3), (18, 20), (3, 14), (18, 21), (3, 15), (48, 0), (48, 1), (48, 2), (48, 3), (48, 4), (48, 5), (48, 6), (48, 7), (48, 8), (48, 9), (48, 10), (48, 11), (48, 12), (48, 13), (52, 0), (52, 1), (52, 2), (52, 3), (52, 4), (52, 5)] rfl (by decide +kernel)
set_option maxRecDepth 20000 in
theorem gL_law_X10_crate : GoodIn wsL_law (wsV RL 66 RX10 yX10_crate wsX10_crate) := goodIn_app (goodIn_ch _ [(18, 11), (18, 12), (18, 13), (0, 2)] rfl (by decide +kernel)) ggL_law_X10_crate
set_option maxRecDepth 20000 in
theorem ggL_law_X11_crate : GoodIn wsL_law wsX11_crate := goodIn_ch _ [(19, 1), (9, 6), (19, 2), (9, 8), (19, 3), (13, 9), (6, 20), (6, 21), (13, 10), (13, 11), (0, 5), (13, 12), (13, 13), (9, 14), (9, 15), (9, 16), (49, 0), (49, 1), (49, 2), (49, 3), (49, 4), (49, 5), (49, 6), (49, 7), (49, 8), (49, 9), (49, 10), (49, 11), (49, 12), (49, 13), (49, 14), (49, 15), (49, 16), (49, 17), (49, 18), (49, 19), (49, 20), (49, 21), (49, 22), (49, 23), (49, 24), (49, 25), (49, 26), (49, 27), (49, 28), (49, 29), (49, 30), (49, 31), (49, 32), (49, 33), (49, 34), (49, 35), (49, 36), (49, 37), (49, 38), (49, 39), (49, 40), (49, 41), (49, 42), (49, 43), (49, 44), (49, 45), (49, 46), (49, 47), (49, 48), (49, 49), (49, 50), (49, 51), (49, 52), (49, 53), (49, 54), (49, 55), (49, 56), (49, 57), (49, 58), (49, 59), (49, 60), (49, 61), (49, 62), (49, 63)] rfl (by decide +kernel)
set_option maxRecDepth 20000 in
theorem gL_law_X11_crate : GoodIn wsL_law (wsV RL 69 RX11 yX11_crate wsX11_crate) := goodIn_app (goodIn_ch _ [(18, 22), (18, 23), (19, 0), (0, 5)] rfl (by decide +kernel)) ggL_law_X11_crate
theorem dL_law_618 : decode cL_law 618 = .ok (.aload_n 1, 1) := dL_law_all31.2.2.2.2.2.2.1
theorem dL_law_619 : decode cL_law 619 = .ok (.aload_n 0, 1) := dL_law_all31.2.2.2.2.2.2.2.1
theorem dL_law_620 : decode cL_law 620 = .ok (.iload_n 3, 1) := dL_law_all31.2.2.2.2.2.2.2.2.1
theorem dL_law_621 : decode cL_law 621 = .ok (.iconst 1, 1) := dL_law_all31.2.2.2.2.2.2.2.2.2.1
theorem dL_law_622 : decode cL_law 622 = .ok (.iadd, 1) := dL_law_all31.2.2.2.2.2.2.2.2.2.2.1
theorem dL_law_623 : decode cL_law 623 = .ok (.iaload, 1) := dL_law_all31.2.2.2.2.2.2.2.2.2.2.2
theorem dL_law_all32 : decode cL_law 624 = .ok (.aload_n 0, 1) ∧ decode cL_law 625 = .ok (.iload_n 3, 1) ∧ decode cL_law 626 = .ok (.iconst 2, 1) ∧ decode cL_law 627 = .ok (.iadd, 1) ∧ decode cL_law 628 = .ok (.iaload, 1) ∧ decode cL_law 629 = .ok (.invokevirtual 66, 3) ∧ decode cL_law 632 = .ok (.pop, 1) ∧ decode cL_law 633 = .ok (.aload_n 2, 1) ∧ decode cL_law 634 = .ok (.aload_n 0, 1) ∧ decode cL_law 635 = .ok (.iload_n 3, 1) ∧ decode cL_law 636 = .ok (.iconst 1, 1) ∧ decode cL_law 637 = .ok (.iadd, 1) := by decide +kernel
theorem dL_law_624 : decode cL_law 624 = .ok (.aload_n 0, 1) := dL_law_all32.1
theorem dL_law_625 : decode cL_law 625 = .ok (.iload_n 3, 1) := dL_law_all32.2.1
theorem dL_law_626 : decode cL_law 626 = .ok (.iconst 2, 1) := dL_law_all32.2.2.1
theorem dL_law_627 : decode cL_law 627 = .ok (.iadd, 1) := dL_law_all32.2.2.2.1
theorem dL_law_628 : decode cL_law 628 = .ok (.iaload, 1) := dL_law_all32.2.2.2.2.1
theorem dL_law_629 : decode cL_law 629 = .ok (.invokevirtual 66, 3) := dL_law_all32.2.2.2.2.2.1
theorem dL_law_632 : decode cL_law 632 = .ok (.pop, 1) := dL_law_all32.2.2.2.2.2.2.1
theorem dL_law_633 : decode cL_law 633 = .ok (.aload_n 2, 1) := dL_law_all32.2.2.2.2.2.2.2.1
theorem dL_law_634 : decode cL_law 634 = .ok (.aload_n 0, 1) := dL_law_all32.2.2.2.2.2.2.2.2.1
theorem dL_law_635 : decode cL_law 635 = .ok (.iload_n 3, 1) := dL_law_all32.2.2.2.2.2.2.2.2.2.1
theorem dL_law_636 : decode cL_law 636 = .ok (.iconst 1, 1) := dL_law_all32.2.2.2.2.2.2.2.2.2.2.1
theorem dL_law_637 : decode cL_law 637 = .ok (.iadd, 1) := dL_law_all32.2.2.2.2.2.2.2.2.2.2.2
theorem dL_law_all33 : decode cL_law 638 = .ok (.iaload, 1) ∧ decode cL_law 639 = .ok (.aload_n 0, 1) ∧ decode cL_law 640 = .ok (.iload_n 3, 1) ∧ decode cL_law 641 = .ok (.iconst 2, 1) ∧ decode cL_law 642 = .ok (.iadd, 1) ∧ decode cL_law 643 = .ok (.iaload, 1) ∧ decode cL_law 644 = .ok (.invokevirtual 69, 3) ∧ decode cL_law 647 = .ok (.pop, 1) ∧ decode cL_law 648 = .ok (.goto 1004, 3) ∧ decode cL_law 651 = .ok (.aload_n 1, 1) ∧ decode cL_law 652 = .ok (.aload_n 0, 1) ∧ decode cL_law 653 = .ok (.iload_n 3, 1) := by decide +kernel
theorem dL_law_638 : decode cL_law 638 = .ok (.iaload, 1) := dL_law_all33.1
theorem dL_law_639 : decode cL_law 639 = .ok (.aload_n 0, 1) := dL_law_all33.2.1
theorem dL_law_640 : decode cL_law 640 = .ok (.iload_n 3, 1) := dL_law_all33.2.2.1
theorem dL_law_641 : decode cL_law 641 = .ok (.iconst 2, 1) := dL_law_all33.2.2.2.1
theorem dL_law_642 : decode cL_law 642 = .ok (.iadd, 1) := dL_law_all33.2.2.2.2.1
theorem dL_law_643 : decode cL_law 643 = .ok (.iaload, 1) := dL_law_all33.2.2.2.2.2.1
theorem dL_law_644 : decode cL_law 644 = .ok (.invokevirtual 69, 3) := dL_law_all33.2.2.2.2.2.2.1
theorem dL_law_647 : decode cL_law 647 = .ok (.pop, 1) := dL_law_all33.2.2.2.2.2.2.2.1
theorem dL_law_648 : decode cL_law 648 = .ok (.goto 1004, 3) := dL_law_all33.2.2.2.2.2.2.2.2.1
set_option maxHeartbeats 4000000 in
set_option maxRecDepth 100000 in
theorem law_case_10 {p : Program} {l : Launch} {e : Env} {s : State} {m : MethodId} {below : List Frame} {meth : Method} {c : Code} {D : va_G} {cI cY cJ cQ : ClassId} {b L aK aV : Nat} {xs : Nat → Int32} {ad rw md : Nat → Nat} {sd i : Int32} {nx : Nat → Int32} {fx rs : Nat → Nat → Int32} {lo : Nat → Int64} {ny : Nat → Int32} {fy : Nat → Nat → Int32} {fl : Nat → Int64} {H : Heap} {locs : List Loc} {ls : Array Slot} (C0 : lawC p s m meth c b L xs D cI cY cJ cQ aK aV) (I : inv nx fx ny fy) (hP : va_P D vwCl (wX ad rw sd cI cY cJ cQ nx fx rs lo ++ wM md sd cI cY cJ cQ ny fy fl) H) (hD : va_D (fun q : Nat => s.heap.size ≤ q) (wX ad rw sd cI cY cJ cQ nx fx rs lo ++ wM md sd cI cY cJ cQ ny fy fl)) (hS : va_S (fun q : Nat => s.heap.size ≤ q) s.heap H locs) (hl : lv_has ls 4 [(0, .ref b), (1, .ref (ad 0)), (2, .ref (md 64)), (3, .int i)]) (hi1 : 1 ≤ i.toInt) (hi2 : i.toInt + 5 < L) (kk : ∀ (nx : Nat → Int32) (fx rs : Nat → Nat → Int32) (lo : Nat → Int64) (ny : Nat → Int32) (fy : Nat → Nat → Int32) (fl : Nat → Int64) (H : Heap) (locs : List Loc) (ls : Array Slot), inv nx fx ny fy → va_P D vwCl (wX ad rw sd cI cY cJ cQ nx fx rs lo ++ wM md sd cI cY cJ cQ ny fy fl) H → va_D (fun q : Nat => s.heap.size ≤ q) (wX ad rw sd cI cY cJ cQ nx fx rs lo ++ wM md sd cI cY cJ cQ ny fy fl) → va_S (fun q : Nat => s.heap.size ≤ q) s.heap H locs → lv_has ls 4 [(0, .ref b), (1, .ref (ad 0)), (2, .ref (md 64)), (3, .int i)] → W p l e room_1 s m #[Value.ref b] below meth c H locs 107 4890 (lw_Z below #[Value.ref b] s) (F0 m 1652 ls [])) : W p l e room_1 s m #[Value.ref b] below meth c H locs 107 4890 (lw_Z below #[Value.ref b] s) (F0 m 618 ls []) := by
  obtain ⟨C1, hK, hN, hT, hL⟩ := C0
  obtain ⟨hx, hb, hr, hml, hown, hts0, hX, hbl, hlocks, hgv⟩ := C1
  have hA : ∀ q : Nat, s.heap.size ≤ q → (fun q : Nat => s.heap.size ≤ q) q := fun _ h => h
  have hbA : ¬ (fun q : Nat => s.heap.size ≤ q) b := Nat.not_le.mpr hbl
  have hts : ∀ w ∈ wsL_law, w.before #[Value.ref b] s = true := fun w h => hts0 w (wsL_law_in w h)
  replace hown : s.vm.findClass RL = some m.cls := hown
  replace hb : c.code = cL_law := hb
  obtain ⟨Xhna, Xhnb, XH, Xcna, Xcnb, Xpna, Xpnb, XO, Xgna, Xgnb, Xlna, Xlnb, Xdla, Xdlb, Xana, Xanb, Xuna, Xunb, Xlca, Xlcb, Xtna, Xtnb, XS, Mhna, Mhnb, MH, MS, Mmlna, Mmlnb, Mmtna, Mmtnb, Ccn, Cfo, Cwo, Cpn, Cpk, Cpf, Cpo, Cpd, Cpe, Cgn, Cgk, Cgs, Cgd, Cge, Can, Cak, Cah, Cay, Caz, Cun, Cuk, Cuy, Cuw, Cum, Clc, Clp, Cla, Clb, Caw, Ciw, Cln, Ctd⟩ := I
  have Tcn := i_eq Ccn
  have Tpn := i_eq Cpn
  have Tgn := i_eq Cgn
  have Tan := i_eq Can
  have Tun := i_eq Cun
  have Tlc := i_eq Clc
  have Tln := i_eq Cln
  have k1 : (1 : Int32).toInt = 1 := by decide
  have k2 : (2 : Int32).toInt = 2 := by decide
  obtain ⟨xk1, exk1⟩ : ∃ y : Int32, y = xs (i.toNatClampNeg + 1) := ⟨_, rfl⟩
  obtain ⟨xk2, exk2⟩ : ∃ y : Int32, y = xs (i.toNatClampNeg + 2) := ⟨_, rfl⟩
  refine lv_aload_n hx hb dL_law_618 rfl (lv_at hl 1 rfl) ?_
  refine lv_aload_n hx hb dL_law_619 rfl (lv_at hl 0 rfl) ?_
  refine lv_iload_n hx hb dL_law_620 rfl (lv_at hl 3 rfl) ?_
  refine lv_iconst (v := 1) hx hb dL_law_621 (by decide) ?_
  refine lv_iadd hx hb dL_law_622 ?_
  refine lv_topi (fun v1 ev1 => ?_)
  try have tv1 : v1.toInt = i.toInt + 1 := by rw [ev1]; exact (i_add (x := i) (y := (1 : Int32)) (by rw [k1]; omega) (by rw [k1]; omega)).trans (by rw [k1])
  refine va_sld hx hb hX hbl hbA hS (i_in (by omega) (by omega)) dL_law_623 ?_
  refine lv_topi (fun a2 ea2 => ?_)
  replace ea2 : xk1 = a2 := (ea2.trans (by rw [exk1]; congr 1; have := i_cl (x := v1) (by omega); have := i_cl (x := i) (by omega); omega)).symm
  subst ea2
  refine lv_aload_n hx hb dL_law_624 rfl (lv_at hl 0 rfl) ?_
  refine lv_iload_n hx hb dL_law_625 rfl (lv_at hl 3 rfl) ?_
  refine lv_iconst (v := 2) hx hb dL_law_626 (by decide) ?_
  refine lv_iadd hx hb dL_law_627 ?_
  refine lv_topi (fun v3 ev3 => ?_)
  try have tv3 : v3.toInt = i.toInt + 2 := by rw [ev3]; exact (i_add (x := i) (y := (2 : Int32)) (by rw [k2]; omega) (by rw [k2]; omega)).trans (by rw [k2])
  refine va_sld hx hb hX hbl hbA hS (i_in (by omega) (by omega)) dL_law_628 ?_
  refine lv_topi (fun a4 ea4 => ?_)
  replace ea4 : xk2 = a4 := (ea4.trans (by rw [exk2]; congr 1; have := i_cl (x := v3) (by omega); have := i_cl (x := i) (by omega); omega)).symm
  subst ea4
  refine st_iQ (wr := [((ad 11), .inl (cI, 16, .inl (fx 0))), ((rw 0), .inl (cI, 60, .inl (rs 0))), ((rw 1), .inl (cI, 60, .inl (rs 1))), ((rw 2), .inl (cI, 60, .inl (rs 2))), ((rw 3), .inl (cI, 60, .inl (rs 3))), ((rw 4), .inl (cI, 60, .inl (rs 4))), ((rw 5), .inl (cI, 60, .inl (rs 5))), ((rw 6), .inl (cI, 60, .inl (rs 6))), ((rw 7), .inl (cI, 60, .inl (rs 7))), ((ad 1), .inr (9, [.ref (ad 12), .ref (ad 13), .ref (ad 14)])), ((ad 12), .inl (cQ, 8, .inr (.inr (.inr (.inr (fun i => if i < 8 then some (rw i) else none)))))), ((ad 13), .inl (cI, 8, .inl (fx 1))), ((ad 14), .inl (cI, 8, .inl (fx 2))), ((ad 2), .inr (3, [.ref (ad 23), .ref (ad 24), .ref (ad 25), .ref (ad 26), .int (nx 3), .ref (ad 27), .ref (ad 28), .ref (ad 29), .ref (ad 30)])), ((ad 23), .inl (cI, 40, .inl (fx 3))), ((ad 24), .inl (cI, 40, .inl (fx 4))), ((ad 25), .inl (cI, 40, .inl (fx 5))), ((ad 26), .inl (cI, 40, .inl (fx 6))), ((ad 27), .inl (cI, 200, .inl (fx 7))), ((ad 28), .inl (cI, 200, .inl (fx 8))), ((ad 29), .inl (cI, 20, .inl (fx 9))), ((ad 30), .inl (cI, 10, .inl (fx 10))), ((ad 33), .inl (cI, 12, .inl (fx 13))), ((ad 34), .inl (cI, 6, .inl (fx 14))), ((ad 35), .inl (cI, 6, .inl (fx 15))), ((ad 4), .inr (7, [.ref (ad 36), .ref (ad 37), .ref (ad 38), .ref (ad 39), .ref (ad 40), .ref (ad 41), .int (nx 5)])), ((ad 36), .inl (cI, 40, .inl (fx 16))), ((ad 37), .inl (cI, 40, .inl (fx 17))), ((ad 38), .inl (cI, 40, .inl (fx 18))), ((ad 39), .inl (cI, 40, .inl (fx 19))), ((ad 40), .inl (cI, 40, .inl (fx 20))), ((ad 41), .inl (cI, 40, .inl (fx 21))), ((ad 5), .inr (8, [.ref (ad 42), .ref (ad 43), .ref (ad 44), .ref (ad 45), .int (nx 6), .ref (ad 46)])), ((ad 42), .inl (cI, 40, .inl (fx 22))), ((ad 43), .inl (cI, 40, .inl (fx 23))), ((ad 44), .inl (cI, 40, .inl (fx 24))), ((ad 45), .inl (cI, 40, .inl (fx 25))), ((ad 46), .inl (cI, 40, .inl (fx 26))), ((ad 6), .inr (2, [.ref (ad 47), .int (nx 7), .int (nx 8), .ref (ad 48), .ref (ad 49), .ref (ad 50), .int (nx 9), .ref (ad 51), .ref (ad 52), .ref (ad 53), .int (nx 10), .int (nx 11), .int (nx 12), .int (nx 13), .int (nx 14)])), ((ad 47), .inl (cY, 300, .inl (fx 27))), ((ad 48), .inl (cI, 12, .inl (fx 28))), ((ad 49), .inl (cI, 12, .inl (fx 29))), ((ad 50), .inl (cI, 12, .inl (fx 30))), ((ad 51), .inl (cI, 12, .inl (fx 31))), ((ad 52), .inl (cI, 12, .inl (fx 32))), ((ad 53), .inl (cI, 12, .inl (fx 33))), ((ad 7), .inr (0, [.ref (ad 54), .ref (ad 55), .ref (ad 56), .ref (ad 57), .int (nx 15)])), ((ad 54), .inl (cI, 60, .inl (fx 34))), ((ad 55), .inl (cI, 60, .inl (fx 35))), ((ad 56), .inl (cI, 60, .inl (fx 36))), ((ad 57), .inl (cI, 60, .inl (fx 37))), ((ad 8), .inr (5, [.int sd, .ref (ad 58)])), ((ad 58), .inl (cJ, 12, .inr (.inl lo))), ((ad 9), .inr (6, [.ref (ad 59), .ref (ad 60), .ref (ad 61), .ref (ad 62), .int (nx 16)])), ((ad 59), .inl (cI, 60, .inl (fx 38))), ((ad 60), .inl (cI, 60, .inl (fx 39))), ((ad 61), .inl (cI, 60, .inl (fx 40))), ((ad 62), .inl (cI, 60, .inl (fx 41))), ((ad 10), .inr (4, [.ref (ad 63), .ref (ad 64), .ref (ad 65), .int (nx 17)])), ((ad 63), .inl (cI, 20, .inl (fx 42))), ((ad 64), .inl (cI, 20, .inl (fx 43))), ((ad 65), .inl (cI, 20, .inl (fx 44)))]) (va_runV (C := RX10) (As := [.int xk1, .int xk2]) (rest := []) ⟨hx, hb, hml, hown, hts⟩ (ct_X10_crate l D cI cY cJ cQ _ ad (nx 0) (nx 1) (nx 2) (nx 4) (fx 11) (fx 12) xk1 xk2 (by omega) (by omega)) (cwV 2 hts gL_law_X10_crate rfl rfl rfl ⟨rfl, cdX10_crate⟩ ⟨Nat.le_of_ble_eq_true rfl, Nat.le_of_ble_eq_true rfl⟩) (cPreV (hP.sub [0, 23, 24, 25] rfl) hK (hD.sub [0, 23, 24, 25] (by decide +kernel) rfl) hN (ci := 10) (q0 := 0) rfl rfl) rfl rfl hl.1 rfl (lv_room (Nat.le_of_ble_eq_true rfl)) dL_law_629 ⟨Nat.le_of_ble_eq_true rfl, Nat.le_of_ble_eq_true rfl⟩) hP hD hS hA [0, 23, 24, 25] [1, 2, 3, 4, 5, 6, 7, 8, 9, 10, 11, 12, 13, 14, 15, 16, 17, 18, 19, 20, 21, 22, 26, 27, 28, 29, 30, 31, 32, 33, 34, 35, 36, 37, 38, 39, 40, 41, 42, 43, 44, 45, 46, 47, 48, 49, 50, 51, 52, 53, 54, 55, 56, 57, 58, 59, 60, 61, 62, 63, 64, 65] rfl rfl (by decide +kernel) (by decide +kernel) (fun r7 u5 H locs hw6 hP hD hS => ?_)
  obtain ⟨cn_8, fo_9, wo_10⟩ := u5
  replace hw6 : (r7, (cn_8, fo_9, wo_10)) = sp_crate (nx 4) (fx 11) (fx 12) xk1 xk2 := hw6
  obtain ⟨hw6a, hw6b⟩ := sp_crate_ok hw6 (by omega) (by omega)
  refine lv_pop hx hb dL_law_632 rfl ?_
  have hPx : va_P D vwCl (wX ad rw sd cI cY cJ cQ (upd nx 4 cn_8) (upR (upR fx 11 fo_9) 12 wo_10) rs lo ++ wM md sd cI cY cJ cQ ny fy fl) H := hP.part [62, 0, 1, 2, 3, 4, 5, 6, 7, 8, 9, 10, 11, 12, 13, 14, 15, 16, 17, 18, 19, 20, 21, 63, 64, 65, 22, 23, 24, 25, 26, 27, 28, 29, 30, 31, 32, 33, 34, 35, 36, 37, 38, 39, 40, 41, 42, 43, 44, 45, 46, 47, 48, 49, 50, 51, 52, 53, 54, 55, 56, 57, 58, 59, 60, 61] rfl
  have hDx : va_D (fun q : Nat => s.heap.size ≤ q) (wX ad rw sd cI cY cJ cQ (upd nx 4 cn_8) (upR (upR fx 11 fo_9) 12 wo_10) rs lo ++ wM md sd cI cY cJ cQ ny fy fl) := hD.part [62, 0, 1, 2, 3, 4, 5, 6, 7, 8, 9, 10, 11, 12, 13, 14, 15, 16, 17, 18, 19, 20, 21, 63, 64, 65, 22, 23, 24, 25, 26, 27, 28, 29, 30, 31, 32, 33, 34, 35, 36, 37, 38, 39, 40, 41, 42, 43, 44, 45, 46, 47, 48, 49, 50, 51, 52, 53, 54, 55, 56, 57, 58, 59, 60, 61] (by decide +kernel) rfl
  have hP := hPx.comm
  have hD := hDx.comm
  refine lv_aload_n hx hb dL_law_633 rfl (lv_at hl 2 rfl) ?_
  refine lv_aload_n hx hb dL_law_634 rfl (lv_at hl 0 rfl) ?_
  refine lv_iload_n hx hb dL_law_635 rfl (lv_at hl 3 rfl) ?_
  refine lv_iconst (v := 1) hx hb dL_law_636 (by decide) ?_
  refine lv_iadd hx hb dL_law_637 ?_
  refine lv_topi (fun v11 ev11 => ?_)
  try have tv11 : v11.toInt = i.toInt + 1 := by rw [ev11]; exact (i_add (x := i) (y := (1 : Int32)) (by rw [k1]; omega) (by rw [k1]; omega)).trans (by rw [k1])
  refine va_sld hx hb hX hbl hbA hS (i_in (by omega) (by omega)) dL_law_638 ?_
  refine lv_topi (fun a12 ea12 => ?_)
  replace ea12 : xk1 = a12 := (ea12.trans (by rw [exk1]; congr 1; have := i_cl (x := v11) (by omega); have := i_cl (x := i) (by omega); omega)).symm
  subst ea12
  refine lv_aload_n hx hb dL_law_639 rfl (lv_at hl 0 rfl) ?_
  refine lv_iload_n hx hb dL_law_640 rfl (lv_at hl 3 rfl) ?_
  refine lv_iconst (v := 2) hx hb dL_law_641 (by decide) ?_
  refine lv_iadd hx hb dL_law_642 ?_
  refine lv_topi (fun v13 ev13 => ?_)
  try have tv13 : v13.toInt = i.toInt + 2 := by rw [ev13]; exact (i_add (x := i) (y := (2 : Int32)) (by rw [k2]; omega) (by rw [k2]; omega)).trans (by rw [k2])
  refine va_sld hx hb hX hbl hbA hS (i_in (by omega) (by omega)) dL_law_643 ?_
  refine lv_topi (fun a14 ea14 => ?_)
  replace ea14 : xk2 = a14 := (ea14.trans (by rw [exk2]; congr 1; have := i_cl (x := v13) (by omega); have := i_cl (x := i) (by omega); omega)).symm
  subst ea14
  refine st_iQ (wr := [((md 3), .inl (cI, 8, .inl (fy 0))), ((md 4), .inl (cI, 8, .inl (fy 1))), ((md 5), .inl (cI, 480, .inl (fy 2))), ((md 7), .inl (cI, 40, .inl (fy 3))), ((md 8), .inl (cI, 40, .inl (fy 4))), ((md 9), .inl (cI, 40, .inl (fy 5))), ((md 10), .inl (cI, 40, .inl (fy 6))), ((md 11), .inl (cI, 200, .inl (fy 7))), ((md 12), .inl (cI, 12, .inl (fy 8))), ((md 13), .inl (cI, 12, .inl (fy 9))), ((md 14), .inl (cJ, 12, .inr (.inl fl))), ((md 19), .inl (cI, 40, .inl (fy 12))), ((md 20), .inl (cI, 40, .inl (fy 13))), ((md 21), .inl (cI, 40, .inl (fy 14))), ((md 22), .inl (cI, 40, .inl (fy 15))), ((md 23), .inl (cI, 40, .inl (fy 16))), ((md 26), .inl (cI, 40, .inl (fy 17))), ((md 27), .inl (cI, 40, .inl (fy 18))), ((md 28), .inl (cI, 40, .inl (fy 19))), ((md 29), .inl (cI, 40, .inl (fy 20))), ((md 31), .inl (cI, 36, .inl (fy 21))), ((md 33), .inl (cI, 36, .inl (fy 22))), ((md 34), .inl (cI, 300, .inl (fy 23))), ((md 45), .inl (cI, 60, .inl (fy 24))), ((md 46), .inl (cI, 60, .inl (fy 25))), ((md 47), .inl (cI, 60, .inl (fy 26))), ((md 48), .inl (cI, 60, .inl (fy 27))), ((md 49), .inl (cI, 6, .inl (fy 28))), ((md 50), .inl (cI, 6, .inl (fy 29))), ((md 51), .inl (cI, 12, .inl (fy 30))), ((md 53), .inl (cI, 60, .inl (fy 31))), ((md 54), .inl (cI, 60, .inl (fy 32))), ((md 55), .inl (cI, 60, .inl (fy 33))), ((md 56), .inl (cI, 60, .inl (fy 34))), ((md 58), .inl (cI, 20, .inl (fy 35))), ((md 59), .inl (cI, 20, .inl (fy 36))), ((md 60), .inl (cI, 20, .inl (fy 37))), ((md 62), .inl (cI, 16, .inl (fy 38)))]) (va_runV (C := RX11) (As := [.int xk1, .int xk2]) (rest := []) ⟨hx, hb, hml, hown, hts⟩ (ct_X11_crate l D cI cY cJ cQ _ md sd (ny 0) (ny 1) (ny 2) (ny 3) (ny 4) (ny 5) (ny 6) (ny 7) (ny 8) (ny 9) (ny 10) (ny 11) (ny 12) (ny 13) (ny 14) (ny 15) (ny 16) (ny 17) (ny 18) (ny 19) (ny 20) (ny 21) (ny 22) (fy 10) (fy 11) xk1 xk2 (by omega) (by omega)) (cwV 2 hts gL_law_X11_crate rfl rfl rfl ⟨rfl, cdX11_crate⟩ ⟨Nat.le_of_ble_eq_true rfl, Nat.le_of_ble_eq_true rfl⟩) (cPreV (hP.sub [0, 12, 13] rfl) hK (hD.sub [0, 12, 13] (by decide +kernel) rfl) hN (ci := 11) (q0 := 0) rfl rfl) rfl rfl hl.1 rfl (lv_room (Nat.le_of_ble_eq_true rfl)) dL_law_644 ⟨Nat.le_of_ble_eq_true rfl, Nat.le_of_ble_eq_true rfl⟩) hP hD hS hA [0, 12, 13] [1, 2, 3, 4, 5, 6, 7, 8, 9, 10, 11, 14, 15, 16, 17, 18, 19, 20, 21, 22, 23, 24, 25, 26, 27, 28, 29, 30, 31, 32, 33, 34, 35, 36, 37, 38, 39, 40] rfl rfl (by decide +kernel) (by decide +kernel) (fun r17 u15 H locs hw16 hP hD hS => ?_)
  obtain ⟨cn_18, fo_19, wo_20⟩ := u15
  replace hw16 : (r17, (cn_18, fo_19, wo_20)) = sp_crate (ny 3) (fy 10) (fy 11) xk1 xk2 := hw16
  rw [Ccn, Cfo, Cwo] at hw16
  have e9 := hw6.trans hw16.symm
  simp only [Prod.mk.injEq] at e9
  obtain ⟨e90, e9cn, e9fo, e9wo⟩ := e9
  refine lv_pop hx hb dL_law_647 rfl ?_
  refine lv_goto (tgt := 1652) hx hb dL_law_648 (by decide) ?_
  have hPm : va_P D vwCl (wM md sd cI cY cJ cQ (upd (upd ny 0 0) 3 cn_18) (upR (upR fy 10 fo_19) 11 wo_20) fl ++ wX ad rw sd cI cY cJ cQ (upd nx 4 cn_8) (upR (upR fx 11 fo_9) 12 wo_10) rs lo) H := hP.part [38, 0, 1, 2, 3, 4, 5, 6, 7, 8, 9, 10, 39, 40, 11, 12, 13, 14, 15, 16, 17, 18, 19, 20, 21, 22, 23, 24, 25, 26, 27, 28, 29, 30, 31, 32, 33, 34, 35, 36, 37] rfl
  have hDm : va_D (fun q : Nat => s.heap.size ≤ q) (wM md sd cI cY cJ cQ (upd (upd ny 0 0) 3 cn_18) (upR (upR fy 10 fo_19) 11 wo_20) fl ++ wX ad rw sd cI cY cJ cQ (upd nx 4 cn_8) (upR (upR fx 11 fo_9) 12 wo_10) rs lo) := hD.part [38, 0, 1, 2, 3, 4, 5, 6, 7, 8, 9, 10, 39, 40, 11, 12, 13, 14, 15, 16, 17, 18, 19, 20, 21, 22, 23, 24, 25, 26, 27, 28, 29, 30, 31, 32, 33, 34, 35, 36, 37] (by decide +kernel) rfl
  exact kk (upd nx 4 cn_8) (upR (upR fx 11 fo_9) 12 wo_10) rs lo (upd (upd ny 0 0) 3 cn_18) (upR (upR fy 10 fo_19) 11 wo_20) fl H locs ls ⟨Xhna, Xhnb, XH, (by show 0 ≤ (cn_8).toInt; omega), (by show (cn_8).toInt ≤ 12; omega), Xpna, Xpnb, XO, Xgna, Xgnb, Xlna, Xlnb, Xdla, Xdlb, Xana, Xanb, Xuna, Xunb, Xlca, Xlcb, Xtna, Xtnb, XS, Mhna, Mhnb, MH, MS, Mmlna, Mmlnb, Mmtna, Mmtnb, (show (cn_18) = (cn_8) from e9cn.symm), (show (fo_19) = (fo_9) from e9fo.symm), (show (wo_20) = (wo_10) from e9wo.symm), Cpn, Cpk, Cpf, Cpo, Cpd, Cpe, Cgn, Cgk, Cgs, Cgd, Cge, Can, Cak, Cah, Cay, Caz, Cun, Cuk, Cuy, Cuw, Cum, Clc, Clp, Cla, Clb, Caw, Ciw, Cln, Ctd⟩ hPm.comm hDm.comm hS hl
