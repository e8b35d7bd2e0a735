theorem cdX10_owner : yX10_owner.cls ≠ "java/lang/invoke/MethodHandle" ∧ yX10_owner.cls ≠ "java/lang/invoke/VarHandle" ∧ (parseMethodDescriptor yX10_owner.desc).map (fun d => d.parameters.length) = some 3 := by decide +kernel
theorem cdX11_owner : yX11_owner.cls ≠ "java/lang/invoke/MethodHandle" ∧ yX11_owner.cls ≠ "java/lang/invoke/VarHandle" ∧ (parseMethodDescriptor yX11_owner.desc).map (fun d => d.parameters.length) = some 3 := by decide +kernel
set_option maxRecDepth 20000 in
theorem ggL_law_X10_owner : GoodIn wsL_law wsX10_owner := goodIn_ch _ [(20, 13), (8, 8), (1, 8), (1, 4), (20, 14), (19, 9), (19, 10), (19, 11), (0, 2), (19, 12), (18, 16), (8, 9), (8, 10), (8, 11), (12, 15), (12, 16), (12, 17), (20, 15), (20, 16), (20, 17), (1, 7), (20, 18), (19, 20), (4, 6), (4, 4), (4, 2), (4, 3), (20, 19), (20, 20), (20, 21), (20, 22), (4, 1), (4, 5), (48, 0), (48, 1), (48, 2), (48, 3), (48, 4), (48, 5), (48, 6), (48, 7), (48, 8), (48, 9), (48, 10), (48, 11), (48, 12), (48, 13), (52, 0), (52, 1), (52, 2), (52, 3), (52, 4), (52, 5), (53, 0), (53, 1), (53, 2), (53, 3), (53, 4), (53, 5), (53, 6)] rfl (by decide +kernel)
set_option maxRecDepth 20000 in
theorem gL_law_X10_owner : GoodIn wsL_law (wsV RL 74 RX10 yX10_owner wsX10_owner) := goodIn_app (goodIn_ch _ [(20, 10), (20, 11), (20, 12), (0, 2)] rfl (by decide +kernel)) ggL_law_X10_owner
set_option maxRecDepth 20000 in
theorem ggL_law_X11_owner : GoodIn wsL_law wsX11_owner := goodIn_ch _ [(21, 2), (9, 6), (9, 8), (20, 6), (20, 7), (20, 8), (0, 5), (20, 9), (19, 3), (9, 14), (9, 15), (9, 16), (13, 18), (13, 19), (13, 20), (13, 21), (21, 3), (21, 4), (21, 5), (21, 6), (6, 20), (21, 7), (8, 2), (20, 5), (6, 22), (7, 2), (7, 1), (6, 23), (7, 0), (49, 0), (49, 1), (49, 2), (49, 3), (49, 4), (49, 5), (49, 6), (49, 7), (49, 8), (49, 9), (49, 10), (49, 11), (49, 12), (49, 13), (49, 14), (49, 15), (49, 16), (49, 17), (49, 18), (49, 19), (49, 20), (49, 21), (49, 22), (49, 23), (49, 24), (49, 25), (49, 26), (49, 27), (49, 28), (49, 29), (49, 30), (49, 31), (49, 32), (49, 33), (49, 34), (49, 35), (49, 36), (49, 37), (49, 38), (49, 39), (49, 40), (49, 41), (49, 42), (49, 43), (49, 44), (49, 45), (49, 46), (49, 47), (49, 48), (49, 49), (49, 50), (49, 51), (49, 52), (49, 53), (49, 54), (49, 55), (49, 56), (49, 57), (49, 58), (49, 59), (49, 60), (49, 61), (49, 62), (49, 63)] rfl (by decide +kernel)
set_option maxRecDepth 20000 in
theorem gL_law_X11_owner : GoodIn wsL_law (wsV RL 77 RX11 yX11_owner wsX11_owner) := goodIn_app (goodIn_ch _ [(20, 23), (21, 0), (21, 1), (0, 5)] rfl (by decide +kernel)) ggL_law_X11_owner
theorem dL_law_714 : decode cL_law 714 = .ok (.aload_n 1, 1) := dL_law_all38.2.2.2.2.2.2.1
theorem dL_law_715 : decode cL_law 715 = .ok (.aload_n 0, 1) := dL_law_all38.2.2.2.2.2.2.2.1
theorem dL_law_716 : decode cL_law 716 = .ok (.iload_n 3, 1) := dL_law_all38.2.2.2.2.2.2.2.2.1
theorem dL_law_717 : decode cL_law 717 = .ok (.iconst 1, 1) := dL_law_all38.2.2.2.2.2.2.2.2.2.1
theorem dL_law_718 : decode cL_law 718 = .ok (.iadd, 1) := dL_law_all38.2.2.2.2.2.2.2.2.2.2.1
theorem dL_law_719 : decode cL_law 719 = .ok (.iaload, 1) := dL_law_all38.2.2.2.2.2.2.2.2.2.2.2
theorem dL_law_all39 : decode cL_law 720 = .ok (.aload_n 0, 1) ∧ decode cL_law 721 = .ok (.iload_n 3, 1) ∧ decode cL_law 722 = .ok (.iconst 2, 1) ∧ decode cL_law 723 = .ok (.iadd, 1) ∧ decode cL_law 724 = .ok (.iaload, 1) ∧ decode cL_law 725 = .ok (.aload_n 0, 1) ∧ decode cL_law 726 = .ok (.iload_n 3, 1) ∧ decode cL_law 727 = .ok (.iconst 3, 1) ∧ decode cL_law 728 = .ok (.iadd, 1) ∧ decode cL_law 729 = .ok (.iaload, 1) ∧ decode cL_law 730 = .ok (.invokevirtual 74, 3) ∧ decode cL_law 733 = .ok (.pop, 1) := by decide +kernel
theorem dL_law_720 : decode cL_law 720 = .ok (.aload_n 0, 1) := dL_law_all39.1
theorem dL_law_721 : decode cL_law 721 = .ok (.iload_n 3, 1) := dL_law_all39.2.1
theorem dL_law_722 : decode cL_law 722 = .ok (.iconst 2, 1) := dL_law_all39.2.2.1
theorem dL_law_723 : decode cL_law 723 = .ok (.iadd, 1) := dL_law_all39.2.2.2.1
theorem dL_law_724 : decode cL_law 724 = .ok (.iaload, 1) := dL_law_all39.2.2.2.2.1
theorem dL_law_725 : decode cL_law 725 = .ok (.aload_n 0, 1) := dL_law_all39.2.2.2.2.2.1
theorem dL_law_726 : decode cL_law 726 = .ok (.iload_n 3, 1) := dL_law_all39.2.2.2.2.2.2.1
theorem dL_law_727 : decode cL_law 727 = .ok (.iconst 3, 1) := dL_law_all39.2.2.2.2.2.2.2.1
theorem dL_law_728 : decode cL_law 728 = .ok (.iadd, 1) := dL_law_all39.2.2.2.2.2.2.2.2.1
theorem dL_law_729 : decode cL_law 729 = .ok (.iaload, 1) := dL_law_all39.2.2.2.2.2.2.2.2.2.1
theorem dL_law_730 : decode cL_law 730 = .ok (.invokevirtual 74, 3) := dL_law_all39.2.2.2.2.2.2.2.2.2.2.1
theorem dL_law_733 : decode cL_law 733 = .ok (.pop, 1) := dL_law_all39.2.2.2.2.2.2.2.2.2.2.2
theorem dL_law_all40 : decode cL_law 734 = .ok (.aload_n 2, 1) ∧ decode cL_law 735 = .ok (.aload_n 0, 1) ∧ decode cL_law 736 = .ok (.iload_n 3, 1) ∧ decode cL_law 737 = .ok (.iconst 1, 1) ∧ decode cL_law 738 = .ok (.iadd, 1) ∧ decode cL_law 739 = .ok (.iaload, 1) ∧ decode cL_law 740 = .ok (.aload_n 0, 1) ∧ decode cL_law 741 = .ok (.iload_n 3, 1) ∧ decode cL_law 742 = .ok (.iconst 2, 1) ∧ decode cL_law 743 = .ok (.iadd, 1) ∧ decode cL_law 744 = .ok (.iaload, 1) ∧ decode cL_law 745 = .ok (.aload_n 0, 1) := by decide +kernel
theorem dL_law_734 : decode cL_law 734 = .ok (.aload_n 2, 1) := dL_law_all40.1
theorem dL_law_735 : decode cL_law 735 = .ok (.aload_n 0, 1) := dL_law_all40.2.1
theorem dL_law_736 : decode cL_law 736 = .ok (.iload_n 3, 1) := dL_law_all40.2.2.1
theorem dL_law_737 : decode cL_law 737 = .ok (.iconst 1, 1) := dL_law_all40.2.2.2.1
theorem dL_law_738 : decode cL_law 738 = .ok (.iadd, 1) := dL_law_all40.2.2.2.2.1
theorem dL_law_739 : decode cL_law 739 = .ok (.iaload, 1) := dL_law_all40.2.2.2.2.2.1
theorem dL_law_740 : decode cL_law 740 = .ok (.aload_n 0, 1) := dL_law_all40.2.2.2.2.2.2.1
theorem dL_law_741 : decode cL_law 741 = .ok (.iload_n 3, 1) := dL_law_all40.2.2.2.2.2.2.2.1
theorem dL_law_742 : decode cL_law 742 = .ok (.iconst 2, 1) := dL_law_all40.2.2.2.2.2.2.2.2.1
theorem dL_law_743 : decode cL_law 743 = .ok (.iadd, 1) := dL_law_all40.2.2.2.2.2.2.2.2.2.1
theorem dL_law_744 : decode cL_law 744 = .ok (.iaload, 1) := dL_law_all40.2.2.2.2.2.2.2.2.2.2.1
theorem dL_law_745 : decode cL_law 745 = .ok (.aload_n 0, 1) := dL_law_all40.2.2.2.2.2.2.2.2.2.2.2
theorem dL_law_all41 : decode cL_law 746 = .ok (.iload_n 3, 1) ∧ decode cL_law 747 = .ok (.iconst 3, 1) ∧ decode cL_law 748 = .ok (.iadd, 1) ∧ decode cL_law 749 = .ok (.iaload, 1) ∧ decode cL_law 750 = .ok (.invokevirtual 77, 3) ∧ decode cL_law 753 = .ok (.pop, 1) ∧ decode cL_law 754 = .ok (.goto 898, 3) ∧ decode cL_law 757 = .ok (.aload_n 1, 1) ∧ decode cL_law 758 = .ok (.aload_n 0, 1) ∧ decode cL_law 759 = .ok (.iload_n 3, 1) ∧ decode cL_law 760 = .ok (.iconst 1, 1) ∧ decode cL_law 761 = .ok (.iadd, 1) := by decide +kernel
theorem dL_law_746 : decode cL_law 746 = .ok (.iload_n 3, 1) := dL_law_all41.1
theorem dL_law_747 : decode cL_law 747 = .ok (.iconst 3, 1) := dL_law_all41.2.1
theorem dL_law_748 : decode cL_law 748 = .ok (.iadd, 1) := dL_law_all41.2.2.1
theorem dL_law_749 : decode cL_law 749 = .ok (.iaload, 1) := dL_law_all41.2.2.2.1
theorem dL_law_750 : decode cL_law 750 = .ok (.invokevirtual 77, 3) := dL_law_all41.2.2.2.2.1
theorem dL_law_753 : decode cL_law 753 = .ok (.pop, 1) := dL_law_all41.2.2.2.2.2.1
theorem dL_law_754 : decode cL_law 754 = .ok (.goto 898, 3) := dL_law_all41.2.2.2.2.2.2.1
set_option maxHeartbeats 4000000 in
set_option maxRecDepth 100000 in
theorem law_case_12 {p : Program} {l : Launch} {e : Env} {s : State} {m : MethodId} {below : List Frame} {meth : Method} {c : Code} {D : va_G} {cI cY cJ cQ : ClassId} {b L aK aV : Nat} {xs : Nat → Int32} {ad rw md : Nat → Nat} {sd i : Int32} {nx : Nat → Int32} {fx rs : Nat → Nat → Int32} {lo : Nat → Int64} {ny : Nat → Int32} {fy : Nat → Nat → Int32} {fl : Nat → Int64} {H : Heap} {locs : List Loc} {ls : Array Slot} (C0 : lawC p s m meth c b L xs D cI cY cJ cQ aK aV) (I : inv nx fx ny fy) (hP : va_P D vwCl (wX ad rw sd cI cY cJ cQ nx fx rs lo ++ wM md sd cI cY cJ cQ ny fy fl) H) (hD : va_D (fun q : Nat => s.heap.size ≤ q) (wX ad rw sd cI cY cJ cQ nx fx rs lo ++ wM md sd cI cY cJ cQ ny fy fl)) (hS : va_S (fun q : Nat => s.heap.size ≤ q) s.heap H locs) (hl : lv_has ls 4 [(0, .ref b), (1, .ref (ad 0)), (2, .ref (md 64)), (3, .int i)]) (hi1 : 1 ≤ i.toInt) (hi2 : i.toInt + 5 < L) (kk : ∀ (nx : Nat → Int32) (fx rs : Nat → Nat → Int32) (lo : Nat → Int64) (ny : Nat → Int32) (fy : Nat → Nat → Int32) (fl : Nat → Int64) (H : Heap) (locs : List Loc) (ls : Array Slot), inv nx fx ny fy → va_P D vwCl (wX ad rw sd cI cY cJ cQ nx fx rs lo ++ wM md sd cI cY cJ cQ ny fy fl) H → va_D (fun q : Nat => s.heap.size ≤ q) (wX ad rw sd cI cY cJ cQ nx fx rs lo ++ wM md sd cI cY cJ cQ ny fy fl) → va_S (fun q : Nat => s.heap.size ≤ q) s.heap H locs → lv_has ls 4 [(0, .ref b), (1, .ref (ad 0)), (2, .ref (md 64)), (3, .int i)] → W p l e room_1 s m #[Value.ref b] below meth c H locs 107 4890 (lw_Z below #[Value.ref b] s) (F0 m 1652 ls [])) : W p l e room_1 s m #[Value.ref b] below meth c H locs 107 4890 (lw_Z below #[Value.ref b] s) (F0 m 714 ls []) := by
  obtain ⟨C1, hK, hN, hT, hL⟩ := C0
  obtain ⟨hx, hb, hr, hml, hown, hts0, hX, hbl, hlocks, hgv⟩ := C1
  have hA : ∀ q : Nat, s.heap.size ≤ q → (fun q : Nat => s.heap.size ≤ q) q := fun _ h => h
  have hbA : ¬ (fun q : Nat => s.heap.size ≤ q) b := Nat.not_le.mpr hbl
  have hts : ∀ w ∈ wsL_law, w.before #[Value.ref b] s = true := fun w h => hts0 w (wsL_law_in w h)
  replace hown : s.vm.findClass RL = some m.cls := hown
  replace hb : c.code = cL_law := hb
  obtain ⟨Xhna, Xhnb, XH, Xcna, Xcnb, Xpna, Xpnb, XO, Xgna, Xgnb, Xlna, Xlnb, Xdla, Xdlb, Xana, Xanb, Xuna, Xunb, Xlca, Xlcb, Xtna, Xtnb, XS, Mhna, Mhnb, MH, MS, Mmlna, Mmlnb, Mmtna, Mmtnb, Ccn, Cfo, Cwo, Cpn, Cpk, Cpf, Cpo, Cpd, Cpe, Cgn, Cgk, Cgs, Cgd, Cge, Can, Cak, Cah, Cay, Caz, Cun, Cuk, Cuy, Cuw, Cum, Clc, Clp, Cla, Clb, Caw, Ciw, Cln, Ctd⟩ := I
  have Tcn := i_eq Ccn
  have Tpn := i_eq Cpn
  have Tgn := i_eq Cgn
  have Tan := i_eq Can
  have Tun := i_eq Cun
  have Tlc := i_eq Clc
  have Tln := i_eq Cln
  have k1 : (1 : Int32).toInt = 1 := by decide
  have k2 : (2 : Int32).toInt = 2 := by decide
  have k3 : (3 : Int32).toInt = 3 := by decide
  obtain ⟨xk1, exk1⟩ : ∃ y : Int32, y = xs (i.toNatClampNeg + 1) := ⟨_, rfl⟩
  obtain ⟨xk2, exk2⟩ : ∃ y : Int32, y = xs (i.toNatClampNeg + 2) := ⟨_, rfl⟩
  obtain ⟨xk3, exk3⟩ : ∃ y : Int32, y = xs (i.toNatClampNeg + 3) := ⟨_, rfl⟩
  refine lv_aload_n hx hb dL_law_714 rfl (lv_at hl 1 rfl) ?_
  refine lv_aload_n hx hb dL_law_715 rfl (lv_at hl 0 rfl) ?_
  refine lv_iload_n hx hb dL_law_716 rfl (lv_at hl 3 rfl) ?_
  refine lv_iconst (v := 1) hx hb dL_law_717 (by decide) ?_
  refine lv_iadd hx hb dL_law_718 ?_
  refine lv_topi (fun v1 ev1 => ?_)
  try have tv1 : v1.toInt = i.toInt + 1 := by rw [ev1]; exact (i_add (x := i) (y := (1 : Int32)) (by rw [k1]; omega) (by rw [k1]; omega)).trans (by rw [k1])
  refine va_sld hx hb hX hbl hbA hS (i_in (by omega) (by omega)) dL_law_719 ?_
  refine lv_topi (fun a2 ea2 => ?_)
  replace ea2 : xk1 = a2 := (ea2.trans (by rw [exk1]; congr 1; have := i_cl (x := v1) (by omega); have := i_cl (x := i) (by omega); omega)).symm
  subst ea2
  refine lv_aload_n hx hb dL_law_720 rfl (lv_at hl 0 rfl) ?_
  refine lv_iload_n hx hb dL_law_721 rfl (lv_at hl 3 rfl) ?_
  refine lv_iconst (v := 2) hx hb dL_law_722 (by decide) ?_
  refine lv_iadd hx hb dL_law_723 ?_
  refine lv_topi (fun v3 ev3 => ?_)
  try have tv3 : v3.toInt = i.toInt + 2 := by rw [ev3]; exact (i_add (x := i) (y := (2 : Int32)) (by rw [k2]; omega) (by rw [k2]; omega)).trans (by rw [k2])
  refine va_sld hx hb hX hbl hbA hS (i_in (by omega) (by omega)) dL_law_724 ?_
  refine lv_topi (fun a4 ea4 => ?_)
  replace ea4 : xk2 = a4 := (ea4.trans (by rw [exk2]; congr 1; have := i_cl (x := v3) (by omega); have := i_cl (x := i) (by omega); omega)).symm
  subst ea4
  refine lv_aload_n hx hb dL_law_725 rfl (lv_at hl 0 rfl) ?_
  refine lv_iload_n hx hb dL_law_726 rfl (lv_at hl 3 rfl) ?_
  refine lv_iconst (v := 3) hx hb dL_law_727 (by decide) ?_
  refine lv_iadd hx hb dL_law_728 ?_
  refine lv_topi (fun v5 ev5 => ?_)
  try have tv5 : v5.toInt = i.toInt + 3 := by rw [ev5]; exact (i_add (x := i) (y := (3 : Int32)) (by rw [k3]; omega) (by rw [k3]; omega)).trans (by rw [k3])
  refine va_sld hx hb hX hbl hbA hS (i_in (by omega) (by omega)) dL_law_729 ?_
  refine lv_topi (fun a6 ea6 => ?_)
  replace ea6 : xk3 = a6 := (ea6.trans (by rw [exk3]; congr 1; have := i_cl (x := v5) (by omega); have := i_cl (x := i) (by omega); omega)).symm
  subst ea6
  refine st_iQ (wr := [((ad 11), .inl (cI, 16, .inl (fx 0))), ((rw 0), .inl (cI, 60, .inl (rs 0))), ((rw 1), .inl (cI, 60, .inl (rs 1))), ((rw 2), .inl (cI, 60, .inl (rs 2))), ((rw 3), .inl (cI, 60, .inl (rs 3))), ((rw 4), .inl (cI, 60, .inl (rs 4))), ((rw 5), .inl (cI, 60, .inl (rs 5))), ((rw 6), .inl (cI, 60, .inl (rs 6))), ((rw 7), .inl (cI, 60, .inl (rs 7))), ((ad 1), .inr (9, [.ref (ad 12), .ref (ad 13), .ref (ad 14)])), ((ad 12), .inl (cQ, 8, .inr (.inr (.inr (.inr (fun i => if i < 8 then some (rw i) else none)))))), ((ad 13), .inl (cI, 8, .inl (fx 1))), ((ad 14), .inl (cI, 8, .inl (fx 2))), ((ad 2), .inr (3, [.ref (ad 23), .ref (ad 24), .ref (ad 25), .ref (ad 26), .int (nx 3), .ref (ad 27), .ref (ad 28), .ref (ad 29), .ref (ad 30)])), ((ad 23), .inl (cI, 40, .inl (fx 3))), ((ad 24), .inl (cI, 40, .inl (fx 4))), ((ad 25), .inl (cI, 40, .inl (fx 5))), ((ad 26), .inl (cI, 40, .inl (fx 6))), ((ad 27), .inl (cI, 200, .inl (fx 7))), ((ad 28), .inl (cI, 200, .inl (fx 8))), ((ad 29), .inl (cI, 20, .inl (fx 9))), ((ad 30), .inl (cI, 10, .inl (fx 10))), ((ad 32), .inl (cI, 12, .inl (fx 12))), ((ad 33), .inl (cI, 12, .inl (fx 13))), ((ad 34), .inl (cI, 6, .inl (fx 14))), ((ad 35), .inl (cI, 6, .inl (fx 15))), ((ad 5), .inr (8, [.ref (ad 42), .ref (ad 43), .ref (ad 44), .ref (ad 45), .int (nx 6), .ref (ad 46)])), ((ad 42), .inl (cI, 40, .inl (fx 22))), ((ad 43), .inl (cI, 40, .inl (fx 23))), ((ad 44), .inl (cI, 40, .inl (fx 24))), ((ad 45), .inl (cI, 40, .inl (fx 25))), ((ad 46), .inl (cI, 40, .inl (fx 26))), ((ad 6), .inr (2, [.ref (ad 47), .int (nx 7), .int (nx 8), .ref (ad 48), .ref (ad 49), .ref (ad 50), .int (nx 9), .ref (ad 51), .ref (ad 52), .ref (ad 53), .int (nx 10), .int (nx 11), .int (nx 12), .int (nx 13), .int (nx 14)])), ((ad 47), .inl (cY, 300, .inl (fx 27))), ((ad 48), .inl (cI, 12, .inl (fx 28))), ((ad 49), .inl (cI, 12, .inl (fx 29))), ((ad 50), .inl (cI, 12, .inl (fx 30))), ((ad 51), .inl (cI, 12, .inl (fx 31))), ((ad 52), .inl (cI, 12, .inl (fx 32))), ((ad 53), .inl (cI, 12, .inl (fx 33))), ((ad 7), .inr (0, [.ref (ad 54), .ref (ad 55), .ref (ad 56), .ref (ad 57), .int (nx 15)])), ((ad 54), .inl (cI, 60, .inl (fx 34))), ((ad 55), .inl (cI, 60, .inl (fx 35))), ((ad 56), .inl (cI, 60, .inl (fx 36))), ((ad 57), .inl (cI, 60, .inl (fx 37))), ((ad 8), .inr (5, [.int sd, .ref (ad 58)])), ((ad 58), .inl (cJ, 12, .inr (.inl lo))), ((ad 9), .inr (6, [.ref (ad 59), .ref (ad 60), .ref (ad 61), .ref (ad 62), .int (nx 16)])), ((ad 59), .inl (cI, 60, .inl (fx 38))), ((ad 60), .inl (cI, 60, .inl (fx 39))), ((ad 61), .inl (cI, 60, .inl (fx 40))), ((ad 62), .inl (cI, 60, .inl (fx 41))), ((ad 10), .inr (4, [.ref (ad 63), .ref (ad 64), .ref (ad 65), .int (nx 17)])), ((ad 63), .inl (cI, 20, .inl (fx 42))), ((ad 64), .inl (cI, 20, .inl (fx 43))), ((ad 65), .inl (cI, 20, .inl (fx 44)))]) (va_runV (C := RX10) (As := [.int xk1, .int xk2, .int xk3]) (rest := []) ⟨hx, hb, hml, hown, hts⟩ (ct_X10_owner l D cI cY cJ cQ _ ad (nx 0) (nx 1) (nx 2) (nx 4) (nx 5) (fx 11) (fx 16) (fx 17) (fx 18) (fx 19) (fx 20) (fx 21) xk1 xk2 xk3 (by omega) (by omega) (by omega) (by omega) (by assumption)) (cwV 3 hts gL_law_X10_owner rfl rfl rfl ⟨rfl, cdX10_owner⟩ ⟨Nat.le_of_ble_eq_true rfl, Nat.le_of_ble_eq_true rfl⟩) (cPreV (hP.sub [0, 23, 24, 29, 30, 31, 32, 33, 34, 35] rfl) hK (hD.sub [0, 23, 24, 29, 30, 31, 32, 33, 34, 35] (by decide +kernel) rfl) hN (ci := 10) (q0 := 0) rfl rfl) rfl rfl hl.1 rfl (lv_room (Nat.le_of_ble_eq_true rfl)) dL_law_730 ⟨Nat.le_of_ble_eq_true rfl, Nat.le_of_ble_eq_true rfl⟩) hP hD hS hA [0, 23, 24, 29, 30, 31, 32, 33, 34, 35] [1, 2, 3, 4, 5, 6, 7, 8, 9, 10, 11, 12, 13, 14, 15, 16, 17, 18, 19, 20, 21, 22, 25, 26, 27, 28, 36, 37, 38, 39, 40, 41, 42, 43, 44, 45, 46, 47, 48, 49, 50, 51, 52, 53, 54, 55, 56, 57, 58, 59, 60, 61, 62, 63, 64, 65] rfl rfl (by decide +kernel) (by decide +kernel) (fun r9 u7 H locs hw8 hP hD hS => ?_)
  replace hw8 : True := hw8
  refine lv_pop hx hb dL_law_733 rfl ?_
  have hPx : va_P D vwCl (wX ad rw sd cI cY cJ cQ nx fx rs lo ++ wM md sd cI cY cJ cQ ny fy fl) H := hP.part [56, 0, 1, 2, 3, 4, 5, 6, 7, 8, 9, 10, 11, 12, 13, 14, 15, 16, 17, 18, 19, 20, 21, 57, 58, 22, 23, 24, 25, 59, 60, 61, 62, 63, 64, 65, 26, 27, 28, 29, 30, 31, 32, 33, 34, 35, 36, 37, 38, 39, 40, 41, 42, 43, 44, 45, 46, 47, 48, 49, 50, 51, 52, 53, 54, 55] rfl
  have hDx : va_D (fun q : Nat => s.heap.size ≤ q) (wX ad rw sd cI cY cJ cQ nx fx rs lo ++ wM md sd cI cY cJ cQ ny fy fl) := hD.part [56, 0, 1, 2, 3, 4, 5, 6, 7, 8, 9, 10, 11, 12, 13, 14, 15, 16, 17, 18, 19, 20, 21, 57, 58, 22, 23, 24, 25, 59, 60, 61, 62, 63, 64, 65, 26, 27, 28, 29, 30, 31, 32, 33, 34, 35, 36, 37, 38, 39, 40, 41, 42, 43, 44, 45, 46, 47, 48, 49, 50, 51, 52, 53, 54, 55] (by decide +kernel) rfl
  have hP := hPx.comm
  have hD := hDx.comm
  refine lv_aload_n hx hb dL_law_734 rfl (lv_at hl 2 rfl) ?_
  refine lv_aload_n hx hb dL_law_735 rfl (lv_at hl 0 rfl) ?_
  refine lv_iload_n hx hb dL_law_736 rfl (lv_at hl 3 rfl) ?_
  refine lv_iconst (v := 1) hx hb dL_law_737 (by decide) ?_
  refine lv_iadd hx hb dL_law_738 ?_
  refine lv_topi (fun v10 ev10 => ?_)
  try have tv10 : v10.toInt = i.toInt + 1 := by rw [ev10]; exact (i_add (x := i) (y := (1 : Int32)) (by rw [k1]; omega) (by rw [k1]; omega)).trans (by rw [k1])
  refine va_sld hx hb hX hbl hbA hS (i_in (by omega) (by omega)) dL_law_739 ?_
  refine lv_topi (fun a11 ea11 => ?_)
  replace ea11 : xk1 = a11 := (ea11.trans (by rw [exk1]; congr 1; have := i_cl (x := v10) (by omega); have := i_cl (x := i) (by omega); omega)).symm
  subst ea11
  refine lv_aload_n hx hb dL_law_740 rfl (lv_at hl 0 rfl) ?_
  refine lv_iload_n hx hb dL_law_741 rfl (lv_at hl 3 rfl) ?_
  refine lv_iconst (v := 2) hx hb dL_law_742 (by decide) ?_
  refine lv_iadd hx hb dL_law_743 ?_
  refine lv_topi (fun v12 ev12 => ?_)
  try have tv12 : v12.toInt = i.toInt + 2 := by rw [ev12]; exact (i_add (x := i) (y := (2 : Int32)) (by rw [k2]; omega) (by rw [k2]; omega)).trans (by rw [k2])
  refine va_sld hx hb hX hbl hbA hS (i_in (by omega) (by omega)) dL_law_744 ?_
  refine lv_topi (fun a13 ea13 => ?_)
  replace ea13 : xk2 = a13 := (ea13.trans (by rw [exk2]; congr 1; have := i_cl (x := v12) (by omega); have := i_cl (x := i) (by omega); omega)).symm
  subst ea13
  refine lv_aload_n hx hb dL_law_745 rfl (lv_at hl 0 rfl) ?_
  refine lv_iload_n hx hb dL_law_746 rfl (lv_at hl 3 rfl) ?_
  refine lv_iconst (v := 3) hx hb dL_law_747 (by decide) ?_
  refine lv_iadd hx hb dL_law_748 ?_
  refine lv_topi (fun v14 ev14 => ?_)
  try have tv14 : v14.toInt = i.toInt + 3 := by rw [ev14]; exact (i_add (x := i) (y := (3 : Int32)) (by rw [k3]; omega) (by rw [k3]; omega)).trans (by rw [k3])
  refine va_sld hx hb hX hbl hbA hS (i_in (by omega) (by omega)) dL_law_749 ?_
  refine lv_topi (fun a15 ea15 => ?_)
  replace ea15 : xk3 = a15 := (ea15.trans (by rw [exk3]; congr 1; have := i_cl (x := v14) (by omega); have := i_cl (x := i) (by omega); omega)).symm
  subst ea15
  refine st_iQ (wr := [((md 3), .inl (cI, 8, .inl (fy 0))), ((md 4), .inl (cI, 8, .inl (fy 1))), ((md 5), .inl (cI, 480, .inl (fy 2))), ((md 7), .inl (cI, 40, .inl (fy 3))), ((md 8), .inl (cI, 40, .inl (fy 4))), ((md 9), .inl (cI, 40, .inl (fy 5))), ((md 10), .inl (cI, 40, .inl (fy 6))), ((md 11), .inl (cI, 200, .inl (fy 7))), ((md 12), .inl (cI, 12, .inl (fy 8))), ((md 13), .inl (cI, 12, .inl (fy 9))), ((md 14), .inl (cJ, 12, .inr (.inl fl))), ((md 17), .inl (cI, 12, .inl (fy 11))), ((md 26), .inl (cI, 40, .inl (fy 17))), ((md 27), .inl (cI, 40, .inl (fy 18))), ((md 28), .inl (cI, 40, .inl (fy 19))), ((md 29), .inl (cI, 40, .inl (fy 20))), ((md 31), .inl (cI, 36, .inl (fy 21))), ((md 33), .inl (cI, 36, .inl (fy 22))), ((md 34), .inl (cI, 300, .inl (fy 23))), ((md 45), .inl (cI, 60, .inl (fy 24))), ((md 46), .inl (cI, 60, .inl (fy 25))), ((md 47), .inl (cI, 60, .inl (fy 26))), ((md 48), .inl (cI, 60, .inl (fy 27))), ((md 49), .inl (cI, 6, .inl (fy 28))), ((md 50), .inl (cI, 6, .inl (fy 29))), ((md 51), .inl (cI, 12, .inl (fy 30))), ((md 53), .inl (cI, 60, .inl (fy 31))), ((md 54), .inl (cI, 60, .inl (fy 32))), ((md 55), .inl (cI, 60, .inl (fy 33))), ((md 56), .inl (cI, 60, .inl (fy 34))), ((md 58), .inl (cI, 20, .inl (fy 35))), ((md 59), .inl (cI, 20, .inl (fy 36))), ((md 60), .inl (cI, 20, .inl (fy 37))), ((md 62), .inl (cI, 16, .inl (fy 38)))]) (va_runV (C := RX11) (As := [.int xk1, .int xk2, .int xk3]) (rest := []) ⟨hx, hb, hml, hown, hts⟩ (ct_X11_owner l D cI cY cJ cQ _ md sd (ny 0) (ny 1) (ny 2) (ny 3) (ny 4) (ny 5) (ny 6) (ny 7) (ny 8) (ny 9) (ny 10) (ny 11) (ny 12) (ny 13) (ny 14) (ny 15) (ny 16) (ny 17) (ny 18) (ny 19) (ny 20) (ny 21) (ny 22) (fy 10) (fy 12) (fy 13) (fy 14) (fy 15) (fy 16) xk1 xk2 xk3 (by omega) (by omega) (by omega) (by omega)) (cwV 3 hts gL_law_X11_owner rfl rfl rfl ⟨rfl, cdX11_owner⟩ ⟨Nat.le_of_ble_eq_true rfl, Nat.le_of_ble_eq_true rfl⟩) (cPreV (hP.sub [0, 12, 14, 15, 16, 17, 18] rfl) hK (hD.sub [0, 12, 14, 15, 16, 17, 18] (by decide +kernel) rfl) hN (ci := 11) (q0 := 0) rfl rfl) rfl rfl hl.1 rfl (lv_room (Nat.le_of_ble_eq_true rfl)) dL_law_750 ⟨Nat.le_of_ble_eq_true rfl, Nat.le_of_ble_eq_true rfl⟩) hP hD hS hA [0, 12, 14, 15, 16, 17, 18] [1, 2, 3, 4, 5, 6, 7, 8, 9, 10, 11, 13, 19, 20, 21, 22, 23, 24, 25, 26, 27, 28, 29, 30, 31, 32, 33, 34, 35, 36, 37, 38, 39, 40] rfl rfl (by decide +kernel) (by decide +kernel) (fun r18 u16 H locs hw17 hP hD hS => ?_)
  replace hw17 : True := hw17
  refine lv_pop hx hb dL_law_753 rfl ?_
  refine lv_goto (tgt := 1652) hx hb dL_law_754 (by decide) ?_
  have hPm : va_P D vwCl (wM md sd cI cY cJ cQ (upd (upd ny 0 0) 5 u16) fy fl ++ wX ad rw sd cI cY cJ cQ nx fx rs lo) H := hP.part [34, 0, 1, 2, 3, 4, 5, 6, 7, 8, 9, 10, 35, 11, 36, 37, 38, 39, 40, 12, 13, 14, 15, 16, 17, 18, 19, 20, 21, 22, 23, 24, 25, 26, 27, 28, 29, 30, 31, 32, 33] rfl
  have hDm : va_D (fun q : Nat => s.heap.size ≤ q) (wM md sd cI cY cJ cQ (upd (upd ny 0 0) 5 u16) fy fl ++ wX ad rw sd cI cY cJ cQ nx fx rs lo) := hD.part [34, 0, 1, 2, 3, 4, 5, 6, 7, 8, 9, 10, 35, 11, 36, 37, 38, 39, 40, 12, 13, 14, 15, 16, 17, 18, 19, 20, 21, 22, 23, 24, 25, 26, 27, 28, 29, 30, 31, 32, 33] (by decide +kernel) rfl
  exact kk nx fx rs lo (upd (upd ny 0 0) 5 u16) fy fl H locs ls ⟨Xhna, Xhnb, XH, Xcna, Xcnb, Xpna, Xpnb, XO, Xgna, Xgnb, Xlna, Xlnb, Xdla, Xdlb, Xana, Xanb, Xuna, Xunb, Xlca, Xlcb, Xtna, Xtnb, XS, Mhna, Mhnb, MH, MS, Mmlna, Mmlnb, Mmtna, Mmtnb, Ccn, Cfo, Cwo, Cpn, Cpk, Cpf, Cpo, Cpd, Cpe, Cgn, Cgk, Cgs, Cgd, Cge, Can, Cak, Cah, Cay, Caz, Cun, Cuk, Cuy, Cuw, Cum, Clc, Clp, Cla, Clb, Caw, Ciw, Cln, Ctd⟩ hPm.comm hDm.comm hS hl
