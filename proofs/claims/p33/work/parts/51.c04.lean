theorem cdX10_hold : yX10_hold.cls ≠ "java/lang/invoke/MethodHandle" ∧ yX10_hold.cls ≠ "java/lang/invoke/VarHandle" ∧ (parseMethodDescriptor yX10_hold.desc).map (fun d => d.parameters.length) = some 4 := by decide +kernel
theorem cdX11_hold : yX11_hold.cls ≠ "java/lang/invoke/MethodHandle" ∧ yX11_hold.cls ≠ "java/lang/invoke/VarHandle" ∧ (parseMethodDescriptor yX11_hold.desc).map (fun d => d.parameters.length) = some 4 := by decide +kernel
set_option maxRecDepth 20000 in
theorem ggL_law_X10_hold : GoodIn wsL_law wsX10_hold := goodIn_ch _ [(12, 0), (8, 8), (1, 0), (12, 1), (12, 2), (12, 3), (12, 4), (0, 2), (12, 5), (12, 6), (12, 7), (12, 8), (8, 9), (8, 10), (8, 11), (12, 9), (12, 10), (12, 11), (12, 12), (12, 13), (12, 14), (12, 15), (12, 16), (12, 17), (12, 18), (12, 19), (12, 20), (0, 23), (12, 21), (3, 2), (12, 22), (3, 3), (3, 4), (3, 5), (48, 0), (48, 1), (48, 2), (48, 3), (48, 4), (48, 5), (48, 6), (48, 7), (48, 8), (48, 9), (48, 10), (48, 11), (48, 12), (48, 13), (51, 0), (51, 1), (51, 2), (51, 3), (51, 4), (51, 5), (51, 6), (51, 7), (51, 8)] rfl (by decide +kernel)
set_option maxRecDepth 20000 in
theorem gL_law_X10_hold : GoodIn wsL_law (wsV RL 40 RX10 yX10_hold wsX10_hold) := goodIn_app (goodIn_ch _ [(11, 21), (11, 22), (11, 23), (0, 2)] rfl (by decide +kernel)) ggL_law_X10_hold
set_option maxRecDepth 20000 in
theorem ggL_law_X11_hold : GoodIn wsL_law wsX11_hold := goodIn_ch _ [(13, 2), (9, 6), (13, 3), (13, 4), (13, 5), (0, 5), (13, 6), (13, 7), (9, 8), (13, 8), (13, 9), (6, 12), (6, 13), (6, 14), (6, 15), (13, 10), (13, 11), (13, 12), (13, 13), (9, 14), (9, 15), (9, 16), (13, 14), (13, 15), (13, 16), (13, 17), (13, 18), (13, 19), (13, 20), (13, 21), (49, 0), (49, 1), (49, 2), (49, 3), (49, 4), (49, 5), (49, 6), (49, 7), (49, 8), (49, 9), (49, 10), (49, 11), (49, 12), (49, 13), (49, 14), (49, 15), (49, 16), (49, 17), (49, 18), (49, 19), (49, 20), (49, 21), (49, 22), (49, 23), (49, 24), (49, 25), (49, 26), (49, 27), (49, 28), (49, 29), (49, 30), (49, 31), (49, 32), (49, 33), (49, 34), (49, 35), (49, 36), (49, 37), (49, 38), (49, 39), (49, 40), (49, 41), (49, 42), (49, 43), (49, 44), (49, 45), (49, 46), (49, 47), (49, 48), (49, 49), (49, 50), (49, 51), (49, 52), (49, 53), (49, 54), (49, 55), (49, 56), (49, 57), (49, 58), (49, 59), (49, 60), (49, 61), (49, 62), (49, 63)] rfl (by decide +kernel)
set_option maxRecDepth 20000 in
theorem gL_law_X11_hold : GoodIn wsL_law (wsV RL 44 RX11 yX11_hold wsX11_hold) := goodIn_app (goodIn_ch _ [(12, 23), (13, 0), (13, 1), (0, 5)] rfl (by decide +kernel)) ggL_law_X11_hold
theorem dL_law_380 : decode cL_law 380 = .ok (.aload_n 1, 1) := dL_law_all14.2.2.2.2.2.2.2.2.1
theorem dL_law_381 : decode cL_law 381 = .ok (.aload_n 0, 1) := dL_law_all14.2.2.2.2.2.2.2.2.2.1
theorem dL_law_382 : decode cL_law 382 = .ok (.iload_n 3, 1) := dL_law_all14.2.2.2.2.2.2.2.2.2.2.1
theorem dL_law_383 : decode cL_law 383 = .ok (.iconst 1, 1) := dL_law_all14.2.2.2.2.2.2.2.2.2.2.2
theorem dL_law_all15 : decode cL_law 384 = .ok (.iadd, 1) ∧ decode cL_law 385 = .ok (.iaload, 1) ∧ decode cL_law 386 = .ok (.aload_n 0, 1) ∧ decode cL_law 387 = .ok (.iload_n 3, 1) ∧ decode cL_law 388 = .ok (.iconst 2, 1) ∧ decode cL_law 389 = .ok (.iadd, 1) ∧ decode cL_law 390 = .ok (.iaload, 1) ∧ decode cL_law 391 = .ok (.aload_n 0, 1) ∧ decode cL_law 392 = .ok (.iload_n 3, 1) ∧ decode cL_law 393 = .ok (.iconst 3, 1) ∧ decode cL_law 394 = .ok (.iadd, 1) ∧ decode cL_law 395 = .ok (.iaload, 1) := by decide +kernel
theorem dL_law_384 : decode cL_law 384 = .ok (.iadd, 1) := dL_law_all15.1
theorem dL_law_385 : decode cL_law 385 = .ok (.iaload, 1) := dL_law_all15.2.1
theorem dL_law_386 : decode cL_law 386 = .ok (.aload_n 0, 1) := dL_law_all15.2.2.1
theorem dL_law_387 : decode cL_law 387 = .ok (.iload_n 3, 1) := dL_law_all15.2.2.2.1
theorem dL_law_388 : decode cL_law 388 = .ok (.iconst 2, 1) := dL_law_all15.2.2.2.2.1
theorem dL_law_389 : decode cL_law 389 = .ok (.iadd, 1) := dL_law_all15.2.2.2.2.2.1
theorem dL_law_390 : decode cL_law 390 = .ok (.iaload, 1) := dL_law_all15.2.2.2.2.2.2.1
theorem dL_law_391 : decode cL_law 391 = .ok (.aload_n 0, 1) := dL_law_all15.2.2.2.2.2.2.2.1
theorem dL_law_392 : decode cL_law 392 = .ok (.iload_n 3, 1) := dL_law_all15.2.2.2.2.2.2.2.2.1
theorem dL_law_393 : decode cL_law 393 = .ok (.iconst 3, 1) := dL_law_all15.2.2.2.2.2.2.2.2.2.1
theorem dL_law_394 : decode cL_law 394 = .ok (.iadd, 1) := dL_law_all15.2.2.2.2.2.2.2.2.2.2.1
theorem dL_law_395 : decode cL_law 395 = .ok (.iaload, 1) := dL_law_all15.2.2.2.2.2.2.2.2.2.2.2
theorem dL_law_all16 : decode cL_law 396 = .ok (.aload_n 0, 1) ∧ decode cL_law 397 = .ok (.iload_n 3, 1) ∧ decode cL_law 398 = .ok (.iconst 4, 1) ∧ decode cL_law 399 = .ok (.iadd, 1) ∧ decode cL_law 400 = .ok (.iaload, 1) ∧ decode cL_law 401 = .ok (.invokevirtual 40, 3) ∧ decode cL_law 404 = .ok (.pop, 1) ∧ decode cL_law 405 = .ok (.aload_n 2, 1) ∧ decode cL_law 406 = .ok (.aload_n 0, 1) ∧ decode cL_law 407 = .ok (.iload_n 3, 1) ∧ decode cL_law 408 = .ok (.iconst 1, 1) ∧ decode cL_law 409 = .ok (.iadd, 1) := by decide +kernel
theorem dL_law_396 : decode cL_law 396 = .ok (.aload_n 0, 1) := dL_law_all16.1
theorem dL_law_397 : decode cL_law 397 = .ok (.iload_n 3, 1) := dL_law_all16.2.1
theorem dL_law_398 : decode cL_law 398 = .ok (.iconst 4, 1) := dL_law_all16.2.2.1
theorem dL_law_399 : decode cL_law 399 = .ok (.iadd, 1) := dL_law_all16.2.2.2.1
theorem dL_law_400 : decode cL_law 400 = .ok (.iaload, 1) := dL_law_all16.2.2.2.2.1
theorem dL_law_401 : decode cL_law 401 = .ok (.invokevirtual 40, 3) := dL_law_all16.2.2.2.2.2.1
theorem dL_law_404 : decode cL_law 404 = .ok (.pop, 1) := dL_law_all16.2.2.2.2.2.2.1
theorem dL_law_405 : decode cL_law 405 = .ok (.aload_n 2, 1) := dL_law_all16.2.2.2.2.2.2.2.1
theorem dL_law_406 : decode cL_law 406 = .ok (.aload_n 0, 1) := dL_law_all16.2.2.2.2.2.2.2.2.1
theorem dL_law_407 : decode cL_law 407 = .ok (.iload_n 3, 1) := dL_law_all16.2.2.2.2.2.2.2.2.2.1
theorem dL_law_408 : decode cL_law 408 = .ok (.iconst 1, 1) := dL_law_all16.2.2.2.2.2.2.2.2.2.2.1
theorem dL_law_409 : decode cL_law 409 = .ok (.iadd, 1) := dL_law_all16.2.2.2.2.2.2.2.2.2.2.2
theorem dL_law_all17 : decode cL_law 410 = .ok (.iaload, 1) ∧ decode cL_law 411 = .ok (.aload_n 0, 1) ∧ decode cL_law 412 = .ok (.iload_n 3, 1) ∧ decode cL_law 413 = .ok (.iconst 2, 1) ∧ decode cL_law 414 = .ok (.iadd, 1) ∧ decode cL_law 415 = .ok (.iaload, 1) ∧ decode cL_law 416 = .ok (.aload_n 0, 1) ∧ decode cL_law 417 = .ok (.iload_n 3, 1) ∧ decode cL_law 418 = .ok (.iconst 3, 1) ∧ decode cL_law 419 = .ok (.iadd, 1) ∧ decode cL_law 420 = .ok (.iaload, 1) ∧ decode cL_law 421 = .ok (.aload_n 0, 1) := by decide +kernel
theorem dL_law_410 : decode cL_law 410 = .ok (.iaload, 1) := dL_law_all17.1
theorem dL_law_411 : decode cL_law 411 = .ok (.aload_n 0, 1) := dL_law_all17.2.1
theorem dL_law_412 : decode cL_law 412 = .ok (.iload_n 3, 1) := dL_law_all17.2.2.1
theorem dL_law_413 : decode cL_law 413 = .ok (.iconst 2, 1) := dL_law_all17.2.2.2.1
theorem dL_law_414 : decode cL_law 414 = .ok (.iadd, 1) := dL_law_all17.2.2.2.2.1
theorem dL_law_415 : decode cL_law 415 = .ok (.iaload, 1) := dL_law_all17.2.2.2.2.2.1
theorem dL_law_416 : decode cL_law 416 = .ok (.aload_n 0, 1) := dL_law_all17.2.2.2.2.2.2.1
theorem dL_law_417 : decode cL_law 417 = .ok (.iload_n 3, 1) := dL_law_all17.2.2.2.2.2.2.2.1
theorem dL_law_418 : decode cL_law 418 = .ok (.iconst 3, 1) := dL_law_all17.2.2.2.2.2.2.2.2.1
theorem dL_law_419 : decode cL_law 419 = .ok (.iadd, 1) := dL_law_all17.2.2.2.2.2.2.2.2.2.1
theorem dL_law_420 : decode cL_law 420 = .ok (.iaload, 1) := dL_law_all17.2.2.2.2.2.2.2.2.2.2.1
theorem dL_law_421 : decode cL_law 421 = .ok (.aload_n 0, 1) := dL_law_all17.2.2.2.2.2.2.2.2.2.2.2
theorem dL_law_all18 : decode cL_law 422 = .ok (.iload_n 3, 1) ∧ decode cL_law 423 = .ok (.iconst 4, 1) ∧ decode cL_law 424 = .ok (.iadd, 1) ∧ decode cL_law 425 = .ok (.iaload, 1) ∧ decode cL_law 426 = .ok (.invokevirtual 44, 3) ∧ decode cL_law 429 = .ok (.pop, 1) ∧ decode cL_law 430 = .ok (.goto 1222, 3) ∧ decode cL_law 433 = .ok (.aload_n 1, 1) ∧ decode cL_law 434 = .ok (.aload_n 0, 1) ∧ decode cL_law 435 = .ok (.iload_n 3, 1) ∧ decode cL_law 436 = .ok (.iconst 1, 1) ∧ decode cL_law 437 = .ok (.iadd, 1) := by decide +kernel
theorem dL_law_422 : decode cL_law 422 = .ok (.iload_n 3, 1) := dL_law_all18.1
theorem dL_law_423 : decode cL_law 423 = .ok (.iconst 4, 1) := dL_law_all18.2.1
theorem dL_law_424 : decode cL_law 424 = .ok (.iadd, 1) := dL_law_all18.2.2.1
theorem dL_law_425 : decode cL_law 425 = .ok (.iaload, 1) := dL_law_all18.2.2.2.1
theorem dL_law_426 : decode cL_law 426 = .ok (.invokevirtual 44, 3) := dL_law_all18.2.2.2.2.1
theorem dL_law_429 : decode cL_law 429 = .ok (.pop, 1) := dL_law_all18.2.2.2.2.2.1
theorem dL_law_430 : decode cL_law 430 = .ok (.goto 1222, 3) := dL_law_all18.2.2.2.2.2.2.1
set_option maxHeartbeats 4000000 in
set_option maxRecDepth 100000 in
theorem law_case_4 {p : Program} {l : Launch} {e : Env} {s : State} {m : MethodId} {below : List Frame} {meth : Method} {c : Code} {D : va_G} {cI cY cJ cQ : ClassId} {b L aK aV : Nat} {xs : Nat → Int32} {ad rw md : Nat → Nat} {sd i : Int32} {nx : Nat → Int32} {fx rs : Nat → Nat → Int32} {lo : Nat → Int64} {ny : Nat → Int32} {fy : Nat → Nat → Int32} {fl : Nat → Int64} {H : Heap} {locs : List Loc} {ls : Array Slot} (C0 : lawC p s m meth c b L xs D cI cY cJ cQ aK aV) (I : inv nx fx ny fy) (hP : va_P D vwCl (wX ad rw sd cI cY cJ cQ nx fx rs lo ++ wM md sd cI cY cJ cQ ny fy fl) H) (hD : va_D (fun q : Nat => s.heap.size ≤ q) (wX ad rw sd cI cY cJ cQ nx fx rs lo ++ wM md sd cI cY cJ cQ ny fy fl)) (hS : va_S (fun q : Nat => s.heap.size ≤ q) s.heap H locs) (hl : lv_has ls 4 [(0, .ref b), (1, .ref (ad 0)), (2, .ref (md 64)), (3, .int i)]) (hi1 : 1 ≤ i.toInt) (hi2 : i.toInt + 5 < L) (kk : ∀ (nx : Nat → Int32) (fx rs : Nat → Nat → Int32) (lo : Nat → Int64) (ny : Nat → Int32) (fy : Nat → Nat → Int32) (fl : Nat → Int64) (H : Heap) (locs : List Loc) (ls : Array Slot), inv nx fx ny fy → va_P D vwCl (wX ad rw sd cI cY cJ cQ nx fx rs lo ++ wM md sd cI cY cJ cQ ny fy fl) H → va_D (fun q : Nat => s.heap.size ≤ q) (wX ad rw sd cI cY cJ cQ nx fx rs lo ++ wM md sd cI cY cJ cQ ny fy fl) → va_S (fun q : Nat => s.heap.size ≤ q) s.heap H locs → lv_has ls 4 [(0, .ref b), (1, .ref (ad 0)), (2, .ref (md 64)), (3, .int i)] → W p l e room_1 s m #[Value.ref b] below meth c H locs 107 4890 (lw_Z below #[Value.ref b] s) (F0 m 1652 ls [])) : W p l e room_1 s m #[Value.ref b] below meth c H locs 107 4890 (lw_Z below #[Value.ref b] s) (F0 m 380 ls []) := by
  obtain ⟨C1, hK, hN, hT, hL⟩ := C0
  obtain ⟨hx, hb, hr, hml, hown, hts0, hX, hbl, hlocks, hgv⟩ := C1
  have hA : ∀ q : Nat, s.heap.size ≤ q → (fun q : Nat => s.heap.size ≤ q) q := fun _ h => h
  have hbA : ¬ (fun q : Nat => s.heap.size ≤ q) b := Nat.not_le.mpr hbl
  have hts : ∀ w ∈ wsL_law, w.before #[Value.ref b] s = true := fun w h => hts0 w (wsL_law_in w h)
  replace hown : s.vm.findClass RL = some m.cls := hown
  replace hb : c.code = cL_law := hb
  obtain ⟨Xhna, Xhnb, XH, Xcna, Xcnb, Xpna, Xpnb, XO, Xgna, Xgnb, Xlna, Xlnb, Xdla, Xdlb, Xana, Xanb, Xuna, Xunb, Xlca, Xlcb, Xtna, Xtnb, XS, Mhna, Mhnb, MH, MS, Mmlna, Mmlnb, Mmtna, Mmtnb, Ccn, Cfo, Cwo, Cpn, Cpk, Cpf, Cpo, Cpd, Cpe, Cgn, Cgk, Cgs, Cgd, Cge, Can, Cak, Cah, Cay, Caz, Cun, Cuk, Cuy, Cuw, Cum, Clc, Clp, Cla, Clb, Caw, Ciw, Cln, Ctd⟩ := I
  have Tcn := i_eq Ccn
  have Tpn := i_eq Cpn
  have Tgn := i_eq Cgn
  have Tan := i_eq Can
  have Tun := i_eq Cun
  have Tlc := i_eq Clc
  have Tln := i_eq Cln
  have k1 : (1 : Int32).toInt = 1 := by decide
  have k2 : (2 : Int32).toInt = 2 := by decide
  have k3 : (3 : Int32).toInt = 3 := by decide
  have k4 : (4 : Int32).toInt = 4 := by decide
  obtain ⟨xk1, exk1⟩ : ∃ y : Int32, y = xs (i.toNatClampNeg + 1) := ⟨_, rfl⟩
  obtain ⟨xk2, exk2⟩ : ∃ y : Int32, y = xs (i.toNatClampNeg + 2) := ⟨_, rfl⟩
  obtain ⟨xk3, exk3⟩ : ∃ y : Int32, y = xs (i.toNatClampNeg + 3) := ⟨_, rfl⟩
  obtain ⟨xk4, exk4⟩ : ∃ y : Int32, y = xs (i.toNatClampNeg + 4) := ⟨_, rfl⟩
  refine lv_aload_n hx hb dL_law_380 rfl (lv_at hl 1 rfl) ?_
  refine lv_aload_n hx hb dL_law_381 rfl (lv_at hl 0 rfl) ?_
  refine lv_iload_n hx hb dL_law_382 rfl (lv_at hl 3 rfl) ?_
  refine lv_iconst (v := 1) hx hb dL_law_383 (by decide) ?_
  refine lv_iadd hx hb dL_law_384 ?_
  refine lv_topi (fun v1 ev1 => ?_)
  try have tv1 : v1.toInt = i.toInt + 1 := by rw [ev1]; exact (i_add (x := i) (y := (1 : Int32)) (by rw [k1]; omega) (by rw [k1]; omega)).trans (by rw [k1])
  refine va_sld hx hb hX hbl hbA hS (i_in (by omega) (by omega)) dL_law_385 ?_
  refine lv_topi (fun a2 ea2 => ?_)
  replace ea2 : xk1 = a2 := (ea2.trans (by rw [exk1]; congr 1; have := i_cl (x := v1) (by omega); have := i_cl (x := i) (by omega); omega)).symm
  subst ea2
  refine lv_aload_n hx hb dL_law_386 rfl (lv_at hl 0 rfl) ?_
  refine lv_iload_n hx hb dL_law_387 rfl (lv_at hl 3 rfl) ?_
  refine lv_iconst (v := 2) hx hb dL_law_388 (by decide) ?_
  refine lv_iadd hx hb dL_law_389 ?_
  refine lv_topi (fun v3 ev3 => ?_)
  try have tv3 : v3.toInt = i.toInt + 2 := by rw [ev3]; exact (i_add (x := i) (y := (2 : Int32)) (by rw [k2]; omega) (by rw [k2]; omega)).trans (by rw [k2])
  refine va_sld hx hb hX hbl hbA hS (i_in (by omega) (by omega)) dL_law_390 ?_
  refine lv_topi (fun a4 ea4 => ?_)
  replace ea4 : xk2 = a4 := (ea4.trans (by rw [exk2]; congr 1; have := i_cl (x := v3) (by omega); have := i_cl (x := i) (by omega); omega)).symm
  subst ea4
  refine lv_aload_n hx hb dL_law_391 rfl (lv_at hl 0 rfl) ?_
  refine lv_iload_n hx hb dL_law_392 rfl (lv_at hl 3 rfl) ?_
  refine lv_iconst (v := 3) hx hb dL_law_393 (by decide) ?_
  refine lv_iadd hx hb dL_law_394 ?_
  refine lv_topi (fun v5 ev5 => ?_)
  try have tv5 : v5.toInt = i.toInt + 3 := by rw [ev5]; exact (i_add (x := i) (y := (3 : Int32)) (by rw [k3]; omega) (by rw [k3]; omega)).trans (by rw [k3])
  refine va_sld hx hb hX hbl hbA hS (i_in (by omega) (by omega)) dL_law_395 ?_
  refine lv_topi (fun a6 ea6 => ?_)
  replace ea6 : xk3 = a6 := (ea6.trans (by rw [exk3]; congr 1; have := i_cl (x := v5) (by omega); have := i_cl (x := i) (by omega); omega)).symm
  subst ea6
  refine lv_aload_n hx hb dL_law_396 rfl (lv_at hl 0 rfl) ?_
  refine lv_iload_n hx hb dL_law_397 rfl (lv_at hl 3 rfl) ?_
  refine lv_iconst (v := 4) hx hb dL_law_398 (by decide) ?_
  refine lv_iadd hx hb dL_law_399 ?_
  refine lv_topi (fun v7 ev7 => ?_)
  try have tv7 : v7.toInt = i.toInt + 4 := by rw [ev7]; exact (i_add (x := i) (y := (4 : Int32)) (by rw [k4]; omega) (by rw [k4]; omega)).trans (by rw [k4])
  refine va_sld hx hb hX hbl hbA hS (i_in (by omega) (by omega)) dL_law_400 ?_
  refine lv_topi (fun a8 ea8 => ?_)
  replace ea8 : xk4 = a8 := (ea8.trans (by rw [exk4]; congr 1; have := i_cl (x := v7) (by omega); have := i_cl (x := i) (by omega); omega)).symm
  subst ea8
  refine st_iQ (wr := [((ad 11), .inl (cI, 16, .inl (fx 0))), ((rw 0), .inl (cI, 60, .inl (rs 0))), ((rw 1), .inl (cI, 60, .inl (rs 1))), ((rw 2), .inl (cI, 60, .inl (rs 2))), ((rw 3), .inl (cI, 60, .inl (rs 3))), ((rw 4), .inl (cI, 60, .inl (rs 4))), ((rw 5), .inl (cI, 60, .inl (rs 5))), ((rw 6), .inl (cI, 60, .inl (rs 6))), ((rw 7), .inl (cI, 60, .inl (rs 7))), ((ad 1), .inr (9, [.ref (ad 12), .ref (ad 13), .ref (ad 14)])), ((ad 12), .inl (cQ, 8, .inr (.inr (.inr (.inr (fun i => if i < 8 then some (rw i) else none)))))), ((ad 13), .inl (cI, 8, .inl (fx 1))), ((ad 14), .inl (cI, 8, .inl (fx 2))), ((ad 27), .inl (cI, 200, .inl (fx 7))), ((ad 28), .inl (cI, 200, .inl (fx 8))), ((ad 29), .inl (cI, 20, .inl (fx 9))), ((ad 30), .inl (cI, 10, .inl (fx 10))), ((ad 3), .inr (1, [.ref (ad 31), .ref (ad 32), .ref (ad 33), .int (nx 4), .ref (ad 34), .ref (ad 35)])), ((ad 31), .inl (cI, 12, .inl (fx 11))), ((ad 32), .inl (cI, 12, .inl (fx 12))), ((ad 33), .inl (cI, 12, .inl (fx 13))), ((ad 34), .inl (cI, 6, .inl (fx 14))), ((ad 35), .inl (cI, 6, .inl (fx 15))), ((ad 4), .inr (7, [.ref (ad 36), .ref (ad 37), .ref (ad 38), .ref (ad 39), .ref (ad 40), .ref (ad 41), .int (nx 5)])), ((ad 36), .inl (cI, 40, .inl (fx 16))), ((ad 37), .inl (cI, 40, .inl (fx 17))), ((ad 38), .inl (cI, 40, .inl (fx 18))), ((ad 39), .inl (cI, 40, .inl (fx 19))), ((ad 40), .inl (cI, 40, .inl (fx 20))), ((ad 41), .inl (cI, 40, .inl (fx 21))), ((ad 5), .inr (8, [.ref (ad 42), .ref (ad 43), .ref (ad 44), .ref (ad 45), .int (nx 6), .ref (ad 46)])), ((ad 42), .inl (cI, 40, .inl (fx 22))), ((ad 43), .inl (cI, 40, .inl (fx 23))), ((ad 44), .inl (cI, 40, .inl (fx 24))), ((ad 45), .inl (cI, 40, .inl (fx 25))), ((ad 46), .inl (cI, 40, .inl (fx 26))), ((ad 6), .inr (2, [.ref (ad 47), .int (nx 7), .int (nx 8), .ref (ad 48), .ref (ad 49), .ref (ad 50), .int (nx 9), .ref (ad 51), .ref (ad 52), .ref (ad 53), .int (nx 10), .int (nx 11), .int (nx 12), .int (nx 13), .int (nx 14)])), ((ad 47), .inl (cY, 300, .inl (fx 27))), ((ad 48), .inl (cI, 12, .inl (fx 28))), ((ad 49), .inl (cI, 12, .inl (fx 29))), ((ad 50), .inl (cI, 12, .inl (fx 30))), ((ad 51), .inl (cI, 12, .inl (fx 31))), ((ad 52), .inl (cI, 12, .inl (fx 32))), ((ad 53), .inl (cI, 12, .inl (fx 33))), ((ad 7), .inr (0, [.ref (ad 54), .ref (ad 55), .ref (ad 56), .ref (ad 57), .int (nx 15)])), ((ad 54), .inl (cI, 60, .inl (fx 34))), ((ad 55), .inl (cI, 60, .inl (fx 35))), ((ad 56), .inl (cI, 60, .inl (fx 36))), ((ad 57), .inl (cI, 60, .inl (fx 37))), ((ad 8), .inr (5, [.int sd, .ref (ad 58)])), ((ad 58), .inl (cJ, 12, .inr (.inl lo))), ((ad 9), .inr (6, [.ref (ad 59), .ref (ad 60), .ref (ad 61), .ref (ad 62), .int (nx 16)])), ((ad 59), .inl (cI, 60, .inl (fx 38))), ((ad 60), .inl (cI, 60, .inl (fx 39))), ((ad 61), .inl (cI, 60, .inl (fx 40))), ((ad 62), .inl (cI, 60, .inl (fx 41))), ((ad 10), .inr (4, [.ref (ad 63), .ref (ad 64), .ref (ad 65), .int (nx 17)])), ((ad 63), .inl (cI, 20, .inl (fx 42))), ((ad 64), .inl (cI, 20, .inl (fx 43))), ((ad 65), .inl (cI, 20, .inl (fx 44)))]) (va_runV (C := RX10) (As := [.int xk1, .int xk2, .int xk3, .int xk4]) (rest := []) ⟨hx, hb, hml, hown, hts⟩ (ct_X10_hold l D cI cY cJ cQ _ ad (nx 0) (nx 1) (nx 2) (nx 3) (fx 3) (fx 4) (fx 5) (fx 6) xk1 xk2 xk3 xk4 (by omega) (by omega)) (cwV 4 hts gL_law_X10_hold rfl rfl rfl ⟨rfl, cdX10_hold⟩ ⟨Nat.le_of_ble_eq_true rfl, Nat.le_of_ble_eq_true rfl⟩) (cPreV (hP.sub [0, 14, 15, 16, 17, 18] rfl) hK (hD.sub [0, 14, 15, 16, 17, 18] (by decide +kernel) rfl) hN (ci := 10) (q0 := 0) rfl rfl) rfl rfl hl.1 rfl (lv_room (Nat.le_of_ble_eq_true rfl)) dL_law_401 ⟨Nat.le_of_ble_eq_true rfl, Nat.le_of_ble_eq_true rfl⟩) hP hD hS hA [0, 14, 15, 16, 17, 18] [1, 2, 3, 4, 5, 6, 7, 8, 9, 10, 11, 12, 13, 19, 20, 21, 22, 23, 24, 25, 26, 27, 28, 29, 30, 31, 32, 33, 34, 35, 36, 37, 38, 39, 40, 41, 42, 43, 44, 45, 46, 47, 48, 49, 50, 51, 52, 53, 54, 55, 56, 57, 58, 59, 60, 61, 62, 63, 64, 65] rfl rfl (by decide +kernel) (by decide +kernel) (fun r11 u9 H locs hw10 hP hD hS => ?_)
  obtain ⟨hn_12, ho_13, hc_14, hp_15, hs_16⟩ := u9
  replace hw10 : (r11, (hn_12, ho_13, hc_14, hp_15, hs_16)) = sp_hold (nx 3) (fx 3) (fx 4) (fx 5) (fx 6) xk1 xk2 xk3 xk4 := hw10
  obtain ⟨hw10a, hw10b, hw10c⟩ := sp_hold_ok hw10 (by omega) (by omega) XH
  refine lv_pop hx hb dL_law_404 rfl ?_
  have hPx : va_P D vwCl (wX ad rw sd cI cY cJ cQ (upd nx 3 hn_12) (upR (upR (upR (upR fx 3 ho_13) 4 hc_14) 5 hp_15) 6 hs_16) rs lo ++ wM md sd cI cY cJ cQ ny fy fl) H := hP.part [60, 0, 1, 2, 3, 4, 5, 6, 7, 8, 9, 10, 11, 12, 61, 62, 63, 64, 65, 13, 14, 15, 16, 17, 18, 19, 20, 21, 22, 23, 24, 25, 26, 27, 28, 29, 30, 31, 32, 33, 34, 35, 36, 37, 38, 39, 40, 41, 42, 43, 44, 45, 46, 47, 48, 49, 50, 51, 52, 53, 54, 55, 56, 57, 58, 59] rfl
  have hDx : va_D (fun q : Nat => s.heap.size ≤ q) (wX ad rw sd cI cY cJ cQ (upd nx 3 hn_12) (upR (upR (upR (upR fx 3 ho_13) 4 hc_14) 5 hp_15) 6 hs_16) rs lo ++ wM md sd cI cY cJ cQ ny fy fl) := hD.part [60, 0, 1, 2, 3, 4, 5, 6, 7, 8, 9, 10, 11, 12, 61, 62, 63, 64, 65, 13, 14, 15, 16, 17, 18, 19, 20, 21, 22, 23, 24, 25, 26, 27, 28, 29, 30, 31, 32, 33, 34, 35, 36, 37, 38, 39, 40, 41, 42, 43, 44, 45, 46, 47, 48, 49, 50, 51, 52, 53, 54, 55, 56, 57, 58, 59] (by decide +kernel) rfl
  have hP := hPx.comm
  have hD := hDx.comm
  refine lv_aload_n hx hb dL_law_405 rfl (lv_at hl 2 rfl) ?_
  refine lv_aload_n hx hb dL_law_406 rfl (lv_at hl 0 rfl) ?_
  refine lv_iload_n hx hb dL_law_407 rfl (lv_at hl 3 rfl) ?_
  refine lv_iconst (v := 1) hx hb dL_law_408 (by decide) ?_
  refine lv_iadd hx hb dL_law_409 ?_
  refine lv_topi (fun v17 ev17 => ?_)
  try have tv17 : v17.toInt = i.toInt + 1 := by rw [ev17]; exact (i_add (x := i) (y := (1 : Int32)) (by rw [k1]; omega) (by rw [k1]; omega)).trans (by rw [k1])
  refine va_sld hx hb hX hbl hbA hS (i_in (by omega) (by omega)) dL_law_410 ?_
  refine lv_topi (fun a18 ea18 => ?_)
  replace ea18 : xk1 = a18 := (ea18.trans (by rw [exk1]; congr 1; have := i_cl (x := v17) (by omega); have := i_cl (x := i) (by omega); omega)).symm
  subst ea18
  refine lv_aload_n hx hb dL_law_411 rfl (lv_at hl 0 rfl) ?_
  refine lv_iload_n hx hb dL_law_412 rfl (lv_at hl 3 rfl) ?_
  refine lv_iconst (v := 2) hx hb dL_law_413 (by decide) ?_
  refine lv_iadd hx hb dL_law_414 ?_
  refine lv_topi (fun v19 ev19 => ?_)
  try have tv19 : v19.toInt = i.toInt + 2 := by rw [ev19]; exact (i_add (x := i) (y := (2 : Int32)) (by rw [k2]; omega) (by rw [k2]; omega)).trans (by rw [k2])
  refine va_sld hx hb hX hbl hbA hS (i_in (by omega) (by omega)) dL_law_415 ?_
  refine lv_topi (fun a20 ea20 => ?_)
  replace ea20 : xk2 = a20 := (ea20.trans (by rw [exk2]; congr 1; have := i_cl (x := v19) (by omega); have := i_cl (x := i) (by omega); omega)).symm
  subst ea20
  refine lv_aload_n hx hb dL_law_416 rfl (lv_at hl 0 rfl) ?_
  refine lv_iload_n hx hb dL_law_417 rfl (lv_at hl 3 rfl) ?_
  refine lv_iconst (v := 3) hx hb dL_law_418 (by decide) ?_
  refine lv_iadd hx hb dL_law_419 ?_
  refine lv_topi (fun v21 ev21 => ?_)
  try have tv21 : v21.toInt = i.toInt + 3 := by rw [ev21]; exact (i_add (x := i) (y := (3 : Int32)) (by rw [k3]; omega) (by rw [k3]; omega)).trans (by rw [k3])
  refine va_sld hx hb hX hbl hbA hS (i_in (by omega) (by omega)) dL_law_420 ?_
  refine lv_topi (fun a22 ea22 => ?_)
  replace ea22 : xk3 = a22 := (ea22.trans (by rw [exk3]; congr 1; have := i_cl (x := v21) (by omega); have := i_cl (x := i) (by omega); omega)).symm
  subst ea22
  refine lv_aload_n hx hb dL_law_421 rfl (lv_at hl 0 rfl) ?_
  refine lv_iload_n hx hb dL_law_422 rfl (lv_at hl 3 rfl) ?_
  refine lv_iconst (v := 4) hx hb dL_law_423 (by decide) ?_
  refine lv_iadd hx hb dL_law_424 ?_
  refine lv_topi (fun v23 ev23 => ?_)
  try have tv23 : v23.toInt = i.toInt + 4 := by rw [ev23]; exact (i_add (x := i) (y := (4 : Int32)) (by rw [k4]; omega) (by rw [k4]; omega)).trans (by rw [k4])
  refine va_sld hx hb hX hbl hbA hS (i_in (by omega) (by omega)) dL_law_425 ?_
  refine lv_topi (fun a24 ea24 => ?_)
  replace ea24 : xk4 = a24 := (ea24.trans (by rw [exk4]; congr 1; have := i_cl (x := v23) (by omega); have := i_cl (x := i) (by omega); omega)).symm
  subst ea24
  refine st_iQ (wr := [((md 3), .inl (cI, 8, .inl (fy 0))), ((md 4), .inl (cI, 8, .inl (fy 1))), ((md 5), .inl (cI, 480, .inl (fy 2))), ((md 11), .inl (cI, 200, .inl (fy 7))), ((md 12), .inl (cI, 12, .inl (fy 8))), ((md 13), .inl (cI, 12, .inl (fy 9))), ((md 14), .inl (cJ, 12, .inr (.inl fl))), ((md 16), .inl (cI, 12, .inl (fy 10))), ((md 17), .inl (cI, 12, .inl (fy 11))), ((md 19), .inl (cI, 40, .inl (fy 12))), ((md 20), .inl (cI, 40, .inl (fy 13))), ((md 21), .inl (cI, 40, .inl (fy 14))), ((md 22), .inl (cI, 40, .inl (fy 15))), ((md 23), .inl (cI, 40, .inl (fy 16))), ((md 26), .inl (cI, 40, .inl (fy 17))), ((md 27), .inl (cI, 40, .inl (fy 18))), ((md 28), .inl (cI, 40, .inl (fy 19))), ((md 29), .inl (cI, 40, .inl (fy 20))), ((md 31), .inl (cI, 36, .inl (fy 21))), ((md 33), .inl (cI, 36, .inl (fy 22))), ((md 34), .inl (cI, 300, .inl (fy 23))), ((md 45), .inl (cI, 60, .inl (fy 24))), ((md 46), .inl (cI, 60, .inl (fy 25))), ((md 47), .inl (cI, 60, .inl (fy 26))), ((md 48), .inl (cI, 60, .inl (fy 27))), ((md 49), .inl (cI, 6, .inl (fy 28))), ((md 50), .inl (cI, 6, .inl (fy 29))), ((md 51), .inl (cI, 12, .inl (fy 30))), ((md 53), .inl (cI, 60, .inl (fy 31))), ((md 54), .inl (cI, 60, .inl (fy 32))), ((md 55), .inl (cI, 60, .inl (fy 33))), ((md 56), .inl (cI, 60, .inl (fy 34))), ((md 58), .inl (cI, 20, .inl (fy 35))), ((md 59), .inl (cI, 20, .inl (fy 36))), ((md 60), .inl (cI, 20, .inl (fy 37))), ((md 62), .inl (cI, 16, .inl (fy 38)))]) (va_runV (C := RX11) (As := [.int xk1, .int xk2, .int xk3, .int xk4]) (rest := []) ⟨hx, hb, hml, hown, hts⟩ (ct_X11_hold l D cI cY cJ cQ _ md sd (ny 0) (ny 1) (ny 2) (ny 3) (ny 4) (ny 5) (ny 6) (ny 7) (ny 8) (ny 9) (ny 10) (ny 11) (ny 12) (ny 13) (ny 14) (ny 15) (ny 16) (ny 17) (ny 18) (ny 19) (ny 20) (ny 21) (ny 22) (fy 3) (fy 4) (fy 5) (fy 6) xk1 xk2 xk3 xk4 (by omega) (by omega)) (cwV 4 hts gL_law_X11_hold rfl rfl rfl ⟨rfl, cdX11_hold⟩ ⟨Nat.le_of_ble_eq_true rfl, Nat.le_of_ble_eq_true rfl⟩) (cPreV (hP.sub [0, 4, 5, 6, 7] rfl) hK (hD.sub [0, 4, 5, 6, 7] (by decide +kernel) rfl) hN (ci := 11) (q0 := 0) rfl rfl) rfl rfl hl.1 rfl (lv_room (Nat.le_of_ble_eq_true rfl)) dL_law_426 ⟨Nat.le_of_ble_eq_true rfl, Nat.le_of_ble_eq_true rfl⟩) hP hD hS hA [0, 4, 5, 6, 7] [1, 2, 3, 8, 9, 10, 11, 12, 13, 14, 15, 16, 17, 18, 19, 20, 21, 22, 23, 24, 25, 26, 27, 28, 29, 30, 31, 32, 33, 34, 35, 36, 37, 38, 39, 40] rfl rfl (by decide +kernel) (by decide +kernel) (fun r27 u25 H locs hw26 hP hD hS => ?_)
  obtain ⟨hn_28, ho_29, hc_30, hp_31, hs_32⟩ := u25
  replace hw26 : (r27, (hn_28, ho_29, hc_30, hp_31, hs_32)) = sp_hold (ny 2) (fy 3) (fy 4) (fy 5) (fy 6) xk1 xk2 xk3 xk4 := hw26
  obtain ⟨hw26a, hw26b, hw26c⟩ := sp_hold_ok hw26 (by omega) (by omega) MH
  refine lv_pop hx hb dL_law_429 rfl ?_
  refine lv_goto (tgt := 1652) hx hb dL_law_430 (by decide) ?_
  have hPm : va_P D vwCl (wM md sd cI cY cJ cQ (upd (upd ny 0 0) 2 hn_28) (upR (upR (upR (upR fy 3 ho_29) 4 hc_30) 5 hp_31) 6 hs_32) fl ++ wX ad rw sd cI cY cJ cQ (upd nx 3 hn_12) (upR (upR (upR (upR fx 3 ho_13) 4 hc_14) 5 hp_15) 6 hs_16) rs lo) H := hP.part [36, 0, 1, 2, 37, 38, 39, 40, 3, 4, 5, 6, 7, 8, 9, 10, 11, 12, 13, 14, 15, 16, 17, 18, 19, 20, 21, 22, 23, 24, 25, 26, 27, 28, 29, 30, 31, 32, 33, 34, 35] rfl
  have hDm : va_D (fun q : Nat => s.heap.size ≤ q) (wM md sd cI cY cJ cQ (upd (upd ny 0 0) 2 hn_28) (upR (upR (upR (upR fy 3 ho_29) 4 hc_30) 5 hp_31) 6 hs_32) fl ++ wX ad rw sd cI cY cJ cQ (upd nx 3 hn_12) (upR (upR (upR (upR fx 3 ho_13) 4 hc_14) 5 hp_15) 6 hs_16) rs lo) := hD.part [36, 0, 1, 2, 37, 38, 39, 40, 3, 4, 5, 6, 7, 8, 9, 10, 11, 12, 13, 14, 15, 16, 17, 18, 19, 20, 21, 22, 23, 24, 25, 26, 27, 28, 29, 30, 31, 32, 33, 34, 35] (by decide +kernel) rfl
  exact kk (upd nx 3 hn_12) (upR (upR (upR (upR fx 3 ho_13) 4 hc_14) 5 hp_15) 6 hs_16) rs lo (upd (upd ny 0 0) 2 hn_28) (upR (upR (upR (upR fy 3 ho_29) 4 hc_30) 5 hp_31) 6 hs_32) fl H locs ls ⟨(by show 0 ≤ (hn_12).toInt; omega), (by show (hn_12).toInt ≤ 40; omega), (show okH (hn_12) (ho_13) (hc_14) by assumption), Xcna, Xcnb, Xpna, Xpnb, XO, Xgna, Xgnb, Xlna, Xlnb, Xdla, Xdlb, Xana, Xanb, Xuna, Xunb, Xlca, Xlcb, Xtna, Xtnb, XS, (by show 0 ≤ (hn_28).toInt; omega), (by show (hn_28).toInt ≤ 40; omega), (show okH (hn_28) (ho_29) (hc_30) by assumption), MS, Mmlna, Mmlnb, Mmtna, Mmtnb, Ccn, Cfo, Cwo, Cpn, Cpk, Cpf, Cpo, Cpd, Cpe, Cgn, Cgk, Cgs, Cgd, Cge, Can, Cak, Cah, Cay, Caz, Cun, Cuk, Cuy, Cuw, Cum, Clc, Clp, Cla, Clb, Caw, Ciw, Cln, Ctd⟩ hPm.comm hDm.comm hS hl
