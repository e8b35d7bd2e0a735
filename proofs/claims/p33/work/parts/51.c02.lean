theorem cdX10_copy : yX10_copy.cls ≠ "java/lang/invoke/MethodHandle" ∧ yX10_copy.cls ≠ "java/lang/invoke/VarHandle" ∧ (parseMethodDescriptor yX10_copy.desc).map (fun d => d.parameters.length) = some 5 := by decide +kernel
theorem cdX11_copy : yX11_copy.cls ≠ "java/lang/invoke/MethodHandle" ∧ yX11_copy.cls ≠ "java/lang/invoke/VarHandle" ∧ (parseMethodDescriptor yX11_copy.desc).map (fun d => d.parameters.length) = some 5 := by decide +kernel
set_option maxRecDepth 20000 in
theorem ggL_law_X10_copy : GoodIn wsL_law wsX10_copy := goodIn_ch _ [(10, 21), (8, 8), (0, 20), (10, 22), (10, 23), (11, 0), (11, 1), (11, 2), (11, 3), (8, 9), (8, 10), (0, 2), (8, 11), (10, 2), (10, 3), (10, 4), (0, 19), (10, 5), (2, 18), (8, 12), (8, 13), (8, 14), (8, 15), (8, 16), (8, 17), (10, 6), (10, 7), (10, 8), (10, 9), (8, 22), (8, 23), (9, 0), (9, 1), (48, 0), (48, 1), (48, 2), (48, 3), (48, 4), (48, 5), (48, 6), (48, 7), (48, 8), (48, 9), (48, 10), (48, 11), (48, 12), (48, 13), (50, 0), (50, 1), (50, 2)] rfl (by decide +kernel)
set_option maxRecDepth 20000 in
theorem gL_law_X10_copy : GoodIn wsL_law (wsV RL 30 RX10 yX10_copy wsX10_copy) := goodIn_app (goodIn_ch _ [(10, 18), (10, 19), (10, 20), (0, 2)] rfl (by decide +kernel)) ggL_law_X10_copy
set_option maxRecDepth 20000 in
theorem ggL_law_X11_copy : GoodIn wsL_law wsX11_copy := goodIn_ch _ [(11, 7), (9, 6), (9, 8), (9, 9), (6, 9), (6, 10), (6, 11), (9, 10), (9, 11), (0, 5), (9, 12), (9, 13), (9, 14), (9, 15), (9, 16), (9, 17), (9, 18), (9, 19), (9, 20), (9, 21), (49, 0), (49, 1), (49, 2), (49, 3), (49, 4), (49, 5), (49, 6), (49, 7), (49, 8), (49, 9), (49, 10), (49, 11), (49, 12), (49, 13), (49, 14), (49, 15), (49, 16), (49, 17), (49, 18), (49, 19), (49, 20), (49, 21), (49, 22), (49, 23), (49, 24), (49, 25), (49, 26), (49, 27), (49, 28), (49, 29), (49, 30), (49, 31), (49, 32), (49, 33), (49, 34), (49, 35), (49, 36), (49, 37), (49, 38), (49, 39), (49, 40), (49, 41), (49, 42), (49, 43), (49, 44), (49, 45), (49, 46), (49, 47), (49, 48), (49, 49), (49, 50), (49, 51), (49, 52), (49, 53), (49, 54), (49, 55), (49, 56), (49, 57), (49, 58), (49, 59), (49, 60), (49, 61), (49, 62), (49, 63)] rfl (by decide +kernel)
set_option maxRecDepth 20000 in
theorem gL_law_X11_copy : GoodIn wsL_law (wsV RL 34 RX11 yX11_copy wsX11_copy) := goodIn_app (goodIn_ch _ [(11, 4), (11, 5), (11, 6), (0, 5)] rfl (by decide +kernel)) ggL_law_X11_copy
theorem dL_law_294 : decode cL_law 294 = .ok (.aload_n 1, 1) := dL_law_all8.2.2.2.2.2.2.1
theorem dL_law_295 : decode cL_law 295 = .ok (.aload_n 0, 1) := dL_law_all8.2.2.2.2.2.2.2.1
theorem dL_law_296 : decode cL_law 296 = .ok (.iload_n 3, 1) := dL_law_all8.2.2.2.2.2.2.2.2.1
theorem dL_law_297 : decode cL_law 297 = .ok (.iconst 1, 1) := dL_law_all8.2.2.2.2.2.2.2.2.2.1
theorem dL_law_298 : decode cL_law 298 = .ok (.iadd, 1) := dL_law_all8.2.2.2.2.2.2.2.2.2.2.1
theorem dL_law_299 : decode cL_law 299 = .ok (.iaload, 1) := dL_law_all8.2.2.2.2.2.2.2.2.2.2.2
theorem dL_law_all9 : decode cL_law 300 = .ok (.aload_n 0, 1) ∧ decode cL_law 301 = .ok (.iload_n 3, 1) ∧ decode cL_law 302 = .ok (.iconst 2, 1) ∧ decode cL_law 303 = .ok (.iadd, 1) ∧ decode cL_law 304 = .ok (.iaload, 1) ∧ decode cL_law 305 = .ok (.aload_n 0, 1) ∧ decode cL_law 306 = .ok (.iload_n 3, 1) ∧ decode cL_law 307 = .ok (.iconst 3, 1) ∧ decode cL_law 308 = .ok (.iadd, 1) ∧ decode cL_law 309 = .ok (.iaload, 1) ∧ decode cL_law 310 = .ok (.aload_n 0, 1) ∧ decode cL_law 311 = .ok (.iload_n 3, 1) := by decide +kernel
theorem dL_law_300 : decode cL_law 300 = .ok (.aload_n 0, 1) := dL_law_all9.1
theorem dL_law_301 : decode cL_law 301 = .ok (.iload_n 3, 1) := dL_law_all9.2.1
theorem dL_law_302 : decode cL_law 302 = .ok (.iconst 2, 1) := dL_law_all9.2.2.1
theorem dL_law_303 : decode cL_law 303 = .ok (.iadd, 1) := dL_law_all9.2.2.2.1
theorem dL_law_304 : decode cL_law 304 = .ok (.iaload, 1) := dL_law_all9.2.2.2.2.1
theorem dL_law_305 : decode cL_law 305 = .ok (.aload_n 0, 1) := dL_law_all9.2.2.2.2.2.1
theorem dL_law_306 : decode cL_law 306 = .ok (.iload_n 3, 1) := dL_law_all9.2.2.2.2.2.2.1
theorem dL_law_307 : decode cL_law 307 = .ok (.iconst 3, 1) := dL_law_all9.2.2.2.2.2.2.2.1
theorem dL_law_308 : decode cL_law 308 = .ok (.iadd, 1) := dL_law_all9.2.2.2.2.2.2.2.2.1
theorem dL_law_309 : decode cL_law 309 = .ok (.iaload, 1) := dL_law_all9.2.2.2.2.2.2.2.2.2.1
theorem dL_law_310 : decode cL_law 310 = .ok (.aload_n 0, 1) := dL_law_all9.2.2.2.2.2.2.2.2.2.2.1
theorem dL_law_311 : decode cL_law 311 = .ok (.iload_n 3, 1) := dL_law_all9.2.2.2.2.2.2.2.2.2.2.2
theorem dL_law_all10 : decode cL_law 312 = .ok (.iconst 4, 1) ∧ decode cL_law 313 = .ok (.iadd, 1) ∧ decode cL_law 314 = .ok (.iaload, 1) ∧ decode cL_law 315 = .ok (.aload_n 0, 1) ∧ decode cL_law 316 = .ok (.iload_n 3, 1) ∧ decode cL_law 317 = .ok (.iconst 5, 1) ∧ decode cL_law 318 = .ok (.iadd, 1) ∧ decode cL_law 319 = .ok (.iaload, 1) ∧ decode cL_law 320 = .ok (.invokevirtual 30, 3) ∧ decode cL_law 323 = .ok (.pop, 1) ∧ decode cL_law 324 = .ok (.aload_n 2, 1) ∧ decode cL_law 325 = .ok (.aload_n 0, 1) := by decide +kernel
theorem dL_law_312 : decode cL_law 312 = .ok (.iconst 4, 1) := dL_law_all10.1
theorem dL_law_313 : decode cL_law 313 = .ok (.iadd, 1) := dL_law_all10.2.1
theorem dL_law_314 : decode cL_law 314 = .ok (.iaload, 1) := dL_law_all10.2.2.1
theorem dL_law_315 : decode cL_law 315 = .ok (.aload_n 0, 1) := dL_law_all10.2.2.2.1
theorem dL_law_316 : decode cL_law 316 = .ok (.iload_n 3, 1) := dL_law_all10.2.2.2.2.1
theorem dL_law_317 : decode cL_law 317 = .ok (.iconst 5, 1) := dL_law_all10.2.2.2.2.2.1
theorem dL_law_318 : decode cL_law 318 = .ok (.iadd, 1) := dL_law_all10.2.2.2.2.2.2.1
theorem dL_law_319 : decode cL_law 319 = .ok (.iaload, 1) := dL_law_all10.2.2.2.2.2.2.2.1
theorem dL_law_320 : decode cL_law 320 = .ok (.invokevirtual 30, 3) := dL_law_all10.2.2.2.2.2.2.2.2.1
theorem dL_law_323 : decode cL_law 323 = .ok (.pop, 1) := dL_law_all10.2.2.2.2.2.2.2.2.2.1
theorem dL_law_324 : decode cL_law 324 = .ok (.aload_n 2, 1) := dL_law_all10.2.2.2.2.2.2.2.2.2.2.1
theorem dL_law_325 : decode cL_law 325 = .ok (.aload_n 0, 1) := dL_law_all10.2.2.2.2.2.2.2.2.2.2.2
theorem dL_law_all11 : decode cL_law 326 = .ok (.iload_n 3, 1) ∧ decode cL_law 327 = .ok (.iconst 1, 1) ∧ decode cL_law 328 = .ok (.iadd, 1) ∧ decode cL_law 329 = .ok (.iaload, 1) ∧ decode cL_law 330 = .ok (.aload_n 0, 1) ∧ decode cL_law 331 = .ok (.iload_n 3, 1) ∧ decode cL_law 332 = .ok (.iconst 2, 1) ∧ decode cL_law 333 = .ok (.iadd, 1) ∧ decode cL_law 334 = .ok (.iaload, 1) ∧ decode cL_law 335 = .ok (.aload_n 0, 1) ∧ decode cL_law 336 = .ok (.iload_n 3, 1) ∧ decode cL_law 337 = .ok (.iconst 3, 1) := by decide +kernel
theorem dL_law_326 : decode cL_law 326 = .ok (.iload_n 3, 1) := dL_law_all11.1
theorem dL_law_327 : decode cL_law 327 = .ok (.iconst 1, 1) := dL_law_all11.2.1
theorem dL_law_328 : decode cL_law 328 = .ok (.iadd, 1) := dL_law_all11.2.2.1
theorem dL_law_329 : decode cL_law 329 = .ok (.iaload, 1) := dL_law_all11.2.2.2.1
theorem dL_law_330 : decode cL_law 330 = .ok (.aload_n 0, 1) := dL_law_all11.2.2.2.2.1
theorem dL_law_331 : decode cL_law 331 = .ok (.iload_n 3, 1) := dL_law_all11.2.2.2.2.2.1
theorem dL_law_332 : decode cL_law 332 = .ok (.iconst 2, 1) := dL_law_all11.2.2.2.2.2.2.1
theorem dL_law_333 : decode cL_law 333 = .ok (.iadd, 1) := dL_law_all11.2.2.2.2.2.2.2.1
theorem dL_law_334 : decode cL_law 334 = .ok (.iaload, 1) := dL_law_all11.2.2.2.2.2.2.2.2.1
theorem dL_law_335 : decode cL_law 335 = .ok (.aload_n 0, 1) := dL_law_all11.2.2.2.2.2.2.2.2.2.1
theorem dL_law_336 : decode cL_law 336 = .ok (.iload_n 3, 1) := dL_law_all11.2.2.2.2.2.2.2.2.2.2.1
theorem dL_law_337 : decode cL_law 337 = .ok (.iconst 3, 1) := dL_law_all11.2.2.2.2.2.2.2.2.2.2.2
theorem dL_law_all12 : decode cL_law 338 = .ok (.iadd, 1) ∧ decode cL_law 339 = .ok (.iaload, 1) ∧ decode cL_law 340 = .ok (.aload_n 0, 1) ∧ decode cL_law 341 = .ok (.iload_n 3, 1) ∧ decode cL_law 342 = .ok (.iconst 4, 1) ∧ decode cL_law 343 = .ok (.iadd, 1) ∧ decode cL_law 344 = .ok (.iaload, 1) ∧ decode cL_law 345 = .ok (.aload_n 0, 1) ∧ decode cL_law 346 = .ok (.iload_n 3, 1) ∧ decode cL_law 347 = .ok (.iconst 5, 1) ∧ decode cL_law 348 = .ok (.iadd, 1) ∧ decode cL_law 349 = .ok (.iaload, 1) := by decide +kernel
theorem dL_law_338 : decode cL_law 338 = .ok (.iadd, 1) := dL_law_all12.1
theorem dL_law_339 : decode cL_law 339 = .ok (.iaload, 1) := dL_law_all12.2.1
theorem dL_law_340 : decode cL_law 340 = .ok (.aload_n 0, 1) := dL_law_all12.2.2.1
theorem dL_law_341 : decode cL_law 341 = .ok (.iload_n 3, 1) := dL_law_all12.2.2.2.1
theorem dL_law_342 : decode cL_law 342 = .ok (.iconst 4, 1) := dL_law_all12.2.2.2.2.1
theorem dL_law_343 : decode cL_law 343 = .ok (.iadd, 1) := dL_law_all12.2.2.2.2.2.1
theorem dL_law_344 : decode cL_law 344 = .ok (.iaload, 1) := dL_law_all12.2.2.2.2.2.2.1
theorem dL_law_345 : decode cL_law 345 = .ok (.aload_n 0, 1) := dL_law_all12.2.2.2.2.2.2.2.1
theorem dL_law_346 : decode cL_law 346 = .ok (.iload_n 3, 1) := dL_law_all12.2.2.2.2.2.2.2.2.1
theorem dL_law_347 : decode cL_law 347 = .ok (.iconst 5, 1) := dL_law_all12.2.2.2.2.2.2.2.2.2.1
theorem dL_law_348 : decode cL_law 348 = .ok (.iadd, 1) := dL_law_all12.2.2.2.2.2.2.2.2.2.2.1
theorem dL_law_349 : decode cL_law 349 = .ok (.iaload, 1) := dL_law_all12.2.2.2.2.2.2.2.2.2.2.2
theorem dL_law_all13 : decode cL_law 350 = .ok (.invokevirtual 34, 3) ∧ decode cL_law 353 = .ok (.pop, 1) ∧ decode cL_law 354 = .ok (.goto 1298, 3) ∧ decode cL_law 357 = .ok (.aload_n 1, 1) ∧ decode cL_law 358 = .ok (.aload_n 0, 1) ∧ decode cL_law 359 = .ok (.iload_n 3, 1) ∧ decode cL_law 360 = .ok (.iconst 1, 1) ∧ decode cL_law 361 = .ok (.iadd, 1) ∧ decode cL_law 362 = .ok (.iaload, 1) ∧ decode cL_law 363 = .ok (.invokevirtual 35, 3) ∧ decode cL_law 366 = .ok (.pop, 1) ∧ decode cL_law 367 = .ok (.aload_n 2, 1) := by decide +kernel
theorem dL_law_350 : decode cL_law 350 = .ok (.invokevirtual 34, 3) := dL_law_all13.1
theorem dL_law_353 : decode cL_law 353 = .ok (.pop, 1) := dL_law_all13.2.1
theorem dL_law_354 : decode cL_law 354 = .ok (.goto 1298, 3) := dL_law_all13.2.2.1
set_option maxHeartbeats 4000000 in
set_option maxRecDepth 100000 in
theorem law_case_2 {p : Program} {l : Launch} {e : Env} {s : State} {m : MethodId} {below : List Frame} {meth : Method} {c : Code} {D : va_G} {cI cY cJ cQ : ClassId} {b L aK aV : Nat} {xs : Nat → Int32} {ad rw md : Nat → Nat} {sd i : Int32} {nx : Nat → Int32} {fx rs : Nat → Nat → Int32} {lo : Nat → Int64} {ny : Nat → Int32} {fy : Nat → Nat → Int32} {fl : Nat → Int64} {H : Heap} {locs : List Loc} {ls : Array Slot} (C0 : lawC p s m meth c b L xs D cI cY cJ cQ aK aV) (I : inv nx fx ny fy) (hP : va_P D vwCl (wX ad rw sd cI cY cJ cQ nx fx rs lo ++ wM md sd cI cY cJ cQ ny fy fl) H) (hD : va_D (fun q : Nat => s.heap.size ≤ q) (wX ad rw sd cI cY cJ cQ nx fx rs lo ++ wM md sd cI cY cJ cQ ny fy fl)) (hS : va_S (fun q : Nat => s.heap.size ≤ q) s.heap H locs) (hl : lv_has ls 4 [(0, .ref b), (1, .ref (ad 0)), (2, .ref (md 64)), (3, .int i)]) (hi1 : 1 ≤ i.toInt) (hi2 : i.toInt + 5 < L) (kk : ∀ (nx : Nat → Int32) (fx rs : Nat → Nat → Int32) (lo : Nat → Int64) (ny : Nat → Int32) (fy : Nat → Nat → Int32) (fl : Nat → Int64) (H : Heap) (locs : List Loc) (ls : Array Slot), inv nx fx ny fy → va_P D vwCl (wX ad rw sd cI cY cJ cQ nx fx rs lo ++ wM md sd cI cY cJ cQ ny fy fl) H → va_D (fun q : Nat => s.heap.size ≤ q) (wX ad rw sd cI cY cJ cQ nx fx rs lo ++ wM md sd cI cY cJ cQ ny fy fl) → va_S (fun q : Nat => s.heap.size ≤ q) s.heap H locs → lv_has ls 4 [(0, .ref b), (1, .ref (ad 0)), (2, .ref (md 64)), (3, .int i)] → W p l e room_1 s m #[Value.ref b] below meth c H locs 107 4890 (lw_Z below #[Value.ref b] s) (F0 m 1652 ls [])) : W p l e room_1 s m #[Value.ref b] below meth c H locs 107 4890 (lw_Z below #[Value.ref b] s) (F0 m 294 ls []) := by
  obtain ⟨C1, hK, hN, hT, hL⟩ := C0
  obtain ⟨hx, hb, hr, hml, hown, hts0, hX, hbl, hlocks, hgv⟩ := C1
  have hA : ∀ q : Nat, s.heap.size ≤ q → (fun q : Nat => s.heap.size ≤ q) q := fun _ h => h
  have hbA : ¬ (fun q : Nat => s.heap.size ≤ q) b := Nat.not_le.mpr hbl
  have hts : ∀ w ∈ wsL_law, w.before #[Value.ref b] s = true := fun w h => hts0 w (wsL_law_in w h)
  replace hown : s.vm.findClass RL = some m.cls := hown
  replace hb : c.code = cL_law := hb
  obtain ⟨Xhna, Xhnb, XH, Xcna, Xcnb, Xpna, Xpnb, XO, Xgna, Xgnb, Xlna, Xlnb, Xdla, Xdlb, Xana, Xanb, Xuna, Xunb, Xlca, Xlcb, Xtna, Xtnb, XS, Mhna, Mhnb, MH, MS, Mmlna, Mmlnb, Mmtna, Mmtnb, Ccn, Cfo, Cwo, Cpn, Cpk, Cpf, Cpo, Cpd, Cpe, Cgn, Cgk, Cgs, Cgd, Cge, Can, Cak, Cah, Cay, Caz, Cun, Cuk, Cuy, Cuw, Cum, Clc, Clp, Cla, Clb, Caw, Ciw, Cln, Ctd⟩ := I
  have Tcn := i_eq Ccn
  have Tpn := i_eq Cpn
  have Tgn := i_eq Cgn
  have Tan := i_eq Can
  have Tun := i_eq Cun
  have Tlc := i_eq Clc
  have Tln := i_eq Cln
  have k1 : (1 : Int32).toInt = 1 := by decide
  have k2 : (2 : Int32).toInt = 2 := by decide
  have k3 : (3 : Int32).toInt = 3 := by decide
  have k4 : (4 : Int32).toInt = 4 := by decide
  have k5 : (5 : Int32).toInt = 5 := by decide
  obtain ⟨xk1, exk1⟩ : ∃ y : Int32, y = xs (i.toNatClampNeg + 1) := ⟨_, rfl⟩
  obtain ⟨xk2, exk2⟩ : ∃ y : Int32, y = xs (i.toNatClampNeg + 2) := ⟨_, rfl⟩
  obtain ⟨xk3, exk3⟩ : ∃ y : Int32, y = xs (i.toNatClampNeg + 3) := ⟨_, rfl⟩
  obtain ⟨xk4, exk4⟩ : ∃ y : Int32, y = xs (i.toNatClampNeg + 4) := ⟨_, rfl⟩
  obtain ⟨xk5, exk5⟩ : ∃ y : Int32, y = xs (i.toNatClampNeg + 5) := ⟨_, rfl⟩
  refine lv_aload_n hx hb dL_law_294 rfl (lv_at hl 1 rfl) ?_
  refine lv_aload_n hx hb dL_law_295 rfl (lv_at hl 0 rfl) ?_
  refine lv_iload_n hx hb dL_law_296 rfl (lv_at hl 3 rfl) ?_
  refine lv_iconst (v := 1) hx hb dL_law_297 (by decide) ?_
  refine lv_iadd hx hb dL_law_298 ?_
  refine lv_topi (fun v1 ev1 => ?_)
  try have tv1 : v1.toInt = i.toInt + 1 := by rw [ev1]; exact (i_add (x := i) (y := (1 : Int32)) (by rw [k1]; omega) (by rw [k1]; omega)).trans (by rw [k1])
  refine va_sld hx hb hX hbl hbA hS (i_in (by omega) (by omega)) dL_law_299 ?_
  refine lv_topi (fun a2 ea2 => ?_)
  replace ea2 : xk1 = a2 := (ea2.trans (by rw [exk1]; congr 1; have := i_cl (x := v1) (by omega); have := i_cl (x := i) (by omega); omega)).symm
  subst ea2
  refine lv_aload_n hx hb dL_law_300 rfl (lv_at hl 0 rfl) ?_
  refine lv_iload_n hx hb dL_law_301 rfl (lv_at hl 3 rfl) ?_
  refine lv_iconst (v := 2) hx hb dL_law_302 (by decide) ?_
  refine lv_iadd hx hb dL_law_303 ?_
  refine lv_topi (fun v3 ev3 => ?_)
  try have tv3 : v3.toInt = i.toInt + 2 := by rw [ev3]; exact (i_add (x := i) (y := (2 : Int32)) (by rw [k2]; omega) (by rw [k2]; omega)).trans (by rw [k2])
  refine va_sld hx hb hX hbl hbA hS (i_in (by omega) (by omega)) dL_law_304 ?_
  refine lv_topi (fun a4 ea4 => ?_)
  replace ea4 : xk2 = a4 := (ea4.trans (by rw [exk2]; congr 1; have := i_cl (x := v3) (by omega); have := i_cl (x := i) (by omega); omega)).symm
  subst ea4
  refine lv_aload_n hx hb dL_law_305 rfl (lv_at hl 0 rfl) ?_
  refine lv_iload_n hx hb dL_law_306 rfl (lv_at hl 3 rfl) ?_
  refine lv_iconst (v := 3) hx hb dL_law_307 (by decide) ?_
  refine lv_iadd hx hb dL_law_308 ?_
  refine lv_topi (fun v5 ev5 => ?_)
  try have tv5 : v5.toInt = i.toInt + 3 := by rw [ev5]; exact (i_add (x := i) (y := (3 : Int32)) (by rw [k3]; omega) (by rw [k3]; omega)).trans (by rw [k3])
  refine va_sld hx hb hX hbl hbA hS (i_in (by omega) (by omega)) dL_law_309 ?_
  refine lv_topi (fun a6 ea6 => ?_)
  replace ea6 : xk3 = a6 := (ea6.trans (by rw [exk3]; congr 1; have := i_cl (x := v5) (by omega); have := i_cl (x := i) (by omega); omega)).symm
  subst ea6
  refine lv_aload_n hx hb dL_law_310 rfl (lv_at hl 0 rfl) ?_
  refine lv_iload_n hx hb dL_law_311 rfl (lv_at hl 3 rfl) ?_
  refine lv_iconst (v := 4) hx hb dL_law_312 (by decide) ?_
  refine lv_iadd hx hb dL_law_313 ?_
  refine lv_topi (fun v7 ev7 => ?_)
  try have tv7 : v7.toInt = i.toInt + 4 := by rw [ev7]; exact (i_add (x := i) (y := (4 : Int32)) (by rw [k4]; omega) (by rw [k4]; omega)).trans (by rw [k4])
  refine va_sld hx hb hX hbl hbA hS (i_in (by omega) (by omega)) dL_law_314 ?_
  refine lv_topi (fun a8 ea8 => ?_)
  replace ea8 : xk4 = a8 := (ea8.trans (by rw [exk4]; congr 1; have := i_cl (x := v7) (by omega); have := i_cl (x := i) (by omega); omega)).symm
  subst ea8
  refine lv_aload_n hx hb dL_law_315 rfl (lv_at hl 0 rfl) ?_
  refine lv_iload_n hx hb dL_law_316 rfl (lv_at hl 3 rfl) ?_
  refine lv_iconst (v := 5) hx hb dL_law_317 (by decide) ?_
  refine lv_iadd hx hb dL_law_318 ?_
  refine lv_topi (fun v9 ev9 => ?_)
  try have tv9 : v9.toInt = i.toInt + 5 := by rw [ev9]; exact (i_add (x := i) (y := (5 : Int32)) (by rw [k5]; omega) (by rw [k5]; omega)).trans (by rw [k5])
  refine va_sld hx hb hX hbl hbA hS (i_in (by omega) (by omega)) dL_law_319 ?_
  refine lv_topi (fun a10 ea10 => ?_)
  replace ea10 : xk5 = a10 := (ea10.trans (by rw [exk5]; congr 1; have := i_cl (x := v9) (by omega); have := i_cl (x := i) (by omega); omega)).symm
  subst ea10
  refine st_iQ (wr := [((ad 11), .inl (cI, 16, .inl (fx 0))), ((ad 2), .inr (3, [.ref (ad 23), .ref (ad 24), .ref (ad 25), .ref (ad 26), .int (nx 3), .ref (ad 27), .ref (ad 28), .ref (ad 29), .ref (ad 30)])), ((ad 23), .inl (cI, 40, .inl (fx 3))), ((ad 24), .inl (cI, 40, .inl (fx 4))), ((ad 25), .inl (cI, 40, .inl (fx 5))), ((ad 26), .inl (cI, 40, .inl (fx 6))), ((ad 27), .inl (cI, 200, .inl (fx 7))), ((ad 28), .inl (cI, 200, .inl (fx 8))), ((ad 29), .inl (cI, 20, .inl (fx 9))), ((ad 30), .inl (cI, 10, .inl (fx 10))), ((ad 3), .inr (1, [.ref (ad 31), .ref (ad 32), .ref (ad 33), .int (nx 4), .ref (ad 34), .ref (ad 35)])), ((ad 31), .inl (cI, 12, .inl (fx 11))), ((ad 32), .inl (cI, 12, .inl (fx 12))), ((ad 33), .inl (cI, 12, .inl (fx 13))), ((ad 34), .inl (cI, 6, .inl (fx 14))), ((ad 35), .inl (cI, 6, .inl (fx 15))), ((ad 4), .inr (7, [.ref (ad 36), .ref (ad 37), .ref (ad 38), .ref (ad 39), .ref (ad 40), .ref (ad 41), .int (nx 5)])), ((ad 36), .inl (cI, 40, .inl (fx 16))), ((ad 37), .inl (cI, 40, .inl (fx 17))), ((ad 38), .inl (cI, 40, .inl (fx 18))), ((ad 39), .inl (cI, 40, .inl (fx 19))), ((ad 40), .inl (cI, 40, .inl (fx 20))), ((ad 41), .inl (cI, 40, .inl (fx 21))), ((ad 5), .inr (8, [.ref (ad 42), .ref (ad 43), .ref (ad 44), .ref (ad 45), .int (nx 6), .ref (ad 46)])), ((ad 42), .inl (cI, 40, .inl (fx 22))), ((ad 43), .inl (cI, 40, .inl (fx 23))), ((ad 44), .inl (cI, 40, .inl (fx 24))), ((ad 45), .inl (cI, 40, .inl (fx 25))), ((ad 46), .inl (cI, 40, .inl (fx 26))), ((ad 6), .inr (2, [.ref (ad 47), .int (nx 7), .int (nx 8), .ref (ad 48), .ref (ad 49), .ref (ad 50), .int (nx 9), .ref (ad 51), .ref (ad 52), .ref (ad 53), .int (nx 10), .int (nx 11), .int (nx 12), .int (nx 13), .int (nx 14)])), ((ad 47), .inl (cY, 300, .inl (fx 27))), ((ad 48), .inl (cI, 12, .inl (fx 28))), ((ad 49), .inl (cI, 12, .inl (fx 29))), ((ad 50), .inl (cI, 12, .inl (fx 30))), ((ad 51), .inl (cI, 12, .inl (fx 31))), ((ad 52), .inl (cI, 12, .inl (fx 32))), ((ad 53), .inl (cI, 12, .inl (fx 33))), ((ad 7), .inr (0, [.ref (ad 54), .ref (ad 55), .ref (ad 56), .ref (ad 57), .int (nx 15)])), ((ad 54), .inl (cI, 60, .inl (fx 34))), ((ad 55), .inl (cI, 60, .inl (fx 35))), ((ad 56), .inl (cI, 60, .inl (fx 36))), ((ad 57), .inl (cI, 60, .inl (fx 37))), ((ad 8), .inr (5, [.int sd, .ref (ad 58)])), ((ad 58), .inl (cJ, 12, .inr (.inl lo))), ((ad 9), .inr (6, [.ref (ad 59), .ref (ad 60), .ref (ad 61), .ref (ad 62), .int (nx 16)])), ((ad 59), .inl (cI, 60, .inl (fx 38))), ((ad 60), .inl (cI, 60, .inl (fx 39))), ((ad 61), .inl (cI, 60, .inl (fx 40))), ((ad 62), .inl (cI, 60, .inl (fx 41))), ((ad 10), .inr (4, [.ref (ad 63), .ref (ad 64), .ref (ad 65), .int (nx 17)])), ((ad 63), .inl (cI, 20, .inl (fx 42))), ((ad 64), .inl (cI, 20, .inl (fx 43))), ((ad 65), .inl (cI, 20, .inl (fx 44)))]) (va_runV (C := RX10) (As := [.int xk1, .int xk2, .int xk3, .int xk4, .int xk5]) (rest := []) ⟨hx, hb, hml, hown, hts⟩ (ct_X10_copy l D cI cY cJ cQ _ ad rw rs (nx 0) (nx 1) (nx 2) (fx 1) (fx 2) xk1 xk2 xk3 xk4 xk5 (by assumption)) (cwV 5 hts gL_law_X10_copy rfl rfl rfl ⟨rfl, cdX10_copy⟩ ⟨Nat.le_of_ble_eq_true rfl, Nat.le_of_ble_eq_true rfl⟩) (cPreV (hP.sub [2, 3, 4, 5, 6, 7, 8, 9, 0, 10, 11, 12, 13] rfl) hK (hD.sub [2, 3, 4, 5, 6, 7, 8, 9, 0, 10, 11, 12, 13] (by decide +kernel) rfl) hN (ci := 10) (q0 := 8) rfl rfl) rfl rfl hl.1 rfl (lv_room (Nat.le_of_ble_eq_true rfl)) dL_law_320 ⟨Nat.le_of_ble_eq_true rfl, Nat.le_of_ble_eq_true rfl⟩) hP hD hS hA [2, 3, 4, 5, 6, 7, 8, 9, 0, 10, 11, 12, 13] [1, 14, 15, 16, 17, 18, 19, 20, 21, 22, 23, 24, 25, 26, 27, 28, 29, 30, 31, 32, 33, 34, 35, 36, 37, 38, 39, 40, 41, 42, 43, 44, 45, 46, 47, 48, 49, 50, 51, 52, 53, 54, 55, 56, 57, 58, 59, 60, 61, 62, 63, 64, 65] rfl rfl (by decide +kernel) (by decide +kernel) (fun r13 u11 H locs hw12 hP hD hS => ?_)
  obtain ⟨lf_14, rs_15⟩ := u11
  replace hw12 : (r13, (lf_14, rs_15)) = sp_copy (nx 2) rs (fx 1) (fx 2) xk1 xk2 xk3 xk4 xk5 := hw12
  refine lv_pop hx hb dL_law_323 rfl ?_
  have hPx : va_P D vwCl (wX ad rw sd cI cY cJ cQ (upd nx 2 lf_14) fx rs_15 lo ++ wM md sd cI cY cJ cQ ny fy fl) H := hP.part [61, 0, 53, 54, 55, 56, 57, 58, 59, 60, 62, 63, 64, 65, 1, 2, 3, 4, 5, 6, 7, 8, 9, 10, 11, 12, 13, 14, 15, 16, 17, 18, 19, 20, 21, 22, 23, 24, 25, 26, 27, 28, 29, 30, 31, 32, 33, 34, 35, 36, 37, 38, 39, 40, 41, 42, 43, 44, 45, 46, 47, 48, 49, 50, 51, 52] rfl
  have hDx : va_D (fun q : Nat => s.heap.size ≤ q) (wX ad rw sd cI cY cJ cQ (upd nx 2 lf_14) fx rs_15 lo ++ wM md sd cI cY cJ cQ ny fy fl) := hD.part [61, 0, 53, 54, 55, 56, 57, 58, 59, 60, 62, 63, 64, 65, 1, 2, 3, 4, 5, 6, 7, 8, 9, 10, 11, 12, 13, 14, 15, 16, 17, 18, 19, 20, 21, 22, 23, 24, 25, 26, 27, 28, 29, 30, 31, 32, 33, 34, 35, 36, 37, 38, 39, 40, 41, 42, 43, 44, 45, 46, 47, 48, 49, 50, 51, 52] (by decide +kernel) rfl
  have hP := hPx.comm
  have hD := hDx.comm
  refine lv_aload_n hx hb dL_law_324 rfl (lv_at hl 2 rfl) ?_
  refine lv_aload_n hx hb dL_law_325 rfl (lv_at hl 0 rfl) ?_
  refine lv_iload_n hx hb dL_law_326 rfl (lv_at hl 3 rfl) ?_
  refine lv_iconst (v := 1) hx hb dL_law_327 (by decide) ?_
  refine lv_iadd hx hb dL_law_328 ?_
  refine lv_topi (fun v16 ev16 => ?_)
  try have tv16 : v16.toInt = i.toInt + 1 := by rw [ev16]; exact (i_add (x := i) (y := (1 : Int32)) (by rw [k1]; omega) (by rw [k1]; omega)).trans (by rw [k1])
  refine va_sld hx hb hX hbl hbA hS (i_in (by omega) (by omega)) dL_law_329 ?_
  refine lv_topi (fun a17 ea17 => ?_)
  replace ea17 : xk1 = a17 := (ea17.trans (by rw [exk1]; congr 1; have := i_cl (x := v16) (by omega); have := i_cl (x := i) (by omega); omega)).symm
  subst ea17
  refine lv_aload_n hx hb dL_law_330 rfl (lv_at hl 0 rfl) ?_
  refine lv_iload_n hx hb dL_law_331 rfl (lv_at hl 3 rfl) ?_
  refine lv_iconst (v := 2) hx hb dL_law_332 (by decide) ?_
  refine lv_iadd hx hb dL_law_333 ?_
  refine lv_topi (fun v18 ev18 => ?_)
  try have tv18 : v18.toInt = i.toInt + 2 := by rw [ev18]; exact (i_add (x := i) (y := (2 : Int32)) (by rw [k2]; omega) (by rw [k2]; omega)).trans (by rw [k2])
  refine va_sld hx hb hX hbl hbA hS (i_in (by omega) (by omega)) dL_law_334 ?_
  refine lv_topi (fun a19 ea19 => ?_)
  replace ea19 : xk2 = a19 := (ea19.trans (by rw [exk2]; congr 1; have := i_cl (x := v18) (by omega); have := i_cl (x := i) (by omega); omega)).symm
  subst ea19
  refine lv_aload_n hx hb dL_law_335 rfl (lv_at hl 0 rfl) ?_
  refine lv_iload_n hx hb dL_law_336 rfl (lv_at hl 3 rfl) ?_
  refine lv_iconst (v := 3) hx hb dL_law_337 (by decide) ?_
  refine lv_iadd hx hb dL_law_338 ?_
  refine lv_topi (fun v20 ev20 => ?_)
  try have tv20 : v20.toInt = i.toInt + 3 := by rw [ev20]; exact (i_add (x := i) (y := (3 : Int32)) (by rw [k3]; omega) (by rw [k3]; omega)).trans (by rw [k3])
  refine va_sld hx hb hX hbl hbA hS (i_in (by omega) (by omega)) dL_law_339 ?_
  refine lv_topi (fun a21 ea21 => ?_)
  replace ea21 : xk3 = a21 := (ea21.trans (by rw [exk3]; congr 1; have := i_cl (x := v20) (by omega); have := i_cl (x := i) (by omega); omega)).symm
  subst ea21
  refine lv_aload_n hx hb dL_law_340 rfl (lv_at hl 0 rfl) ?_
  refine lv_iload_n hx hb dL_law_341 rfl (lv_at hl 3 rfl) ?_
  refine lv_iconst (v := 4) hx hb dL_law_342 (by decide) ?_
  refine lv_iadd hx hb dL_law_343 ?_
  refine lv_topi (fun v22 ev22 => ?_)
  try have tv22 : v22.toInt = i.toInt + 4 := by rw [ev22]; exact (i_add (x := i) (y := (4 : Int32)) (by rw [k4]; omega) (by rw [k4]; omega)).trans (by rw [k4])
  refine va_sld hx hb hX hbl hbA hS (i_in (by omega) (by omega)) dL_law_344 ?_
  refine lv_topi (fun a23 ea23 => ?_)
  replace ea23 : xk4 = a23 := (ea23.trans (by rw [exk4]; congr 1; have := i_cl (x := v22) (by omega); have := i_cl (x := i) (by omega); omega)).symm
  subst ea23
  refine lv_aload_n hx hb dL_law_345 rfl (lv_at hl 0 rfl) ?_
  refine lv_iload_n hx hb dL_law_346 rfl (lv_at hl 3 rfl) ?_
  refine lv_iconst (v := 5) hx hb dL_law_347 (by decide) ?_
  refine lv_iadd hx hb dL_law_348 ?_
  refine lv_topi (fun v24 ev24 => ?_)
  try have tv24 : v24.toInt = i.toInt + 5 := by rw [ev24]; exact (i_add (x := i) (y := (5 : Int32)) (by rw [k5]; omega) (by rw [k5]; omega)).trans (by rw [k5])
  refine va_sld hx hb hX hbl hbA hS (i_in (by omega) (by omega)) dL_law_349 ?_
  refine lv_topi (fun a25 ea25 => ?_)
  replace ea25 : xk5 = a25 := (ea25.trans (by rw [exk5]; congr 1; have := i_cl (x := v24) (by omega); have := i_cl (x := i) (by omega); omega)).symm
  subst ea25
  refine st_iQ (wr := [((md 7), .inl (cI, 40, .inl (fy 3))), ((md 8), .inl (cI, 40, .inl (fy 4))), ((md 9), .inl (cI, 40, .inl (fy 5))), ((md 10), .inl (cI, 40, .inl (fy 6))), ((md 11), .inl (cI, 200, .inl (fy 7))), ((md 12), .inl (cI, 12, .inl (fy 8))), ((md 13), .inl (cI, 12, .inl (fy 9))), ((md 14), .inl (cJ, 12, .inr (.inl fl))), ((md 16), .inl (cI, 12, .inl (fy 10))), ((md 17), .inl (cI, 12, .inl (fy 11))), ((md 19), .inl (cI, 40, .inl (fy 12))), ((md 20), .inl (cI, 40, .inl (fy 13))), ((md 21), .inl (cI, 40, .inl (fy 14))), ((md 22), .inl (cI, 40, .inl (fy 15))), ((md 23), .inl (cI, 40, .inl (fy 16))), ((md 26), .inl (cI, 40, .inl (fy 17))), ((md 27), .inl (cI, 40, .inl (fy 18))), ((md 28), .inl (cI, 40, .inl (fy 19))), ((md 29), .inl (cI, 40, .inl (fy 20))), ((md 31), .inl (cI, 36, .inl (fy 21))), ((md 33), .inl (cI, 36, .inl (fy 22))), ((md 34), .inl (cI, 300, .inl (fy 23))), ((md 45), .inl (cI, 60, .inl (fy 24))), ((md 46), .inl (cI, 60, .inl (fy 25))), ((md 47), .inl (cI, 60, .inl (fy 26))), ((md 48), .inl (cI, 60, .inl (fy 27))), ((md 49), .inl (cI, 6, .inl (fy 28))), ((md 50), .inl (cI, 6, .inl (fy 29))), ((md 51), .inl (cI, 12, .inl (fy 30))), ((md 53), .inl (cI, 60, .inl (fy 31))), ((md 54), .inl (cI, 60, .inl (fy 32))), ((md 55), .inl (cI, 60, .inl (fy 33))), ((md 56), .inl (cI, 60, .inl (fy 34))), ((md 58), .inl (cI, 20, .inl (fy 35))), ((md 59), .inl (cI, 20, .inl (fy 36))), ((md 60), .inl (cI, 20, .inl (fy 37))), ((md 62), .inl (cI, 16, .inl (fy 38)))]) (va_runV (C := RX11) (As := [.int xk1, .int xk2, .int xk3, .int xk4, .int xk5]) (rest := []) ⟨hx, hb, hml, hown, hts⟩ (ct_X11_copy l D cI cY cJ cQ _ md sd (ny 0) (ny 1) (ny 2) (ny 3) (ny 4) (ny 5) (ny 6) (ny 7) (ny 8) (ny 9) (ny 10) (ny 11) (ny 12) (ny 13) (ny 14) (ny 15) (ny 16) (ny 17) (ny 18) (ny 19) (ny 20) (ny 21) (ny 22) (fy 0) (fy 1) (fy 2) xk1 xk2 xk3 xk4 xk5 (by assumption)) (cwV 5 hts gL_law_X11_copy rfl rfl rfl ⟨rfl, cdX11_copy⟩ ⟨Nat.le_of_ble_eq_true rfl, Nat.le_of_ble_eq_true rfl⟩) (cPreV (hP.sub [0, 1, 2, 3] rfl) hK (hD.sub [0, 1, 2, 3] (by decide +kernel) rfl) hN (ci := 11) (q0 := 0) rfl rfl) rfl rfl hl.1 rfl (lv_room (Nat.le_of_ble_eq_true rfl)) dL_law_350 ⟨Nat.le_of_ble_eq_true rfl, Nat.le_of_ble_eq_true rfl⟩) hP hD hS hA [0, 1, 2, 3] [4, 5, 6, 7, 8, 9, 10, 11, 12, 13, 14, 15, 16, 17, 18, 19, 20, 21, 22, 23, 24, 25, 26, 27, 28, 29, 30, 31, 32, 33, 34, 35, 36, 37, 38, 39, 40] rfl rfl (by decide +kernel) (by decide +kernel) (fun r28 u26 H locs hw27 hP hD hS => ?_)
  obtain ⟨mst_29, mi_30⟩ := u26
  replace hw27 : True := hw27
  refine lv_pop hx hb dL_law_353 rfl ?_
  refine lv_goto (tgt := 1652) hx hb dL_law_354 (by decide) ?_
  have hPm : va_P D vwCl (wM md sd cI cY cJ cQ (upd (upd ny 0 0) 1 mst_29) (upR fy 2 mi_30) fl ++ wX ad rw sd cI cY cJ cQ (upd nx 2 lf_14) fx rs_15 lo) H := hP.part [37, 38, 39, 40, 0, 1, 2, 3, 4, 5, 6, 7, 8, 9, 10, 11, 12, 13, 14, 15, 16, 17, 18, 19, 20, 21, 22, 23, 24, 25, 26, 27, 28, 29, 30, 31, 32, 33, 34, 35, 36] rfl
  have hDm : va_D (fun q : Nat => s.heap.size ≤ q) (wM md sd cI cY cJ cQ (upd (upd ny 0 0) 1 mst_29) (upR fy 2 mi_30) fl ++ wX ad rw sd cI cY cJ cQ (upd nx 2 lf_14) fx rs_15 lo) := hD.part [37, 38, 39, 40, 0, 1, 2, 3, 4, 5, 6, 7, 8, 9, 10, 11, 12, 13, 14, 15, 16, 17, 18, 19, 20, 21, 22, 23, 24, 25, 26, 27, 28, 29, 30, 31, 32, 33, 34, 35, 36] (by decide +kernel) rfl
  exact kk (upd nx 2 lf_14) fx rs_15 lo (upd (upd ny 0 0) 1 mst_29) (upR fy 2 mi_30) fl H locs ls ⟨Xhna, Xhnb, XH, Xcna, Xcnb, Xpna, Xpnb, XO, Xgna, Xgnb, Xlna, Xlnb, Xdla, Xdlb, Xana, Xanb, Xuna, Xunb, Xlca, Xlcb, Xtna, Xtnb, XS, Mhna, Mhnb, MH, MS, Mmlna, Mmlnb, Mmtna, Mmtnb, Ccn, Cfo, Cwo, Cpn, Cpk, Cpf, Cpo, Cpd, Cpe, Cgn, Cgk, Cgs, Cgd, Cge, Can, Cak, Cah, Cay, Caz, Cun, Cuk, Cuy, Cuw, Cum, Clc, Clp, Cla, Clb, Caw, Ciw, Cln, Ctd⟩ hPm.comm hDm.comm hS hl
