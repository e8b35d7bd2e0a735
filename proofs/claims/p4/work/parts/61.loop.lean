theorem dL_law_all1 : decode cL_law 22 = .ok (.invokespecial 20, 3) ∧ decode cL_law 25 = .ok (.astore_n 2, 1) ∧ decode cL_law 26 = .ok (.iconst 1, 1) ∧ decode cL_law 27 = .ok (.istore_n 3, 1) ∧ decode cL_law 28 = .ok (.iload_n 3, 1) ∧ decode cL_law 29 = .ok (.aload_n 0, 1) ∧ decode cL_law 30 = .ok (.arraylength, 1) ∧ decode cL_law 31 = .ok (.bipush 6, 2) ∧ decode cL_law 33 = .ok (.isub, 1) ∧ decode cL_law 34 = .ok (.if_icmp .gt 1624, 3) ∧ decode cL_law 37 = .ok (.aload_n 0, 1) ∧ decode cL_law 38 = .ok (.iload_n 3, 1) := ⟨by decide +kernel, by decide +kernel, dq_4 sB_1 2 rfl, by decide +kernel, dq_29 sB_1 4 rfl, dq_42 sB_1 5 rfl, by decide +kernel, by decide +kernel, by decide +kernel, by decide +kernel, dq_42 sB_1 13 rfl, dq_29 sB_1 14 rfl⟩
theorem dL_law_28 : decode cL_law 28 = .ok (.iload_n 3, 1) := dL_law_all1.2.2.2.2.1
theorem dL_law_29 : decode cL_law 29 = .ok (.aload_n 0, 1) := dL_law_all1.2.2.2.2.2.1
theorem dL_law_30 : decode cL_law 30 = .ok (.arraylength, 1) := dL_law_all1.2.2.2.2.2.2.1
theorem dL_law_31 : decode cL_law 31 = .ok (.bipush 6, 2) := dL_law_all1.2.2.2.2.2.2.2.1
theorem dL_law_33 : decode cL_law 33 = .ok (.isub, 1) := dL_law_all1.2.2.2.2.2.2.2.2.1
theorem dL_law_34 : decode cL_law 34 = .ok (.if_icmp .gt 1624, 3) := dL_law_all1.2.2.2.2.2.2.2.2.2.1
theorem dL_law_37 : decode cL_law 37 = .ok (.aload_n 0, 1) := dL_law_all1.2.2.2.2.2.2.2.2.2.2.1
theorem dL_law_38 : decode cL_law 38 = .ok (.iload_n 3, 1) := dL_law_all1.2.2.2.2.2.2.2.2.2.2.2
theorem dL_law_39 : decode cL_law 39 = .ok (.iaload, 1) := dL_law_all2.1
theorem dL_law_40 : decode cL_law 40 = .ok (.bipush 63, 2) := dL_law_all2.2.1
theorem dL_law_42 : decode cL_law 42 = .ok (.iand, 1) := dL_law_all2.2.2.1
theorem dL_law_1652 : decode cL_law 1652 = .ok (.iinc 3 6, 3) := dL_law_all103.2.2.1
theorem dL_law_1655 : decode cL_law 1655 = .ok (.goto (-1627), 3) := dL_law_all103.2.2.2.1
theorem dL_law_1658 : decode cL_law 1658 = .ok (.iconst 1, 1) := dL_law_all103.2.2.2.2.1
theorem dL_law_1659 : decode cL_law 1659 = .ok (.ireturn, 1) := dL_law_all103.2.2.2.2.2
set_option maxHeartbeats 4000000 in
set_option maxRecDepth 100000 in
theorem law_loop {p : Program} {l : Launch} {e : Env} {s : State} {m : MethodId} {below : List Frame} {meth : Method} {c : Code} {D : va_G} {cI cY cJ cQ : ClassId} {b L aK aV : Nat} {xs : Nat → Int32} {ad rw md : Nat → Nat} {sd i : Int32} {nx : Nat → Int32} {fx rs : Nat → Nat → Int32} {lo : Nat → Int64} {ny : Nat → Int32} {fy : Nat → Nat → Int32} {fl : Nat → Int64} {H : Heap} {locs : List Loc} {ls : Array Slot} (C0 : lawC p s m meth c b L xs D cI cY cJ cQ aK aV) (I : inv nx fx rs ny fy) (hP : va_P D vwCl (wX ad rw sd cI cY cJ cQ nx fx rs lo ++ wM md sd cI cY cJ cQ ny fy fl) H) (hD : va_D (fun q : Nat => s.heap.size ≤ q) (wX ad rw sd cI cY cJ cQ nx fx rs lo ++ wM md sd cI cY cJ cQ ny fy fl)) (hS : va_S (fun q : Nat => s.heap.size ≤ q) s.heap H locs) (hl : lv_has ls 4 [(0, .ref b), (1, .ref (ad 0)), (2, .ref (md 64)), (3, .int i)]) (hi1 : 1 ≤ i.toInt) (hi2 : i.toInt ≤ (L : Int) + 6) : W p l e room_1 s m #[Value.ref b] below meth c H locs 107 4890 (lw_Z below #[Value.ref b] s) (F0 m 28 ls []) := by
  have C0k := C0
  obtain ⟨C1, hK, hN, hT, hL⟩ := C0
  obtain ⟨hx, hb, hr, hml, hown, hts0, hX, hbl, hlocks, hgv⟩ := C1
  have hA : ∀ q : Nat, s.heap.size ≤ q → (fun q : Nat => s.heap.size ≤ q) q := fun _ h => h
  have hbA : ¬ (fun q : Nat => s.heap.size ≤ q) b := Nat.not_le.mpr hbl
  have hts : ∀ w ∈ wsL_law, w.before #[Value.ref b] s = true := fun w h => hts0 w (wsL_law_in w h)
  replace hown : s.vm.findClass RL = some m.cls := hown
  replace hb : c.code = cL_law := hb
  have hLI : (Int32.ofNat L).toInt = (L : Int) := nI_toInt (by omega)
  have k6 : (6 : Int32).toInt = 6 := by decide
  have k63 : (63 : Int32).toInt = 63 := by decide
  refine st_loop 28 (fun _ => []) (fun (i : Int32) (ls : Array Slot) (H : Heap) (locs : List Loc) => ∃ (nx : Nat → Int32) (fx rs : Nat → Nat → Int32) (lo : Nat → Int64) (ny : Nat → Int32) (fy : Nat → Nat → Int32) (fl : Nat → Int64), inv nx fx rs ny fy ∧ va_P D vwCl (wX ad rw sd cI cY cJ cQ nx fx rs lo ++ wM md sd cI cY cJ cQ ny fy fl) H ∧ va_D (fun q : Nat => s.heap.size ≤ q) (wX ad rw sd cI cY cJ cQ nx fx rs lo ++ wM md sd cI cY cJ cQ ny fy fl) ∧ va_S (fun q : Nat => s.heap.size ≤ q) s.heap H locs ∧ lv_has ls 4 [(0, .ref b), (1, .ref (ad 0)), (2, .ref (md 64)), (3, .int i)] ∧ 1 ≤ i.toInt ∧ i.toInt ≤ (L : Int) + 6) (fun (i : Int32) => (L : Int) + 6 - i.toInt) ?_ ?_ i ⟨nx, fx, rs, lo, ny, fy, fl, I, hP, hD, hS, hl, hi1, hi2⟩
  · rintro i ls H locs ⟨nx, fx, rs, lo, ny, fy, fl, I, hP, hD, hS, hl, h1, h2⟩
    show (0 : Int) ≤ (L : Int) + 6 - i.toInt
    omega
  · rintro n9 ih9 i ls H locs ⟨nx, fx, rs, lo, ny, fy, fl, I, hP, hD, hS, hl, h1, h2⟩ hm9
    have hm9 : (L : Int) + 6 - i.toInt < (n9 : Int) + 1 := hm9
    have hl : lv_has ls 4 [(0, .ref b), (1, .ref (ad 0)), (2, .ref (md 64)), (3, .int i)] := hl
    show W _ _ _ _ _ _ _ _ _ _ _ _ _ _ _ (F0 m 28 ls [])
    refine lv_iload_n hx hb dL_law_28 rfl (lv_at hl 3 rfl) ?_
    refine lv_aload_n hx hb dL_law_29 rfl (lv_at hl 0 rfl) ?_
    refine va_slen hx hb hX hbl hbA hS dL_law_30 ?_
    refine lv_bipush (v := 6) hx hb dL_law_31 (by decide) ?_
    refine lv_isub hx hb dL_law_33 ?_
    refine lv_topi (fun v1 ev1 => ?_)
    try have tv1 : v1.toInt = (Int32.ofNat L).toInt - 6 := by rw [ev1]; exact (i_sub (x := (Int32.ofNat L)) (y := (6 : Int32)) (by rw [k6]; omega) (by rw [k6]; omega)).trans (by rw [k6])
    refine lv_icmp_gt (tgt := 1658) hx hb dL_law_34 (by decide) (fun c1 => ?_) (fun c1 => ?_)
    · refine lv_iconst (v := 1) hx hb dL_law_1658 (by decide) ?_
      refine va_forget (fun q hq => hS.2.2 q hq) ?_
      refine W.widen (k := 600000) (n := 7302250) (Nat.le_of_ble_eq_true rfl) (Nat.le_of_ble_eq_true rfl) ?_
      exact lw_ret hx hb hr hlocks dL_law_1659
    · have f1 := i_nlt c1
      refine lv_aload_n hx hb dL_law_37 rfl (lv_at hl 0 rfl) ?_
      refine lv_iload_n hx hb dL_law_38 rfl (lv_at hl 3 rfl) ?_
      refine va_sld hx hb hX hbl hbA hS (i_in (by omega) (by omega)) dL_law_39 ?_
      refine lv_topi (fun a2 ea2 => ?_)
      refine lv_bipush (v := 63) hx hb dL_law_40 (by decide) ?_
      refine lv_iand hx hb dL_law_42 ?_
      refine lv_topi (fun v3 ev3 => ?_)
      have T9 : ∀ (nx : Nat → Int32) (fx rs : Nat → Nat → Int32) (lo : Nat → Int64) (ny : Nat → Int32) (fy : Nat → Nat → Int32) (fl : Nat → Int64) (H : Heap) (locs : List Loc) (ls : Array Slot), inv nx fx rs ny fy → va_P D vwCl (wX ad rw sd cI cY cJ cQ nx fx rs lo ++ wM md sd cI cY cJ cQ ny fy fl) H → va_D (fun q : Nat => s.heap.size ≤ q) (wX ad rw sd cI cY cJ cQ nx fx rs lo ++ wM md sd cI cY cJ cQ ny fy fl) → va_S (fun q : Nat => s.heap.size ≤ q) s.heap H locs → lv_has ls 4 [(0, .ref b), (1, .ref (ad 0)), (2, .ref (md 64)), (3, .int i)] → W p l e room_1 s m #[Value.ref b] below meth c H locs 107 4890 (lw_Z below #[Value.ref b] s) (F0 m 1652 ls []) := by
        intro nx fx rs lo ny fy fl H locs ls I hP hD hS hl
        obtain ⟨v4, ev4⟩ : ∃ y : Int32, y = i + 6 := ⟨_, rfl⟩
        try have tv4 : v4.toInt = i.toInt + 6 := by rw [ev4]; exact (i_add (x := i) (y := (6 : Int32)) (by rw [k6]; omega) (by rw [k6]; omega)).trans (by rw [k6])
        refine lv_iinc (v := v4) (lv' := [(3, .int v4), (0, .ref b), (1, .ref (ad 0)), (2, .ref (md 64))]) hx hb dL_law_1652 hl (k := 3) rfl (by rw [ev4]; rfl) (by decide) rfl (fun ls hl => ?_)
        refine lv_goto (tgt := 28) hx hb dL_law_1655 (by decide) ?_
        exact ih9 v4 ls H locs ⟨nx, fx, rs, lo, ny, fy, fl, I, hP, hD, hS, lv_sub hl [1, 2, 3, 0] rfl, (by omega), (by omega)⟩ (by show (L : Int) + 6 - v4.toInt < _; omega)
      by_cases g9 : v3.toInt < 0 ∨ 37 < v3.toInt
      · refine lv_tableOut (tgt := 1652) hx hb dL_law_43 g9 (by decide) ?_
        exact T9 nx fx rs lo ny fy fl H locs ls I hP hD hS hl
      · skip
        by_cases g90 : v3.toInt ≤ 9
        · exact law_switch_0 C0k I hP hD hS hl (by omega) (by omega) T9 (by omega) g90
        · skip
          by_cases g91 : v3.toInt ≤ 19
          · exact law_switch_1 C0k I hP hD hS hl (by omega) (by omega) T9 (by omega) g91
          · skip
            by_cases g92 : v3.toInt ≤ 29
            · exact law_switch_2 C0k I hP hD hS hl (by omega) (by omega) T9 (by omega) g92
            · skip
              exact law_switch_3 C0k I hP hD hS hl (by omega) (by omega) T9 (by omega) (by omega)
