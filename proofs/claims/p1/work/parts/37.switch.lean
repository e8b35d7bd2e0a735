set_option maxHeartbeats 4000000 in
set_option maxRecDepth 100000 in
theorem law_switch_2 {p : Program} {l : Launch} {e : Env} {s : State} {m : MethodId} {below : List Frame} {meth : Method} {c : Code} {D : va_G} {cI cY cJ cQ : ClassId} {b : Nat} {xs : Nat → Int32} {ad rw md : Nat → Nat} {sd : Int32} {H : Heap} {locs : List Loc} {ls : Array Slot} {v : Int32} (C0 : lawC p s m meth c b xs D cI cY cJ cQ) (hP : va_P D vwCl [((ad 0), .inr (10, [.ref (ad 1), .ref (ad 2), .ref (ad 3), .ref (ad 4), .ref (ad 5), .ref (ad 6), .ref (ad 7), .ref (ad 8), .ref (ad 9), .ref (ad 10), .ref (ad 11), .int 0, .int 0, .int 0])), ((ad 1), .inr (9, [.ref (ad 12), .ref (ad 13), .ref (ad 14)])), ((ad 12), .inl (cQ, 8, .inr (.inr (.inr (.inr (fun i => if i < 8 then some (rw i) else none)))))), ((rw 0), .inl (cI, 60, .inl (fun _ => 0))), ((rw 1), .inl (cI, 60, .inl (fun _ => 0))), ((rw 2), .inl (cI, 60, .inl (fun _ => 0))), ((rw 3), .inl (cI, 60, .inl (fun _ => 0))), ((rw 4), .inl (cI, 60, .inl (fun _ => 0))), ((rw 5), .inl (cI, 60, .inl (fun _ => 0))), ((rw 6), .inl (cI, 60, .inl (fun _ => 0))), ((rw 7), .inl (cI, 60, .inl (fun _ => 0))), ((ad 13), .inl (cI, 8, .inl (fun _ => 0))), ((ad 14), .inl (cI, 8, .inl (fun _ => (-1)))), ((ad 2), .inr (3, [.ref (ad 23), .ref (ad 24), .ref (ad 25), .ref (ad 26), .int 0, .ref (ad 27), .ref (ad 28), .ref (ad 29), .ref (ad 30)])), ((ad 23), .inl (cI, 40, .inl (fun _ => 0))), ((ad 24), .inl (cI, 40, .inl (fun _ => 0))), ((ad 25), .inl (cI, 40, .inl (fun _ => 0))), ((ad 26), .inl (cI, 40, .inl (fun _ => 0))), ((ad 27), .inl (cI, 200, .inl (fun _ => 0))), ((ad 28), .inl (cI, 200, .inl (fun _ => 0))), ((ad 29), .inl (cI, 20, .inl (fun _ => 0))), ((ad 30), .inl (cI, 10, .inl (fun _ => 0))), ((ad 3), .inr (1, [.ref (ad 31), .ref (ad 32), .ref (ad 33), .int 0, .ref (ad 34), .ref (ad 35)])), ((ad 31), .inl (cI, 12, .inl (fun _ => 0))), ((ad 32), .inl (cI, 12, .inl (fun _ => 0))), ((ad 34), .inl (cI, 6, .inl (fun _ => 4))), ((ad 35), .inl (cI, 6, .inl (fun _ => 100000))), ((ad 4), .inr (7, [.ref (ad 36), .ref (ad 37), .ref (ad 38), .ref (ad 39), .ref (ad 40), .ref (ad 41), .int 0])), ((ad 5), .inr (8, [.ref (ad 42), .ref (ad 43), .ref (ad 44), .ref (ad 45), .int 0, .ref (ad 46)])), ((ad 6), .inr (2, [.ref (ad 47), .int 0, .int 0, .ref (ad 48), .ref (ad 49), .ref (ad 50), .int 0, .ref (ad 51), .ref (ad 52), .ref (ad 53), .int 0, .int 0, .int 0, .int 0, .int 0])), ((ad 47), .inl (cY, 300, .inl (fun _ => 0))), ((ad 48), .inl (cI, 12, .inl (fun _ => 0))), ((ad 49), .inl (cI, 12, .inl (fun _ => 0))), ((ad 50), .inl (cI, 12, .inl (fun _ => 0))), ((ad 51), .inl (cI, 12, .inl (fun _ => 0))), ((ad 52), .inl (cI, 12, .inl (fun _ => 0))), ((ad 53), .inl (cI, 12, .inl (fun _ => 0))), ((ad 7), .inr (0, [.ref (ad 54), .ref (ad 55), .ref (ad 56), .ref (ad 57), .int 0])), ((ad 8), .inr (5, [.int sd, .ref (ad 58)])), ((ad 9), .inr (6, [.ref (ad 59), .ref (ad 60), .ref (ad 61), .ref (ad 62), .int 0])), ((ad 10), .inr (4, [.ref (ad 63), .ref (ad 64), .ref (ad 65), .int 0])), ((ad 63), .inl (cI, 20, .inl (fun _ => 0))), ((ad 64), .inl (cI, 20, .inl (fun _ => 0))), ((ad 65), .inl (cI, 20, .inl (fun _ => 0))), ((md 64), .inr (11, [.int 0, .long (sd.toInt64), .int 0, .ref (md 3), .ref (md 4), .ref (md 5), .int 0, .ref (md 7), .ref (md 8), .ref (md 9), .ref (md 10), .ref (md 11), .ref (md 12), .ref (md 13), .ref (md 14), .int 0, .ref (md 16), .ref (md 17), .int 0, .ref (md 19), .ref (md 20), .ref (md 21), .ref (md 22), .ref (md 23), .int 0, .int 0, .ref (md 26), .ref (md 27), .ref (md 28), .ref (md 29), .int 0, .ref (md 31), .int 0, .ref (md 33), .ref (md 34), .int 0, .int 0, .int 0, .int 0, .int 0, .int 0, .int 0, .int 0, .int 0, .int 0, .ref (md 45), .ref (md 46), .ref (md 47), .ref (md 48), .ref (md 49), .ref (md 50), .ref (md 51), .int 0, .ref (md 53), .ref (md 54), .ref (md 55), .ref (md 56), .int 0, .ref (md 58), .ref (md 59), .ref (md 60), .int 0, .ref (md 62), .int 0])), ((md 3), .inl (cI, 8, .inl (fun _ => (-1)))), ((md 4), .inl (cI, 8, .inl (fun _ => 0))), ((md 5), .inl (cI, 480, .inl (fun _ => 0))), ((md 7), .inl (cI, 40, .inl (fun _ => 0))), ((md 8), .inl (cI, 40, .inl (fun _ => 0))), ((md 9), .inl (cI, 40, .inl (fun _ => 0))), ((md 10), .inl (cI, 40, .inl (fun _ => 0))), ((md 11), .inl (cI, 200, .inl (fun _ => 0))), ((md 12), .inl (cI, 12, .inl (fun _ => 0))), ((md 13), .inl (cI, 12, .inl (fun _ => 0))), ((md 14), .inl (cJ, 12, .inr (.inl (fun _ => 0)))), ((md 16), .inl (cI, 12, .inl (fun _ => 0))), ((md 17), .inl (cI, 12, .inl (fun _ => 0))), ((md 58), .inl (cI, 20, .inl (fun _ => 0))), ((md 59), .inl (cI, 20, .inl (fun _ => 0))), ((md 60), .inl (cI, 20, .inl (fun _ => 0))), ((md 49), .inl (cI, 6, .inl (fun _ => 4))), ((md 50), .inl (cI, 6, .inl (fun _ => 100000))), ((md 34), .inl (cI, 300, .inl (fun _ => 0))), ((md 31), .inl (cI, 36, .inl (fun _ => 0))), ((md 33), .inl (cI, 36, .inl (fun _ => 0)))] H) (hD : va_D (fun q : Nat => s.heap.size ≤ q) [((ad 0), .inr (10, [.ref (ad 1), .ref (ad 2), .ref (ad 3), .ref (ad 4), .ref (ad 5), .ref (ad 6), .ref (ad 7), .ref (ad 8), .ref (ad 9), .ref (ad 10), .ref (ad 11), .int 0, .int 0, .int 0])), ((ad 1), .inr (9, [.ref (ad 12), .ref (ad 13), .ref (ad 14)])), ((ad 12), .inl (cQ, 8, .inr (.inr (.inr (.inr (fun i => if i < 8 then some (rw i) else none)))))), ((rw 0), .inl (cI, 60, .inl (fun _ => 0))), ((rw 1), .inl (cI, 60, .inl (fun _ => 0))), ((rw 2), .inl (cI, 60, .inl (fun _ => 0))), ((rw 3), .inl (cI, 60, .inl (fun _ => 0))), ((rw 4), .inl (cI, 60, .inl (fun _ => 0))), ((rw 5), .inl (cI, 60, .inl (fun _ => 0))), ((rw 6), .inl (cI, 60, .inl (fun _ => 0))), ((rw 7), .inl (cI, 60, .inl (fun _ => 0))), ((ad 13), .inl (cI, 8, .inl (fun _ => 0))), ((ad 14), .inl (cI, 8, .inl (fun _ => (-1)))), ((ad 2), .inr (3, [.ref (ad 23), .ref (ad 24), .ref (ad 25), .ref (ad 26), .int 0, .ref (ad 27), .ref (ad 28), .ref (ad 29), .ref (ad 30)])), ((ad 23), .inl (cI, 40, .inl (fun _ => 0))), ((ad 24), .inl (cI, 40, .inl (fun _ => 0))), ((ad 25), .inl (cI, 40, .inl (fun _ => 0))), ((ad 26), .inl (cI, 40, .inl (fun _ => 0))), ((ad 27), .inl (cI, 200, .inl (fun _ => 0))), ((ad 28), .inl (cI, 200, .inl (fun _ => 0))), ((ad 29), .inl (cI, 20, .inl (fun _ => 0))), ((ad 30), .inl (cI, 10, .inl (fun _ => 0))), ((ad 3), .inr (1, [.ref (ad 31), .ref (ad 32), .ref (ad 33), .int 0, .ref (ad 34), .ref (ad 35)])), ((ad 31), .inl (cI, 12, .inl (fun _ => 0))), ((ad 32), .inl (cI, 12, .inl (fun _ => 0))), ((ad 34), .inl (cI, 6, .inl (fun _ => 4))), ((ad 35), .inl (cI, 6, .inl (fun _ => 100000))), ((ad 4), .inr (7, [.ref (ad 36), .ref (ad 37), .ref (ad 38), .ref (ad 39), .ref (ad 40), .ref (ad 41), .int 0])), ((ad 5), .inr (8, [.ref (ad 42), .ref (ad 43), .ref (ad 44), .ref (ad 45), .int 0, .ref (ad 46)])), ((ad 6), .inr (2, [.ref (ad 47), .int 0, .int 0, .ref (ad 48), .ref (ad 49), .ref (ad 50), .int 0, .ref (ad 51), .ref (ad 52), .ref (ad 53), .int 0, .int 0, .int 0, .int 0, .int 0])), ((ad 47), .inl (cY, 300, .inl (fun _ => 0))), ((ad 48), .inl (cI, 12, .inl (fun _ => 0))), ((ad 49), .inl (cI, 12, .inl (fun _ => 0))), ((ad 50), .inl (cI, 12, .inl (fun _ => 0))), ((ad 51), .inl (cI, 12, .inl (fun _ => 0))), ((ad 52), .inl (cI, 12, .inl (fun _ => 0))), ((ad 53), .inl (cI, 12, .inl (fun _ => 0))), ((ad 7), .inr (0, [.ref (ad 54), .ref (ad 55), .ref (ad 56), .ref (ad 57), .int 0])), ((ad 8), .inr (5, [.int sd, .ref (ad 58)])), ((ad 9), .inr (6, [.ref (ad 59), .ref (ad 60), .ref (ad 61), .ref (ad 62), .int 0])), ((ad 10), .inr (4, [.ref (ad 63), .ref (ad 64), .ref (ad 65), .int 0])), ((ad 63), .inl (cI, 20, .inl (fun _ => 0))), ((ad 64), .inl (cI, 20, .inl (fun _ => 0))), ((ad 65), .inl (cI, 20, .inl (fun _ => 0))), ((md 64), .inr (11, [.int 0, .long (sd.toInt64), .int 0, .ref (md 3), .ref (md 4), .ref (md 5), .int 0, .ref (md 7), .ref (md 8), .ref (md 9), .ref (md 10), .ref (md 11), .ref (md 12), .ref (md 13), .ref (md 14), .int 0, .ref (md 16), .ref (md 17), .int 0, .ref (md 19), .ref (md 20), .ref (md 21), .ref (md 22), .ref (md 23), .int 0, .int 0, .ref (md 26), .ref (md 27), .ref (md 28), .ref (md 29), .int 0, .ref (md 31), .int 0, .ref (md 33), .ref (md 34), .int 0, .int 0, .int 0, .int 0, .int 0, .int 0, .int 0, .int 0, .int 0, .int 0, .ref (md 45), .ref (md 46), .ref (md 47), .ref (md 48), .ref (md 49), .ref (md 50), .ref (md 51), .int 0, .ref (md 53), .ref (md 54), .ref (md 55), .ref (md 56), .int 0, .ref (md 58), .ref (md 59), .ref (md 60), .int 0, .ref (md 62), .int 0])), ((md 3), .inl (cI, 8, .inl (fun _ => (-1)))), ((md 4), .inl (cI, 8, .inl (fun _ => 0))), ((md 5), .inl (cI, 480, .inl (fun _ => 0))), ((md 7), .inl (cI, 40, .inl (fun _ => 0))), ((md 8), .inl (cI, 40, .inl (fun _ => 0))), ((md 9), .inl (cI, 40, .inl (fun _ => 0))), ((md 10), .inl (cI, 40, .inl (fun _ => 0))), ((md 11), .inl (cI, 200, .inl (fun _ => 0))), ((md 12), .inl (cI, 12, .inl (fun _ => 0))), ((md 13), .inl (cI, 12, .inl (fun _ => 0))), ((md 14), .inl (cJ, 12, .inr (.inl (fun _ => 0)))), ((md 16), .inl (cI, 12, .inl (fun _ => 0))), ((md 17), .inl (cI, 12, .inl (fun _ => 0))), ((md 58), .inl (cI, 20, .inl (fun _ => 0))), ((md 59), .inl (cI, 20, .inl (fun _ => 0))), ((md 60), .inl (cI, 20, .inl (fun _ => 0))), ((md 49), .inl (cI, 6, .inl (fun _ => 4))), ((md 50), .inl (cI, 6, .inl (fun _ => 100000))), ((md 34), .inl (cI, 300, .inl (fun _ => 0))), ((md 31), .inl (cI, 36, .inl (fun _ => 0))), ((md 33), .inl (cI, 36, .inl (fun _ => 0)))]) (hS : va_S (fun q : Nat => s.heap.size ≤ q) s.heap H locs) (hl : lv_has ls 4 [(0, .ref b), (1, .ref (ad 0)), (2, .ref (md 64)), (3, .int 1)]) (v0 : 20 ≤ v.toInt) (v1 : v.toInt ≤ 29) : W p l e room_1 s m #[Value.ref b] below meth c H locs 107 4890 (lw_Z below #[Value.ref b] s) (F0 m 43 ls [.int v]) := by
  have C0k := C0
  obtain ⟨C1, hK, hN⟩ := C0
  obtain ⟨hx, hb, hr, hml, hown, hts0, hX, hbl, hlocks, hgv⟩ := C1
  have hA : ∀ q : Nat, s.heap.size ≤ q → (fun q : Nat => s.heap.size ≤ q) q := fun _ h => h
  have hbA : ¬ (fun q : Nat => s.heap.size ≤ q) b := Nat.not_le.mpr hbl
  have hts : ∀ w ∈ wsL_law, w.before #[Value.ref b] s = true := fun w h => hts0 w (wsL_law_in w h)
  replace hown : s.vm.findClass RL = some m.cls := hown
  replace hb : c.code = cL_law := hb
  have hLI : (Int32.ofNat 7).toInt = 7 := by decide
  by_cases g1 : v.toInt < 25
  · skip
    by_cases g2 : v.toInt < 23
    · skip
      by_cases g3 : v.toInt < 22
      · skip
        by_cases g4 : v.toInt < 21
        · skip
          have h5 : v.toInt = 20 := by omega
          refine lv_tableIn (tgt := 1058) (off := 1015) hx hb dL_law_43 (by omega) (by omega) (by rw [h5]; rfl) (by decide) ?_
          exact law_case_20 C0k (hP.sub [0, 22, 44] rfl) (hD.sub [0, 22, 44] (by decide) rfl) hS hl
        · skip
          have h6 : v.toInt = 21 := by omega
          refine lv_tableIn (tgt := 1091) (off := 1048) hx hb dL_law_43 (by omega) (by omega) (by rw [h6]; rfl) (by decide) ?_
          exact law_case_21 C0k (hP.sub [0, 22, 25, 26, 44, 61, 62] rfl) (hD.sub [0, 22, 25, 26, 44, 61, 62] (by decide) rfl) hS hl
      · skip
        have h7 : v.toInt = 22 := by omega
        refine lv_tableIn (tgt := 1134) (off := 1091) hx hb dL_law_43 (by omega) (by omega) (by rw [h7]; rfl) (by decide) ?_
        exact law_case_22 C0k (hP.sub [0, 22, 44] rfl) (hD.sub [0, 22, 44] (by decide) rfl) hS hl
    · skip
      by_cases g8 : v.toInt < 24
      · skip
        have h9 : v.toInt = 23 := by omega
        refine lv_tableIn (tgt := 1167) (off := 1124) hx hb dL_law_43 (by omega) (by omega) (by rw [h9]; rfl) (by decide) ?_
        exact law_case_23 C0k (hP.sub [0, 22, 44] rfl) (hD.sub [0, 22, 44] (by decide) rfl) hS hl
      · skip
        have h10 : v.toInt = 24 := by omega
        refine lv_tableIn (tgt := 1200) (off := 1157) hx hb dL_law_43 (by omega) (by omega) (by rw [h10]; rfl) (by decide) ?_
        exact law_case_24 C0k (hP.sub [0, 38, 44] rfl) (hD.sub [0, 38, 44] (by decide) rfl) hS hl
  · skip
    by_cases g11 : v.toInt < 28
    · skip
      by_cases g12 : v.toInt < 27
      · skip
        by_cases g13 : v.toInt < 26
        · skip
          have h14 : v.toInt = 25 := by omega
          refine lv_tableIn (tgt := 1243) (off := 1200) hx hb dL_law_43 (by omega) (by omega) (by rw [h14]; rfl) (by decide) ?_
          exact law_case_25 C0k (hP.sub [0, 22, 38, 44] rfl) (hD.sub [0, 22, 38, 44] (by decide) rfl) hS hl
        · skip
          have h15 : v.toInt = 26 := by omega
          refine lv_tableIn (tgt := 1276) (off := 1233) hx hb dL_law_43 (by omega) (by omega) (by rw [h15]; rfl) (by decide) ?_
          exact law_case_26 C0k (hP.sub [0, 22, 44] rfl) (hD.sub [0, 22, 44] (by decide) rfl) hS hl
      · skip
        have h16 : v.toInt = 27 := by omega
        refine lv_tableIn (tgt := 1329) (off := 1286) hx hb dL_law_43 (by omega) (by omega) (by rw [h16]; rfl) (by decide) ?_
        exact law_case_27 C0k (hP.sub [0, 22, 44] rfl) (hD.sub [0, 22, 44] (by decide) rfl) hS hl
    · skip
      by_cases g17 : v.toInt < 29
      · skip
        have h18 : v.toInt = 28 := by omega
        refine lv_tableIn (tgt := 1382) (off := 1339) hx hb dL_law_43 (by omega) (by omega) (by rw [h18]; rfl) (by decide) ?_
        exact law_case_28 C0k (hP.sub [0, 22, 44] rfl) (hD.sub [0, 22, 44] (by decide) rfl) hS hl
      · skip
        have h19 : v.toInt = 29 := by omega
        refine lv_tableIn (tgt := 1405) (off := 1362) hx hb dL_law_43 (by omega) (by omega) (by rw [h19]; rfl) (by decide) ?_
        exact law_case_29 C0k (hP.sub [0, 40, 41, 42, 43, 44, 58, 59, 60] rfl) (hD.sub [0, 40, 41, 42, 43, 44, 58, 59, 60] (by decide) rfl) hS hl
