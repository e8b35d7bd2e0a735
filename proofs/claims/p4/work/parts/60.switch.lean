theorem dL_law_43 : decode cL_law 43 = .ok (.tableswitch 1609 0 37 #[165, 208, 251, 314, 337, 390, 433, 476, 519, 552, 575, 608, 671, 714, 747, 810, 873, 936, 949, 962, 1015, 1048, 1091, 1124, 1157, 1200, 1233, 1286, 1339, 1362, 1405, 1438, 1461, 1484, 1517, 1550, 1573, 1596], 165) := dL_law_all2.2.2.2.1
set_option maxHeartbeats 4000000 in
set_option maxRecDepth 100000 in
theorem law_switch_0 {p : Program} {l : Launch} {e : Env} {s : State} {m : MethodId} {below : List Frame} {meth : Method} {c : Code} {D : va_G} {cI cY cJ cQ : ClassId} {b L aK aV : Nat} {xs : Nat → Int32} {ad rw md : Nat → Nat} {sd i : Int32} {nx : Nat → Int32} {fx rs : Nat → Nat → Int32} {lo : Nat → Int64} {ny : Nat → Int32} {fy : Nat → Nat → Int32} {fl : Nat → Int64} {H : Heap} {locs : List Loc} {ls : Array Slot} {v : Int32} (C0 : lawC p s m meth c b L xs D cI cY cJ cQ aK aV) (I : inv nx fx rs ny fy) (hP : va_P D vwCl (wX ad rw sd cI cY cJ cQ nx fx rs lo ++ wM md sd cI cY cJ cQ ny fy fl) H) (hD : va_D (fun q : Nat => s.heap.size ≤ q) (wX ad rw sd cI cY cJ cQ nx fx rs lo ++ wM md sd cI cY cJ cQ ny fy fl)) (hS : va_S (fun q : Nat => s.heap.size ≤ q) s.heap H locs) (hl : lv_has ls 4 [(0, .ref b), (1, .ref (ad 0)), (2, .ref (md 64)), (3, .int i)]) (hi1 : 1 ≤ i.toInt) (hi2 : i.toInt + 5 < L) (kk : ∀ (nx : Nat → Int32) (fx rs : Nat → Nat → Int32) (lo : Nat → Int64) (ny : Nat → Int32) (fy : Nat → Nat → Int32) (fl : Nat → Int64) (H : Heap) (locs : List Loc) (ls : Array Slot), inv nx fx rs ny fy → va_P D vwCl (wX ad rw sd cI cY cJ cQ nx fx rs lo ++ wM md sd cI cY cJ cQ ny fy fl) H → va_D (fun q : Nat => s.heap.size ≤ q) (wX ad rw sd cI cY cJ cQ nx fx rs lo ++ wM md sd cI cY cJ cQ ny fy fl) → va_S (fun q : Nat => s.heap.size ≤ q) s.heap H locs → lv_has ls 4 [(0, .ref b), (1, .ref (ad 0)), (2, .ref (md 64)), (3, .int i)] → W p l e room_1 s m #[Value.ref b] below meth c H locs 107 4890 (lw_Z below #[Value.ref b] s) (F0 m 1652 ls [])) (v0 : 0 ≤ v.toInt) (v1 : v.toInt ≤ 9) : W p l e room_1 s m #[Value.ref b] below meth c H locs 107 4890 (lw_Z below #[Value.ref b] s) (F0 m 43 ls [.int v]) := by
  have C0k := C0
  obtain ⟨C1, hK, hN, hT, hL⟩ := C0
  obtain ⟨hx, hb, hr, hml, hown, hts0, hX, hbl, hlocks, hgv⟩ := C1
  have hA : ∀ q : Nat, s.heap.size ≤ q → (fun q : Nat => s.heap.size ≤ q) q := fun _ h => h
  have hbA : ¬ (fun q : Nat => s.heap.size ≤ q) b := Nat.not_le.mpr hbl
  have hts : ∀ w ∈ wsL_law, w.before #[Value.ref b] s = true := fun w h => hts0 w (wsL_law_in w h)
  replace hown : s.vm.findClass RL = some m.cls := hown
  replace hb : c.code = cL_law := hb
  by_cases g1 : v.toInt < 5
  · skip
    by_cases g2 : v.toInt < 3
    · skip
      by_cases g3 : v.toInt < 2
      · skip
        by_cases g4 : v.toInt < 1
        · skip
          have h5 : v.toInt = 0 := by omega
          refine lv_tableIn (tgt := 208) (off := 165) hx hb dL_law_43 (by omega) (by omega) (by rw [h5]; rfl) (by decide) ?_
          exact law_case_0 C0k I hP hD hS hl hi1 hi2 kk
        · skip
          have h6 : v.toInt = 1 := by omega
          refine lv_tableIn (tgt := 251) (off := 208) hx hb dL_law_43 (by omega) (by omega) (by rw [h6]; rfl) (by decide) ?_
          exact law_case_1 C0k I hP hD hS hl hi1 hi2 kk
      · skip
        have h7 : v.toInt = 2 := by omega
        refine lv_tableIn (tgt := 294) (off := 251) hx hb dL_law_43 (by omega) (by omega) (by rw [h7]; rfl) (by decide) ?_
        exact law_case_2 C0k I hP hD hS hl hi1 hi2 kk
    · skip
      by_cases g8 : v.toInt < 4
      · skip
        have h9 : v.toInt = 3 := by omega
        refine lv_tableIn (tgt := 357) (off := 314) hx hb dL_law_43 (by omega) (by omega) (by rw [h9]; rfl) (by decide) ?_
        exact law_case_3 C0k I hP hD hS hl hi1 hi2 kk
      · skip
        have h10 : v.toInt = 4 := by omega
        refine lv_tableIn (tgt := 380) (off := 337) hx hb dL_law_43 (by omega) (by omega) (by rw [h10]; rfl) (by decide) ?_
        exact law_case_4 C0k I hP hD hS hl hi1 hi2 kk
  · skip
    by_cases g11 : v.toInt < 8
    · skip
      by_cases g12 : v.toInt < 7
      · skip
        by_cases g13 : v.toInt < 6
        · skip
          have h14 : v.toInt = 5 := by omega
          refine lv_tableIn (tgt := 433) (off := 390) hx hb dL_law_43 (by omega) (by omega) (by rw [h14]; rfl) (by decide) ?_
          exact law_case_5 C0k I hP hD hS hl hi1 hi2 kk
        · skip
          have h15 : v.toInt = 6 := by omega
          refine lv_tableIn (tgt := 476) (off := 433) hx hb dL_law_43 (by omega) (by omega) (by rw [h15]; rfl) (by decide) ?_
          exact law_case_6 C0k I hP hD hS hl hi1 hi2 kk
      · skip
        have h16 : v.toInt = 7 := by omega
        refine lv_tableIn (tgt := 519) (off := 476) hx hb dL_law_43 (by omega) (by omega) (by rw [h16]; rfl) (by decide) ?_
        exact law_case_7 C0k I hP hD hS hl hi1 hi2 kk
    · skip
      by_cases g17 : v.toInt < 9
      · skip
        have h18 : v.toInt = 8 := by omega
        refine lv_tableIn (tgt := 562) (off := 519) hx hb dL_law_43 (by omega) (by omega) (by rw [h18]; rfl) (by decide) ?_
        exact law_case_8 C0k I hP hD hS hl hi1 hi2 kk
      · skip
        have h19 : v.toInt = 9 := by omega
        refine lv_tableIn (tgt := 595) (off := 552) hx hb dL_law_43 (by omega) (by omega) (by rw [h19]; rfl) (by decide) ?_
        exact law_case_9 C0k I hP hD hS hl hi1 hi2 kk

set_option maxHeartbeats 4000000 in
set_option maxRecDepth 100000 in
theorem law_switch_1 {p : Program} {l : Launch} {e : Env} {s : State} {m : MethodId} {below : List Frame} {meth : Method} {c : Code} {D : va_G} {cI cY cJ cQ : ClassId} {b L aK aV : Nat} {xs : Nat → Int32} {ad rw md : Nat → Nat} {sd i : Int32} {nx : Nat → Int32} {fx rs : Nat → Nat → Int32} {lo : Nat → Int64} {ny : Nat → Int32} {fy : Nat → Nat → Int32} {fl : Nat → Int64} {H : Heap} {locs : List Loc} {ls : Array Slot} {v : Int32} (C0 : lawC p s m meth c b L xs D cI cY cJ cQ aK aV) (I : inv nx fx rs ny fy) (hP : va_P D vwCl (wX ad rw sd cI cY cJ cQ nx fx rs lo ++ wM md sd cI cY cJ cQ ny fy fl) H) (hD : va_D (fun q : Nat => s.heap.size ≤ q) (wX ad rw sd cI cY cJ cQ nx fx rs lo ++ wM md sd cI cY cJ cQ ny fy fl)) (hS : va_S (fun q : Nat => s.heap.size ≤ q) s.heap H locs) (hl : lv_has ls 4 [(0, .ref b), (1, .ref (ad 0)), (2, .ref (md 64)), (3, .int i)]) (hi1 : 1 ≤ i.toInt) (hi2 : i.toInt + 5 < L) (kk : ∀ (nx : Nat → Int32) (fx rs : Nat → Nat → Int32) (lo : Nat → Int64) (ny : Nat → Int32) (fy : Nat → Nat → Int32) (fl : Nat → Int64) (H : Heap) (locs : List Loc) (ls : Array Slot), inv nx fx rs ny fy → va_P D vwCl (wX ad rw sd cI cY cJ cQ nx fx rs lo ++ wM md sd cI cY cJ cQ ny fy fl) H → va_D (fun q : Nat => s.heap.size ≤ q) (wX ad rw sd cI cY cJ cQ nx fx rs lo ++ wM md sd cI cY cJ cQ ny fy fl) → va_S (fun q : Nat => s.heap.size ≤ q) s.heap H locs → lv_has ls 4 [(0, .ref b), (1, .ref (ad 0)), (2, .ref (md 64)), (3, .int i)] → W p l e room_1 s m #[Value.ref b] below meth c H locs 107 4890 (lw_Z below #[Value.ref b] s) (F0 m 1652 ls [])) (v0 : 10 ≤ v.toInt) (v1 : v.toInt ≤ 19) : W p l e room_1 s m #[Value.ref b] below meth c H locs 107 4890 (lw_Z below #[Value.ref b] s) (F0 m 43 ls [.int v]) := by
  have C0k := C0
  obtain ⟨C1, hK, hN, hT, hL⟩ := C0
  obtain ⟨hx, hb, hr, hml, hown, hts0, hX, hbl, hlocks, hgv⟩ := C1
  have hA : ∀ q : Nat, s.heap.size ≤ q → (fun q : Nat => s.heap.size ≤ q) q := fun _ h => h
  have hbA : ¬ (fun q : Nat => s.heap.size ≤ q) b := Nat.not_le.mpr hbl
  have hts : ∀ w ∈ wsL_law, w.before #[Value.ref b] s = true := fun w h => hts0 w (wsL_law_in w h)
  replace hown : s.vm.findClass RL = some m.cls := hown
  replace hb : c.code = cL_law := hb
  by_cases g1 : v.toInt < 15
  · skip
    by_cases g2 : v.toInt < 13
    · skip
      by_cases g3 : v.toInt < 12
      · skip
        by_cases g4 : v.toInt < 11
        · skip
          have h5 : v.toInt = 10 := by omega
          refine lv_tableIn (tgt := 618) (off := 575) hx hb dL_law_43 (by omega) (by omega) (by rw [h5]; rfl) (by decide) ?_
          exact law_case_10 C0k I hP hD hS hl hi1 hi2 kk
        · skip
          have h6 : v.toInt = 11 := by omega
          refine lv_tableIn (tgt := 651) (off := 608) hx hb dL_law_43 (by omega) (by omega) (by rw [h6]; rfl) (by decide) ?_
          exact law_case_11 C0k I hP hD hS hl hi1 hi2 kk
      · skip
        have h7 : v.toInt = 12 := by omega
        refine lv_tableIn (tgt := 714) (off := 671) hx hb dL_law_43 (by omega) (by omega) (by rw [h7]; rfl) (by decide) ?_
        exact law_case_12 C0k I hP hD hS hl hi1 hi2 kk
    · skip
      by_cases g8 : v.toInt < 14
      · skip
        have h9 : v.toInt = 13 := by omega
        refine lv_tableIn (tgt := 757) (off := 714) hx hb dL_law_43 (by omega) (by omega) (by rw [h9]; rfl) (by decide) ?_
        exact law_case_13 C0k I hP hD hS hl hi1 hi2 kk
      · skip
        have h10 : v.toInt = 14 := by omega
        refine lv_tableIn (tgt := 790) (off := 747) hx hb dL_law_43 (by omega) (by omega) (by rw [h10]; rfl) (by decide) ?_
        exact law_case_14 C0k I hP hD hS hl hi1 hi2 kk
  · skip
    by_cases g11 : v.toInt < 18
    · skip
      by_cases g12 : v.toInt < 17
      · skip
        by_cases g13 : v.toInt < 16
        · skip
          have h14 : v.toInt = 15 := by omega
          refine lv_tableIn (tgt := 853) (off := 810) hx hb dL_law_43 (by omega) (by omega) (by rw [h14]; rfl) (by decide) ?_
          exact law_case_15 C0k I hP hD hS hl hi1 hi2 kk
        · skip
          have h15 : v.toInt = 16 := by omega
          refine lv_tableIn (tgt := 916) (off := 873) hx hb dL_law_43 (by omega) (by omega) (by rw [h15]; rfl) (by decide) ?_
          exact law_case_16 C0k I hP hD hS hl hi1 hi2 kk
      · skip
        have h16 : v.toInt = 17 := by omega
        refine lv_tableIn (tgt := 979) (off := 936) hx hb dL_law_43 (by omega) (by omega) (by rw [h16]; rfl) (by decide) ?_
        exact law_case_17 C0k I hP hD hS hl hi1 hi2 kk
    · skip
      by_cases g17 : v.toInt < 19
      · skip
        have h18 : v.toInt = 18 := by omega
        refine lv_tableIn (tgt := 992) (off := 949) hx hb dL_law_43 (by omega) (by omega) (by rw [h18]; rfl) (by decide) ?_
        exact law_case_18 C0k I hP hD hS hl hi1 hi2 kk
      · skip
        have h19 : v.toInt = 19 := by omega
        refine lv_tableIn (tgt := 1005) (off := 962) hx hb dL_law_43 (by omega) (by omega) (by rw [h19]; rfl) (by decide) ?_
        exact law_case_19 C0k I hP hD hS hl hi1 hi2 kk

set_option maxHeartbeats 4000000 in
set_option maxRecDepth 100000 in
theorem law_switch_2 {p : Program} {l : Launch} {e : Env} {s : State} {m : MethodId} {below : List Frame} {meth : Method} {c : Code} {D : va_G} {cI cY cJ cQ : ClassId} {b L aK aV : Nat} {xs : Nat → Int32} {ad rw md : Nat → Nat} {sd i : Int32} {nx : Nat → Int32} {fx rs : Nat → Nat → Int32} {lo : Nat → Int64} {ny : Nat → Int32} {fy : Nat → Nat → Int32} {fl : Nat → Int64} {H : Heap} {locs : List Loc} {ls : Array Slot} {v : Int32} (C0 : lawC p s m meth c b L xs D cI cY cJ cQ aK aV) (I : inv nx fx rs ny fy) (hP : va_P D vwCl (wX ad rw sd cI cY cJ cQ nx fx rs lo ++ wM md sd cI cY cJ cQ ny fy fl) H) (hD : va_D (fun q : Nat => s.heap.size ≤ q) (wX ad rw sd cI cY cJ cQ nx fx rs lo ++ wM md sd cI cY cJ cQ ny fy fl)) (hS : va_S (fun q : Nat => s.heap.size ≤ q) s.heap H locs) (hl : lv_has ls 4 [(0, .ref b), (1, .ref (ad 0)), (2, .ref (md 64)), (3, .int i)]) (hi1 : 1 ≤ i.toInt) (hi2 : i.toInt + 5 < L) (kk : ∀ (nx : Nat → Int32) (fx rs : Nat → Nat → Int32) (lo : Nat → Int64) (ny : Nat → Int32) (fy : Nat → Nat → Int32) (fl : Nat → Int64) (H : Heap) (locs : List Loc) (ls : Array Slot), inv nx fx rs ny fy → va_P D vwCl (wX ad rw sd cI cY cJ cQ nx fx rs lo ++ wM md sd cI cY cJ cQ ny fy fl) H → va_D (fun q : Nat => s.heap.size ≤ q) (wX ad rw sd cI cY cJ cQ nx fx rs lo ++ wM md sd cI cY cJ cQ ny fy fl) → va_S (fun q : Nat => s.heap.size ≤ q) s.heap H locs → lv_has ls 4 [(0, .ref b), (1, .ref (ad 0)), (2, .ref (md 64)), (3, .int i)] → W p l e room_1 s m #[Value.ref b] below meth c H locs 107 4890 (lw_Z below #[Value.ref b] s) (F0 m 1652 ls [])) (v0 : 20 ≤ v.toInt) (v1 : v.toInt ≤ 29) : W p l e room_1 s m #[Value.ref b] below meth c H locs 107 4890 (lw_Z below #[Value.ref b] s) (F0 m 43 ls [.int v]) := by
  have C0k := C0
  obtain ⟨C1, hK, hN, hT, hL⟩ := C0
  obtain ⟨hx, hb, hr, hml, hown, hts0, hX, hbl, hlocks, hgv⟩ := C1
  have hA : ∀ q : Nat, s.heap.size ≤ q → (fun q : Nat => s.heap.size ≤ q) q := fun _ h => h
  have hbA : ¬ (fun q : Nat => s.heap.size ≤ q) b := Nat.not_le.mpr hbl
  have hts : ∀ w ∈ wsL_law, w.before #[Value.ref b] s = true := fun w h => hts0 w (wsL_law_in w h)
  replace hown : s.vm.findClass RL = some m.cls := hown
  replace hb : c.code = cL_law := hb
  by_cases g1 : v.toInt < 25
  · skip
    by_cases g2 : v.toInt < 23
    · skip
      by_cases g3 : v.toInt < 22
      · skip
        by_cases g4 : v.toInt < 21
        · skip
          have h5 : v.toInt = 20 := by omega
          refine lv_tableIn (tgt := 1058) (off := 1015) hx hb dL_law_43 (by omega) (by omega) (by rw [h5]; rfl) (by decide) ?_
          exact law_case_20 C0k I hP hD hS hl hi1 hi2 kk
        · skip
          have h6 : v.toInt = 21 := by omega
          refine lv_tableIn (tgt := 1091) (off := 1048) hx hb dL_law_43 (by omega) (by omega) (by rw [h6]; rfl) (by decide) ?_
          exact law_case_21 C0k I hP hD hS hl hi1 hi2 kk
      · skip
        have h7 : v.toInt = 22 := by omega
        refine lv_tableIn (tgt := 1134) (off := 1091) hx hb dL_law_43 (by omega) (by omega) (by rw [h7]; rfl) (by decide) ?_
        exact law_case_22 C0k I hP hD hS hl hi1 hi2 kk
    · skip
      by_cases g8 : v.toInt < 24
      · skip
        have h9 : v.toInt = 23 := by omega
        refine lv_tableIn (tgt := 1167) (off := 1124) hx hb dL_law_43 (by omega) (by omega) (by rw [h9]; rfl) (by decide) ?_
        exact law_case_23 C0k I hP hD hS hl hi1 hi2 kk
      · skip
        have h10 : v.toInt = 24 := by omega
        refine lv_tableIn (tgt := 1200) (off := 1157) hx hb dL_law_43 (by omega) (by omega) (by rw [h10]; rfl) (by decide) ?_
        exact law_case_24 C0k I hP hD hS hl hi1 hi2 kk
  · skip
    by_cases g11 : v.toInt < 28
    · skip
      by_cases g12 : v.toInt < 27
      · skip
        by_cases g13 : v.toInt < 26
        · skip
          have h14 : v.toInt = 25 := by omega
          refine lv_tableIn (tgt := 1243) (off := 1200) hx hb dL_law_43 (by omega) (by omega) (by rw [h14]; rfl) (by decide) ?_
          exact law_case_25 C0k I hP hD hS hl hi1 hi2 kk
        · skip
          have h15 : v.toInt = 26 := by omega
          refine lv_tableIn (tgt := 1276) (off := 1233) hx hb dL_law_43 (by omega) (by omega) (by rw [h15]; rfl) (by decide) ?_
          exact law_case_26 C0k I hP hD hS hl hi1 hi2 kk
      · skip
        have h16 : v.toInt = 27 := by omega
        refine lv_tableIn (tgt := 1329) (off := 1286) hx hb dL_law_43 (by omega) (by omega) (by rw [h16]; rfl) (by decide) ?_
        exact law_case_27 C0k I hP hD hS hl hi1 hi2 kk
    · skip
      by_cases g17 : v.toInt < 29
      · skip
        have h18 : v.toInt = 28 := by omega
        refine lv_tableIn (tgt := 1382) (off := 1339) hx hb dL_law_43 (by omega) (by omega) (by rw [h18]; rfl) (by decide) ?_
        exact law_case_28 C0k I hP hD hS hl hi1 hi2 kk
      · skip
        have h19 : v.toInt = 29 := by omega
        refine lv_tableIn (tgt := 1405) (off := 1362) hx hb dL_law_43 (by omega) (by omega) (by rw [h19]; rfl) (by decide) ?_
        exact law_case_29 C0k I hP hD hS hl hi1 hi2 kk

set_option maxHeartbeats 4000000 in
set_option maxRecDepth 100000 in
theorem law_switch_3 {p : Program} {l : Launch} {e : Env} {s : State} {m : MethodId} {below : List Frame} {meth : Method} {c : Code} {D : va_G} {cI cY cJ cQ : ClassId} {b L aK aV : Nat} {xs : Nat → Int32} {ad rw md : Nat → Nat} {sd i : Int32} {nx : Nat → Int32} {fx rs : Nat → Nat → Int32} {lo : Nat → Int64} {ny : Nat → Int32} {fy : Nat → Nat → Int32} {fl : Nat → Int64} {H : Heap} {locs : List Loc} {ls : Array Slot} {v : Int32} (C0 : lawC p s m meth c b L xs D cI cY cJ cQ aK aV) (I : inv nx fx rs ny fy) (hP : va_P D vwCl (wX ad rw sd cI cY cJ cQ nx fx rs lo ++ wM md sd cI cY cJ cQ ny fy fl) H) (hD : va_D (fun q : Nat => s.heap.size ≤ q) (wX ad rw sd cI cY cJ cQ nx fx rs lo ++ wM md sd cI cY cJ cQ ny fy fl)) (hS : va_S (fun q : Nat => s.heap.size ≤ q) s.heap H locs) (hl : lv_has ls 4 [(0, .ref b), (1, .ref (ad 0)), (2, .ref (md 64)), (3, .int i)]) (hi1 : 1 ≤ i.toInt) (hi2 : i.toInt + 5 < L) (kk : ∀ (nx : Nat → Int32) (fx rs : Nat → Nat → Int32) (lo : Nat → Int64) (ny : Nat → Int32) (fy : Nat → Nat → Int32) (fl : Nat → Int64) (H : Heap) (locs : List Loc) (ls : Array Slot), inv nx fx rs ny fy → va_P D vwCl (wX ad rw sd cI cY cJ cQ nx fx rs lo ++ wM md sd cI cY cJ cQ ny fy fl) H → va_D (fun q : Nat => s.heap.size ≤ q) (wX ad rw sd cI cY cJ cQ nx fx rs lo ++ wM md sd cI cY cJ cQ ny fy fl) → va_S (fun q : Nat => s.heap.size ≤ q) s.heap H locs → lv_has ls 4 [(0, .ref b), (1, .ref (ad 0)), (2, .ref (md 64)), (3, .int i)] → W p l e room_1 s m #[Value.ref b] below meth c H locs 107 4890 (lw_Z below #[Value.ref b] s) (F0 m 1652 ls [])) (v0 : 30 ≤ v.toInt) (v1 : v.toInt ≤ 37) : W p l e room_1 s m #[Value.ref b] below meth c H locs 107 4890 (lw_Z below #[Value.ref b] s) (F0 m 43 ls [.int v]) := by
  have C0k := C0
  obtain ⟨C1, hK, hN, hT, hL⟩ := C0
  obtain ⟨hx, hb, hr, hml, hown, hts0, hX, hbl, hlocks, hgv⟩ := C1
  have hA : ∀ q : Nat, s.heap.size ≤ q → (fun q : Nat => s.heap.size ≤ q) q := fun _ h => h
  have hbA : ¬ (fun q : Nat => s.heap.size ≤ q) b := Nat.not_le.mpr hbl
  have hts : ∀ w ∈ wsL_law, w.before #[Value.ref b] s = true := fun w h => hts0 w (wsL_law_in w h)
  replace hown : s.vm.findClass RL = some m.cls := hown
  replace hb : c.code = cL_law := hb
  by_cases g1 : v.toInt < 34
  · skip
    by_cases g2 : v.toInt < 32
    · skip
      by_cases g3 : v.toInt < 31
      · skip
        have h4 : v.toInt = 30 := by omega
        refine lv_tableIn (tgt := 1448) (off := 1405) hx hb dL_law_43 (by omega) (by omega) (by rw [h4]; rfl) (by decide) ?_
        exact law_case_30 C0k I hP hD hS hl hi1 hi2 kk
      · skip
        have h5 : v.toInt = 31 := by omega
        refine lv_tableIn (tgt := 1481) (off := 1438) hx hb dL_law_43 (by omega) (by omega) (by rw [h5]; rfl) (by decide) ?_
        exact law_case_31 C0k I hP hD hS hl hi1 hi2 kk
    · skip
      by_cases g6 : v.toInt < 33
      · skip
        have h7 : v.toInt = 32 := by omega
        refine lv_tableIn (tgt := 1504) (off := 1461) hx hb dL_law_43 (by omega) (by omega) (by rw [h7]; rfl) (by decide) ?_
        exact law_case_32 C0k I hP hD hS hl hi1 hi2 kk
      · skip
        have h8 : v.toInt = 33 := by omega
        refine lv_tableIn (tgt := 1527) (off := 1484) hx hb dL_law_43 (by omega) (by omega) (by rw [h8]; rfl) (by decide) ?_
        exact law_case_33 C0k I hP hD hS hl hi1 hi2 kk
  · skip
    by_cases g9 : v.toInt < 36
    · skip
      by_cases g10 : v.toInt < 35
      · skip
        have h11 : v.toInt = 34 := by omega
        refine lv_tableIn (tgt := 1560) (off := 1517) hx hb dL_law_43 (by omega) (by omega) (by rw [h11]; rfl) (by decide) ?_
        exact law_case_34 C0k I hP hD hS hl hi1 hi2 kk
      · skip
        have h12 : v.toInt = 35 := by omega
        refine lv_tableIn (tgt := 1593) (off := 1550) hx hb dL_law_43 (by omega) (by omega) (by rw [h12]; rfl) (by decide) ?_
        exact law_case_35 C0k I hP hD hS hl hi1 hi2 kk
    · skip
      by_cases g13 : v.toInt < 37
      · skip
        have h14 : v.toInt = 36 := by omega
        refine lv_tableIn (tgt := 1616) (off := 1573) hx hb dL_law_43 (by omega) (by omega) (by rw [h14]; rfl) (by decide) ?_
        exact law_case_36 C0k I hP hD hS hl hi1 hi2 kk
      · skip
        have h15 : v.toInt = 37 := by omega
        refine lv_tableIn (tgt := 1639) (off := 1596) hx hb dL_law_43 (by omega) (by omega) (by rw [h15]; rfl) (by decide) ?_
        exact law_case_37 C0k I hP hD hS hl hi1 hi2 kk
