/-- cells in short -/
abbrev aI (c : ClassId) (a n : Nat) (f : Nat → Int32) : Nat × va_E := (a, .inl (c, n, .inl f))
abbrev aJ (c : ClassId) (a n : Nat) (f : Nat → Int64) : Nat × va_E := (a, .inl (c, n, .inr (.inl f)))
abbrev oC10 (ad : Nat → Nat) (tn td lf : Int32) : Nat × va_E := ((ad 0), .inr (10, [.ref (ad 1), .ref (ad 2), .ref (ad 3), .ref (ad 4), .ref (ad 5), .ref (ad 6), .ref (ad 7), .ref (ad 8), .ref (ad 9), .ref (ad 10), .ref (ad 11), .int tn, .int td, .int lf]))
abbrev oC9 (ad : Nat → Nat) : Nat × va_E := ((ad 1), .inr (9, [.ref (ad 12), .ref (ad 13), .ref (ad 14)]))
abbrev oC3 (ad : Nat → Nat) (hn : Int32) : Nat × va_E := ((ad 2), .inr (3, [.ref (ad 23), .ref (ad 24), .ref (ad 25), .ref (ad 26), .int hn, .ref (ad 27), .ref (ad 28), .ref (ad 29), .ref (ad 30)]))
abbrev oC1 (ad : Nat → Nat) (cn : Int32) : Nat × va_E := ((ad 3), .inr (1, [.ref (ad 31), .ref (ad 32), .ref (ad 33), .int cn, .ref (ad 34), .ref (ad 35)]))
abbrev oC7 (ad : Nat → Nat) (pn : Int32) : Nat × va_E := ((ad 4), .inr (7, [.ref (ad 36), .ref (ad 37), .ref (ad 38), .ref (ad 39), .ref (ad 40), .ref (ad 41), .int pn]))
abbrev oC8 (ad : Nat → Nat) (gn : Int32) : Nat × va_E := ((ad 5), .inr (8, [.ref (ad 42), .ref (ad 43), .ref (ad 44), .ref (ad 45), .int gn, .ref (ad 46)]))
abbrev oC2 (ad : Nat → Nat) (ln lfa dl dr bs be tk nb : Int32) : Nat × va_E := ((ad 6), .inr (2, [.ref (ad 47), .int ln, .int lfa, .ref (ad 48), .ref (ad 49), .ref (ad 50), .int dl, .ref (ad 51), .ref (ad 52), .ref (ad 53), .int dr, .int bs, .int be, .int tk, .int nb]))
abbrev oC0 (ad : Nat → Nat) (an : Int32) : Nat × va_E := ((ad 7), .inr (0, [.ref (ad 54), .ref (ad 55), .ref (ad 56), .ref (ad 57), .int an]))
abbrev oC5 (ad : Nat → Nat) (sd : Int32) : Nat × va_E := ((ad 8), .inr (5, [.int sd, .ref (ad 58)]))
abbrev oC6 (ad : Nat → Nat) (un : Int32) : Nat × va_E := ((ad 9), .inr (6, [.ref (ad 59), .ref (ad 60), .ref (ad 61), .ref (ad 62), .int un]))
abbrev oC4 (ad : Nat → Nat) (lc : Int32) : Nat × va_E := ((ad 10), .inr (4, [.ref (ad 63), .ref (ad 64), .ref (ad 65), .int lc]))
/-- behind a call that changes none of its cells -/
theorem va_same {A0 : Nat → Prop} {D : va_G} {cl : List vw_C} {ws wc : va_W} {H H1 : Heap} (hP : va_P D cl ws H) (hD : va_D A0 ws) (isC : List Nat) (hC : isC.map (fun i => ws[i]?) = wc.map some) (hk : ∀ q : Nat, q < H.size → ¬ va_A wc H.size q → H1[q]? = H[q]?) (hP1 : va_P D cl wc H1) : va_P D cl ws H1 := by
  intro k q hq
  have hl := (hP k q hq).lt
  by_cases h : va_A wc H.size q.1
  · rcases h with ⟨k2, e, h⟩ | h
    · have h1 : (isC.map (fun i => ws[i]?))[k2]? = some (some (q.1, e)) := by rw [hC, List.getElem?_map, h]; rfl
      rw [List.getElem?_map] at h1
      cases hi : isC[k2]? with
      | none => rw [hi] at h1; cases h1
      | some j =>
        rw [hi] at h1
        have h2 : ws[j]? = some (q.1, e) := Option.some.inj h1
        have hkj := hD.1 k j q (q.1, e) hq h2 rfl
        rw [← hkj, hq] at h2
        have h3 : q = (q.1, e) := Option.some.inj h2
        have h4 := hP1 k2 (q.1, e) h
        rw [← h3] at h4
        exact h4
    · exact absurd hl (Nat.not_lt.mpr h)
  · exact (hP k q hq).kept (hk q.1 hl h)
section STEP1
variable {p : Program} {l : Launch} {e : Env} {R : Room} {s : State} {m : MethodId} {args : Array Value} {below : List Frame} {meth : Method} {c : Code} {H H0 : Heap} {locs : List Loc} {cells slots mc ms : Nat} {Q : State → Prop}
variable {pc : Nat} {ls : Array Slot} {rest st0 : List Value} {D : va_G} {A0 : Nat → Prop} {tys : List (ClassId × FieldType)} {wc ws : va_W} {a : Array Value} {S : Type} {w : S → va_W}
theorem st_i1 {post : Int32 → S → Prop} (hr : va_Run p l e R s m args below meth c H locs cells slots mc ms (F0 m pc ls st0) rest (va_Qi post (cB D tys w (va_A wc H.size)) (va_A wc H.size) a) (va_A wc H.size)) (hP : va_P D vwCl ws H) (hD : va_D A0 ws) (hS : va_S A0 H0 H locs) (hA : ∀ q, H0.size ≤ q → A0 q)
    (isC : List Nat) (hC : isC.map (fun i => ws[i]?) = wc.map some) (hw0 : ∀ u, w u = wc)
    (kk : ∀ (r : Int32) (u : S) (H1 : Heap) (locs1 : List Loc), post r u → va_P D vwCl ws H1 → va_S A0 H0 H1 locs1 → W p l e R s m args below meth c H1 locs1 (cells + mc) (slots + ms) Q (F0 m (pc + 3) ls (.int r :: rest))) : W p l e R s m args below meth c H locs cells slots Q (F0 m pc ls st0) := by
  have hF := va_free (wc := wc) hD hS hA isC hC
  refine va_calli hr hS (fun q _ h => hF q h) hF (fun r u t H1 locs1 ht hvm hw hB hz1 hk1 hS1 => ?_)
  obtain ⟨hP1, hK1, hD1⟩ := hB
  rw [ht, hw0] at hP1
  exact kk r u H1 locs1 hw (va_same hP hD isC hC hk1 hP1) hS1
theorem st_l1 {post : Int64 → S → Prop} (hr : va_Run p l e R s m args below meth c H locs cells slots mc ms (F0 m pc ls st0) rest (va_Ql post (cB D tys w (va_A wc H.size)) (va_A wc H.size) a) (va_A wc H.size)) (hP : va_P D vwCl ws H) (hD : va_D A0 ws) (hS : va_S A0 H0 H locs) (hA : ∀ q, H0.size ≤ q → A0 q)
    (isC : List Nat) (hC : isC.map (fun i => ws[i]?) = wc.map some) (hw0 : ∀ u, w u = wc)
    (kk : ∀ (r : Int64) (u : S) (H1 : Heap) (locs1 : List Loc), post r u → va_P D vwCl ws H1 → va_S A0 H0 H1 locs1 → W p l e R s m args below meth c H1 locs1 (cells + mc) (slots + ms) Q (F0 m (pc + 3) ls (.long r :: rest))) : W p l e R s m args below meth c H locs cells slots Q (F0 m pc ls st0) := by
  have hF := va_free (wc := wc) hD hS hA isC hC
  refine va_calll hr hS (fun q _ h => hF q h) hF (fun r u t H1 locs1 ht hvm hw hB hz1 hk1 hS1 => ?_)
  obtain ⟨hP1, hK1, hD1⟩ := hB
  rw [ht, hw0] at hP1
  exact kk r u H1 locs1 hw (va_same hP hD isC hC hk1 hP1) hS1
theorem st_v1 {post : S → Prop} (hr : va_Run p l e R s m args below meth c H locs cells slots mc ms (F0 m pc ls st0) rest (va_Qv post (cB D tys w (va_A wc H.size)) (va_A wc H.size) a) (va_A wc H.size)) (hP : va_P D vwCl ws H) (hD : va_D A0 ws) (hS : va_S A0 H0 H locs) (hA : ∀ q, H0.size ≤ q → A0 q)
    (isC : List Nat) (hC : isC.map (fun i => ws[i]?) = wc.map some) (hw0 : ∀ u, w u = wc)
    (kk : ∀ (u : S) (H1 : Heap) (locs1 : List Loc), post u → va_P D vwCl ws H1 → va_S A0 H0 H1 locs1 → W p l e R s m args below meth c H1 locs1 (cells + mc) (slots + ms) Q (F0 m (pc + 3) ls rest)) : W p l e R s m args below meth c H locs cells slots Q (F0 m pc ls st0) := by
  have hF := va_free (wc := wc) hD hS hA isC hC
  refine va_callv hr hS (fun q _ h => hF q h) hF (fun u t H1 locs1 ht hvm hw hB hz1 hk1 hS1 => ?_)
  obtain ⟨hP1, hK1, hD1⟩ := hB
  rw [ht, hw0] at hP1
  exact kk u H1 locs1 hw (va_same hP hD isC hC hk1 hP1) hS1
end STEP1
