/-- the class's world: numbers nx, rows fx, sheets' rows rs, lots lo -/
def wX (ad rw : Nat → Nat) (sd : Int32) (cI cY cJ cQ : ClassId) (nx : Nat → Int32) (fx rs : Nat → Nat → Int32) (lo : Nat → Int64) : va_W := (((ad 0), .inr (10, [.ref (ad 1), .ref (ad 2), .ref (ad 3), .ref (ad 4), .ref (ad 5), .ref (ad 6), .ref (ad 7), .ref (ad 8), .ref (ad 9), .ref (ad 10), .ref (ad 11), .int (nx 0), .int (nx 1), .int (nx 2)])) :: ((ad 11), .inl (cI, 16, .inl (fx 0))) :: ((rw 0), .inl (cI, 60, .inl (rs 0))) :: ((rw 1), .inl (cI, 60, .inl (rs 1))) :: ((rw 2), .inl (cI, 60, .inl (rs 2))) :: ((rw 3), .inl (cI, 60, .inl (rs 3))) :: ((rw 4), .inl (cI, 60, .inl (rs 4))) :: ((rw 5), .inl (cI, 60, .inl (rs 5))) :: ((rw 6), .inl (cI, 60, .inl (rs 6))) :: ((rw 7), .inl (cI, 60, .inl (rs 7))) :: ((ad 1), .inr (9, [.ref (ad 12), .ref (ad 13), .ref (ad 14)])) :: ((ad 12), .inl (cQ, 8, .inr (.inr (.inr (.inr (fun i => if i < 8 then some (rw i) else none)))))) :: ((ad 13), .inl (cI, 8, .inl (fx 1))) :: ((ad 14), .inl (cI, 8, .inl (fx 2))) :: ((ad 2), .inr (3, [.ref (ad 23), .ref (ad 24), .ref (ad 25), .ref (ad 26), .int (nx 3), .ref (ad 27), .ref (ad 28), .ref (ad 29), .ref (ad 30)])) :: ((ad 23), .inl (cI, 40, .inl (fx 3))) :: ((ad 24), .inl (cI, 40, .inl (fx 4))) :: ((ad 25), .inl (cI, 40, .inl (fx 5))) :: ((ad 26), .inl (cI, 40, .inl (fx 6))) :: ((ad 27), .inl (cI, 200, .inl (fx 7))) :: ((ad 28), .inl (cI, 200, .inl (fx 8))) :: ((ad 29), .inl (cI, 20, .inl (fx 9))) :: ((ad 30), .inl (cI, 10, .inl (fx 10))) :: ((ad 3), .inr (1, [.ref (ad 31), .ref (ad 32), .ref (ad 33), .int (nx 4), .ref (ad 34), .ref (ad 35)])) :: ((ad 31), .inl (cI, 12, .inl (fx 11))) :: ((ad 32), .inl (cI, 12, .inl (fx 12))) :: ((ad 33), .inl (cI, 12, .inl (fx 13))) :: ((ad 34), .inl (cI, 6, .inl (fx 14))) :: ((ad 35), .inl (cI, 6, .inl (fx 15))) :: ((ad 4), .inr (7, [.ref (ad 36), .ref (ad 37), .ref (ad 38), .ref (ad 39), .ref (ad 40), .ref (ad 41), .int (nx 5)])) :: ((ad 36), .inl (cI, 40, .inl (fx 16))) :: ((ad 37), .inl (cI, 40, .inl (fx 17))) :: ((ad 38), .inl (cI, 40, .inl (fx 18))) :: ((ad 39), .inl (cI, 40, .inl (fx 19))) :: ((ad 40), .inl (cI, 40, .inl (fx 20))) :: ((ad 41), .inl (cI, 40, .inl (fx 21))) :: ((ad 5), .inr (8, [.ref (ad 42), .ref (ad 43), .ref (ad 44), .ref (ad 45), .int (nx 6), .ref (ad 46)])) :: ((ad 42), .inl (cI, 40, .inl (fx 22))) :: ((ad 43), .inl (cI, 40, .inl (fx 23))) :: ((ad 44), .inl (cI, 40, .inl (fx 24))) :: ((ad 45), .inl (cI, 40, .inl (fx 25))) :: ((ad 46), .inl (cI, 40, .inl (fx 26))) :: ((ad 6), .inr (2, [.ref (ad 47), .int (nx 7), .int (nx 8), .ref (ad 48), .ref (ad 49), .ref (ad 50), .int (nx 9), .ref (ad 51), .ref (ad 52), .ref (ad 53), .int (nx 10), .int (nx 11), .int (nx 12), .int (nx 13), .int (nx 14)])) :: ((ad 47), .inl (cY, 300, .inl (fx 27))) :: ((ad 48), .inl (cI, 12, .inl (fx 28))) :: ((ad 49), .inl (cI, 12, .inl (fx 29))) :: ((ad 50), .inl (cI, 12, .inl (fx 30))) :: ((ad 51), .inl (cI, 12, .inl (fx 31))) :: ((ad 52), .inl (cI, 12, .inl (fx 32))) :: ((ad 53), .inl (cI, 12, .inl (fx 33))) :: ((ad 7), .inr (0, [.ref (ad 54), .ref (ad 55), .ref (ad 56), .ref (ad 57), .int (nx 15)])) :: ((ad 54), .inl (cI, 60, .inl (fx 34))) :: ((ad 55), .inl (cI, 60, .inl (fx 35))) :: ((ad 56), .inl (cI, 60, .inl (fx 36))) :: ((ad 57), .inl (cI, 60, .inl (fx 37))) :: ((ad 8), .inr (5, [.int sd, .ref (ad 58)])) :: ((ad 58), .inl (cJ, 12, .inr (.inl lo))) :: ((ad 9), .inr (6, [.ref (ad 59), .ref (ad 60), .ref (ad 61), .ref (ad 62), .int (nx 16)])) :: ((ad 59), .inl (cI, 60, .inl (fx 38))) :: ((ad 60), .inl (cI, 60, .inl (fx 39))) :: ((ad 61), .inl (cI, 60, .inl (fx 40))) :: ((ad 62), .inl (cI, 60, .inl (fx 41))) :: ((ad 10), .inr (4, [.ref (ad 63), .ref (ad 64), .ref (ad 65), .int (nx 17)])) :: ((ad 63), .inl (cI, 20, .inl (fx 42))) :: ((ad 64), .inl (cI, 20, .inl (fx 43))) :: ((ad 65), .inl (cI, 20, .inl (fx 44))) :: [])
/-- the reference's world -/
def wM (md : Nat → Nat) (sd : Int32) (cI cY cJ cQ : ClassId) (ny : Nat → Int32) (fy : Nat → Nat → Int32) (fl : Nat → Int64) : va_W := ((moC md sd (ny 0) (ny 1) (ny 2) (ny 3) (ny 4) (ny 5) (ny 6) (ny 7) (ny 8) (ny 9) (ny 10) (ny 11) (ny 12) (ny 13) (ny 14) (ny 15) (ny 16) (ny 17) (ny 18) (ny 19) (ny 20) (ny 21) (ny 22)) :: ((md 3), .inl (cI, 8, .inl (fy 0))) :: ((md 4), .inl (cI, 8, .inl (fy 1))) :: ((md 5), .inl (cI, 480, .inl (fy 2))) :: ((md 7), .inl (cI, 40, .inl (fy 3))) :: ((md 8), .inl (cI, 40, .inl (fy 4))) :: ((md 9), .inl (cI, 40, .inl (fy 5))) :: ((md 10), .inl (cI, 40, .inl (fy 6))) :: ((md 11), .inl (cI, 200, .inl (fy 7))) :: ((md 12), .inl (cI, 12, .inl (fy 8))) :: ((md 13), .inl (cI, 12, .inl (fy 9))) :: ((md 14), .inl (cJ, 12, .inr (.inl fl))) :: ((md 16), .inl (cI, 12, .inl (fy 10))) :: ((md 17), .inl (cI, 12, .inl (fy 11))) :: ((md 19), .inl (cI, 40, .inl (fy 12))) :: ((md 20), .inl (cI, 40, .inl (fy 13))) :: ((md 21), .inl (cI, 40, .inl (fy 14))) :: ((md 22), .inl (cI, 40, .inl (fy 15))) :: ((md 23), .inl (cI, 40, .inl (fy 16))) :: ((md 26), .inl (cI, 40, .inl (fy 17))) :: ((md 27), .inl (cI, 40, .inl (fy 18))) :: ((md 28), .inl (cI, 40, .inl (fy 19))) :: ((md 29), .inl (cI, 40, .inl (fy 20))) :: ((md 31), .inl (cI, 36, .inl (fy 21))) :: ((md 33), .inl (cI, 36, .inl (fy 22))) :: ((md 34), .inl (cI, 300, .inl (fy 23))) :: ((md 45), .inl (cI, 60, .inl (fy 24))) :: ((md 46), .inl (cI, 60, .inl (fy 25))) :: ((md 47), .inl (cI, 60, .inl (fy 26))) :: ((md 48), .inl (cI, 60, .inl (fy 27))) :: ((md 49), .inl (cI, 6, .inl (fy 28))) :: ((md 50), .inl (cI, 6, .inl (fy 29))) :: ((md 51), .inl (cI, 12, .inl (fy 30))) :: ((md 53), .inl (cI, 60, .inl (fy 31))) :: ((md 54), .inl (cI, 60, .inl (fy 32))) :: ((md 55), .inl (cI, 60, .inl (fy 33))) :: ((md 56), .inl (cI, 60, .inl (fy 34))) :: ((md 58), .inl (cI, 20, .inl (fy 35))) :: ((md 59), .inl (cI, 20, .inl (fy 36))) :: ((md 60), .inl (cI, 20, .inl (fy 37))) :: ((md 62), .inl (cI, 16, .inl (fy 38))) :: [])

/-- what holds of both between calls -/
def inv (nx : Nat → Int32) (fx rs : Nat → Nat → Int32) (ny : Nat → Int32) (fy : Nat → Nat → Int32) : Prop := (0 ≤ (nx 3).toInt) ∧ ((nx 3).toInt ≤ 40) ∧ (okH (nx 3) (fx 3) (fx 4)) ∧ (okD (nx 3) (fx 6)) ∧ (okV (nx 3) (fx 5)) ∧ (okN (nx 3) (fx 3) (fx 4)) ∧ (0 ≤ (nx 4).toInt) ∧ ((nx 4).toInt ≤ 12) ∧ (okF (nx 4) (fx 11)) ∧ (0 ≤ (nx 5).toInt) ∧ ((nx 5).toInt ≤ 40) ∧ (okG (nx 5) (fx 18)) ∧ (okO (nx 5) (fx 21)) ∧ (okW (nx 5) (fx 21) (fx 19) (fx 20)) ∧ (0 ≤ (nx 6).toInt) ∧ ((nx 6).toInt ≤ 40) ∧ (okJ (nx 6) (fx 23)) ∧ (0 ≤ (nx 7).toInt) ∧ ((nx 7).toInt ≤ 300) ∧ (0 ≤ (nx 9).toInt) ∧ ((nx 9).toInt ≤ 12) ∧ (0 ≤ (nx 15).toInt) ∧ ((nx 15).toInt ≤ 60) ∧ (0 ≤ (nx 16).toInt) ∧ ((nx 16).toInt ≤ 60) ∧ (okU (nx 16) (fx 41)) ∧ (0 ≤ (nx 17).toInt) ∧ ((nx 17).toInt ≤ 20) ∧ (0 ≤ (nx 0).toInt) ∧ ((nx 0).toInt ≤ 16) ∧ (okS (fx 2)) ∧ (0 ≤ (ny 2).toInt) ∧ ((ny 2).toInt ≤ 40) ∧ (okH (ny 2) (fy 3) (fy 4)) ∧ (okM (fy 1)) ∧ (0 ≤ (ny 7).toInt) ∧ ((ny 7).toInt ≤ 12) ∧ (0 ≤ (ny 22).toInt) ∧ ((ny 22).toInt ≤ 16) ∧ ((ny 2) = (nx 3)) ∧ ((fy 3) = (fx 3)) ∧ ((fy 4) = (fx 4)) ∧ ((fy 5) = (fx 5)) ∧ ((fy 6) = (fx 6)) ∧ ((ny 3) = (nx 4)) ∧ ((fy 10) = (fx 11)) ∧ ((fy 11) = (fx 12)) ∧ ((ny 4) = (nx 5)) ∧ ((fy 12) = (fx 16)) ∧ ((fy 13) = (fx 17)) ∧ ((fy 14) = (fx 18)) ∧ ((fy 15) = (fx 19)) ∧ ((fy 16) = (fx 20)) ∧ ((ny 6) = (nx 6)) ∧ ((fy 17) = (fx 22)) ∧ ((fy 18) = (fx 23)) ∧ ((fy 19) = (fx 24)) ∧ ((fy 20) = (fx 25)) ∧ ((ny 18) = (nx 15)) ∧ ((fy 24) = (fx 34)) ∧ ((fy 25) = (fx 35)) ∧ ((fy 26) = (fx 36)) ∧ ((fy 27) = (fx 37)) ∧ ((ny 19) = (nx 16)) ∧ ((fy 31) = (fx 38)) ∧ ((fy 32) = (fx 39)) ∧ ((fy 33) = (fx 40)) ∧ ((fy 34) = (fx 41)) ∧ ((ny 20) = (nx 17)) ∧ ((fy 35) = (fx 42)) ∧ ((fy 36) = (fx 43)) ∧ ((fy 37) = (fx 44)) ∧ ((fy 28) = (fx 14)) ∧ ((fy 29) = (fx 15)) ∧ ((ny 9) = (nx 7)) ∧ ((ny 21) = (nx 1)) ∧ ((fy 30) = (fx 13)) ∧ ((ny 22) = (nx 0)) ∧ ((fy 38) = (fx 0)) ∧ ((ny 1) = (nx 2)) ∧ ((ny 7) = (nx 9)) ∧ ((ny 10) = (nx 8)) ∧ (liR (nx 9) (fx 28) (fx 29) (fx 30) (fy 21)) ∧ (tpR (nx 7) (fx 27) (fy 23)) ∧ (shR (fy 0) (fy 1) (fy 2) (fx 1) (fx 2) rs)


theorem va_P.comm {D : va_G} {cl : List vw_C} {a b : va_W} {H : Heap} (h : va_P D cl (a ++ b) H) : va_P D cl (b ++ a) H := by
  have h1 : va_P D cl (([] ++ a) ++ b) H := h
  exact h1.swap
theorem va_D.comm {A : Nat → Prop} {a b : va_W} (h : va_D A (a ++ b)) : va_D A (b ++ a) := by
  have h1 : va_D A (([] ++ a) ++ b) := h
  exact h1.swap
section STEPQ
variable {p : Program} {l : Launch} {e : Env} {R : Room} {s : State} {m : MethodId} {args : Array Value} {below : List Frame} {meth : Method} {c : Code} {H H0 : Heap} {locs : List Loc} {cells slots mc ms : Nat} {Q : State → Prop}
variable {pc : Nat} {ls : Array Slot} {rest st0 : List Value} {D : va_G} {A0 : Nat → Prop} {tys : List (ClassId × FieldType)} {wc wr X pl : va_W} {a : Array Value} {S : Type} {w : S → va_W}
theorem va_freeX {A0 : Nat → Prop} {X cx pl : va_W} {H0 H : Heap} {locs : List Loc} (hD : va_D A0 (X ++ pl)) (hS : va_S A0 H0 H locs) (hA : ∀ q, H0.size ≤ q → A0 q) (isC : List Nat) (hC : isC.map (fun i => X[i]?) = cx.map some) : ∀ q, va_A cx H.size q → A0 q := by
  intro q h
  refine va_freeP hD hS hA isC hC q ?_
  rcases h with ⟨k, e, h⟩ | h
  · exact Or.inl ⟨k, e, by rw [List.getElem?_append_left (List.getElem?_eq_some_iff.mp h).1]; exact h⟩
  · exact Or.inr h
/-- a call beside a world that it doesn't touch -/
theorem st_iQ {post : Int32 → S → Prop} (hr : va_Run p l e R s m args below meth c H locs cells slots mc ms (F0 m pc ls st0) rest (va_Qi post (cB D tys w (va_A wc H.size)) (va_A wc H.size) a) (va_A wc H.size)) (hP : va_P D vwCl (X ++ pl) H) (hD : va_D A0 (X ++ pl)) (hS : va_S A0 H0 H locs) (hA : ∀ q, H0.size ≤ q → A0 q)
    (isC isR : List Nat) (hC : isC.map (fun i => X[i]?) = wc.map some) (hR : isR.map (fun i => X[i]?) = wr.map some) (hn : va_nd isR = true) (hdis : ∀ i ∈ isR, i ∉ isC)
    (kk : ∀ (r : Int32) (u : S) (H1 : Heap) (locs1 : List Loc), post r u → va_P D vwCl ((wr ++ w u) ++ pl) H1 → va_D A0 ((wr ++ w u) ++ pl) → va_S A0 H0 H1 locs1 → W p l e R s m args below meth c H1 locs1 (cells + mc) (slots + ms) Q (F0 m (pc + 3) ls (.int r :: rest))) : W p l e R s m args below meth c H locs cells slots Q (F0 m pc ls st0) := by
  have hF := va_freeX (cx := wc) hD hS hA isC hC
  refine va_calli hr hS (fun q _ h => hF q h) hF (fun r u t H1 locs1 ht hvm hw hB hz1 hk1 hS1 => ?_)
  obtain ⟨hP1, hK1, hD1⟩ := hB
  rw [ht] at hP1
  obtain ⟨hP2, hD2⟩ := va_joinQ (wr := wr) (w1 := w u) hP hD isC isR hC hR hn hdis hk1 hF hP1 hD1
  exact kk r u H1 locs1 hw hP2 hD2 hS1
end STEPQ

theorem sp_crate_ok {cn cn' o w r : Int32} {fo wo fo' wo' : Nat → Int32} (e : (r, cn', fo', wo') = sp_crate cn fo wo o w) (h1 : 0 ≤ cn.toInt) (h2 : cn.toInt ≤ 12) : 0 ≤ cn'.toInt ∧ cn'.toInt ≤ 12 := by
  have k1 : (1 : Int32).toInt = 1 := rfl
  unfold sp_crate at e
  split at e
  · split at e
    · simp only [Prod.mk.injEq] at e
      obtain ⟨-, rfl, -⟩ := e
      exact ⟨h1, h2⟩
    · have t1 : (cn + 1).toInt = cn.toInt + 1 := by rw [i_add (by omega) (by omega), k1]
      simp only [Prod.mk.injEq] at e
      obtain ⟨-, rfl, -⟩ := e
      omega
  · simp only [Prod.mk.injEq] at e
    obtain ⟨-, rfl, -⟩ := e
    exact ⟨h1, h2⟩

theorem sp_paper_ok {pn pn' cn k x y a b r : Int32} {pk pf po pd pe pk' pf' po' pd' pe' : Nat → Int32} (e : (r, pn', pk', pf', po', pd', pe') = sp_paper pn pk pf po pd pe cn k x y a b) (h1 : 0 ≤ pn.toInt) (h2 : pn.toInt ≤ 40) : 0 ≤ pn'.toInt ∧ pn'.toInt ≤ 40 := by
  have k1 : (1 : Int32).toInt = 1 := rfl
  unfold sp_paper at e
  split at e
  · split at e
    · simp only [Prod.mk.injEq] at e
      obtain ⟨-, rfl, -⟩ := e
      exact ⟨h1, h2⟩
    · have t1 : (pn + 1).toInt = pn.toInt + 1 := by rw [i_add (by omega) (by omega), k1]
      simp only [Prod.mk.injEq] at e
      obtain ⟨-, rfl, -⟩ := e
      omega
  · simp only [Prod.mk.injEq] at e
    obtain ⟨-, rfl, -⟩ := e
    exact ⟨h1, h2⟩

theorem sp_pledge_ok {gn gn' cn k x q a b r : Int32} {gk gs gd ge gk' gs' gd' ge' : Nat → Int32} (e : (r, gn', gk', gs', gd', ge') = sp_pledge gn gk gs gd ge cn k x q a b) (h1 : 0 ≤ gn.toInt) (h2 : gn.toInt ≤ 40) : 0 ≤ gn'.toInt ∧ gn'.toInt ≤ 40 := by
  have k1 : (1 : Int32).toInt = 1 := rfl
  unfold sp_pledge at e
  split at e
  · split at e
    · simp only [Prod.mk.injEq] at e
      obtain ⟨-, rfl, -⟩ := e
      exact ⟨h1, h2⟩
    · have t1 : (gn + 1).toInt = gn.toInt + 1 := by rw [i_add (by omega) (by omega), k1]
      simp only [Prod.mk.injEq] at e
      obtain ⟨-, rfl, -⟩ := e
      omega
  · simp only [Prod.mk.injEq] at e
    obtain ⟨-, rfl, -⟩ := e
    exact ⟨h1, h2⟩

theorem sp_act_ok {an an' cn k w d n r : Int32} {ak ah ay az ak' ah' ay' az' : Nat → Int32} (e : (r, an', ak', ah', ay', az') = sp_act an ak ah ay az cn k w d n) (h1 : 0 ≤ an.toInt) (h2 : an.toInt ≤ 60) : 0 ≤ an'.toInt ∧ an'.toInt ≤ 60 := by
  have k1 : (1 : Int32).toInt = 1 := rfl
  unfold sp_act at e
  split at e
  · split at e
    · simp only [Prod.mk.injEq] at e
      obtain ⟨-, rfl, -⟩ := e
      exact ⟨h1, h2⟩
    · have t1 : (an + 1).toInt = an.toInt + 1 := by rw [i_add (by omega) (by omega), k1]
      simp only [Prod.mk.injEq] at e
      obtain ⟨-, rfl, -⟩ := e
      omega
  · simp only [Prod.mk.injEq] at e
    obtain ⟨-, rfl, -⟩ := e
    exact ⟨h1, h2⟩

theorem sp_opened_ok {un un' cn k d w q r : Int32} {uk uy uw um uk' uy' uw' um' : Nat → Int32} (e : (r, un', uk', uy', uw', um') = sp_opened un uk uy uw um cn k d w q) (h1 : 0 ≤ un.toInt) (h2 : un.toInt ≤ 60) : 0 ≤ un'.toInt ∧ un'.toInt ≤ 60 := by
  have k1 : (1 : Int32).toInt = 1 := rfl
  unfold sp_opened at e
  split at e
  · split at e
    · simp only [Prod.mk.injEq] at e
      obtain ⟨-, rfl, -⟩ := e
      exact ⟨h1, h2⟩
    · have t1 : (un + 1).toInt = un.toInt + 1 := by rw [i_add (by omega) (by omega), k1]
      simp only [Prod.mk.injEq] at e
      obtain ⟨-, rfl, -⟩ := e
      omega
  · simp only [Prod.mk.injEq] at e
    obtain ⟨-, rfl, -⟩ := e
    exact ⟨h1, h2⟩

theorem sp_list_ok {lc lc' q a b r : Int32} {lp la lb lp' la' lb' : Nat → Int32} (e : (r, lc', lp', la', lb') = sp_list lc lp la lb q a b) (h1 : 0 ≤ lc.toInt) (h2 : lc.toInt ≤ 20) : 0 ≤ lc'.toInt ∧ lc'.toInt ≤ 20 := by
  have k1 : (1 : Int32).toInt = 1 := rfl
  unfold sp_list at e
  split at e
  · split at e
    · simp only [Prod.mk.injEq] at e
      obtain ⟨-, rfl, -⟩ := e
      exact ⟨h1, h2⟩
    · have t1 : (lc + 1).toInt = lc.toInt + 1 := by rw [i_add (by omega) (by omega), k1]
      simp only [Prod.mk.injEq] at e
      obtain ⟨-, rfl, -⟩ := e
      omega
  · simp only [Prod.mk.injEq] at e
    obtain ⟨-, rfl, -⟩ := e
    exact ⟨h1, h2⟩


theorem sp_sheet_an {lf lf' r : Int32} {rs rs' : Nat → Nat → Int32} {sl ss sl' ss' : Nat → Int32} {a b n : Int32} (e : (r, lf', rs', sl', ss') = sp_sheet lf rs sl ss a b n) : r = an_sheet a b n := by
  unfold sp_sheet at e
  unfold an_sheet
  split at e
  · rename_i h
    rw [if_pos (by omega)]
    split at e
    · rename_i h2
      rw [if_pos h2]
      exact congrArg Prod.fst e
    · rename_i h2
      rw [if_neg h2]
      exact congrArg Prod.fst e
  · rename_i h
    rw [if_neg (by omega)]
    exact congrArg Prod.fst e
theorem sp_sheet_ok {lf lf' r : Int32} {rs rs' : Nat → Nat → Int32} {sl ss sl' ss' : Nat → Int32} {a b n : Int32} (e : (r, lf', rs', sl', ss') = sp_sheet lf rs sl ss a b n) (h : okS ss) : okS ss' := by
  unfold sp_sheet at e
  split at e
  · split at e
    · simp only [Prod.mk.injEq] at e
      obtain ⟨-, -, -, -, rfl⟩ := e
      exact h
    · simp only [Prod.mk.injEq] at e
      obtain ⟨-, -, -, -, rfl⟩ := e
      exact okS_up h _ (by omega) (by omega)
  · simp only [Prod.mk.injEq] at e
    obtain ⟨-, -, -, -, rfl⟩ := e
    exact h
theorem sp_drop_ok {lf lf' r a : Int32} {ss ss' : Nat → Int32} (e : (r, lf', ss') = sp_drop lf ss a) (h : okS ss) : okS ss' := by
  have km : (-1 : Int32).toInt = -1 := rfl
  unfold sp_drop at e
  split at e
  · split at e
    · simp only [Prod.mk.injEq] at e
      obtain ⟨-, -, rfl⟩ := e
      exact h
    · simp only [Prod.mk.injEq] at e
      obtain ⟨-, -, rfl⟩ := e
      exact okS_up h _ (by omega) (by omega)
  · simp only [Prod.mk.injEq] at e
    obtain ⟨-, -, rfl⟩ := e
    exact h
theorem sq_feed_ok {ln n : Int32} (h1 : 0 ≤ ln.toInt) (h2 : ln.toInt ≤ 300) : 0 ≤ (sq_feed ln n).toInt ∧ (sq_feed ln n).toInt ≤ 300 := by
  unfold sq_feed
  split
  · split
    · exact ⟨h1, h2⟩
    · rw [i_add (by omega) (by omega)]; omega
  · exact ⟨h1, h2⟩


section LAWARG
variable {p : Program} {l : Launch} {e : Env} {R : Room} {s : State} {m : MethodId} {args : Array Value} {below : List Frame} {meth : Method} {c : Code} {H H0 : Heap} {locs : List Loc} {cells slots : Nat} {Q : State → Prop}
variable {pc : Nat} {ls : Array Slot} {rest : List Value} {A0 : Nat → Prop} {cc : ByteArray}
/-- an argument of the call: script[i + n] -/
theorem law_arg {b L : Nat} {xs : Nat → Int32} {i v y : Int32} {n : Int} (hx : p.tables.exec = Jvm.exec) (hb : c.code = cc) (hX : va_X b L xs s H0) (hbl : b < H0.size) (hbA : ¬ A0 b) (hS : va_S A0 H0 H locs) (hl0 : ls[0]? = some (.val (.ref b))) (hl3 : ls[3]? = some (.val (.int i))) (hv : Int32.ofInt n = v) (ha : vp_in (i + v) L) (ey : y = xs (i + v).toNatClampNeg) (d0 : decode cc pc = .ok (.aload_n 0, 1)) (d1 : decode cc (pc + 1) = .ok (.iload_n 3, 1)) (d2 : decode cc (pc + 1 + 1) = .ok (.iconst n, 1)) (d3 : decode cc (pc + 1 + 1 + 1) = .ok (.iadd, 1)) (d4 : decode cc (pc + 1 + 1 + 1 + 1) = .ok (.iaload, 1))
    (kk : W p l e R s m args below meth c H locs cells slots Q (F0 m (pc + 1 + 1 + 1 + 1 + 1) ls (.int y :: rest))) : W p l e R s m args below meth c H locs cells slots Q (F0 m pc ls rest) := by
  subst ey
  refine lv_aload_n hx hb d0 rfl hl0 ?_
  refine lv_iload_n hx hb d1 rfl hl3 ?_
  refine lv_iconst hx hb d2 hv ?_
  refine lv_iadd hx hb d3 ?_
  exact va_sld hx hb hX hbl hbA hS ha d4 kk
end LAWARG
theorem law_in {i v : Int32} {L : Nat} (h1 : 1 ≤ i.toInt) (h2 : i.toInt + 5 < L) (hL : L ≤ 3073) (hv : 0 ≤ v.toInt ∧ v.toInt ≤ 5) : vp_in (i + v) L := by
  have := i_add (x := i) (y := v) (by omega) (by omega)
  exact i_in (by omega) (by omega)

def lawC (p : Program) (s : State) (m : MethodId) (meth : Method) (c : Code) (b L : Nat) (xs : Nat → Int32) (D : va_G) (cI cY cJ cQ : ClassId) (aK aV : Nat) : Prop := lw_At p s m meth c b L xs ∧ va_K D vwCl (ty4 cI cY cJ cQ) s ∧ nw s ∧ strW aK aV (fun q : Nat => s.heap.size ≤ q) s ∧ L ≤ 3073
