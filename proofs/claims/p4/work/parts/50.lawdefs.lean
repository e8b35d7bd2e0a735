/-- the class's world: numbers nx, rows fx, sheets' rows rs, lots lo -/
def wX (ad rw : Nat → Nat) (sd : Int32) (cI cY cJ cQ : ClassId) (nx : Nat → Int32) (fx rs : Nat → Nat → Int32) (lo : Nat → Int64) : va_W := ((oC10 ad (nx 0) (nx 1) (nx 2)) :: (aI cI (ad 11) 16 (fx 0)) :: (aI cI (rw 0) 60 (rs 0)) :: (aI cI (rw 1) 60 (rs 1)) :: (aI cI (rw 2) 60 (rs 2)) :: (aI cI (rw 3) 60 (rs 3)) :: (aI cI (rw 4) 60 (rs 4)) :: (aI cI (rw 5) 60 (rs 5)) :: (aI cI (rw 6) 60 (rs 6)) :: (aI cI (rw 7) 60 (rs 7)) :: (oC9 ad ) :: ((ad 12), .inl (cQ, 8, .inr (.inr (.inr (.inr (fun i => if i < 8 then some (rw i) else none)))))) :: (aI cI (ad 13) 8 (fx 1)) :: (aI cI (ad 14) 8 (fx 2)) :: (oC3 ad (nx 3)) :: (aI cI (ad 23) 40 (fx 3)) :: (aI cI (ad 24) 40 (fx 4)) :: (aI cI (ad 25) 40 (fx 5)) :: (aI cI (ad 26) 40 (fx 6)) :: (aI cI (ad 27) 200 (fx 7)) :: (aI cI (ad 28) 200 (fx 8)) :: (aI cI (ad 29) 20 (fx 9)) :: (aI cI (ad 30) 10 (fx 10)) :: (oC1 ad (nx 4)) :: (aI cI (ad 31) 12 (fx 11)) :: (aI cI (ad 32) 12 (fx 12)) :: (aI cI (ad 33) 12 (fx 13)) :: (aI cI (ad 34) 6 (fx 14)) :: (aI cI (ad 35) 6 (fx 15)) :: (oC7 ad (nx 5)) :: (aI cI (ad 36) 40 (fx 16)) :: (aI cI (ad 37) 40 (fx 17)) :: (aI cI (ad 38) 40 (fx 18)) :: (aI cI (ad 39) 40 (fx 19)) :: (aI cI (ad 40) 40 (fx 20)) :: (aI cI (ad 41) 40 (fx 21)) :: (oC8 ad (nx 6)) :: (aI cI (ad 42) 40 (fx 22)) :: (aI cI (ad 43) 40 (fx 23)) :: (aI cI (ad 44) 40 (fx 24)) :: (aI cI (ad 45) 40 (fx 25)) :: (aI cI (ad 46) 40 (fx 26)) :: (oC2 ad (nx 7) (nx 8) (nx 9) (nx 10) (nx 11) (nx 12) (nx 13) (nx 14)) :: (aI cY (ad 47) 300 (fx 27)) :: (aI cI (ad 48) 12 (fx 28)) :: (aI cI (ad 49) 12 (fx 29)) :: (aI cI (ad 50) 12 (fx 30)) :: (aI cI (ad 51) 12 (fx 31)) :: (aI cI (ad 52) 12 (fx 32)) :: (aI cI (ad 53) 12 (fx 33)) :: (oC0 ad (nx 15)) :: (aI cI (ad 54) 60 (fx 34)) :: (aI cI (ad 55) 60 (fx 35)) :: (aI cI (ad 56) 60 (fx 36)) :: (aI cI (ad 57) 60 (fx 37)) :: (oC5 ad sd) :: (aJ cJ (ad 58) 12 lo) :: (oC6 ad (nx 16)) :: (aI cI (ad 59) 60 (fx 38)) :: (aI cI (ad 60) 60 (fx 39)) :: (aI cI (ad 61) 60 (fx 40)) :: (aI cI (ad 62) 60 (fx 41)) :: (oC4 ad (nx 17)) :: (aI cI (ad 63) 20 (fx 42)) :: (aI cI (ad 64) 20 (fx 43)) :: (aI cI (ad 65) 20 (fx 44)) :: [])
/-- the reference's world -/
def wM (md : Nat → Nat) (sd : Int32) (cI cY cJ cQ : ClassId) (ny : Nat → Int32) (fy : Nat → Nat → Int32) (fl : Nat → Int64) : va_W := ((moC md sd (ny 0) (ny 1) (ny 2) (ny 3) (ny 4) (ny 5) (ny 6) (ny 7) (ny 8) (ny 9) (ny 10) (ny 11) (ny 12) (ny 13) (ny 14) (ny 15) (ny 16) (ny 17) (ny 18) (ny 19) (ny 20) (ny 21) (ny 22)) :: (aI cI (md 3) 8 (fy 0)) :: (aI cI (md 4) 8 (fy 1)) :: (aI cI (md 5) 480 (fy 2)) :: (aI cI (md 7) 40 (fy 3)) :: (aI cI (md 8) 40 (fy 4)) :: (aI cI (md 9) 40 (fy 5)) :: (aI cI (md 10) 40 (fy 6)) :: (aI cI (md 11) 200 (fy 7)) :: (aI cI (md 12) 12 (fy 8)) :: (aI cI (md 13) 12 (fy 9)) :: (aJ cJ (md 14) 12 fl) :: (aI cI (md 16) 12 (fy 10)) :: (aI cI (md 17) 12 (fy 11)) :: (aI cI (md 19) 40 (fy 12)) :: (aI cI (md 20) 40 (fy 13)) :: (aI cI (md 21) 40 (fy 14)) :: (aI cI (md 22) 40 (fy 15)) :: (aI cI (md 23) 40 (fy 16)) :: (aI cI (md 26) 40 (fy 17)) :: (aI cI (md 27) 40 (fy 18)) :: (aI cI (md 28) 40 (fy 19)) :: (aI cI (md 29) 40 (fy 20)) :: (aI cI (md 31) 36 (fy 21)) :: (aI cI (md 33) 36 (fy 22)) :: (aI cI (md 34) 300 (fy 23)) :: (aI cI (md 45) 60 (fy 24)) :: (aI cI (md 46) 60 (fy 25)) :: (aI cI (md 47) 60 (fy 26)) :: (aI cI (md 48) 60 (fy 27)) :: (aI cI (md 49) 6 (fy 28)) :: (aI cI (md 50) 6 (fy 29)) :: (aI cI (md 51) 12 (fy 30)) :: (aI cI (md 53) 60 (fy 31)) :: (aI cI (md 54) 60 (fy 32)) :: (aI cI (md 55) 60 (fy 33)) :: (aI cI (md 56) 60 (fy 34)) :: (aI cI (md 58) 20 (fy 35)) :: (aI cI (md 59) 20 (fy 36)) :: (aI cI (md 60) 20 (fy 37)) :: (aI cI (md 62) 16 (fy 38)) :: [])

/-- what holds of both between calls -/
def inv (nx : Nat → Int32) (fx rs : Nat → Nat → Int32) (ny : Nat → Int32) (fy : Nat → Nat → Int32) : Prop := (0 ≤ (nx 3).toInt) ∧ ((nx 3).toInt ≤ 40) ∧ (okH (nx 3) (fx 3) (fx 4)) ∧ (okD (nx 3) (fx 6)) ∧ (okV (nx 3) (fx 5)) ∧ (okN (nx 3) (fx 3) (fx 4)) ∧ (0 ≤ (nx 4).toInt) ∧ ((nx 4).toInt ≤ 12) ∧ (okF (nx 4) (fx 11)) ∧ (0 ≤ (nx 5).toInt) ∧ ((nx 5).toInt ≤ 40) ∧ (okG (nx 5) (fx 18)) ∧ (okO (nx 5) (fx 21)) ∧ (okW (nx 5) (fx 21) (fx 19) (fx 20)) ∧ (0 ≤ (nx 6).toInt) ∧ ((nx 6).toInt ≤ 40) ∧ (okJ (nx 6) (fx 23)) ∧ (0 ≤ (nx 7).toInt) ∧ ((nx 7).toInt ≤ 300) ∧ (0 ≤ (nx 9).toInt) ∧ ((nx 9).toInt ≤ 12) ∧ (0 ≤ (nx 15).toInt) ∧ ((nx 15).toInt ≤ 60) ∧ (0 ≤ (nx 16).toInt) ∧ ((nx 16).toInt ≤ 60) ∧ (okU (nx 16) (fx 41)) ∧ (0 ≤ (nx 17).toInt) ∧ ((nx 17).toInt ≤ 20) ∧ (0 ≤ (nx 0).toInt) ∧ ((nx 0).toInt ≤ 16) ∧ (okS (fx 2)) ∧ (0 ≤ (ny 2).toInt) ∧ ((ny 2).toInt ≤ 40) ∧ (okH (ny 2) (fy 3) (fy 4)) ∧ (okM (fy 1)) ∧ (0 ≤ (ny 7).toInt) ∧ ((ny 7).toInt ≤ 12) ∧ (0 ≤ (ny 22).toInt) ∧ ((ny 22).toInt ≤ 16) ∧ ((ny 2) = (nx 3)) ∧ ((fy 3) = (fx 3)) ∧ ((fy 4) = (fx 4)) ∧ ((fy 5) = (fx 5)) ∧ ((fy 6) = (fx 6)) ∧ ((ny 3) = (nx 4)) ∧ ((fy 10) = (fx 11)) ∧ ((fy 11) = (fx 12)) ∧ ((ny 4) = (nx 5)) ∧ ((fy 12) = (fx 16)) ∧ ((fy 13) = (fx 17)) ∧ ((fy 14) = (fx 18)) ∧ ((fy 15) = (fx 19)) ∧ ((fy 16) = (fx 20)) ∧ ((ny 6) = (nx 6)) ∧ ((fy 17) = (fx 22)) ∧ ((fy 18) = (fx 23)) ∧ ((fy 19) = (fx 24)) ∧ ((fy 20) = (fx 25)) ∧ ((ny 18) = (nx 15)) ∧ ((fy 24) = (fx 34)) ∧ ((fy 25) = (fx 35)) ∧ ((fy 26) = (fx 36)) ∧ ((fy 27) = (fx 37)) ∧ ((ny 19) = (nx 16)) ∧ ((fy 31) = (fx 38)) ∧ ((fy 32) = (fx 39)) ∧ ((fy 33) = (fx 40)) ∧ ((fy 34) = (fx 41)) ∧ ((ny 20) = (nx 17)) ∧ ((fy 35) = (fx 42)) ∧ ((fy 36) = (fx 43)) ∧ ((fy 37) = (fx 44)) ∧ ((fy 28) = (fx 14)) ∧ ((fy 29) = (fx 15)) ∧ ((ny 9) = (nx 7)) ∧ ((ny 21) = (nx 1)) ∧ ((fy 30) = (fx 13)) ∧ ((ny 22) = (nx 0)) ∧ ((fy 38) = (fx 0)) ∧ ((ny 1) = (nx 2)) ∧ (shR (fy 0) (fy 1) (fy 2) (fx 1) (fx 2) rs)

theorem inv_el {nx : Nat → Int32} {fx rs : Nat → Nat → Int32} {ny : Nat → Int32} {fy : Nat → Nat → Int32} {Q : Prop} (I : inv nx fx rs ny fy) (h : (0 ≤ (nx 3).toInt) → ((nx 3).toInt ≤ 40) → (okH (nx 3) (fx 3) (fx 4)) → (okD (nx 3) (fx 6)) → (okV (nx 3) (fx 5)) → (okN (nx 3) (fx 3) (fx 4)) → (0 ≤ (nx 4).toInt) → ((nx 4).toInt ≤ 12) → (okF (nx 4) (fx 11)) → (0 ≤ (nx 5).toInt) → ((nx 5).toInt ≤ 40) → (okG (nx 5) (fx 18)) → (okO (nx 5) (fx 21)) → (okW (nx 5) (fx 21) (fx 19) (fx 20)) → (0 ≤ (nx 6).toInt) → ((nx 6).toInt ≤ 40) → (okJ (nx 6) (fx 23)) → (0 ≤ (nx 7).toInt) → ((nx 7).toInt ≤ 300) → (0 ≤ (nx 9).toInt) → ((nx 9).toInt ≤ 12) → (0 ≤ (nx 15).toInt) → ((nx 15).toInt ≤ 60) → (0 ≤ (nx 16).toInt) → ((nx 16).toInt ≤ 60) → (okU (nx 16) (fx 41)) → (0 ≤ (nx 17).toInt) → ((nx 17).toInt ≤ 20) → (0 ≤ (nx 0).toInt) → ((nx 0).toInt ≤ 16) → (okS (fx 2)) → (0 ≤ (ny 2).toInt) → ((ny 2).toInt ≤ 40) → (okH (ny 2) (fy 3) (fy 4)) → (okM (fy 1)) → (0 ≤ (ny 7).toInt) → ((ny 7).toInt ≤ 12) → (0 ≤ (ny 22).toInt) → ((ny 22).toInt ≤ 16) → ((ny 2) = (nx 3)) → ((fy 3) = (fx 3)) → ((fy 4) = (fx 4)) → ((fy 5) = (fx 5)) → ((fy 6) = (fx 6)) → ((ny 3) = (nx 4)) → ((fy 10) = (fx 11)) → ((fy 11) = (fx 12)) → ((ny 4) = (nx 5)) → ((fy 12) = (fx 16)) → ((fy 13) = (fx 17)) → ((fy 14) = (fx 18)) → ((fy 15) = (fx 19)) → ((fy 16) = (fx 20)) → ((ny 6) = (nx 6)) → ((fy 17) = (fx 22)) → ((fy 18) = (fx 23)) → ((fy 19) = (fx 24)) → ((fy 20) = (fx 25)) → ((ny 18) = (nx 15)) → ((fy 24) = (fx 34)) → ((fy 25) = (fx 35)) → ((fy 26) = (fx 36)) → ((fy 27) = (fx 37)) → ((ny 19) = (nx 16)) → ((fy 31) = (fx 38)) → ((fy 32) = (fx 39)) → ((fy 33) = (fx 40)) → ((fy 34) = (fx 41)) → ((ny 20) = (nx 17)) → ((fy 35) = (fx 42)) → ((fy 36) = (fx 43)) → ((fy 37) = (fx 44)) → ((fy 28) = (fx 14)) → ((fy 29) = (fx 15)) → ((ny 9) = (nx 7)) → ((ny 21) = (nx 1)) → ((fy 30) = (fx 13)) → ((ny 22) = (nx 0)) → ((fy 38) = (fx 0)) → ((ny 1) = (nx 2)) → (shR (fy 0) (fy 1) (fy 2) (fx 1) (fx 2) rs) → Q) : Q := by
  obtain ⟨Xhna, Xhnb, XH, XD, XV, XN, Xcna, Xcnb, XF, Xpna, Xpnb, XG, XO, XW, Xgna, Xgnb, XJ, Xlna, Xlnb, Xdla, Xdlb, Xana, Xanb, Xuna, Xunb, XU, Xlca, Xlcb, Xtna, Xtnb, XS, Mhna, Mhnb, MH, MS, Mmlna, Mmlnb, Mmtna, Mmtnb, Chn, Cho, Chc, Chp, Chs, Ccn, Cfo, Cwo, Cpn, Cpk, Cpf, Cpo, Cpd, Cpe, Cgn, Cgk, Cgs, Cgd, Cge, Can, Cak, Cah, Cay, Caz, Cun, Cuk, Cuy, Cuw, Cum, Clc, Clp, Cla, Clb, Caw, Ciw, Cln, Ctd, Cro, Cmtn, Cmtr, Cmst, Csh⟩ := I
  exact h Xhna Xhnb XH XD XV XN Xcna Xcnb XF Xpna Xpnb XG XO XW Xgna Xgnb XJ Xlna Xlnb Xdla Xdlb Xana Xanb Xuna Xunb XU Xlca Xlcb Xtna Xtnb XS Mhna Mhnb MH MS Mmlna Mmlnb Mmtna Mmtnb Chn Cho Chc Chp Chs Ccn Cfo Cwo Cpn Cpk Cpf Cpo Cpd Cpe Cgn Cgk Cgs Cgd Cge Can Cak Cah Cay Caz Cun Cuk Cuy Cuw Cum Clc Clp Cla Clb Caw Ciw Cln Ctd Cro Cmtn Cmtr Cmst Csh


theorem va_P.comm {D : va_G} {cl : List vw_C} {a b : va_W} {H : Heap} (h : va_P D cl (a ++ b) H) : va_P D cl (b ++ a) H := by
  have h1 : va_P D cl (([] ++ a) ++ b) H := h
  exact h1.swap
theorem va_D.comm {A : Nat → Prop} {a b : va_W} (h : va_D A (a ++ b)) : va_D A (b ++ a) := by
  have h1 : va_D A (([] ++ a) ++ b) := h
  exact h1.swap
/-- cells put in their places -/
def repl : List Nat → va_W → va_W → va_W
  | [], _, ws => ws
  | _ :: _, [], ws => ws
  | i :: is, c :: cs, ws => repl is cs (ws.set i c)
theorem repl_get : ∀ (is : List Nat) (cs ws : va_W), cs.length = is.length → ∀ (k : Nat) (q : Nat × va_E), (repl is cs ws)[k]? = some q → (∃ j : Nat, cs[j]? = some q) ∨ (k ∉ is ∧ ws[k]? = some q)
  | [], cs, ws, _, k, q, h => Or.inr ⟨fun h9 => (by cases h9), h⟩
  | i :: is, [], ws, hl, k, q, h => by cases hl
  | i :: is, c :: cs, ws, hl, k, q, h => by
    have h1 : (repl is cs (ws.set i c))[k]? = some q := h
    rcases repl_get is cs (ws.set i c) (Nat.succ.inj hl) k q h1 with ⟨j, hj⟩ | ⟨hk, hq⟩
    · exact Or.inl ⟨j + 1, by rw [List.getElem?_cons_succ]; exact hj⟩
    · rw [List.getElem?_set] at hq
      split at hq
      · split at hq
        · exact Or.inl ⟨0, hq⟩
        · cases hq
      · rename_i g
        refine Or.inr ⟨fun h9 => ?_, hq⟩
        rcases List.mem_cons.mp h9 with h9 | h9
        · exact g h9.symm
        · exact hk h9
theorem wXM_D {A : Nat → Prop} {ad rw md : Nat → Nat} {sd : Int32} {cI cY cJ cQ : ClassId} {nx nx' ny ny' : Nat → Int32} {fx fx' rs rs' fy fy' : Nat → Nat → Int32} {lo lo' fl fl' : Nat → Int64} (h : va_D A (wX ad rw sd cI cY cJ cQ nx fx rs lo ++ wM md sd cI cY cJ cQ ny fy fl)) : va_D A (wX ad rw sd cI cY cJ cQ nx' fx' rs' lo' ++ wM md sd cI cY cJ cQ ny' fy' fl') := h.adr rfl
theorem wMX_D {A : Nat → Prop} {ad rw md : Nat → Nat} {sd : Int32} {cI cY cJ cQ : ClassId} {nx nx' ny ny' : Nat → Int32} {fx fx' rs rs' fy fy' : Nat → Nat → Int32} {lo lo' fl fl' : Nat → Int64} (h : va_D A (wM md sd cI cY cJ cQ ny fy fl ++ wX ad rw sd cI cY cJ cQ nx fx rs lo)) : va_D A (wM md sd cI cY cJ cQ ny' fy' fl' ++ wX ad rw sd cI cY cJ cQ nx' fx' rs' lo') := h.adr rfl
section STEPQ
variable {p : Program} {l : Launch} {e : Env} {R : Room} {s : State} {m : MethodId} {args : Array Value} {below : List Frame} {meth : Method} {c : Code} {H H0 : Heap} {locs : List Loc} {cells slots mc ms : Nat} {Q : State → Prop}
variable {pc : Nat} {ls : Array Slot} {rest st0 : List Value} {D : va_G} {A0 : Nat → Prop} {tys : List (ClassId × FieldType)} {wc wr X pl : va_W} {a : Array Value} {S : Type} {w : S → va_W}
theorem va_freeX {A0 : Nat → Prop} {X cx pl : va_W} {H0 H : Heap} {locs : List Loc} (hD : va_D A0 (X ++ pl)) (hS : va_S A0 H0 H locs) (hA : ∀ q, H0.size ≤ q → A0 q) (isC : List Nat) (hC : isC.map (fun i => X[i]?) = cx.map some) : ∀ q, va_A cx H.size q → A0 q := by
  intro q h
  refine va_freeP hD hS hA isC hC q ?_
  rcases h with ⟨k, e, h⟩ | h
  · exact Or.inl ⟨k, e, by rw [List.getElem?_append_left (List.getElem?_eq_some_iff.mp h).1]; exact h⟩
  · exact Or.inr h
theorem va_upd {A0 : Nat → Prop} {D : va_G} {cl : List vw_C} {X wc w1 pl : va_W} {H H1 : Heap} (hP : va_P D cl (X ++ pl) H) (hD : va_D A0 (X ++ pl)) (isC : List Nat) (hC : isC.map (fun i => X[i]?) = wc.map some) (hl : w1.length = isC.length) (hk : ∀ q : Nat, q < H.size → ¬ va_A wc H.size q → H1[q]? = H[q]?) (hP1 : va_P D cl w1 H1) : va_P D cl (repl isC w1 X ++ pl) H1 := by
  have keep : ∀ (m : Nat) (q : Nat × va_E), (X ++ pl)[m]? = some q → m ∉ isC → va_at D cl q H1 := by
    intro m q hm hn
    have hlt := (hP m q hm).lt
    refine (hP m q hm).kept (hk q.1 hlt (fun h => ?_))
    rcases h with ⟨k2, e, h⟩ | h
    · have h1 : (isC.map (fun i => X[i]?))[k2]? = some (some (q.1, e)) := by rw [hC, List.getElem?_map, h]; rfl
      rw [List.getElem?_map] at h1
      cases hi : isC[k2]? with
      | none => rw [hi] at h1; cases h1
      | some i =>
        rw [hi] at h1
        have h4 : X[i]? = some (q.1, e) := Option.some.inj h1
        have h5 : (X ++ pl)[i]? = some (q.1, e) := by rw [List.getElem?_append_left (List.getElem?_eq_some_iff.mp h4).1]; exact h4
        have h6 := hD.1 m i q (q.1, e) hm h5 rfl
        rw [h6] at hn
        exact hn (List.mem_of_getElem? hi)
    · exact absurd hlt (Nat.not_lt.mpr h)
  refine va_P.app (fun k q hq => ?_) (fun k q hq => ?_)
  · rcases repl_get isC w1 X hl k q hq with ⟨j, hj⟩ | ⟨hn, hq2⟩
    · exact hP1 j q hj
    · exact keep k q (by rw [List.getElem?_append_left (List.getElem?_eq_some_iff.mp hq2).1]; exact hq2) hn
  · refine keep (X.length + k) q (by rw [List.getElem?_append_right (Nat.le_add_right _ _), Nat.add_sub_cancel_left]; exact hq) (fun h => ?_)
    obtain ⟨k2, h3⟩ := List.getElem?_of_mem h
    have h6 : (isC.map (fun i => X[i]?))[k2]? = some (X[X.length + k]?) := by rw [List.getElem?_map, h3]; rfl
    rw [hC, List.getElem?_map, List.getElem?_eq_none (Nat.le_add_right X.length k)] at h6
    cases hw : wc[k2]? with
    | none => rw [hw] at h6; cases h6
    | some z => rw [hw] at h6; cases h6
/-- a call beside a world that it doesn't touch -/
theorem st_iQ {post : Int32 → S → Prop} (hr : va_Run p l e R s m args below meth c H locs cells slots mc ms (F0 m pc ls st0) rest (va_Qi post (cB D tys w (va_A wc H.size)) (va_A wc H.size) a) (va_A wc H.size)) (hP : va_P D vwCl (X ++ pl) H) (hD : va_D A0 (X ++ pl)) (hS : va_S A0 H0 H locs) (hA : ∀ q, H0.size ≤ q → A0 q)
    (isC isR : List Nat) (hC : isC.map (fun i => X[i]?) = wc.map some) (hR : isR.map (fun i => X[i]?) = wr.map some) (hn : va_nd isR = true) (hdis : ∀ i ∈ isR, i ∉ isC)
    (kk : ∀ (r : Int32) (u : S) (H1 : Heap) (locs1 : List Loc), post r u → va_P D vwCl ((wr ++ w u) ++ pl) H1 → va_D A0 ((wr ++ w u) ++ pl) → va_S A0 H0 H1 locs1 → W p l e R s m args below meth c H1 locs1 (cells + mc) (slots + ms) Q (F0 m (pc + 3) ls (.int r :: rest))) : W p l e R s m args below meth c H locs cells slots Q (F0 m pc ls st0) := by
  have hF := va_freeX (cx := wc) hD hS hA isC hC
  refine va_calli hr hS (fun q _ h => hF q h) hF (fun r u t H1 locs1 ht hvm hw hB hz1 hk1 hS1 => ?_)
  obtain ⟨hP1, hK1, hD1⟩ := hB
  rw [ht] at hP1
  obtain ⟨hP2, hD2⟩ := va_joinQ (wr := wr) (w1 := w u) hP hD isC isR hC hR hn hdis hk1 hF hP1 hD1
  exact kk r u H1 locs1 hw hP2 hD2 hS1
/-- a call beside a world that it doesn't touch; its cells change in their places -/
theorem st_iU {post : Int32 → S → Prop} (hr : va_Run p l e R s m args below meth c H locs cells slots mc ms (F0 m pc ls st0) rest (va_Qi post (cB D tys w (va_A wc H.size)) (va_A wc H.size) a) (va_A wc H.size)) (hP : va_P D vwCl (X ++ pl) H) (hD : va_D A0 (X ++ pl)) (hS : va_S A0 H0 H locs) (hA : ∀ q, H0.size ≤ q → A0 q)
    (isC : List Nat) (hC : isC.map (fun i => X[i]?) = wc.map some) (hl : ∀ u, (w u).length = isC.length)
    (kk : ∀ (r : Int32) (u : S) (H1 : Heap) (locs1 : List Loc), post r u → va_P D vwCl (repl isC (w u) X ++ pl) H1 → va_S A0 H0 H1 locs1 → W p l e R s m args below meth c H1 locs1 (cells + mc) (slots + ms) Q (F0 m (pc + 3) ls (.int r :: rest))) : W p l e R s m args below meth c H locs cells slots Q (F0 m pc ls st0) := by
  have hF := va_freeX (cx := wc) hD hS hA isC hC
  refine va_calli hr hS (fun q _ h => hF q h) hF (fun r u t H1 locs1 ht hvm hw hB hz1 hk1 hS1 => ?_)
  obtain ⟨hP1, hK1, hD1⟩ := hB
  rw [ht] at hP1
  exact kk r u H1 locs1 hw (va_upd hP hD isC hC (hl u) hk1 hP1) hS1
end STEPQ

theorem sp_crate_ok {cn cn' o w r : Int32} {fo wo fo' wo' : Nat → Int32} (e : (r, cn', fo', wo') = sp_crate cn fo wo o w) (h1 : 0 ≤ cn.toInt) (h2 : cn.toInt ≤ 12) : 0 ≤ cn'.toInt ∧ cn'.toInt ≤ 12 := by
  have k1 : (1 : Int32).toInt = 1 := rfl
  unfold sp_crate at e
  split at e
  · split at e
    · simp only [Prod.mk.injEq] at e
      obtain ⟨-, rfl, -⟩ := e
      exact ⟨h1, h2⟩
    · have t1 : (cn + 1).toInt = cn.toInt + 1 := by rw [i_add (by omega) (by omega), k1]
      simp only [Prod.mk.injEq] at e
      obtain ⟨-, rfl, -⟩ := e
      omega
  · simp only [Prod.mk.injEq] at e
    obtain ⟨-, rfl, -⟩ := e
    exact ⟨h1, h2⟩

theorem sp_paper_ok {pn pn' cn k x y a b r : Int32} {pk pf po pd pe pk' pf' po' pd' pe' : Nat → Int32} (e : (r, pn', pk', pf', po', pd', pe') = sp_paper pn pk pf po pd pe cn k x y a b) (h1 : 0 ≤ pn.toInt) (h2 : pn.toInt ≤ 40) : 0 ≤ pn'.toInt ∧ pn'.toInt ≤ 40 := by
  have k1 : (1 : Int32).toInt = 1 := rfl
  unfold sp_paper at e
  split at e
  · split at e
    · simp only [Prod.mk.injEq] at e
      obtain ⟨-, rfl, -⟩ := e
      exact ⟨h1, h2⟩
    · have t1 : (pn + 1).toInt = pn.toInt + 1 := by rw [i_add (by omega) (by omega), k1]
      simp only [Prod.mk.injEq] at e
      obtain ⟨-, rfl, -⟩ := e
      omega
  · simp only [Prod.mk.injEq] at e
    obtain ⟨-, rfl, -⟩ := e
    exact ⟨h1, h2⟩

theorem sp_pledge_ok {gn gn' cn k x q a b r : Int32} {gk gs gd ge gk' gs' gd' ge' : Nat → Int32} (e : (r, gn', gk', gs', gd', ge') = sp_pledge gn gk gs gd ge cn k x q a b) (h1 : 0 ≤ gn.toInt) (h2 : gn.toInt ≤ 40) : 0 ≤ gn'.toInt ∧ gn'.toInt ≤ 40 := by
  have k1 : (1 : Int32).toInt = 1 := rfl
  unfold sp_pledge at e
  split at e
  · split at e
    · simp only [Prod.mk.injEq] at e
      obtain ⟨-, rfl, -⟩ := e
      exact ⟨h1, h2⟩
    · have t1 : (gn + 1).toInt = gn.toInt + 1 := by rw [i_add (by omega) (by omega), k1]
      simp only [Prod.mk.injEq] at e
      obtain ⟨-, rfl, -⟩ := e
      omega
  · simp only [Prod.mk.injEq] at e
    obtain ⟨-, rfl, -⟩ := e
    exact ⟨h1, h2⟩

theorem sp_act_ok {an an' cn k w d n r : Int32} {ak ah ay az ak' ah' ay' az' : Nat → Int32} (e : (r, an', ak', ah', ay', az') = sp_act an ak ah ay az cn k w d n) (h1 : 0 ≤ an.toInt) (h2 : an.toInt ≤ 60) : 0 ≤ an'.toInt ∧ an'.toInt ≤ 60 := by
  have k1 : (1 : Int32).toInt = 1 := rfl
  unfold sp_act at e
  split at e
  · split at e
    · simp only [Prod.mk.injEq] at e
      obtain ⟨-, rfl, -⟩ := e
      exact ⟨h1, h2⟩
    · have t1 : (an + 1).toInt = an.toInt + 1 := by rw [i_add (by omega) (by omega), k1]
      simp only [Prod.mk.injEq] at e
      obtain ⟨-, rfl, -⟩ := e
      omega
  · simp only [Prod.mk.injEq] at e
    obtain ⟨-, rfl, -⟩ := e
    exact ⟨h1, h2⟩

theorem sp_opened_ok {un un' cn k d w q r : Int32} {uk uy uw um uk' uy' uw' um' : Nat → Int32} (e : (r, un', uk', uy', uw', um') = sp_opened un uk uy uw um cn k d w q) (h1 : 0 ≤ un.toInt) (h2 : un.toInt ≤ 60) : 0 ≤ un'.toInt ∧ un'.toInt ≤ 60 := by
  have k1 : (1 : Int32).toInt = 1 := rfl
  unfold sp_opened at e
  split at e
  · split at e
    · simp only [Prod.mk.injEq] at e
      obtain ⟨-, rfl, -⟩ := e
      exact ⟨h1, h2⟩
    · have t1 : (un + 1).toInt = un.toInt + 1 := by rw [i_add (by omega) (by omega), k1]
      simp only [Prod.mk.injEq] at e
      obtain ⟨-, rfl, -⟩ := e
      omega
  · simp only [Prod.mk.injEq] at e
    obtain ⟨-, rfl, -⟩ := e
    exact ⟨h1, h2⟩

theorem sp_list_ok {lc lc' q a b r : Int32} {lp la lb lp' la' lb' : Nat → Int32} (e : (r, lc', lp', la', lb') = sp_list lc lp la lb q a b) (h1 : 0 ≤ lc.toInt) (h2 : lc.toInt ≤ 20) : 0 ≤ lc'.toInt ∧ lc'.toInt ≤ 20 := by
  have k1 : (1 : Int32).toInt = 1 := rfl
  unfold sp_list at e
  split at e
  · split at e
    · simp only [Prod.mk.injEq] at e
      obtain ⟨-, rfl, -⟩ := e
      exact ⟨h1, h2⟩
    · have t1 : (lc + 1).toInt = lc.toInt + 1 := by rw [i_add (by omega) (by omega), k1]
      simp only [Prod.mk.injEq] at e
      obtain ⟨-, rfl, -⟩ := e
      omega
  · simp only [Prod.mk.injEq] at e
    obtain ⟨-, rfl, -⟩ := e
    exact ⟨h1, h2⟩


theorem sp_sheet_an {lf lf' r : Int32} {rs rs' : Nat → Nat → Int32} {sl ss sl' ss' : Nat → Int32} {a b n : Int32} (e : (r, lf', rs', sl', ss') = sp_sheet lf rs sl ss a b n) : r = an_sheet a b n := by
  unfold sp_sheet at e
  unfold an_sheet
  split at e
  · rename_i h
    rw [if_pos (by omega)]
    split at e
    · rename_i h2
      rw [if_pos h2]
      exact congrArg Prod.fst e
    · rename_i h2
      rw [if_neg h2]
      exact congrArg Prod.fst e
  · rename_i h
    rw [if_neg (by omega)]
    exact congrArg Prod.fst e
theorem sp_sheet_ok {lf lf' r : Int32} {rs rs' : Nat → Nat → Int32} {sl ss sl' ss' : Nat → Int32} {a b n : Int32} (e : (r, lf', rs', sl', ss') = sp_sheet lf rs sl ss a b n) (h : okS ss) : okS ss' := by
  unfold sp_sheet at e
  split at e
  · split at e
    · simp only [Prod.mk.injEq] at e
      obtain ⟨-, -, -, -, rfl⟩ := e
      exact h
    · simp only [Prod.mk.injEq] at e
      obtain ⟨-, -, -, -, rfl⟩ := e
      exact okS_up h _ (by omega) (by omega)
  · simp only [Prod.mk.injEq] at e
    obtain ⟨-, -, -, -, rfl⟩ := e
    exact h
theorem sp_drop_ok {lf lf' r a : Int32} {ss ss' : Nat → Int32} (e : (r, lf', ss') = sp_drop lf ss a) (h : okS ss) : okS ss' := by
  have km : (-1 : Int32).toInt = -1 := rfl
  unfold sp_drop at e
  split at e
  · split at e
    · simp only [Prod.mk.injEq] at e
      obtain ⟨-, -, rfl⟩ := e
      exact h
    · simp only [Prod.mk.injEq] at e
      obtain ⟨-, -, rfl⟩ := e
      exact okS_up h _ (by omega) (by omega)
  · simp only [Prod.mk.injEq] at e
    obtain ⟨-, -, rfl⟩ := e
    exact h
theorem sq_feed_ok {ln n : Int32} (h1 : 0 ≤ ln.toInt) (h2 : ln.toInt ≤ 300) : 0 ≤ (sq_feed ln n).toInt ∧ (sq_feed ln n).toInt ≤ 300 := by
  unfold sq_feed
  split
  · split
    · exact ⟨h1, h2⟩
    · rw [i_add (by omega) (by omega)]; omega
  · exact ⟨h1, h2⟩


section LAWARG
variable {p : Program} {l : Launch} {e : Env} {R : Room} {s : State} {m : MethodId} {args : Array Value} {below : List Frame} {meth : Method} {c : Code} {H H0 : Heap} {locs : List Loc} {cells slots : Nat} {Q : State → Prop}
variable {pc : Nat} {ls : Array Slot} {rest : List Value} {A0 : Nat → Prop} {cc : ByteArray}
/-- an argument of the call: script[i + n] -/
theorem law_arg {b L : Nat} {xs : Nat → Int32} {i v y : Int32} {n : Int} (hx : p.tables.exec = Jvm.exec) (hb : c.code = cc) (hX : va_X b L xs s H0) (hbl : b < H0.size) (hbA : ¬ A0 b) (hS : va_S A0 H0 H locs) (hl0 : ls[0]? = some (.val (.ref b))) (hl3 : ls[3]? = some (.val (.int i))) (hv : Int32.ofInt n = v) (ha : vp_in (i + v) L) (ey : y = xs (i + v).toNatClampNeg) (d0 : decode cc pc = .ok (.aload_n 0, 1)) (d1 : decode cc (pc + 1) = .ok (.iload_n 3, 1)) (d2 : decode cc (pc + 1 + 1) = .ok (.iconst n, 1)) (d3 : decode cc (pc + 1 + 1 + 1) = .ok (.iadd, 1)) (d4 : decode cc (pc + 1 + 1 + 1 + 1) = .ok (.iaload, 1))
    (kk : W p l e R s m args below meth c H locs cells slots Q (F0 m (pc + 1 + 1 + 1 + 1 + 1) ls (.int y :: rest))) : W p l e R s m args below meth c H locs cells slots Q (F0 m pc ls rest) := by
  subst ey
  refine lv_aload_n hx hb d0 rfl hl0 ?_
  refine lv_iload_n hx hb d1 rfl hl3 ?_
  refine lv_iconst hx hb d2 hv ?_
  refine lv_iadd hx hb d3 ?_
  exact va_sld hx hb hX hbl hbA hS ha d4 kk
end LAWARG
theorem law_in {i v : Int32} {L : Nat} (h1 : 1 ≤ i.toInt) (h2 : i.toInt + 5 < L) (hL : L ≤ 3073) (hv : 0 ≤ v.toInt ∧ v.toInt ≤ 5) : vp_in (i + v) L := by
  have := i_add (x := i) (y := v) (by omega) (by omega)
  exact i_in (by omega) (by omega)

def lawC (p : Program) (s : State) (m : MethodId) (meth : Method) (c : Code) (b L : Nat) (xs : Nat → Int32) (D : va_G) (cI cY cJ cQ : ClassId) (aK aV : Nat) : Prop := lw_At p s m meth c b L xs ∧ va_K D vwCl (ty4 cI cY cJ cQ) s ∧ nw s ∧ strW aK aV (fun q : Nat => s.heap.size ≤ q) s ∧ L ≤ 3073
