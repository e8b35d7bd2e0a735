theorem dL_cell_all0 : decode cL_cell 0 = .ok (.iload_n 1, 1) ∧ decode cL_cell 1 = .ok (.aload_n 0, 1) ∧ decode cL_cell 2 = .ok (.arraylength, 1) ∧ decode cL_cell 3 = .ok (.if_icmp .ge 9, 3) ∧ decode cL_cell 6 = .ok (.aload_n 0, 1) ∧ decode cL_cell 7 = .ok (.iload_n 1, 1) ∧ decode cL_cell 8 = .ok (.iaload, 1) ∧ decode cL_cell 9 = .ok (.goto 4, 3) ∧ decode cL_cell 12 = .ok (.iconst 0, 1) ∧ decode cL_cell 13 = .ok (.ireturn, 1) := by decide +kernel
theorem dL_cell_0 : decode cL_cell 0 = .ok (.iload_n 1, 1) := dL_cell_all0.1
theorem dL_cell_1 : decode cL_cell 1 = .ok (.aload_n 0, 1) := dL_cell_all0.2.1
theorem dL_cell_2 : decode cL_cell 2 = .ok (.arraylength, 1) := dL_cell_all0.2.2.1
theorem dL_cell_3 : decode cL_cell 3 = .ok (.if_icmp .ge 9, 3) := dL_cell_all0.2.2.2.1
theorem dL_cell_6 : decode cL_cell 6 = .ok (.aload_n 0, 1) := dL_cell_all0.2.2.2.2.1
theorem dL_cell_7 : decode cL_cell 7 = .ok (.iload_n 1, 1) := dL_cell_all0.2.2.2.2.2.1
theorem dL_cell_8 : decode cL_cell 8 = .ok (.iaload, 1) := dL_cell_all0.2.2.2.2.2.2.1
theorem dL_cell_9 : decode cL_cell 9 = .ok (.goto 4, 3) := dL_cell_all0.2.2.2.2.2.2.2.1
theorem dL_cell_12 : decode cL_cell 12 = .ok (.iconst 0, 1) := dL_cell_all0.2.2.2.2.2.2.2.2.1
theorem dL_cell_13 : decode cL_cell 13 = .ok (.ireturn, 1) := dL_cell_all0.2.2.2.2.2.2.2.2.2
theorem inv_0 : inv (fun _ => 0) (upR (upR (upR (upR (fun _ _ => 0) 2 (fun _ => (-1))) 13 (fun _ => (-1000000))) 14 (fun _ => 4)) 15 (fun _ => 100000)) (fun _ _ => 0) (fun _ => 0) (upR (upR (upR (upR (fun _ _ => 0) 0 (fun _ => (-1))) 30 (fun _ => (-1000000))) 28 (fun _ => 4)) 29 (fun _ => 100000)) := ⟨(by show 0 ≤ (0 : Int32).toInt; decide), (by show (0 : Int32).toInt ≤ 40; decide), (fun j hj => absurd hj (by show ¬ (j : Int) < (0 : Int32).toInt; have k0 : (0 : Int32).toInt = 0 := rfl; omega)), (fun j hj => absurd hj (by show ¬ (j : Int) < (0 : Int32).toInt; have k0 : (0 : Int32).toInt = 0 := rfl; omega)), (fun j hj => absurd hj (by show ¬ (j : Int) < (0 : Int32).toInt; have k0 : (0 : Int32).toInt = 0 := rfl; omega)), (fun j hj => absurd hj (by show ¬ (j : Int) < (0 : Int32).toInt; have k0 : (0 : Int32).toInt = 0 := rfl; omega)), (by show 0 ≤ (0 : Int32).toInt; decide), (by show (0 : Int32).toInt ≤ 12; decide), (fun j hj => absurd hj (by show ¬ (j : Int) < (0 : Int32).toInt; have k0 : (0 : Int32).toInt = 0 := rfl; omega)), (by show 0 ≤ (0 : Int32).toInt; decide), (by show (0 : Int32).toInt ≤ 40; decide), (fun j hj => absurd hj (by show ¬ (j : Int) < (0 : Int32).toInt; have k0 : (0 : Int32).toInt = 0 := rfl; omega)), (fun j hj => absurd hj (by show ¬ (j : Int) < (0 : Int32).toInt; have k0 : (0 : Int32).toInt = 0 := rfl; omega)), ⟨fun i j _ hj => absurd hj (by show ¬ (j : Int) < (0 : Int32).toInt; have k0 : (0 : Int32).toInt = 0 := rfl; omega), fun x hx => absurd hx (by show ¬ (x : Int) < (0 : Int32).toInt; have k0 : (0 : Int32).toInt = 0 := rfl; omega)⟩, (by show 0 ≤ (0 : Int32).toInt; decide), (by show (0 : Int32).toInt ≤ 40; decide), (fun j hj => absurd hj (by show ¬ (j : Int) < (0 : Int32).toInt; have k0 : (0 : Int32).toInt = 0 := rfl; omega)), (by show 0 ≤ (0 : Int32).toInt; decide), (by show (0 : Int32).toInt ≤ 300; decide), (by show 0 ≤ (0 : Int32).toInt; decide), (by show (0 : Int32).toInt ≤ 12; decide), (by show 0 ≤ (0 : Int32).toInt; decide), (by show (0 : Int32).toInt ≤ 60; decide), (by show 0 ≤ (0 : Int32).toInt; decide), (by show (0 : Int32).toInt ≤ 60; decide), (fun j hj => absurd hj (by show ¬ (j : Int) < (0 : Int32).toInt; have k0 : (0 : Int32).toInt = 0 := rfl; omega)), (by show 0 ≤ (0 : Int32).toInt; decide), (by show (0 : Int32).toInt ≤ 20; decide), (by show 0 ≤ (0 : Int32).toInt; decide), (by show (0 : Int32).toInt ≤ 16; decide), (fun j hj => ⟨by show (-1 : Int) ≤ (-1 : Int32).toInt; decide, by show (-1 : Int32).toInt ≤ 60; decide⟩), (by show 0 ≤ (0 : Int32).toInt; decide), (by show (0 : Int32).toInt ≤ 40; decide), (fun j hj => absurd hj (by show ¬ (j : Int) < (0 : Int32).toInt; have k0 : (0 : Int32).toInt = 0 := rfl; omega)), (fun j hj => ⟨by show (0 : Int) ≤ (0 : Int32).toInt; decide, by show (0 : Int32).toInt ≤ 60; decide⟩), (by show 0 ≤ (0 : Int32).toInt; decide), (by show (0 : Int32).toInt ≤ 12; decide), (by show 0 ≤ (0 : Int32).toInt; decide), (by show (0 : Int32).toInt ≤ 16; decide), rfl, rfl, rfl, rfl, rfl, rfl, rfl, rfl, rfl, rfl, rfl, rfl, rfl, rfl, rfl, rfl, rfl, rfl, rfl, rfl, rfl, rfl, rfl, rfl, rfl, rfl, rfl, rfl, rfl, rfl, rfl, rfl, rfl, rfl, rfl, rfl, rfl, rfl, rfl, rfl, rfl, (fun j hj => ⟨Or.inl ⟨by show (-1 : Int32).toInt < 0; decide, by show (-1 : Int32).toInt = -1; decide⟩, fun k hk => rfl⟩)⟩


/-- cell(script, 0) -/
def cellv (L : Nat) (xs : Nat → Int32) : Int32 := if 0 < L then xs ((0 : Int32).toNatClampNeg) else 0
abbrev cellPc (D : va_G) (cI cY cJ cQ : ClassId) (b L : Nat) (xs : Nat → Int32) (sz : Nat) : Array Value → State → Prop := va_Pc [.ref b, .int 0] (fun U => U.heap.size = sz ∧ va_X b L xs U U.heap ∧ b < U.heap.size ∧ va_K D vwCl (ty4 cI cY cJ cQ) U)
theorem cellBlind {D : va_G} {cI cY cJ cQ : ClassId} {b L : Nat} {xs : Nat → Int32} {sz : Nat} : FrameBlind (cellPc D cI cY cJ cQ b L xs sz) := fun a U g mk q => by
  obtain ⟨q0, q1, qX, qb, qK⟩ := q
  exact ⟨q0, q1, va_X.moved (u := U) (U := U.calling g mk a) (Vm.Alike.refl U.vm) qX, qb, va_K.moved (u := U) (U := U.calling g mk a) (Vm.Alike.refl U.vm) qK⟩

set_option maxHeartbeats 4000000 in
set_option maxRecDepth 100000 in
theorem ct_L_cell (l : Launch) (D : va_G) (cI cY cJ cQ : ClassId) (sz : Nat) (b L : Nat) (hL : L ≤ 3073) (xs : Nat → Int32) : Met l yL_cell wsL_cell ({ frames := 0, cells := 0, slots := 0, locals := 0 }) (cellPc D cI cY cJ cQ b L xs sz) (va_Qi (fun (r : Int32) (u : Unit) => r = cellv L xs) (cB D (ty4 cI cY cJ cQ) (fun (u : Unit) => []) (va_A [] sz)) (va_A [] sz)) 0 0 (va_A [] sz) := by
  refine Met.ofW (cc := cL_cell) (maxL := 2) (ret := (some .int)) (by decide) rfl ?_
  intro p e s m args below meth c s₁ B hml hv
  obtain ⟨rfl, hsz, hX, hbl, hK⟩ := hv
  have hx := B.exec
  have hb := B.bytes
  have hr := B.returns
  have hlocks := B.notSynchronized
  subst hsz
  have hbA : ¬ va_A [] s.heap.size b := fun h => by
    rcases h with ⟨k, e9, h⟩ | h
    · simp at h
    · omega
  have hS : va_S (va_A [] s.heap.size) s.heap s.heap [] := va_S.rf
  have hl := lv_entry ([.ref b, .int 0]) (n := 2) (Nat.le_of_ble_eq_true rfl)
  rw [lg_entry_eq]
  generalize (lg_sl ([.ref b, .int 0]) ++ List.replicate (2 - (lg_sl ([.ref b, .int 0])).length) Slot.unset).toArray = ls at hl ⊢
  have hl : lv_has ls 2 [(0, .ref b), (1, .int 0)] := hl
  have k0 : (0 : Int32).toInt = 0 := by decide
  have hLI : (Int32.ofNat L).toInt = (L : Int) := nI_toInt (by omega)
  refine lv_iload_n hx hb dL_cell_0 rfl (lv_at hl 1 rfl) ?_
  refine lv_aload_n hx hb dL_cell_1 rfl (lv_at hl 0 rfl) ?_
  refine va_slen hx hb hX hbl hbA hS dL_cell_2 ?_
  refine lv_icmp_ge (tgt := 12) hx hb dL_cell_3 (by decide) (fun c1 => ?_) (fun c1 => ?_)
  · have f1 := i_le c1
    refine lv_iconst (v := 0) hx hb dL_cell_12 (by decide) ?_
    exact W.iret (v := 0) hx hb hr (fun t ht hW => ⟨⟨0, (), rfl, (by unfold cellv; rw [if_neg (by omega)]), va_P.nil, va_K.moved hW.alike hK, va_D.nil⟩, hS.F ht⟩) hS.2.2 dL_cell_13
  · have f1 := i_nle c1
    refine lv_aload_n hx hb dL_cell_6 rfl (lv_at hl 0 rfl) ?_
    refine lv_iload_n hx hb dL_cell_7 rfl (lv_at hl 1 rfl) ?_
    refine va_sld hx hb hX hbl hbA hS (i_in (by omega) (by omega)) dL_cell_8 ?_
    refine lv_goto (tgt := 13) hx hb dL_cell_9 (by decide) ?_
    exact W.iret hx hb hr (fun t ht hW => ⟨⟨_, (), rfl, (by unfold cellv; rw [if_pos (by omega)]), va_P.nil, va_K.moved hW.alike hK, va_D.nil⟩, hS.F ht⟩) hS.2.2 dL_cell_13
theorem arr_i {args : Array Value} {s : State} (h : (Cond.arrayClass .int).before args s = true) : ∃ cA, ArrOfT s cA .int ∧ va_RA s cA .int := by
  obtain ⟨cA, kA, comp, h1, h2, h3⟩ := Cond.arrayClass_spec h
  exact ⟨cA, fun n z => ⟨fun k h => (by cases h), kA, h2, comp, h3⟩, h1⟩
theorem arr_y {args : Array Value} {s : State} (h : (Cond.arrayClass .byte).before args s = true) : ∃ cA, ArrOfT s cA .byte ∧ va_RA s cA .byte := by
  obtain ⟨cA, kA, comp, h1, h2, h3⟩ := Cond.arrayClass_spec h
  exact ⟨cA, fun n z => ⟨fun k h => (by cases h), kA, h2, comp, h3⟩, h1⟩
theorem arr_j {args : Array Value} {s : State} (h : (Cond.arrayClass .long).before args s = true) : ∃ cA, ArrOfT s cA .long ∧ va_RA s cA .long := by
  obtain ⟨cA, kA, comp, h1, h2, h3⟩ := Cond.arrayClass_spec h
  exact ⟨cA, fun n z => ⟨fun k h => (by cases h), kA, h2, comp, h3⟩, h1⟩
theorem arr_q {args : Array Value} {s : State} (h : (Cond.arrayOver (.array .int)).before args s = true) : ∃ cA, ArrOfT s cA (.array .int) ∧ va_RA s cA (.array .int) := by
  obtain ⟨comp, cA, kA, h0, h2, h3, h1⟩ := Jvm.Cond.arrayOver_specA h
  exact ⟨cA, fun n z => ⟨fun k h => (by cases h), kA, h2, comp, h3⟩, h1⟩
