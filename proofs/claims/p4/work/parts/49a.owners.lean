
theorem lt3_trans {pd pe : Nat → Int32} {x y z : Nat} (h1 : lt3 pd pe x y) (h2 : lt3 pd pe y z) : lt3 pd pe x z := by
  unfold lt3 at *
  omega
theorem lt3_irr {pd pe : Nat → Int32} {x : Nat} : ¬ lt3 pd pe x x := by
  unfold lt3
  omega
theorem nxV_spec (pk pd pe : Nat → Int32) (k n : Int32) (met : Int64) (m : Nat) (hm : m ≤ 40) : ((nxV pk pd pe k n met m).toInt = -1000000 ∧ ∀ y, y < m → (pk y).toInt = k.toInt → (pe y).toInt ≤ n.toInt → btL met y = true) ∨ (∃ z, z < m ∧ nxV pk pd pe k n met m = nI z ∧ (pk z).toInt = k.toInt ∧ (pe z).toInt ≤ n.toInt ∧ btL met z = false ∧ ∀ y, y < m → y ≠ z → (pk y).toInt = k.toInt → (pe y).toInt ≤ n.toInt → btL met y = false → lt3 pd pe z y) := by
  induction m with
  | zero => exact Or.inl ⟨rfl, fun y hy => absurd hy (by omega)⟩
  | succ m ih =>
    have ih := ih (by omega)
    rw [nxV_s]
    by_cases r : (pk m).toInt = k.toInt ∧ (pe m).toInt ≤ n.toInt ∧ btL met m = false
    · rcases ih with ⟨b1, b2⟩ | ⟨z, hz, b1, b2, b3, b4, b5⟩
      · rw [if_pos ⟨r.1, r.2.1, r.2.2, Or.inl b1⟩]
        refine Or.inr ⟨m, by omega, rfl, r.1, r.2.1, r.2.2, fun y hy hne q1 q2 q3 => ?_⟩
        have q9 := b2 y (by omega) q1 q2
        rw [q3] at q9
        cases q9
      · have hcz := nI_cl (n := z) (by omega)
        by_cases q : (pd m).toInt < (pd z).toInt ∨ ((pd m).toInt = (pd z).toInt ∧ (pe m).toInt < (pe z).toInt)
        · rw [b1, hcz.1, if_pos ⟨r.1, r.2.1, r.2.2, Or.inr q⟩]
          refine Or.inr ⟨m, by omega, rfl, r.1, r.2.1, r.2.2, fun y hy hne q1 q2 q3 => ?_⟩
          have hmz : lt3 pd pe m z := by
            unfold lt3
            omega
          by_cases e : y = z
          · rw [e]; exact hmz
          · exact lt3_trans hmz (b5 y (by omega) e q1 q2 q3)
        · rw [b1, hcz.1, if_neg (fun w => by rcases w.2.2.2 with w | w <;> omega)]
          refine Or.inr ⟨z, by omega, rfl, b2, b3, b4, fun y hy hne q1 q2 q3 => ?_⟩
          by_cases e : y = m
          · rw [e]
            unfold lt3
            omega
          · exact b5 y (by omega) hne q1 q2 q3
    · rw [if_neg (fun w => r ⟨w.1, w.2.1, w.2.2.1⟩)]
      rcases ih with ⟨b1, b2⟩ | ⟨z, hz, b1, b2, b3, b4, b5⟩
      · refine Or.inl ⟨b1, fun y hy q1 q2 => ?_⟩
        by_cases e : y = m
        · rw [e] at q1 q2 ⊢
          cases h : btL met m with
          | true => rfl
          | false => exact (r ⟨q1, q2, h⟩).elim
        · exact b2 y (by omega) q1 q2
      · refine Or.inr ⟨z, by omega, b1, b2, b3, b4, fun y hy hne q1 q2 q3 => ?_⟩
        by_cases e : y = m
        · rw [e] at q1 q2 q3
          exact (r ⟨q1, q2, q3⟩).elim
        · exact b5 y (by omega) hne q1 q2 q3
theorem oo_ow {pk pf po pd pe pr : Nat → Int32} {pn k d n x : Int32} (h0 : 0 ≤ pn.toInt) (h1 : pn.toInt ≤ 40) (ho : okO pn pr) (hw : okW pn pr pd pe) (c : Nat) : ∀ (j f : Nat) (met : Int64) (w t q : Int32), j + c = pn.toNatClampNeg → c ≤ f → (∀ y, y < pn.toNatClampNeg → (pk y).toInt = k.toInt → (pe y).toInt ≤ n.toInt → (btL met y = true ↔ ∃ i, i < j ∧ (pr i).toNatClampNeg = y)) → (w, q) = ngV pk pf po pe pr k n x j → t = owV pk pf po pd pe pr k d n x j → ((∀ i, i < j → (pk (pr i).toNatClampNeg).toInt = k.toInt → (pe (pr i).toNatClampNeg).toInt ≤ n.toInt → (pd (pr i).toNatClampNeg).toInt ≤ d.toInt) → w = t) → ooV pk pf po pd pe pn.toNatClampNeg k d n f met w t q = (owV pk pf po pd pe pr k d n x pn.toNatClampNeg, (ngV pk pf po pe pr k n x pn.toNatClampNeg).2) := by
  have cp := i_cl h0
  induction c with
  | zero =>
    intro j f met w t q hj hf hm hng how heq
    have ej : pn.toNatClampNeg = j := by omega
    have hend : ooV pk pf po pd pe pn.toNatClampNeg k d n f met w t q = (t, q) := by
      cases f with
      | zero => rfl
      | succ f =>
        rw [ooV_s]
        rcases nxV_spec pk pd pe k n met pn.toNatClampNeg (by omega) with ⟨b1, -⟩ | ⟨z, hz, -, b2, b3, b4, -⟩
        · rw [if_pos b1]
        · exfalso
          obtain ⟨i, hi, e⟩ := hw.2 z (by omega)
          have q9 := (hm z hz b2 b3).mpr ⟨i, by omega, e⟩
          rw [b4] at q9
          cases q9
    rw [hend, ej, ← hng, ← how]
  | succ c ih =>
    intro j f met w t q hj hf hm hng how heq
    have hjn : (j : Int) < pn.toInt := by omega
    have hx := ho j hjn
    have hcx := i_cl hx.1
    have hX : (pr j).toNatClampNeg < pn.toNatClampNeg := by omega
    by_cases rel : (pk (pr j).toNatClampNeg).toInt = k.toInt ∧ (pe (pr j).toNatClampNeg).toInt ≤ n.toInt
    · obtain ⟨f, rfl⟩ : ∃ f', f = f' + 1 := ⟨f - 1, by omega⟩
      have unmet : btL met (pr j).toNatClampNeg = false := by
        cases hb : btL met (pr j).toNatClampNeg with
        | false => rfl
        | true =>
          obtain ⟨i, hi, e⟩ := (hm (pr j).toNatClampNeg hX rel.1 rel.2).mp hb
          have q9 := hw.1 i j hi hjn
          rw [e] at q9
          exact absurd q9 lt3_irr
      have hnx : nxV pk pd pe k n met pn.toNatClampNeg = pr j := by
        rcases nxV_spec pk pd pe k n met pn.toNatClampNeg (by omega) with ⟨b1, b2⟩ | ⟨z, hz, b1, b2, b3, b4, b5⟩
        · have q9 := b2 (pr j).toNatClampNeg hX rel.1 rel.2
          rw [unmet] at q9
          cases q9
        · have ez : z = (pr j).toNatClampNeg := by
            apply Decidable.byContradiction
            intro hne
            have l1 := b5 (pr j).toNatClampNeg hX (fun h => hne h.symm) rel.1 rel.2 unmet
            obtain ⟨i, hi, e⟩ := hw.2 z (by omega)
            have hnm : ¬ i < j := fun h => by
              have q9 := (hm z hz b2 b3).mpr ⟨i, h, e⟩
              rw [b4] at q9
              cases q9
            have hij : i ≠ j := fun h => hne (by rw [← e, h])
            have l2 := hw.1 j i (by omega) hi
            rw [e] at l2
            exact lt3_irr (lt3_trans l1 l2)
          rw [b1, ez]
          exact i_nI hx.1
      have nj : ¬ (pr j).toInt = -1000000 := by omega
      rw [ooV_s, hnx, if_neg nj]
      have hm' : ∀ y, y < pn.toNatClampNeg → (pk y).toInt = k.toInt → (pe y).toInt ≤ n.toInt → (btL (met ||| ((1 : Int64) <<< ((pr j).toInt64 &&& 63))) y = true ↔ ∃ i, i < j + 1 ∧ (pr i).toNatClampNeg = y) := by
        intro y hy q1 q2
        rw [btL_set hx.1 (by omega) (by omega), Bool.or_eq_true, hm y hy q1 q2, decide_eq_true_iff]
        constructor
        · rintro (⟨i, hi, e⟩ | e)
          · exact ⟨i, by omega, e⟩
          · exact ⟨j, by omega, e.symm⟩
        · rintro ⟨i, hi, e⟩
          by_cases ei : i = j
          · exact Or.inr (by rw [← e, ei])
          · exact Or.inl ⟨i, by omega, e⟩
      have ngs := ngV_s pk pf po pe pr k n x j
      rw [if_pos rel, ← hng] at ngs
      dsimp only at ngs
      have ows := owV_s pk pf po pd pe pr k d n x j
      rw [← how] at ows
      have hle : ∀ i, i < j → (pd (pr i).toNatClampNeg).toInt ≤ (pd (pr j).toNatClampNeg).toInt := fun i hi => by
        have q9 := hw.1 i j hi hjn
        unfold lt3 at q9
        omega
      by_cases dd : (pd (pr j).toNatClampNeg).toInt ≤ d.toInt
      · have ewt : w = t := heq (fun i hi _ _ => by have q9 := hle i hi; omega)
        by_cases pf1 : (pf (pr j).toNatClampNeg).toInt = w.toInt
        · rw [if_pos pf1] at ngs
          rw [if_pos pf1, if_pos dd]
          rw [if_pos ⟨rel.1, rel.2, dd, by rw [← ewt]; exact pf1⟩] at ows
          exact ih (j + 1) f _ _ _ _ (by omega) (by omega) hm' ngs.symm ows.symm (fun _ => rfl)
        · rw [if_neg pf1] at ngs
          rw [if_neg pf1]
          rw [if_neg (fun z => pf1 (by rw [ewt]; exact z.2.2.2))] at ows
          exact ih (j + 1) f _ _ _ _ (by omega) (by omega) hm' ngs.symm ows.symm (fun _ => ewt)
      · rw [if_neg (fun z => dd z.2.2.1)] at ows
        by_cases pf1 : (pf (pr j).toNatClampNeg).toInt = w.toInt
        · rw [if_pos pf1] at ngs
          rw [if_pos pf1, if_neg dd]
          exact ih (j + 1) f _ _ _ _ (by omega) (by omega) hm' ngs.symm ows.symm (fun hh => absurd (hh j (by omega) rel.1 rel.2) dd)
        · rw [if_neg pf1] at ngs
          rw [if_neg pf1]
          exact ih (j + 1) f _ _ _ _ (by omega) (by omega) hm' ngs.symm ows.symm (fun hh => absurd (hh j (by omega) rel.1 rel.2) dd)
    · have ng1 : ngV pk pf po pe pr k n x (j + 1) = ngV pk pf po pe pr k n x j := by rw [ngV_s, if_neg rel]
      have ow1 : owV pk pf po pd pe pr k d n x (j + 1) = owV pk pf po pd pe pr k d n x j := by rw [owV_s, if_neg (fun z => rel ⟨z.1, z.2.1⟩)]
      refine ih (j + 1) f met w t q (by omega) (by omega) (fun y hy q1 q2 => ?_) (by rw [ng1]; exact hng) (by rw [ow1]; exact how) (fun hh => heq (fun i hi => hh i (by omega)))
      rw [hm y hy q1 q2]
      constructor
      · rintro ⟨i, hi, e⟩
        exact ⟨i, by omega, e⟩
      · rintro ⟨i, hi, e⟩
        by_cases ei : i = j
        · rw [ei] at e
          exact (rel ⟨by rw [e]; exact q1, by rw [e]; exact q2⟩).elim
        · exact ⟨i, by omega, e⟩
theorem oo_all {fo pk pf po pd pe pr : Nat → Int32} {pn k d n : Int32} (h0 : 0 ≤ pn.toInt) (h1 : pn.toInt ≤ 40) (ho : okO pn pr) (hw : okW pn pr pd pe) : ooV pk pf po pd pe pn.toNatClampNeg k d n 41 0 (fo k.toNatClampNeg) (fo k.toNatClampNeg) 0 = (owV pk pf po pd pe pr k d n (fo k.toNatClampNeg) pn.toNatClampNeg, (ngV pk pf po pe pr k n (fo k.toNatClampNeg) pn.toNatClampNeg).2) :=
  oo_ow h0 h1 ho hw pn.toNatClampNeg 0 41 0 (fo k.toNatClampNeg) (fo k.toNatClampNeg) 0 (by omega) (by have := i_cl h0; omega) (fun y hy q1 q2 => ⟨fun h => absurd h (by rw [bL_0]; decide), fun h => by obtain ⟨i, hi, -⟩ := h; omega⟩) rfl rfl (fun _ => rfl)
theorem owner_eq {cn pn k d n : Int32} {fo pk pf po pd pe pr : Nat → Int32} (h0 : 0 ≤ pn.toInt) (h1 : pn.toInt ≤ 40) (ho : okO pn pr) (hw : okW pn pr pd pe) : sp_owner cn pn fo pk pf po pd pe pr k d n = sm_owner cn pn fo pk pf po pd pe k d n := by
  unfold sp_owner sm_owner
  rw [oo_all (fo := fo) h0 h1 ho hw]
theorem quarrels_eq {cn pn k n : Int32} {fo pk pf po pd pe pr : Nat → Int32} (h0 : 0 ≤ pn.toInt) (h1 : pn.toInt ≤ 40) (ho : okO pn pr) (hw : okW pn pr pd pe) : sp_quarrels cn pn fo pk pf po pe pr k n = sm_quarrels cn pn fo pk pf po pd pe k n := by
  unfold sp_quarrels sm_quarrels
  rw [oo_all (fo := fo) h0 h1 ho hw]
