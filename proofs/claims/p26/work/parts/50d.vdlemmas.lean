
/-- the marks of the openings -/
def okU (un : Int32) (um : Nat → Int32) : Prop := ∀ j : Nat, (j : Int) < un.toInt → 0 ≤ (um j).toInt ∧ (um j).toInt ≤ 255
theorem sp_opened_okU {un un' cn k d w q r : Int32} {uk uy uw um uk' uy' uw' um' : Nat → Int32} (e : (r, un', uk', uy', uw', um') = sp_opened un uk uy uw um cn k d w q) (h1 : 0 ≤ un.toInt) (h2 : un.toInt ≤ 60) (h3 : okU un um) : okU un' um' := by
  unfold sp_opened at e
  have ch := i_cl h1
  split at e
  · split at e
    · simp only [Prod.mk.injEq] at e
      obtain ⟨-, rfl, -, -, -, rfl⟩ := e
      exact h3
    · rename_i g1 g2
      have k1 : (1 : Int32).toInt = 1 := rfl
      have t1 : (un + 1).toInt = un.toInt + 1 := by rw [i_add (by omega) (by omega), k1]
      simp only [Prod.mk.injEq] at e
      obtain ⟨-, rfl, -, -, -, rfl⟩ := e
      intro j hj
      by_cases hk : j = un.toNatClampNeg
      · subst hk; rw [upd_s]; omega
      · rw [upd_n _ _ hk]; exact h3 j (by omega)
  · simp only [Prod.mk.injEq] at e
    obtain ⟨-, rfl, -, -, -, rfl⟩ := e
    exact h3
theorem fi_on (uk uy : Nat → Int32) (k : Int32) (n : Nat) (hn : n ≤ 60) : ((fiV uk uy k n).toInt = -1 ∧ (onV uk uy k n).toInt = -1000000 ∧ ∀ j, j < n → ¬ (uk j).toInt = k.toInt) ∨ (fiV uk uy k n = onV uk uy k n ∧ 0 ≤ (fiV uk uy k n).toInt ∧ (fiV uk uy k n).toInt < n) := by
  induction n with
  | zero => exact Or.inl ⟨rfl, rfl, fun j hj => absurd hj (by omega)⟩
  | succ n ih =>
    have ih := ih (by omega)
    have hc := nI_cl (n := n) (by omega)
    rw [fiV_s, onV_s]
    by_cases c : (uk n).toInt = k.toInt
    · rcases ih with ⟨a1, a2, a3⟩ | ⟨a1, a2, a3⟩
      · rw [if_pos ⟨c, Or.inl (by omega)⟩, if_pos ⟨c, Or.inl a2⟩]
        exact Or.inr ⟨rfl, by omega, by omega⟩
      · rw [← a1]
        by_cases q : (uy n).toInt < (uy (fiV uk uy k n).toNatClampNeg).toInt
        · rw [if_pos ⟨c, Or.inr q⟩, if_pos ⟨c, Or.inr q⟩]
          exact Or.inr ⟨rfl, by omega, by omega⟩
        · rw [if_neg (fun z => by rcases z.2 with z | z <;> omega), if_neg (fun z => by rcases z.2 with z | z <;> omega)]
          exact Or.inr ⟨rfl, by omega, by omega⟩
    · rw [if_neg (fun z => c z.1), if_neg (fun z => c z.1)]
      rcases ih with ⟨a1, a2, a3⟩ | ⟨a1, a2, a3⟩
      · refine Or.inl ⟨a1, a2, fun j hj => ?_⟩
        by_cases e : j = n
        · rw [e]; exact c
        · exact a3 j (by omega)
      · exact Or.inr ⟨a1, a2, by omega⟩
theorem bm_bc : ∀ k, k < 256 → bmV (nI k) 12 = bcf (nI k) := by decide +kernel
theorem bc_nn : ∀ k, k < 256 → 0 ≤ (bcf (nI k)).toInt := by decide +kernel
theorem and255 {x : Int32} (y : Int32) (h0 : 0 ≤ x.toInt) (h1 : x.toInt ≤ 255) : ∃ k, k < 256 ∧ x &&& y = nI k := by
  have hc := i_cl h0
  have e : (nI x.toNatClampNeg).toBitVec.toNat = x.toNatClampNeg := pk_tn (by omega)
  rw [i_nI h0] at e
  have h2 := Nat.and_le_left (n := x.toBitVec.toNat) (m := y.toBitVec.toNat)
  exact ⟨(x &&& y).toBitVec.toNat, by rw [tn_and]; omega, (nI_tn _).symm⟩
theorem cv_cm {far mis : Int32} (h : 0 ≤ mis.toInt) : cvF far mis = cmF far mis := by
  unfold cvF cmF
  (repeat' split) <;> first | rfl | (exfalso; omega)
theorem and_not (m : Int32) : m &&& (m ^^^ (-1)) = 0 := by
  apply b_ext
  intro i hi
  rw [b_and, b_xor, b_m1 i hi, b_0]
  cases bt m i <;> rfl
theorem cm_self (uw um : Nat → Int32) (f : Nat) : cmV uw um f f = 0 := by
  unfold cmV
  rw [Int32.sub_self, and_not]
  decide +kernel
theorem cmF_rng (a b : Int32) : 0 ≤ (cmF a b).toInt := by
  unfold cmF
  (repeat' split) <;> decide
theorem wrsV_rng (uk uw um : Nat → Int32) (k : Int32) (f n : Nat) : 0 ≤ (wrsV uk uw um k f n).toInt := by
  induction n with
  | zero => exact (by decide : (0 : Int) ≤ (0 : Int32).toInt)
  | succ n ih =>
    rw [wrsV_s]
    split
    · have h9 := cmF_rng (absV (uw n - uw f)) (bcf (um f &&& (um n ^^^ (-1))))
      unfold maxV
      split
      · exact h9
      · exact ih
    · exact ih
theorem ws_wm {uk uw um : Nat → Int32} {k o : Int32} {N : Nat} (h0 : 0 ≤ o.toInt) (h1 : o.toInt < N) (hu : ∀ j, j < N → 0 ≤ (um j).toInt ∧ (um j).toInt ≤ 255) (n : Nat) (hn : n ≤ N) : wrsV uk uw um k o.toNatClampNeg n = wmV uk uw um k o n := by
  have hc := i_cl h0
  induction n with
  | zero => rfl
  | succ n ih =>
    have ih := ih (by omega)
    rw [wrsV_s, wmV_s, ← ih]
    by_cases c : (uk n).toInt = k.toInt
    · rw [if_pos c]
      by_cases e : n = o.toNatClampNeg
      · rw [if_neg (by omega), e, cm_self]
        exact (maxV_f (by have h9 := wrsV_rng uk uw um k o.toNatClampNeg o.toNatClampNeg; have k0 : (0 : Int32).toInt = 0 := rfl; omega)).symm
      · rw [if_pos ⟨c, by omega⟩]
        obtain ⟨b, hb, eb⟩ := and255 (x := um o.toNatClampNeg) (um n ^^^ (-1)) (hu _ (by omega)).1 (hu _ (by omega)).2
        unfold cmV
        rw [eb, bm_bc b hb, cv_cm (bc_nn b hb)]
    · rw [if_neg c, if_neg (fun z => c z.1)]
theorem wm_0 {uk uw um : Nat → Int32} {k o : Int32} (n : Nat) (h : ∀ j, j < n → ¬ (uk j).toInt = k.toInt) : wmV uk uw um k o n = 0 := by
  induction n with
  | zero => rfl
  | succ n ih =>
    rw [wmV_s, if_neg (fun z => h n (by omega) z.1)]
    exact ih (fun j hj => h j (by omega))
theorem verdict_eq {cn un k : Int32} {uk uy uw um : Nat → Int32} (h0 : 0 ≤ un.toInt) (h1 : un.toInt ≤ 60) (hu : okU un um) : sp_verdict cn un uk uy uw um k = sm_verdict cn un uk uy uw um k := by
  have cu := i_cl h0
  unfold sp_verdict sm_verdict vdV
  rcases fi_on uk uy k un.toNatClampNeg (by omega) with ⟨a1, a2, a3⟩ | ⟨a1, a2, a3⟩
  · rw [if_pos (show (fiV uk uy k un.toNatClampNeg).toInt < 0 by omega), wm_0 _ a3]
  · rw [if_neg (show ¬ (fiV uk uy k un.toNatClampNeg).toInt < 0 by omega), ← a1, ws_wm (N := un.toNatClampNeg) a2 (by omega) (fun j hj => hu j (by omega)) _ (Nat.le_refl _)]
