
/-- the days of the holdings -/
def okD (hn : Int32) (hs : Nat → Int32) : Prop := ∀ j : Nat, (j : Int) < hn.toInt → 0 ≤ (hs j).toInt
theorem sp_hold_okD {hn : Int32} {ho hc hp hs : Nat → Int32} {o k q d r hn' : Int32} {ho' hc' hp' hs' : Nat → Int32} (e : (r, hn', ho', hc', hp', hs') = sp_hold hn ho hc hp hs o k q d) (h1 : 0 ≤ hn.toInt) (h2 : hn.toInt ≤ 40) (h3 : okD hn hs) : okD hn' hs' := by
  unfold sp_hold at e
  have ch := i_cl h1
  split at e
  · split at e
    · simp only [Prod.mk.injEq] at e
      obtain ⟨-, rfl, -, -, -, rfl⟩ := e
      exact h3
    · rename_i g1 g2
      have k1 : (1 : Int32).toInt = 1 := rfl
      have t1 : (hn + 1).toInt = hn.toInt + 1 := by rw [i_add (by omega) (by omega), k1]
      simp only [Prod.mk.injEq] at e
      obtain ⟨-, rfl, -, -, -, rfl⟩ := e
      intro j hj
      by_cases hk : j = hn.toNatClampNeg
      · subst hk; rw [upd_s]; omega
      · rw [upd_n _ _ hk]; exact h3 j (by omega)
  · simp only [Prod.mk.injEq] at e
    obtain ⟨-, rfl, -, -, -, rfl⟩ := e
    exact h3
theorem foldH_okD {it : Nat → Int32} {i : Nat} {hn : Int32} {ho hc hp hs : Nat → Int32} (h1 : 0 ≤ hn.toInt) (h2 : hn.toInt ≤ 40) (h3 : okH hn ho hc) (h4 : okD hn hs) (k : Nat) : 0 ≤ (foldH it i hn ho hc hp hs k).2.1.toInt ∧ (foldH it i hn ho hc hp hs k).2.1.toInt ≤ 40 ∧ okH (foldH it i hn ho hc hp hs k).2.1 (foldH it i hn ho hc hp hs k).2.2.1 (foldH it i hn ho hc hp hs k).2.2.2.1 ∧ okD (foldH it i hn ho hc hp hs k).2.1 (foldH it i hn ho hc hp hs k).2.2.2.2.2 := by
  induction k with
  | zero => exact ⟨h1, h2, h3, h4⟩
  | succ k ih =>
    obtain ⟨a1, a2, a3, a4⟩ := ih
    have e : ∀ F : Int32 × Int32 × (Nat → Int32) × (Nat → Int32) × (Nat → Int32) × (Nat → Int32), F = (F.1, F.2.1, F.2.2.1, F.2.2.2.1, F.2.2.2.2.1, F.2.2.2.2.2) := fun F => rfl
    have o1 := sp_hold_ok (e (sp_hold (foldH it i hn ho hc hp hs k).2.1 (foldH it i hn ho hc hp hs k).2.2.1 (foldH it i hn ho hc hp hs k).2.2.2.1 (foldH it i hn ho hc hp hs k).2.2.2.2.1 (foldH it i hn ho hc hp hs k).2.2.2.2.2 (it (i + 4 * k)) (it (i + 4 * k + 1)) (it (i + 4 * k + 2)) (it (i + 4 * k + 3)))).symm a1 a2 a3
    have o2 := sp_hold_okD (e (sp_hold (foldH it i hn ho hc hp hs k).2.1 (foldH it i hn ho hc hp hs k).2.2.1 (foldH it i hn ho hc hp hs k).2.2.2.1 (foldH it i hn ho hc hp hs k).2.2.2.2.1 (foldH it i hn ho hc hp hs k).2.2.2.2.2 (it (i + 4 * k)) (it (i + 4 * k + 1)) (it (i + 4 * k + 2)) (it (i + 4 * k + 3)))).symm a1 a2 a4
    exact ⟨o1.1, o1.2.1, o1.2.2, o2⟩
theorem sp_holds_okD {lf lf' a i n hn r hn' : Int32} {ss ho hc hp hs ho' hc' hp' hs' : Nat → Int32} {rs : Nat → Nat → Int32} (x : (r, lf', hn', ho', hc', hp', hs') = sp_holds lf rs ss hn ho hc hp hs a i n) (h1 : 0 ≤ hn.toInt) (h2 : hn.toInt ≤ 40) (h3 : okH hn ho hc) (h4 : okD hn hs) : okD hn' hs' := by
  unfold sp_holds at x
  have hf := foldH_okD (it := rs a.toNatClampNeg) (i := i.toNatClampNeg) (hp := hp) h1 h2 h3 h4 n.toNatClampNeg
  generalize foldH (rs a.toNatClampNeg) i.toNatClampNeg hn ho hc hp hs n.toNatClampNeg = F at x hf
  obtain ⟨F1, F2, F3, F4, F5, F6⟩ := F
  split at x
  · split at x
    · simp only [Prod.mk.injEq] at x
      obtain ⟨-, -, rfl, -, -, -, rfl⟩ := x
      exact h4
    · split at x
      · simp only [Prod.mk.injEq] at x
        obtain ⟨-, -, rfl, -, -, -, rfl⟩ := x
        exact hf.2.2.2
      · simp only [Prod.mk.injEq] at x
        obtain ⟨-, -, rfl, -, -, -, rfl⟩ := x
        exact h4
  · simp only [Prod.mk.injEq] at x
    obtain ⟨-, -, rfl, -, -, -, rfl⟩ := x
    exact h4
/-- no company has a part of itself -/
def okN (hn : Int32) (ho hc : Nat → Int32) : Prop := ∀ j : Nat, (j : Int) < hn.toInt → ¬ (ho j).toInt = (hc j).toInt
theorem sp_hold_okVN {hn : Int32} {ho hc hp hs : Nat → Int32} {o k q d r hn' : Int32} {ho' hc' hp' hs' : Nat → Int32} (e : (r, hn', ho', hc', hp', hs') = sp_hold hn ho hc hp hs o k q d) (h1 : 0 ≤ hn.toInt) (h2 : hn.toInt ≤ 40) (h3 : okV hn hp ∧ okN hn ho hc) : okV hn' hp' ∧ okN hn' ho' hc' := by
  unfold sp_hold at e
  have ch := i_cl h1
  split at e
  · split at e
    · simp only [Prod.mk.injEq] at e
      obtain ⟨-, rfl, rfl, rfl, rfl, -⟩ := e
      exact h3
    · rename_i g1 g2
      have k1 : (1 : Int32).toInt = 1 := rfl
      have t1 : (hn + 1).toInt = hn.toInt + 1 := by rw [i_add (by omega) (by omega), k1]
      simp only [Prod.mk.injEq] at e
      obtain ⟨-, rfl, rfl, rfl, rfl, -⟩ := e
      refine ⟨fun j hj => ?_, fun j hj => ?_⟩
      · by_cases hk : j = hn.toNatClampNeg
        · subst hk; rw [upd_s]; omega
        · rw [upd_n _ _ hk]; exact h3.1 j (by omega)
      · by_cases hk : j = hn.toNatClampNeg
        · subst hk; rw [upd_s, upd_s]; omega
        · rw [upd_n _ _ hk, upd_n _ _ hk]; exact h3.2 j (by omega)
  · simp only [Prod.mk.injEq] at e
    obtain ⟨-, rfl, rfl, rfl, rfl, -⟩ := e
    exact h3
theorem foldH_okVN {it : Nat → Int32} {i : Nat} {hn : Int32} {ho hc hp hs : Nat → Int32} (h1 : 0 ≤ hn.toInt) (h2 : hn.toInt ≤ 40) (h3 : okH hn ho hc) (h4 : okD hn hs) (h5 : okV hn hp ∧ okN hn ho hc) (k : Nat) : okV (foldH it i hn ho hc hp hs k).2.1 (foldH it i hn ho hc hp hs k).2.2.2.2.1 ∧ okN (foldH it i hn ho hc hp hs k).2.1 (foldH it i hn ho hc hp hs k).2.2.1 (foldH it i hn ho hc hp hs k).2.2.2.1 := by
  induction k with
  | zero => exact h5
  | succ k ih =>
    have a := foldH_okD (it := it) (i := i) (hp := hp) h1 h2 h3 h4 k
    have e : ∀ F : Int32 × Int32 × (Nat → Int32) × (Nat → Int32) × (Nat → Int32) × (Nat → Int32), F = (F.1, F.2.1, F.2.2.1, F.2.2.2.1, F.2.2.2.2.1, F.2.2.2.2.2) := fun F => rfl
    exact sp_hold_okVN (e (sp_hold (foldH it i hn ho hc hp hs k).2.1 (foldH it i hn ho hc hp hs k).2.2.1 (foldH it i hn ho hc hp hs k).2.2.2.1 (foldH it i hn ho hc hp hs k).2.2.2.2.1 (foldH it i hn ho hc hp hs k).2.2.2.2.2 (it (i + 4 * k)) (it (i + 4 * k + 1)) (it (i + 4 * k + 2)) (it (i + 4 * k + 3)))).symm a.1 a.2.1 ih
theorem sp_holds_okVN {lf lf' a i n hn r hn' : Int32} {ss ho hc hp hs ho' hc' hp' hs' : Nat → Int32} {rs : Nat → Nat → Int32} (x : (r, lf', hn', ho', hc', hp', hs') = sp_holds lf rs ss hn ho hc hp hs a i n) (h1 : 0 ≤ hn.toInt) (h2 : hn.toInt ≤ 40) (h3 : okH hn ho hc) (h4 : okD hn hs) (h5 : okV hn hp ∧ okN hn ho hc) : okV hn' hp' ∧ okN hn' ho' hc' := by
  unfold sp_holds at x
  have hf := foldH_okVN (it := rs a.toNatClampNeg) (i := i.toNatClampNeg) h1 h2 h3 h4 h5 n.toNatClampNeg
  generalize foldH (rs a.toNatClampNeg) i.toNatClampNeg hn ho hc hp hs n.toNatClampNeg = F at x hf
  obtain ⟨F1, F2, F3, F4, F5, F6⟩ := F
  split at x
  · split at x
    · simp only [Prod.mk.injEq] at x
      obtain ⟨-, -, rfl, rfl, rfl, rfl, -⟩ := x
      exact h5
    · split at x
      · simp only [Prod.mk.injEq] at x
        obtain ⟨-, -, rfl, rfl, rfl, rfl, -⟩ := x
        exact hf
      · simp only [Prod.mk.injEq] at x
        obtain ⟨-, -, rfl, rfl, rfl, rfl, -⟩ := x
        exact h5
  · simp only [Prod.mk.injEq] at x
    obtain ⟨-, -, rfl, rfl, rfl, rfl, -⟩ := x
    exact h5
theorem pc_bs {ho hc hp hs : Nat → Int32} {d o c : Int32} (n : Nat) (hn : n ≤ 40) (hd : ∀ j, j < n → 0 ≤ (hs j).toInt) : ((bsV ho hc hs d o c n).toInt = -1000000 ∧ pcV ho hc hp hs d o c n = (0, 0)) ∨ (0 ≤ (bsV ho hc hs d o c n).toInt ∧ pcV ho hc hp hs d o c n = (hp (bsV ho hc hs d o c n).toNatClampNeg, hs (bsV ho hc hs d o c n).toNatClampNeg)) := by
  induction n with
  | zero => exact Or.inl ⟨rfl, rfl⟩
  | succ n ih =>
    have ih := ih (by omega) (fun j hj => hd j (by omega))
    have h0 := hd n (by omega)
    have hc9 := nI_cl (n := n) (by omega)
    have k0 : (0 : Int32).toInt = 0 := rfl
    rw [bsV_s, pcV_s]
    rcases ih with ⟨b1, b2⟩ | ⟨b1, b2⟩
    · rw [b2]
      by_cases q : (ho n).toInt = o.toInt ∧ (hc n).toInt = c.toInt ∧ (hs n).toInt ≤ d.toInt
      · rw [if_pos ⟨q.1, q.2.1, q.2.2, Or.inl b1⟩, if_pos ⟨q.1, q.2.1, q.2.2, by show (0 : Int32).toInt ≤ _; omega⟩, hc9.1]
        exact Or.inr ⟨by omega, rfl⟩
      · rw [if_neg (fun z => q ⟨z.1, z.2.1, z.2.2.1⟩), if_neg (fun z => q ⟨z.1, z.2.1, z.2.2.1⟩)]
        exact Or.inl ⟨b1, rfl⟩
    · rw [b2]
      by_cases q : (ho n).toInt = o.toInt ∧ (hc n).toInt = c.toInt ∧ (hs n).toInt ≤ d.toInt ∧ (hs (bsV ho hc hs d o c n).toNatClampNeg).toInt ≤ (hs n).toInt
      · rw [if_pos ⟨q.1, q.2.1, q.2.2.1, Or.inr q.2.2.2⟩, if_pos q, hc9.1]
        exact Or.inr ⟨by omega, rfl⟩
      · rw [if_neg (fun z => q ⟨z.1, z.2.1, z.2.2.1, by rcases z.2.2.2 with z | z <;> omega⟩), if_neg q]
        exact Or.inr ⟨b1, rfl⟩
theorem pm_pc {ho hc hp hs : Nat → Int32} {d o c : Int32} (n : Nat) (hn : n ≤ 40) (hd : ∀ j, j < n → 0 ≤ (hs j).toInt) : pmV ho hc hp hs d o c n = (pcV ho hc hp hs d o c n).1 := by
  unfold pmV
  rcases pc_bs (ho := ho) (hc := hc) (hp := hp) (d := d) (o := o) (c := c) n hn hd with ⟨b1, b2⟩ | ⟨b1, b2⟩
  · rw [if_pos b1, b2]
  · rw [if_neg (by omega), b2]
theorem percent_eq {hn o k d : Int32} {ho hc hp hs : Nat → Int32} (h1 : 0 ≤ hn.toInt) (h2 : hn.toInt ≤ 40) (h3 : okD hn hs) : sp_percent hn ho hc hp hs o k d = sm_percent hn ho hc hp hs o k d := by
  have ch := i_cl h1
  unfold sp_percent sm_percent
  rw [pm_pc _ (by omega) (fun j hj => h3 j (by omega))]
