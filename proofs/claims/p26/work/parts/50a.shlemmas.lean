
theorem upR_s (rs : Nat → Nat → Int32) (j : Nat) (g : Nat → Int32) : upR rs j g j = g := by unfold upR; rw [if_pos rfl]
theorem upR_n (rs : Nat → Nat → Int32) {i j : Nat} (g : Nat → Int32) (h : ¬ i = j) : upR rs j g i = rs i := by unfold upR; rw [if_neg h]
/-- the sheets of both: lanes and sizes of those that are there, and every item -/
def shR (ml mm mi sl ss : Nat → Int32) (rs : Nat → Nat → Int32) : Prop :=
  ∀ j : Nat, j < 8 → ((((ml j).toInt < 0 ∧ (ss j).toInt = -1) ∨ (0 ≤ (ml j).toInt ∧ ss j = mm j ∧ sl j = ml j)) ∧ ∀ k : Nat, k < 60 → mi (60 * j + k) = rs j k)
theorem shR_at {ml mm mi sl ss : Nat → Int32} {rs : Nat → Nat → Int32} (h : shR ml mm mi sl ss rs) (hm : okM mm) {a : Int32} (h0 : 0 ≤ a.toInt) (h1 : a.toInt < 8) : ((ml a.toNatClampNeg).toInt < 0 ∧ (ss a.toNatClampNeg).toInt = -1) ∨ (0 ≤ (ml a.toNatClampNeg).toInt ∧ ss a.toNatClampNeg = mm a.toNatClampNeg ∧ sl a.toNatClampNeg = ml a.toNatClampNeg ∧ 0 ≤ (mm a.toNatClampNeg).toInt ∧ (mm a.toNatClampNeg).toInt ≤ 60 ∧ (ss a.toNatClampNeg).toInt = (mm a.toNatClampNeg).toInt ∧ (sl a.toNatClampNeg).toInt = (ml a.toNatClampNeg).toInt) := by
  have ca := i_cl h0
  have hj : a.toNatClampNeg < 8 := by omega
  rcases (h _ hj).1 with q | ⟨q1, q2, q3⟩
  · exact Or.inl q
  · have := hm _ hj
    exact Or.inr ⟨q1, q2, q3, this.1, this.2, by rw [q2], by rw [q3]⟩
theorem shR_sheet {lf lf' r mst mst' a b n : Int32} {ml mm mi sl ss ml' mm' mi' sl' ss' : Nat → Int32} {rs rs' : Nat → Nat → Int32} (h : shR ml mm mi sl ss rs) (x : (r, lf', rs', sl', ss') = sp_sheet lf rs sl ss a b n) (m : ps_sheet mst ml mm mi a b n mst' ml' mm' mi') : shR ml' mm' mi' sl' ss' rs' ∧ (mst = lf → mst' = lf') := by
  unfold sp_sheet at x
  unfold ps_sheet at m
  split at x
  · rename_i c
    rw [if_pos (by omega)] at m
    split at x
    · rename_i c2
      rw [if_pos c2] at m
      obtain ⟨m1, m2, m3, m4⟩ := m
      simp only [Prod.mk.injEq] at x
      obtain ⟨-, rfl, rfl, rfl, rfl⟩ := x
      subst m1 m2 m3 m4
      exact ⟨h, fun _ => rfl⟩
    · rename_i c2
      rw [if_neg c2] at m
      obtain ⟨m1, m2, m3, m4⟩ := m
      simp only [Prod.mk.injEq] at x
      obtain ⟨-, rfl, rfl, rfl, rfl⟩ := x
      subst m1 m2 m3
      have ca := i_cl (x := a) (by omega)
      refine ⟨fun j hj => ?_, fun _ => rfl⟩
      by_cases e : j = a.toNatClampNeg
      · subst e
        rw [upd_s, upd_s, upd_s, upd_s, upR_s]
        exact ⟨Or.inr ⟨by omega, rfl, rfl⟩, fun k hk => by rw [m4, if_pos (by omega)]⟩
      · rw [upd_n _ _ e, upd_n _ _ e, upd_n _ _ e, upd_n _ _ e, upR_n _ _ e]
        exact ⟨(h j hj).1, fun k hk => by rw [m4, if_neg (by omega)]; exact (h j hj).2 k hk⟩
  · rename_i c
    rw [if_neg (by omega)] at m
    obtain ⟨m1, m2, m3, m4⟩ := m
    simp only [Prod.mk.injEq] at x
    obtain ⟨-, rfl, rfl, rfl, rfl⟩ := x
    subst m1 m2 m3 m4
    exact ⟨h, fun z => z⟩
theorem shR_set {lf lf' r r' mst mst' a i v : Int32} {ml mm mi sl ss mi' : Nat → Int32} {rs rs' : Nat → Nat → Int32} (h : shR ml mm mi sl ss rs) (hm : okM mm) (x : (r, lf', rs') = sp_set lf rs sl ss a i v) (m : ps_set mst ml mm mi a i v r' mst' mi') : r = r' ∧ shR ml mm mi' sl ss rs' ∧ (mst = lf → mst' = lf') := by
  unfold sp_set at x
  unfold ps_set at m
  split at x
  · rename_i c
    rw [if_pos (by omega)] at m
    have ca := i_cl (x := a) (by omega)
    have q := shR_at h hm c.1 c.2
    split at x
    · rename_i c2
      rw [if_pos (by omega)] at m
      obtain ⟨m1, m2, m3⟩ := m
      simp only [Prod.mk.injEq] at x
      obtain ⟨rfl, rfl, rfl⟩ := x
      subst m1 m2 m3
      exact ⟨rfl, h, fun _ => rfl⟩
    · rename_i c2
      rw [if_neg (by omega)] at m
      rcases q with q | ⟨q1, q2, q3, q4, q5, q6, q7⟩
      · omega
      split at x
      · rename_i c3
        rw [if_pos (by omega)] at m
        obtain ⟨m1, m2, m3⟩ := m
        simp only [Prod.mk.injEq] at x
        obtain ⟨rfl, rfl, rfl⟩ := x
        have ci := i_cl (x := i) (by omega)
        rw [q3]
        refine ⟨m1.symm, fun j hj => ⟨(h j hj).1, fun k hk => ?_⟩, fun _ => m2⟩
        rw [m3, m1]
        by_cases e : j = a.toNatClampNeg
        · subst e
          rw [upR_s]
          by_cases ek : k = i.toNatClampNeg
          · subst ek
            rw [upd_s, upd_s]
          · rw [upd_n _ _ ek, upd_n _ _ (by omega)]
            exact (h _ hj).2 k hk
        · rw [upR_n _ _ e, upd_n _ _ (by omega)]
          exact (h _ hj).2 k hk
      · rename_i c3
        rw [if_neg (by omega)] at m
        obtain ⟨m1, m2, m3⟩ := m
        simp only [Prod.mk.injEq] at x
        obtain ⟨rfl, rfl, rfl⟩ := x
        subst m1 m2 m3
        exact ⟨rfl, h, fun _ => rfl⟩
  · rename_i c
    rw [if_neg (by omega)] at m
    obtain ⟨m1, m2, m3⟩ := m
    simp only [Prod.mk.injEq] at x
    obtain ⟨rfl, rfl, rfl⟩ := x
    subst m1 m2 m3
    exact ⟨rfl, h, fun z => z⟩
theorem shR_copy {lf lf' r r' mst mst' a i b j n : Int32} {ml mm mi sl ss mi' : Nat → Int32} {rs rs' : Nat → Nat → Int32} (h : shR ml mm mi sl ss rs) (hm : okM mm) (x : (r, lf', rs') = sp_copy lf rs sl ss a i b j n) (m : ps_copy mst ml mm mi a i b j n r' mst' mi') : r = r' ∧ shR ml mm mi' sl ss rs' ∧ (mst = lf → mst' = lf') := by
  unfold sp_copy at x
  unfold ps_copy at m
  split at x
  · rename_i c
    rw [if_pos (by omega)] at m
    have ca := i_cl (x := a) (by omega)
    have cb := i_cl (x := b) (by omega)
    have q := shR_at h hm (a := a) (by omega) (by omega)
    have p := shR_at h hm (a := b) (by omega) (by omega)
    split at x
    · rename_i c2
      rw [if_pos (by omega)] at m
      obtain ⟨m1, m2, m3⟩ := m
      simp only [Prod.mk.injEq] at x
      obtain ⟨rfl, rfl, rfl⟩ := x
      subst m1 m2 m3
      exact ⟨rfl, h, fun _ => rfl⟩
    · rename_i c2
      rw [if_neg (by omega)] at m
      rcases q with q | ⟨q1, q2, q3, q4, q5, q6, q7⟩
      · omega
      rcases p with p | ⟨p1, p2, p3, p4, p5, p6, p7⟩
      · omega
      split at x
      · rename_i c3
        rw [if_pos (by omega)] at m
        obtain ⟨m1, m2, m3⟩ := m
        simp only [Prod.mk.injEq] at x
        obtain ⟨rfl, rfl, rfl⟩ := x
        subst m1 m2 m3
        exact ⟨rfl, h, fun _ => rfl⟩
      · rename_i c3
        rw [if_neg (by omega)] at m
        split at x
        · rename_i c4
          rw [if_pos (by omega)] at m
          obtain ⟨m1, m2, m3⟩ := m
          simp only [Prod.mk.injEq] at x
          obtain ⟨xr, rfl, rfl⟩ := x
          have ci := i_cl (x := i) (by omega)
          have cj := i_cl (x := j) (by omega)
          have cn := i_cl (x := n) (by omega)
          refine ⟨xr.trans m1.symm, fun z hz => ⟨(h z hz).1, fun k hk => ?_⟩, fun _ => m2⟩
          rw [m3]
          unfold cpyd
          by_cases e : z = b.toNatClampNeg
          · subst e
            rw [upR_s]
            unfold va_cpy
            by_cases ek : j.toNatClampNeg ≤ k ∧ k < j.toNatClampNeg + n.toNatClampNeg
            · rw [if_pos ek, if_pos (by omega)]
              have := (h a.toNatClampNeg (by omega)).2 (i.toNatClampNeg + (k - j.toNatClampNeg)) (by omega)
              rw [← this]
              congr 1
              omega
            · rw [if_neg ek, if_neg (by omega)]
              exact (h _ hz).2 k hk
          · rw [upR_n _ _ e, if_neg (by omega)]
            exact (h _ hz).2 k hk
        · rename_i c4
          rw [if_neg (by omega)] at m
          obtain ⟨m1, m2, m3⟩ := m
          simp only [Prod.mk.injEq] at x
          obtain ⟨rfl, rfl, rfl⟩ := x
          subst m1 m2 m3
          exact ⟨rfl, h, fun _ => rfl⟩
  · rename_i c
    rw [if_neg (by omega)] at m
    obtain ⟨m1, m2, m3⟩ := m
    simp only [Prod.mk.injEq] at x
    obtain ⟨rfl, rfl, rfl⟩ := x
    subst m1 m2 m3
    exact ⟨rfl, h, fun z => z⟩
theorem shR_drop {lf lf' r r' mst mst' a : Int32} {ml mm mi sl ss ml' ss' : Nat → Int32} {rs : Nat → Nat → Int32} (h : shR ml mm mi sl ss rs) (hm : okM mm) (x : (r, lf', ss') = sp_drop lf ss a) (m : ps_drop mst ml mm a r' mst' ml') : r = r' ∧ shR ml' mm mi sl ss' rs ∧ (mst = lf → mst' = lf') := by
  have km : (-1 : Int32).toInt = -1 := rfl
  unfold sp_drop at x
  unfold ps_drop at m
  split at x
  · rename_i c
    rw [if_pos (by omega)] at m
    have ca := i_cl (x := a) (by omega)
    have q := shR_at h hm c.1 c.2
    split at x
    · rename_i c2
      rw [if_pos (by omega)] at m
      obtain ⟨m1, m2, m3⟩ := m
      simp only [Prod.mk.injEq] at x
      obtain ⟨rfl, rfl, rfl⟩ := x
      subst m1 m2 m3
      exact ⟨rfl, h, fun _ => rfl⟩
    · rename_i c2
      rw [if_neg (by omega)] at m
      rcases q with q | ⟨q1, q2, q3, q4, q5, q6, q7⟩
      · omega
      obtain ⟨m1, m2, m3⟩ := m
      simp only [Prod.mk.injEq] at x
      obtain ⟨rfl, rfl, rfl⟩ := x
      subst m1 m2 m3
      refine ⟨q2, fun j hj => ?_, fun _ => rfl⟩
      by_cases e : j = a.toNatClampNeg
      · subst e
        rw [upd_s, upd_s]
        exact ⟨Or.inl ⟨by omega, km⟩, (h _ hj).2⟩
      · rw [upd_n _ _ e, upd_n _ _ e]
        exact h j hj
  · rename_i c
    rw [if_neg (by omega)] at m
    obtain ⟨m1, m2, m3⟩ := m
    simp only [Prod.mk.injEq] at x
    obtain ⟨rfl, rfl, rfl⟩ := x
    subst m1 m2 m3
    exact ⟨rfl, h, fun z => z⟩
theorem shR_holds {lf lf' mst mst' a i n hn r r' hn' hn2 : Int32} {ml mm mi sl ss ho hc hp hs ho' hc' hp' hs' ho2 hc2 hp2 hs2 : Nat → Int32} {rs : Nat → Nat → Int32} (h : shR ml mm mi sl ss rs) (hm : okM mm) (x : (r, lf', hn', ho', hc', hp', hs') = sp_holds lf rs ss hn ho hc hp hs a i n) (m : (r', mst', hn2, ho2, hc2, hp2, hs2) = sm_holds mst ml mm mi hn ho hc hp hs a i n) : r = r' ∧ hn2 = hn' ∧ ho2 = ho' ∧ hc2 = hc' ∧ hp2 = hp' ∧ hs2 = hs' ∧ (mst = lf → mst' = lf') := by
  unfold sp_holds at x
  unfold sm_holds at m
  by_cases c : 0 ≤ a.toInt ∧ a.toInt < 8 ∧ 1 ≤ n.toInt ∧ n.toInt ≤ 15
  · rw [if_pos c] at x m
    have ca := i_cl (x := a) (by omega)
    have cn := i_cl (x := n) (by omega)
    have q := shR_at h hm (a := a) (by omega) (by omega)
    by_cases c2 : (ml a.toNatClampNeg).toInt < 0
    · rw [if_pos c2] at m
      rw [if_pos (show (ss a.toNatClampNeg).toInt = -1 by omega)] at x
      simp only [Prod.mk.injEq] at x m
      obtain ⟨rfl, rfl, rfl, rfl, rfl, rfl, rfl⟩ := x
      obtain ⟨rfl, rfl, rfl, rfl, rfl, rfl, rfl⟩ := m
      exact ⟨rfl, rfl, rfl, rfl, rfl, rfl, fun _ => rfl⟩
    · rcases q with q | ⟨q1, q2, q3, q4, q5, q6, q7⟩
      · omega
      rw [if_neg c2] at m
      rw [if_neg (show ¬ (ss a.toNatClampNeg).toInt = -1 by omega)] at x
      by_cases c3 : 0 ≤ i.toInt ∧ i.toInt + 4 * n.toInt ≤ (mm a.toNatClampNeg).toInt
      · have ci := i_cl (x := i) (by omega)
        rw [if_pos c3, foldH_c (it := mi) (jt := rs a.toNatClampNeg) (j := i.toNatClampNeg) n.toNatClampNeg (fun k hk => by rw [Nat.add_assoc]; exact (h a.toNatClampNeg (by omega)).2 _ (by omega))] at m
        rw [if_pos (show 0 ≤ i.toInt ∧ i.toInt + 4 * n.toInt ≤ (ss a.toNatClampNeg).toInt by omega)] at x
        generalize foldH (rs a.toNatClampNeg) i.toNatClampNeg hn ho hc hp hs n.toNatClampNeg = F at x m
        obtain ⟨F1, F2, F3, F4, F5, F6⟩ := F
        simp only [Prod.mk.injEq] at x m
        obtain ⟨rfl, rfl, rfl, rfl, rfl, rfl, rfl⟩ := x
        obtain ⟨rfl, rfl, rfl, rfl, rfl, rfl, rfl⟩ := m
        exact ⟨rfl, rfl, rfl, rfl, rfl, rfl, fun _ => rfl⟩
      · rw [if_neg c3] at m
        rw [if_neg (show ¬ (0 ≤ i.toInt ∧ i.toInt + 4 * n.toInt ≤ (ss a.toNatClampNeg).toInt) by omega)] at x
        simp only [Prod.mk.injEq] at x m
        obtain ⟨rfl, rfl, rfl, rfl, rfl, rfl, rfl⟩ := x
        obtain ⟨rfl, rfl, rfl, rfl, rfl, rfl, rfl⟩ := m
        exact ⟨rfl, rfl, rfl, rfl, rfl, rfl, fun _ => rfl⟩
  · rw [if_neg c] at x m
    simp only [Prod.mk.injEq] at x m
    obtain ⟨rfl, rfl, rfl, rfl, rfl, rfl, rfl⟩ := x
    obtain ⟨rfl, rfl, rfl, rfl, rfl, rfl, rfl⟩ := m
    exact ⟨rfl, rfl, rfl, rfl, rfl, rfl, fun z => z⟩
