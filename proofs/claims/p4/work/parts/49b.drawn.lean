
/-- how many below n -/
def cntP (P : Nat → Bool) : Nat → Nat
  | 0 => 0
  | n + 1 => cntP P n + (if P n = true then 1 else 0)
theorem cntP_s (P : Nat → Bool) (n : Nat) : cntP P (n + 1) = cntP P n + (if P n = true then 1 else 0) := rfl
theorem cntP_bd (P : Nat → Bool) (n : Nat) : cntP P n ≤ n := by
  induction n with
  | zero => exact Nat.le_refl _
  | succ n ih =>
    rw [cntP_s]
    split <;> omega
theorem cntP_le {P Q : Nat → Bool} (n : Nat) (h : ∀ i, i < n → P i = true → Q i = true) : cntP P n ≤ cntP Q n := by
  induction n with
  | zero => exact Nat.le_refl _
  | succ n ih =>
    have ih := ih (fun i hi => h i (by omega))
    have hn := h n (by omega)
    rw [cntP_s, cntP_s]
    by_cases hp : P n = true
    · rw [if_pos hp, if_pos (hn hp)]; omega
    · rw [if_neg hp]; split <;> omega
theorem cntP_lt {P Q : Nat → Bool} {c : Nat} (q : Q c = true) (p : P c = false) (n : Nat) (hc : c < n) (h : ∀ i, i < n → P i = true → Q i = true) : cntP P n < cntP Q n := by
  induction n with
  | zero => exact absurd hc (by omega)
  | succ n ih =>
    rw [cntP_s, cntP_s]
    by_cases e : c = n
    · subst e
      have h9 := cntP_le c (fun i hi => h i (by omega))
      rw [if_neg (show ¬ P c = true by rw [p]; decide), if_pos q]
      omega
    · have ih := ih (by omega) (fun i hi => h i (by omega))
      have hn := h n (by omega)
      by_cases hp : P n = true
      · rw [if_pos hp, if_pos (hn hp)]; omega
      · rw [if_neg hp]; split <;> omega
theorem nb_cnt (x : Int32) (n : Nat) : nb x n = cntP (fun i => bt x i) n := by
  induction n with
  | zero => rfl
  | succ n ih =>
    rw [cntP_s, ← ih]
    rfl
/-- one lot stands ahead of another -/
abbrev ltL (lo : Nat → Int64) (x y : Nat) : Prop := (lo x).toInt < (lo y).toInt ∨ ((lo x).toInt = (lo y).toInt ∧ x < y)
theorem bdV_spec (ro : Nat → Int32) (lo : Nat → Int64) (set : Int32) (m : Nat) (hm : m ≤ 12) : ((bdV ro lo set m).toInt = -1000000 ∧ ∀ y, y < m → ¬ (ro y).toInt = -1000000 → bt set y = true) ∨ (∃ z, z < m ∧ bdV ro lo set m = nI z ∧ ¬ (ro z).toInt = -1000000 ∧ bt set z = false ∧ ∀ y, y < m → y ≠ z → ¬ (ro y).toInt = -1000000 → bt set y = false → ltL lo z y) := by
  induction m with
  | zero => exact Or.inl ⟨rfl, fun y hy => absurd hy (by omega)⟩
  | succ m ih =>
    have ih := ih (by omega)
    rw [bdV_s]
    by_cases r : ¬ (ro m).toInt = -1000000 ∧ bt set m = false
    · rcases ih with ⟨b1, b2⟩ | ⟨z, hz, b1, b2, b3, b4⟩
      · rw [if_pos ⟨r.1, r.2, Or.inl b1⟩]
        refine Or.inr ⟨m, by omega, rfl, r.1, r.2, fun y hy hne q1 q2 => ?_⟩
        have q9 := b2 y (by omega) q1
        rw [q2] at q9
        cases q9
      · have hcz := nI_cl (n := z) (by omega)
        by_cases q : (lo m).toInt < (lo z).toInt
        · rw [b1, hcz.1, if_pos ⟨r.1, r.2, Or.inr q⟩]
          refine Or.inr ⟨m, by omega, rfl, r.1, r.2, fun y hy hne q1 q2 => ?_⟩
          by_cases e : y = z
          · rw [e]; exact Or.inl q
          · have h9 := b4 y (by omega) e q1 q2
            omega
        · rw [b1, hcz.1, if_neg (fun w => by rcases w.2.2 with w | w <;> omega)]
          refine Or.inr ⟨z, by omega, rfl, b2, b3, fun y hy hne q1 q2 => ?_⟩
          by_cases e : y = m
          · rw [e]; omega
          · exact b4 y (by omega) hne q1 q2
    · rw [if_neg (fun w => r ⟨w.1, w.2.1⟩)]
      rcases ih with ⟨b1, b2⟩ | ⟨z, hz, b1, b2, b3, b4⟩
      · refine Or.inl ⟨b1, fun y hy q1 => ?_⟩
        by_cases e : y = m
        · rw [e] at q1 ⊢
          cases h : bt set m with
          | true => rfl
          | false => exact (r ⟨q1, h⟩).elim
        · exact b2 y (by omega) q1
      · refine Or.inr ⟨z, by omega, b1, b2, b3, fun y hy hne q1 q2 => ?_⟩
        by_cases e : y = m
        · rw [e] at q1 q2
          exact (r ⟨q1, q2⟩).elim
        · exact b4 y (by omega) hne q1 q2
theorem or_z (x : Int32) : x ||| 0 = x := by
  apply b_ext
  intro i hi
  rw [b_or, b_0, Bool.or_false]
theorem dm_inv (ro : Nat → Int32) (lo : Nat → Int64) (cn : Nat) (hc : cn ≤ 12) (k : Nat) : (∀ i, i < 32 → bt (dmV ro lo cn k) i = true → i < cn ∧ ¬ (ro i).toInt = -1000000) ∧ (∀ x y, x < cn → ¬ (ro x).toInt = -1000000 → y < 32 → ltL lo x y → bt (dmV ro lo cn k) y = true → bt (dmV ro lo cn k) x = true) ∧ nb (dmV ro lo cn k) 12 ≤ k ∧ (nb (dmV ro lo cn k) 12 = k ∨ ∀ x, x < cn → ¬ (ro x).toInt = -1000000 → bt (dmV ro lo cn k) x = true) := by
  induction k with
  | zero =>
    have e : dmV ro lo cn 0 = 0 := rfl
    rw [e, nb_0]
    exact ⟨fun i hi h => absurd h (by rw [b_0]; decide), fun x y _ _ _ _ h => absurd h (by rw [b_0]; decide), Nat.le_refl _, Or.inl rfl⟩
  | succ k ih =>
    rw [dmV_s]
    generalize dmV ro lo cn k = set at ih ⊢
    obtain ⟨i1, i2, i3, i4⟩ := ih
    rcases bdV_spec ro lo set cn hc with ⟨b1, b2⟩ | ⟨z, hz, b1, b2, b3, b4⟩
    · rw [if_pos b1, or_z]
      exact ⟨i1, i2, by omega, Or.inr b2⟩
    · have hcz := nI_cl (n := z) (by omega)
      have hb : ∀ i, i < 32 → bt (set ||| ((1 : Int32) <<< (nI z &&& 31))) i = (bt set i || decide (i = z)) := fun i hi => by rw [bt_set (by omega) (by omega) hi, hcz.1]
      rw [b1, if_neg (by omega)]
      generalize set ||| ((1 : Int32) <<< (nI z &&& 31)) = set' at hb ⊢
      have hz' : bt set' z = true := by rw [hb z (by omega), decide_eq_true rfl, Bool.or_true]
      have hne : ∀ i, i < 32 → i ≠ z → bt set' i = bt set i := fun i hi h => by rw [hb i hi, decide_eq_false h, Bool.or_false]
      have hcnt := nb_flip (x := set) (y := set') (k := z) b3 hz' 12 (by omega) (fun i hi h => hne i (by omega) h)
      refine ⟨fun i hi h => ?_, fun x y hx hr hy hl h => ?_, by omega, ?_⟩
      · by_cases e : i = z
        · rw [e]; exact ⟨hz, b2⟩
        · rw [hne i hi e] at h; exact i1 i hi h
      · by_cases ex : x = z
        · rw [ex]; exact hz'
        · rw [hne x (by omega) ex]
          by_cases ey : y = z
          · cases hs : bt set x with
            | true => rfl
            | false =>
              have h9 := b4 x hx ex hr hs
              rw [ey] at hl
              omega
          · rw [hne y hy ey] at h
            exact i2 x y hx hr hy hl h
      · rcases i4 with i4 | i4
        · exact Or.inl (by omega)
        · have h9 := i4 z hz b2
          rw [b3] at h9
          cases h9
theorem hm_cnt (lo : Nat → Int64) (a k : Int32) (k0 : 0 ≤ k.toInt) (n : Nat) (hn : n ≤ 12) : (hmV lo a k n).toInt = (cntP (fun c => bt a c && decide (ltL lo c k.toNatClampNeg)) n : Nat) := by
  have ck := i_cl k0
  have k1 : (1 : Int32).toInt = 1 := rfl
  induction n with
  | zero => rfl
  | succ n ih =>
    have ih := ih (by omega)
    have hbd := cntP_bd (fun c => bt a c && decide (ltL lo c k.toNatClampNeg)) n
    have hb := hb_bt (x := a) (n := n) (by omega)
    rw [hmV_s, cntP_s]
    by_cases c : bt a n = true ∧ ltL lo n k.toNatClampNeg
    · rw [if_pos ⟨hb.mpr c.1, by have c2 := c.2; omega⟩, if_pos (by rw [c.1, decide_eq_true c.2]; rfl), i_add (by omega) (by omega), k1, ih]
      omega
    · rw [if_neg (fun z => c ⟨hb.mp z.1, by have z2 := z.2; omega⟩), if_neg (fun z => c (by rw [Bool.and_eq_true, decide_eq_true_iff] at z; exact z)), ih]
      omega
theorem drawn_bit {ro : Nat → Int32} {lo : Nat → Int64} {cn : Nat} {a : Int32} (hc : cn ≤ 12) (ha : ∀ i, i < 32 → (bt a i = true ↔ i < cn ∧ ¬ (ro i).toInt = -1000000)) (m c : Nat) (h12 : c < 12) : bt (dmV ro lo cn m) c = true ↔ bt a c = true ∧ (hmV lo a (nI c) 12).toInt < (m : Int) := by
  obtain ⟨i1, i2, i3, i4⟩ := dm_inv ro lo cn hc m
  have hcc := nI_cl (n := c) (by omega)
  rw [hm_cnt lo a (nI c) (by omega) 12 (by omega), hcc.1]
  generalize dmV ro lo cn m = set at i1 i2 i3 i4 ⊢
  rw [nb_cnt] at i3 i4
  have hA : ∀ i, (bt a i && decide (ltL lo i c)) = true ↔ bt a i = true ∧ ltL lo i c := fun i => by rw [Bool.and_eq_true, decide_eq_true_iff]
  constructor
  · intro h
    refine ⟨(ha c (by omega)).mpr (i1 c (by omega) h), ?_⟩
    have h9 := cntP_lt (P := fun i => bt a i && decide (ltL lo i c)) (Q := fun i => bt set i) (c := c) h (by
      rw [decide_eq_false (by omega), Bool.and_false]) 12 h12 (fun i hi hi2 => by
      have q := (hA i).mp hi2
      have s := (ha i (by omega)).mp q.1
      exact i2 i c s.1 s.2 (by omega) q.2 h)
    omega
  · rintro ⟨h1, h2⟩
    cases hs : bt set c with
    | true => rfl
    | false =>
      exfalso
      have s := (ha c (by omega)).mp h1
      have h9 := cntP_le (P := fun i => bt set i) (Q := fun i => bt a i && decide (ltL lo i c)) 12 (fun i hi hi2 => by
        have q := i1 i (by omega) hi2
        refine (hA i).mpr ⟨(ha i (by omega)).mpr q, ?_⟩
        apply Decidable.byContradiction
        intro hn
        have hne : i ≠ c := fun e => by
          have hi3 : bt set i = true := hi2
          rw [e, hs] at hi3
          cases hi3
        have h8 := i2 c i s.1 s.2 (by omega) (by omega) hi2
        rw [hs] at h8
        cases h8)
      rcases i4 with i4 | i4
      · omega
      · have h8 := i4 c s.1 s.2
        rw [hs] at h8
        cases h8
theorem bt_drV (lo : Nat → Int64) (a m : Int32) (n : Nat) (hn : n ≤ 12) {i : Nat} (hi : i < 32) : bt (drV lo a m n) i = true ↔ i < n ∧ bt a i = true ∧ (hmV lo a (nI i) 12).toInt < m.toInt := by
  induction n with
  | zero =>
    rw [show drV lo a m 0 = 0 from rfl, b_0]
    exact ⟨fun h => (by cases h), fun h => absurd h.1 (by omega)⟩
  | succ n ih =>
    have ih := ih (by omega)
    have hcn := nI_cl (n := n) (by omega)
    have hb := hb_bt (x := a) (n := n) (by omega)
    rw [drV_s]
    by_cases c : bt a n = true ∧ (hmV lo a (nI n) 12).toInt < m.toInt
    · rw [if_pos ⟨hb.mpr c.1, c.2⟩, bt_set (by omega) (by omega) hi, hcn.1, Bool.or_eq_true, ih, decide_eq_true_iff]
      constructor
      · rintro (h | h)
        · exact ⟨by omega, h.2⟩
        · rw [h]; exact ⟨by omega, c⟩
      · intro h
        by_cases e : i = n
        · exact Or.inr e
        · exact Or.inl ⟨by omega, h.2⟩
    · rw [if_neg (fun z => c ⟨hb.mp z.1, z.2⟩), ih]
      constructor
      · intro h
        exact ⟨by omega, h.2⟩
      · intro h
        by_cases e : i = n
        · rw [e] at h; exact (c h.2).elim
        · exact ⟨by omega, h.2⟩
theorem ones_bt : ∀ n, n < 13 → ∀ i, i < 32 → bt (((1 : Int32) <<< (nI n &&& 31)) - 1) i = decide (i < n) := by decide +kernel
theorem bt_stV {cn : Int32} {ro : Nat → Int32} (h0 : 0 ≤ cn.toInt) (h1 : cn.toInt ≤ 12) {i : Nat} (hi : i < 32) : bt (stV cn ro) i = true ↔ i < cn.toNatClampNeg ∧ ¬ (ro i).toInt = -1000000 := by
  have hc := i_cl h0
  have km : (-1000000 : Int32).toInt = -1000000 := by decide
  have e : stV cn ro = (((1 : Int32) <<< (nI cn.toNatClampNeg &&& 31)) - 1) &&& ((setV ro (-1000000) cn.toNatClampNeg) ^^^ (-1)) := by unfold stV; rw [i_nI h0]
  rw [e, b_and, b_xor, b_m1 i hi, ones_bt _ (by omega) i hi, bt_setV ro _ _ (by omega) hi, km]
  by_cases q1 : i < cn.toNatClampNeg
  · by_cases q2 : (ro i).toInt = -1000000
    · simp [q1, q2]
    · simp [q1, q2]
  · simp [q1]
theorem drawn_eq {sd cn d n : Int32} {ro : Nat → Int32} (h0 : 0 ≤ cn.toInt) (h1 : cn.toInt ≤ 12) : sp_drawn sd cn ro d n = sm_drawn sd cn ro d n := by
  have hc := i_cl h0
  unfold sp_drawn sm_drawn
  split
  · rename_i g
    have hn := i_cl (x := n) (by omega)
    apply b_ext
    intro i hi
    have hd := bt_drV (lotF sd d) (stV cn ro) n 12 (Nat.le_refl _) hi
    by_cases l : i < 12
    · have hb := drawn_bit (ro := ro) (lo := lotF sd d) (cn := cn.toNatClampNeg) (a := stV cn ro) (by omega) (fun i hi => bt_stV h0 h1 hi) n.toNatClampNeg i l
      apply Bool.eq_iff_iff.mpr
      rw [hd, hb]
      exact ⟨fun h => ⟨h.2.1, by omega⟩, fun h => ⟨l, h.1, by omega⟩⟩
    · apply Bool.eq_iff_iff.mpr
      rw [hd]
      exact ⟨fun h => absurd h.1 l, fun h => absurd ((dm_inv ro (lotF sd d) cn.toNatClampNeg (by omega) n.toNatClampNeg).1 i hi h).1 (by omega)⟩
  · rfl
theorem bit1 {x c : Int32} (h0 : 0 ≤ c.toInt) (h1 : c.toInt < 32) : ((x >>> (c &&& 31)) &&& 1) = if bt x c.toNatClampNeg = true then 1 else 0 := by
  have hc := i_cl h0
  have e : x >>> (c &&& 31) = x >>> (nI c.toNatClampNeg &&& 31) := by rw [i_nI h0]
  have key : bt (x >>> (c &&& 31)) 0 = bt x c.toNatClampNeg := by
    rw [e, b_sshr c.toNatClampNeg (by omega) x (by omega), if_pos (by omega), Nat.add_zero]
  apply b_ext
  intro i hi
  rw [b_and, bt_1 i hi]
  by_cases g : i = 0
  · rw [g, key]
    cases h : bt x c.toNatClampNeg
    · rw [if_neg (by decide), b_0]; rfl
    · rw [if_pos rfl, bt_1 0 (by omega)]; rfl
  · rw [decide_eq_false g, Bool.and_false]
    split
    · rw [bt_1 i hi, decide_eq_false g]
    · rw [b_0]
theorem often_eq {sd cn k a b n : Int32} {ro : Nat → Int32} (h0 : 0 ≤ cn.toInt) (h1 : cn.toInt ≤ 12) : sp_often sd cn ro k a b n = sm_often sd cn ro k a b n := by
  have hc := i_cl h0
  unfold sp_often sm_often
  split
  · rename_i g
    have hk := i_cl (x := k) (by omega)
    have hn := i_cl (x := n) (by omega)
    have ek : nI k.toNatClampNeg = k := i_nI (by omega)
    have hb := hb_bt (x := stV cn ro) (n := k.toNatClampNeg) (by omega)
    rw [ek] at hb
    generalize b.toNatClampNeg - a.toNatClampNeg + 1 = J
    have hd := fun j => drawn_bit (ro := ro) (lo := lotF sd (nI (a.toNatClampNeg + j))) (cn := cn.toNatClampNeg) (a := stV cn ro) (by omega) (fun i hi => bt_stV h0 h1 hi) n.toNatClampNeg k.toNatClampNeg (by omega)
    rw [ek] at hd
    by_cases q : hbP (stV cn ro) k
    · rw [if_pos q]
      induction J with
      | zero => rfl
      | succ J ih =>
        rw [ofV_s, omV_s, ← ih, bit1 (by omega) (by omega)]
        by_cases c : (hmV (lotF sd (nI (a.toNatClampNeg + J))) (stV cn ro) k 12).toInt < n.toInt
        · rw [if_pos c, if_pos ((hd J).mpr ⟨hb.mp q, by omega⟩)]
        · rw [if_neg c, if_neg (fun z => c (by have z2 := ((hd J).mp z).2; omega))]
          exact (Int32.add_zero _).symm
    · rw [if_neg q]
      induction J with
      | zero => rfl
      | succ J ih =>
        rw [omV_s, ← ih, bit1 (by omega) (by omega), if_neg (fun z => q (hb.mpr ((hd J).mp z).1))]
        rfl
  · rfl
