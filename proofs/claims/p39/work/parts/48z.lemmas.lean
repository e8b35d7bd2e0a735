section

theorem upR_s (rs : Nat → Nat → Int32) (j : Nat) (g : Nat → Int32) : upR rs j g j = g := by unfold upR; rw [if_pos rfl]
theorem upR_n (rs : Nat → Nat → Int32) {i j : Nat} (g : Nat → Int32) (h : ¬ i = j) : upR rs j g i = rs i := by unfold upR; rw [if_neg h]
/-- the sheets of both: lanes and sizes of those that are there, and every item -/
def shR (ml mm mi sl ss : Nat → Int32) (rs : Nat → Nat → Int32) : Prop :=
  ∀ j : Nat, j < 8 → ((((ml j).toInt < 0 ∧ (ss j).toInt = -1) ∨ (0 ≤ (ml j).toInt ∧ ss j = mm j ∧ sl j = ml j)) ∧ ∀ k : Nat, k < 60 → mi (60 * j + k) = rs j k)
theorem shR_at {ml mm mi sl ss : Nat → Int32} {rs : Nat → Nat → Int32} (h : shR ml mm mi sl ss rs) (hm : okM mm) {a : Int32} (h0 : 0 ≤ a.toInt) (h1 : a.toInt < 8) : ((ml a.toNatClampNeg).toInt < 0 ∧ (ss a.toNatClampNeg).toInt = -1) ∨ (0 ≤ (ml a.toNatClampNeg).toInt ∧ ss a.toNatClampNeg = mm a.toNatClampNeg ∧ sl a.toNatClampNeg = ml a.toNatClampNeg ∧ 0 ≤ (mm a.toNatClampNeg).toInt ∧ (mm a.toNatClampNeg).toInt ≤ 60 ∧ (ss a.toNatClampNeg).toInt = (mm a.toNatClampNeg).toInt ∧ (sl a.toNatClampNeg).toInt = (ml a.toNatClampNeg).toInt) := by
  have ca := i_cl h0
  have hj : a.toNatClampNeg < 8 := by omega
  rcases (h _ hj).1 with q | ⟨q1, q2, q3⟩
  · exact Or.inl q
  · have := hm _ hj
    exact Or.inr ⟨q1, q2, q3, this.1, this.2, by rw [q2], by rw [q3]⟩
theorem shR_sheet {lf lf' r mst mst' a b n : Int32} {ml mm mi sl ss ml' mm' mi' sl' ss' : Nat → Int32} {rs rs' : Nat → Nat → Int32} (h : shR ml mm mi sl ss rs) (x : (r, lf', rs', sl', ss') = sp_sheet lf rs sl ss a b n) (m : ps_sheet mst ml mm mi a b n mst' ml' mm' mi') : shR ml' mm' mi' sl' ss' rs' ∧ (mst = lf → mst' = lf') := by
  unfold sp_sheet at x
  unfold ps_sheet at m
  split at x
  · rename_i c
    rw [if_pos (by omega)] at m
    split at x
    · rename_i c2
      rw [if_pos c2] at m
      obtain ⟨m1, m2, m3, m4⟩ := m
      simp only [Prod.mk.injEq] at x
      obtain ⟨-, rfl, rfl, rfl, rfl⟩ := x
      subst m1 m2 m3 m4
      exact ⟨h, fun _ => rfl⟩
    · rename_i c2
      rw [if_neg c2] at m
      obtain ⟨m1, m2, m3, m4⟩ := m
      simp only [Prod.mk.injEq] at x
      obtain ⟨-, rfl, rfl, rfl, rfl⟩ := x
      subst m1 m2 m3
      have ca := i_cl (x := a) (by omega)
      refine ⟨fun j hj => ?_, fun _ => rfl⟩
      by_cases e : j = a.toNatClampNeg
      · subst e
        rw [upd_s, upd_s, upd_s, upd_s, upR_s]
        exact ⟨Or.inr ⟨by omega, rfl, rfl⟩, fun k hk => by rw [m4, if_pos (by omega)]⟩
      · rw [upd_n _ _ e, upd_n _ _ e, upd_n _ _ e, upd_n _ _ e, upR_n _ _ e]
        exact ⟨(h j hj).1, fun k hk => by rw [m4, if_neg (by omega)]; exact (h j hj).2 k hk⟩
  · rename_i c
    rw [if_neg (by omega)] at m
    obtain ⟨m1, m2, m3, m4⟩ := m
    simp only [Prod.mk.injEq] at x
    obtain ⟨-, rfl, rfl, rfl, rfl⟩ := x
    subst m1 m2 m3 m4
    exact ⟨h, fun z => z⟩
theorem shR_set {lf lf' r r' mst mst' a i v : Int32} {ml mm mi sl ss mi' : Nat → Int32} {rs rs' : Nat → Nat → Int32} (h : shR ml mm mi sl ss rs) (hm : okM mm) (x : (r, lf', rs') = sp_set lf rs sl ss a i v) (m : ps_set mst ml mm mi a i v r' mst' mi') : r = r' ∧ shR ml mm mi' sl ss rs' ∧ (mst = lf → mst' = lf') := by
  unfold sp_set at x
  unfold ps_set at m
  split at x
  · rename_i c
    rw [if_pos (by omega)] at m
    have ca := i_cl (x := a) (by omega)
    have q := shR_at h hm c.1 c.2
    split at x
    · rename_i c2
      rw [if_pos (by omega)] at m
      obtain ⟨m1, m2, m3⟩ := m
      simp only [Prod.mk.injEq] at x
      obtain ⟨rfl, rfl, rfl⟩ := x
      subst m1 m2 m3
      exact ⟨rfl, h, fun _ => rfl⟩
    · rename_i c2
      rw [if_neg (by omega)] at m
      rcases q with q | ⟨q1, q2, q3, q4, q5, q6, q7⟩
      · omega
      split at x
      · rename_i c3
        rw [if_pos (by omega)] at m
        obtain ⟨m1, m2, m3⟩ := m
        simp only [Prod.mk.injEq] at x
        obtain ⟨rfl, rfl, rfl⟩ := x
        have ci := i_cl (x := i) (by omega)
        rw [q3]
        refine ⟨m1.symm, fun j hj => ⟨(h j hj).1, fun k hk => ?_⟩, fun _ => m2⟩
        rw [m3, m1]
        by_cases e : j = a.toNatClampNeg
        · subst e
          rw [upR_s]
          by_cases ek : k = i.toNatClampNeg
          · subst ek
            rw [upd_s, upd_s]
          · rw [upd_n _ _ ek, upd_n _ _ (by omega)]
            exact (h _ hj).2 k hk
        · rw [upR_n _ _ e, upd_n _ _ (by omega)]
          exact (h _ hj).2 k hk
      · rename_i c3
        rw [if_neg (by omega)] at m
        obtain ⟨m1, m2, m3⟩ := m
        simp only [Prod.mk.injEq] at x
        obtain ⟨rfl, rfl, rfl⟩ := x
        subst m1 m2 m3
        exact ⟨rfl, h, fun _ => rfl⟩
  · rename_i c
    rw [if_neg (by omega)] at m
    obtain ⟨m1, m2, m3⟩ := m
    simp only [Prod.mk.injEq] at x
    obtain ⟨rfl, rfl, rfl⟩ := x
    subst m1 m2 m3
    exact ⟨rfl, h, fun z => z⟩
theorem shR_copy {lf lf' r r' mst mst' a i b j n : Int32} {ml mm mi sl ss mi' : Nat → Int32} {rs rs' : Nat → Nat → Int32} (h : shR ml mm mi sl ss rs) (hm : okM mm) (x : (r, lf', rs') = sp_copy lf rs sl ss a i b j n) (m : ps_copy mst ml mm mi a i b j n r' mst' mi') : r = r' ∧ shR ml mm mi' sl ss rs' ∧ (mst = lf → mst' = lf') := by
  unfold sp_copy at x
  unfold ps_copy at m
  split at x
  · rename_i c
    rw [if_pos (by omega)] at m
    have ca := i_cl (x := a) (by omega)
    have cb := i_cl (x := b) (by omega)
    have q := shR_at h hm (a := a) (by omega) (by omega)
    have p := shR_at h hm (a := b) (by omega) (by omega)
    split at x
    · rename_i c2
      rw [if_pos (by omega)] at m
      obtain ⟨m1, m2, m3⟩ := m
      simp only [Prod.mk.injEq] at x
      obtain ⟨rfl, rfl, rfl⟩ := x
      subst m1 m2 m3
      exact ⟨rfl, h, fun _ => rfl⟩
    · rename_i c2
      rw [if_neg (by omega)] at m
      rcases q with q | ⟨q1, q2, q3, q4, q5, q6, q7⟩
      · omega
      rcases p with p | ⟨p1, p2, p3, p4, p5, p6, p7⟩
      · omega
      split at x
      · rename_i c3
        rw [if_pos (by omega)] at m
        obtain ⟨m1, m2, m3⟩ := m
        simp only [Prod.mk.injEq] at x
        obtain ⟨rfl, rfl, rfl⟩ := x
        subst m1 m2 m3
        exact ⟨rfl, h, fun _ => rfl⟩
      · rename_i c3
        rw [if_neg (by omega)] at m
        split at x
        · rename_i c4
          rw [if_pos (by omega)] at m
          obtain ⟨m1, m2, m3⟩ := m
          simp only [Prod.mk.injEq] at x
          obtain ⟨xr, rfl, rfl⟩ := x
          have ci := i_cl (x := i) (by omega)
          have cj := i_cl (x := j) (by omega)
          have cn := i_cl (x := n) (by omega)
          refine ⟨xr.trans m1.symm, fun z hz => ⟨(h z hz).1, fun k hk => ?_⟩, fun _ => m2⟩
          rw [m3]
          unfold cpyd
          by_cases e : z = b.toNatClampNeg
          · subst e
            rw [upR_s]
            unfold va_cpy
            by_cases ek : j.toNatClampNeg ≤ k ∧ k < j.toNatClampNeg + n.toNatClampNeg
            · rw [if_pos ek, if_pos (by omega)]
              have := (h a.toNatClampNeg (by omega)).2 (i.toNatClampNeg + (k - j.toNatClampNeg)) (by omega)
              rw [← this]
              congr 1
              omega
            · rw [if_neg ek, if_neg (by omega)]
              exact (h _ hz).2 k hk
          · rw [upR_n _ _ e, if_neg (by omega)]
            exact (h _ hz).2 k hk
        · rename_i c4
          rw [if_neg (by omega)] at m
          obtain ⟨m1, m2, m3⟩ := m
          simp only [Prod.mk.injEq] at x
          obtain ⟨rfl, rfl, rfl⟩ := x
          subst m1 m2 m3
          exact ⟨rfl, h, fun _ => rfl⟩
  · rename_i c
    rw [if_neg (by omega)] at m
    obtain ⟨m1, m2, m3⟩ := m
    simp only [Prod.mk.injEq] at x
    obtain ⟨rfl, rfl, rfl⟩ := x
    subst m1 m2 m3
    exact ⟨rfl, h, fun z => z⟩
theorem shR_drop {lf lf' r r' mst mst' a : Int32} {ml mm mi sl ss ml' ss' : Nat → Int32} {rs : Nat → Nat → Int32} (h : shR ml mm mi sl ss rs) (hm : okM mm) (x : (r, lf', ss') = sp_drop lf ss a) (m : ps_drop mst ml mm a r' mst' ml') : r = r' ∧ shR ml' mm mi sl ss' rs ∧ (mst = lf → mst' = lf') := by
  have km : (-1 : Int32).toInt = -1 := rfl
  unfold sp_drop at x
  unfold ps_drop at m
  split at x
  · rename_i c
    rw [if_pos (by omega)] at m
    have ca := i_cl (x := a) (by omega)
    have q := shR_at h hm c.1 c.2
    split at x
    · rename_i c2
      rw [if_pos (by omega)] at m
      obtain ⟨m1, m2, m3⟩ := m
      simp only [Prod.mk.injEq] at x
      obtain ⟨rfl, rfl, rfl⟩ := x
      subst m1 m2 m3
      exact ⟨rfl, h, fun _ => rfl⟩
    · rename_i c2
      rw [if_neg (by omega)] at m
      rcases q with q | ⟨q1, q2, q3, q4, q5, q6, q7⟩
      · omega
      obtain ⟨m1, m2, m3⟩ := m
      simp only [Prod.mk.injEq] at x
      obtain ⟨rfl, rfl, rfl⟩ := x
      subst m1 m2 m3
      refine ⟨q2, fun j hj => ?_, fun _ => rfl⟩
      by_cases e : j = a.toNatClampNeg
      · subst e
        rw [upd_s, upd_s]
        exact ⟨Or.inl ⟨by omega, km⟩, (h _ hj).2⟩
      · rw [upd_n _ _ e, upd_n _ _ e]
        exact h j hj
  · rename_i c
    rw [if_neg (by omega)] at m
    obtain ⟨m1, m2, m3⟩ := m
    simp only [Prod.mk.injEq] at x
    obtain ⟨rfl, rfl, rfl⟩ := x
    subst m1 m2 m3
    exact ⟨rfl, h, fun z => z⟩
theorem shR_holds {lf lf' mst mst' a i n hn r r' hn' hn2 : Int32} {ml mm mi sl ss ho hc hp hs ho' hc' hp' hs' ho2 hc2 hp2 hs2 : Nat → Int32} {rs : Nat → Nat → Int32} (h : shR ml mm mi sl ss rs) (hm : okM mm) (x : (r, lf', hn', ho', hc', hp', hs') = sp_holds lf rs ss hn ho hc hp hs a i n) (m : (r', mst', hn2, ho2, hc2, hp2, hs2) = sm_holds mst ml mm mi hn ho hc hp hs a i n) : r = r' ∧ hn2 = hn' ∧ ho2 = ho' ∧ hc2 = hc' ∧ hp2 = hp' ∧ hs2 = hs' ∧ (mst = lf → mst' = lf') := by
  unfold sp_holds at x
  unfold sm_holds at m
  by_cases c : 0 ≤ a.toInt ∧ a.toInt < 8 ∧ 1 ≤ n.toInt ∧ n.toInt ≤ 15
  · rw [if_pos c] at x m
    have ca := i_cl (x := a) (by omega)
    have cn := i_cl (x := n) (by omega)
    have q := shR_at h hm (a := a) (by omega) (by omega)
    by_cases c2 : (ml a.toNatClampNeg).toInt < 0
    · rw [if_pos c2] at m
      rw [if_pos (show (ss a.toNatClampNeg).toInt = -1 by omega)] at x
      simp only [Prod.mk.injEq] at x m
      obtain ⟨rfl, rfl, rfl, rfl, rfl, rfl, rfl⟩ := x
      obtain ⟨rfl, rfl, rfl, rfl, rfl, rfl, rfl⟩ := m
      exact ⟨rfl, rfl, rfl, rfl, rfl, rfl, fun _ => rfl⟩
    · rcases q with q | ⟨q1, q2, q3, q4, q5, q6, q7⟩
      · omega
      rw [if_neg c2] at m
      rw [if_neg (show ¬ (ss a.toNatClampNeg).toInt = -1 by omega)] at x
      by_cases c3 : 0 ≤ i.toInt ∧ i.toInt + 4 * n.toInt ≤ (mm a.toNatClampNeg).toInt
      · have ci := i_cl (x := i) (by omega)
        rw [if_pos c3, foldH_c (it := mi) (jt := rs a.toNatClampNeg) (j := i.toNatClampNeg) n.toNatClampNeg (fun k hk => by rw [Nat.add_assoc]; exact (h a.toNatClampNeg (by omega)).2 _ (by omega))] at m
        rw [if_pos (show 0 ≤ i.toInt ∧ i.toInt + 4 * n.toInt ≤ (ss a.toNatClampNeg).toInt by omega)] at x
        generalize foldH (rs a.toNatClampNeg) i.toNatClampNeg hn ho hc hp hs n.toNatClampNeg = F at x m
        obtain ⟨F1, F2, F3, F4, F5, F6⟩ := F
        simp only [Prod.mk.injEq] at x m
        obtain ⟨rfl, rfl, rfl, rfl, rfl, rfl, rfl⟩ := x
        obtain ⟨rfl, rfl, rfl, rfl, rfl, rfl, rfl⟩ := m
        exact ⟨rfl, rfl, rfl, rfl, rfl, rfl, fun _ => rfl⟩
      · rw [if_neg c3] at m
        rw [if_neg (show ¬ (0 ≤ i.toInt ∧ i.toInt + 4 * n.toInt ≤ (ss a.toNatClampNeg).toInt) by omega)] at x
        simp only [Prod.mk.injEq] at x m
        obtain ⟨rfl, rfl, rfl, rfl, rfl, rfl, rfl⟩ := x
        obtain ⟨rfl, rfl, rfl, rfl, rfl, rfl, rfl⟩ := m
        exact ⟨rfl, rfl, rfl, rfl, rfl, rfl, fun _ => rfl⟩
  · rw [if_neg c] at x m
    simp only [Prod.mk.injEq] at x m
    obtain ⟨rfl, rfl, rfl, rfl, rfl, rfl, rfl⟩ := x
    obtain ⟨rfl, rfl, rfl, rfl, rfl, rfl, rfl⟩ := m
    exact ⟨rfl, rfl, rfl, rfl, rfl, rfl, fun z => z⟩


theorem nI_cl {n : Nat} (h : n < 2147483648) : (nI n).toNatClampNeg = n ∧ (nI n).toInt = n := ⟨nI_clamp h, nI_toInt h⟩
theorem bt_setV (ro : Nat → Int32) (r : Int32) (n : Nat) (hn : n ≤ 31) {i : Nat} (hi : i < 32) : bt (setV ro r n) i = decide (i < n ∧ (ro i).toInt = r.toInt) := by
  induction n with
  | zero => rw [show setV ro r 0 = 0 from rfl, b_0]; simp
  | succ n ih =>
    have ih := ih (by omega)
    have hc := nI_cl (n := n) (by omega)
    rw [setV_s]
    by_cases c : (ro n).toInt = r.toInt
    · rw [if_pos c, bt_set (by omega) (by omega) hi, ih, hc.1]
      by_cases e : i = n
      · subst e; simp [c]
      · by_cases l : i < n
        · simp [e, show i < n + 1 by omega, l]
        · simp [e, l, show ¬ i < n + 1 by omega]
    · rw [if_neg c, ih]
      by_cases e : i = n
      · subst e; simp [c]
      · by_cases l : i < n
        · simp [show i < n + 1 by omega, l]
        · simp [l, show ¬ i < n + 1 by omega]
theorem hb_bt {x : Int32} {n : Nat} (hn : n < 32) : hbP x (nI n) ↔ bt x n = true := by
  have h0 : bt ((x.toUInt32 >>> ((nI n).toUInt32 &&& Int32.toUInt32 31)).toInt32 &&& 1) 0 = bt x n := by
    rw [b_and, b_ushr n hn, bt_1 0 (by omega)]
    simp
  unfold hbP
  constructor
  · intro h
    cases e : bt x n with
    | true => rfl
    | false =>
      exfalso
      apply h
      apply b_ext
      intro i hi
      rw [b_0]
      by_cases e0 : i = 0
      · subst e0; rw [h0, e]
      · rw [b_and, bt_1 i hi]; simp [e0]
  · intro h q
    rw [q, b_0] at h0
    rw [h] at h0
    cases h0
theorem woV_ins (ro wo : Nat → Int32) (r : Int32) (N : Nat) (hN : N ≤ 31) (n : Nat) (hn : n ≤ N) : woV wo (setV ro r N) n = insV ro wo r 1 n := by
  induction n with
  | zero => rfl
  | succ n ih =>
    rw [woV_s, insV_s, ih (by omega)]
    have h := hb_bt (x := setV ro r N) (n := n) (by omega)
    rw [bt_setV ro r N hN (by omega)] at h
    by_cases c : (ro n).toInt = r.toInt
    · rw [if_pos (h.mpr (by simp [c]; omega)), if_neg (by omega), if_neg (by decide), if_pos (by decide)]
    · rw [if_neg (fun q => by have := h.mp q; simp [c] at this), if_pos c]
      exact (Int32.add_zero _).symm
theorem add_or {x y : Int32} (h : x &&& y = 0) : x + y = x ||| y := by
  apply Int32.toBitVec_inj.mp
  rw [Int32.toBitVec_add, Int32.toBitVec_or]
  apply BitVec.add_eq_or_of_and_eq_zero
  rw [← Int32.toBitVec_and, h]
  rfl
theorem setV_ins (ro wo : Nat → Int32) (r w : Int32) (hw : ¬ w.toInt = 0 ∧ ¬ w.toInt = 1) (n : Nat) (hn : n ≤ 31) : setV ro r n = insV ro wo r w n := by
  induction n with
  | zero => rfl
  | succ n ih =>
    have hc := nI_cl (n := n) (by omega)
    rw [setV_s, insV_s, ← ih (by omega)]
    by_cases c : (ro n).toInt = r.toInt
    · rw [if_pos c, if_neg (by omega), if_neg hw.1, if_neg hw.2]
      refine (add_or ?_).symm
      apply b_ext
      intro i hi
      rw [b_and, b_0, bt_setV ro r n (by omega) hi, bt_shl (by omega) (by omega) hi, hc.1]
      by_cases e : i = n
      · subst e; simp
      · simp [e]
    · rw [if_neg c, if_pos c]
      exact (Int32.add_zero _).symm
/-- the bits of a number, counted one by one -/
def popN : Nat → Nat → Nat
  | 0, _ => 0
  | m + 1, k => popN m k + (if k.testBit m then 1 else 0)
theorem nI_tn (x : Int32) : nI x.toBitVec.toNat = x := Int32.toBitVec_inj.mp (BitVec.eq_of_toNat_eq (pk_tn x.toBitVec.isLt))
theorem tn_us (x s : Int32) (k : Nat) (hs : ((s.toUInt32 &&& Int32.toUInt32 31).toBitVec % 32).toNat = k) : (us32 x s).toBitVec.toNat = x.toBitVec.toNat / 2 ^ k := by
  have hx := x.toBitVec.isLt
  have e : us32 x s = us32 (nI x.toBitVec.toNat) s := by rw [nI_tn]
  rw [e]
  unfold us32
  rw [pk_ushrN hx s k hs, pk_tn (Nat.lt_of_le_of_lt (Nat.div_le_self _ _) hx)]
def bcN (k : Nat) : Nat :=
  let a := (4294967296 - ((k / 2) &&& 1431655765) + k) % 4294967296
  let b := ((a &&& 858993459) + ((a / 4) &&& 858993459)) % 4294967296
  let c := ((b + b / 16) % 4294967296) &&& 252645135
  let d := (c + c / 256) % 4294967296
  let e := (d + d / 65536) % 4294967296
  e &&& 63
theorem tn_add (x y : Int32) : (x + y).toBitVec.toNat = (x.toBitVec.toNat + y.toBitVec.toNat) % 4294967296 := by rw [Int32.toBitVec_add, BitVec.toNat_add]
theorem tn_sub (x y : Int32) : (x - y).toBitVec.toNat = (4294967296 - y.toBitVec.toNat + x.toBitVec.toNat) % 4294967296 := by rw [Int32.toBitVec_sub, BitVec.toNat_sub]
theorem tn_and (x y : Int32) : (x &&& y).toBitVec.toNat = x.toBitVec.toNat &&& y.toBitVec.toNat := by rw [Int32.toBitVec_and, BitVec.toNat_and]
theorem bcf_tn (x : Int32) : (bcf x).toBitVec.toNat = bcN x.toBitVec.toNat := by
  unfold bcf bc5 bc4 bc3 bc2 bc1
  simp only [tn_and, tn_add, tn_sub, tn_us _ 1 1 (by decide), tn_us _ 2 2 (by decide), tn_us _ 4 4 (by decide), tn_us _ 8 8 (by decide), tn_us _ 16 16 (by decide)]
  rfl
set_option maxRecDepth 100000 in
theorem bcN_pop : ∀ a, a < 64 → ∀ b, b < 64 → bcN (64 * a + b) = popN 12 (64 * a + b) := by decide +kernel
theorem bcf_nI {k : Nat} (h : k < 4096) : bcf (nI k) = nI (popN 12 k) := by
  have := bcN_pop (k / 64) (by omega) (k % 64) (by omega)
  rw [show 64 * (k / 64) + k % 64 = k by omega] at this
  rw [← this, ← nI_tn (bcf (nI k)), bcf_tn, pk_tn (by omega)]
theorem bt_nI {k i : Nat} (h : k < 4096) (hi : i < 32) : bt (nI k) i = k.testBit i := by
  show (nI k).toBitVec.getLsbD i = _
  rw [← BitVec.testBit_toNat, pk_tn (by omega)]
/-- how many crates are in the room -/
def cntV (ro : Nat → Int32) (r : Int32) : Nat → Nat
  | 0 => 0
  | n + 1 => cntV ro r n + (if (ro n).toInt = r.toInt then 1 else 0)
theorem cntV_le (ro : Nat → Int32) (r : Int32) (n : Nat) : cntV ro r n ≤ n := by
  induction n with
  | zero => exact Nat.le_refl _
  | succ n ih => unfold cntV; split <;> omega
theorem ins0_cnt (ro wo : Nat → Int32) (r : Int32) (n : Nat) (hn : n ≤ 12) : insV ro wo r 0 n = nI (cntV ro r n) := by
  induction n with
  | zero => rfl
  | succ n ih =>
    have hl := cntV_le ro r n
    rw [insV_s, ih (by omega)]
    show _ = nI (cntV ro r n + (if (ro n).toInt = r.toInt then 1 else 0))
    by_cases c : (ro n).toInt = r.toInt
    · rw [if_neg (by omega), if_pos (by decide), if_pos c]
      unfold nI
      rw [Int32.ofNat_add]
      rfl
    · rw [if_pos c, if_neg c]
      exact Int32.add_zero _
theorem pop_set {ro : Nat → Int32} {r : Int32} {k n : Nat} (hk : ∀ i, i < 12 → k.testBit i = decide (i < n ∧ (ro i).toInt = r.toInt)) (m : Nat) (hm : m ≤ 12) : popN m k = cntV ro r (min m n) := by
  induction m with
  | zero => rw [Nat.zero_min]; rfl
  | succ m ih =>
    unfold popN
    rw [ih (by omega), hk m (by omega)]
    by_cases l : m < n
    · rw [show min (m + 1) n = m + 1 by omega, show min m n = m by omega]
      show _ = cntV ro r m + _
      by_cases c : (ro m).toInt = r.toInt
      · simp [l, c]
      · simp [c]
    · rw [show min (m + 1) n = n by omega, show min m n = n by omega]
      simp [l]
theorem bcf_ins (ro wo : Nat → Int32) (r : Int32) (n : Nat) (hn : n ≤ 12) : bcf (setV ro r n) = insV ro wo r 0 n := by
  have hb := fun i (hi : i < 32) => bt_setV ro r n (by omega) hi
  obtain ⟨k, hk, e⟩ : ∃ k, k < 4096 ∧ setV ro r n = nI k := by
    refine ⟨(setV ro r n).toBitVec.toNat % 4096, Nat.mod_lt _ (by omega), b_ext fun i hi => ?_⟩
    rw [bt_nI (Nat.mod_lt _ (by omega)) hi, show (4096 : Nat) = 2 ^ 12 from rfl, Nat.testBit_mod_two_pow]
    show bt (setV ro r n) i = _
    by_cases l : i < 12
    · simp only [l, decide_true, Bool.true_and]; rfl
    · rw [hb i hi]
      simp [l, show ¬ i < n by omega]
  rw [e, bcf_nI hk, ins0_cnt ro wo r n hn, pop_set (ro := ro) (r := r) (n := n) (fun i hi => by rw [← bt_nI hk (by omega), ← e]; exact hb i (by omega)) 12 (by omega), show min 12 n = n by omega]
theorem move_eq {cn k q : Int32} {wo ro aw iw : Nat → Int32} (h0 : 0 ≤ cn.toInt) (h1 : cn.toInt ≤ 12) : sp_move cn wo ro aw iw k q = sm_move cn wo ro aw iw k q := by
  have hc := i_cl h0
  unfold sp_move sm_move
  rw [bcf_ins ro wo q _ (by omega), woV_ins ro wo q _ (by omega) _ (Nat.le_refl _)]
theorem inside_eq {cn q w : Int32} {wo ro : Nat → Int32} (h0 : 0 ≤ cn.toInt) (h1 : cn.toInt ≤ 12) : sp_inside cn wo ro q w = sm_inside cn wo ro q w := by
  have hc := i_cl h0
  unfold sp_inside sm_inside
  split
  · split
    · rename_i c
      rw [bcf_ins ro wo q _ (by omega), show w = 0 from Int32.toInt_inj.mp c]
    · split
      · rename_i c
        rw [woV_ins ro wo q _ (by omega) _ (Nat.le_refl _), show w = 1 from Int32.toInt_inj.mp c]
      · rename_i c1 c2
        exact setV_ins ro wo q w ⟨c1, c2⟩ _ (by omega)
  · rfl


/-- the days of the holdings -/
def okD (hn : Int32) (hs : Nat → Int32) : Prop := ∀ j : Nat, (j : Int) < hn.toInt → 0 ≤ (hs j).toInt
theorem sp_hold_okD {hn : Int32} {ho hc hp hs : Nat → Int32} {o k q d r hn' : Int32} {ho' hc' hp' hs' : Nat → Int32} (e : (r, hn', ho', hc', hp', hs') = sp_hold hn ho hc hp hs o k q d) (h1 : 0 ≤ hn.toInt) (h2 : hn.toInt ≤ 40) (h3 : okD hn hs) : okD hn' hs' := by
  unfold sp_hold at e
  have ch := i_cl h1
  split at e
  · split at e
    · simp only [Prod.mk.injEq] at e
      obtain ⟨-, rfl, -, -, -, rfl⟩ := e
      exact h3
    · rename_i g1 g2
      have k1 : (1 : Int32).toInt = 1 := rfl
      have t1 : (hn + 1).toInt = hn.toInt + 1 := by rw [i_add (by omega) (by omega), k1]
      simp only [Prod.mk.injEq] at e
      obtain ⟨-, rfl, -, -, -, rfl⟩ := e
      intro j hj
      by_cases hk : j = hn.toNatClampNeg
      · subst hk; rw [upd_s]; omega
      · rw [upd_n _ _ hk]; exact h3 j (by omega)
  · simp only [Prod.mk.injEq] at e
    obtain ⟨-, rfl, -, -, -, rfl⟩ := e
    exact h3
theorem foldH_okD {it : Nat → Int32} {i : Nat} {hn : Int32} {ho hc hp hs : Nat → Int32} (h1 : 0 ≤ hn.toInt) (h2 : hn.toInt ≤ 40) (h3 : okH hn ho hc) (h4 : okD hn hs) (k : Nat) : 0 ≤ (foldH it i hn ho hc hp hs k).2.1.toInt ∧ (foldH it i hn ho hc hp hs k).2.1.toInt ≤ 40 ∧ okH (foldH it i hn ho hc hp hs k).2.1 (foldH it i hn ho hc hp hs k).2.2.1 (foldH it i hn ho hc hp hs k).2.2.2.1 ∧ okD (foldH it i hn ho hc hp hs k).2.1 (foldH it i hn ho hc hp hs k).2.2.2.2.2 := by
  induction k with
  | zero => exact ⟨h1, h2, h3, h4⟩
  | succ k ih =>
    obtain ⟨a1, a2, a3, a4⟩ := ih
    have e : ∀ F : Int32 × Int32 × (Nat → Int32) × (Nat → Int32) × (Nat → Int32) × (Nat → Int32), F = (F.1, F.2.1, F.2.2.1, F.2.2.2.1, F.2.2.2.2.1, F.2.2.2.2.2) := fun F => rfl
    have o1 := sp_hold_ok (e (sp_hold (foldH it i hn ho hc hp hs k).2.1 (foldH it i hn ho hc hp hs k).2.2.1 (foldH it i hn ho hc hp hs k).2.2.2.1 (foldH it i hn ho hc hp hs k).2.2.2.2.1 (foldH it i hn ho hc hp hs k).2.2.2.2.2 (it (i + 4 * k)) (it (i + 4 * k + 1)) (it (i + 4 * k + 2)) (it (i + 4 * k + 3)))).symm a1 a2 a3
    have o2 := sp_hold_okD (e (sp_hold (foldH it i hn ho hc hp hs k).2.1 (foldH it i hn ho hc hp hs k).2.2.1 (foldH it i hn ho hc hp hs k).2.2.2.1 (foldH it i hn ho hc hp hs k).2.2.2.2.1 (foldH it i hn ho hc hp hs k).2.2.2.2.2 (it (i + 4 * k)) (it (i + 4 * k + 1)) (it (i + 4 * k + 2)) (it (i + 4 * k + 3)))).symm a1 a2 a4
    exact ⟨o1.1, o1.2.1, o1.2.2, o2⟩
theorem sp_holds_okD {lf lf' a i n hn r hn' : Int32} {ss ho hc hp hs ho' hc' hp' hs' : Nat → Int32} {rs : Nat → Nat → Int32} (x : (r, lf', hn', ho', hc', hp', hs') = sp_holds lf rs ss hn ho hc hp hs a i n) (h1 : 0 ≤ hn.toInt) (h2 : hn.toInt ≤ 40) (h3 : okH hn ho hc) (h4 : okD hn hs) : okD hn' hs' := by
  unfold sp_holds at x
  have hf := foldH_okD (it := rs a.toNatClampNeg) (i := i.toNatClampNeg) (hp := hp) h1 h2 h3 h4 n.toNatClampNeg
  generalize foldH (rs a.toNatClampNeg) i.toNatClampNeg hn ho hc hp hs n.toNatClampNeg = F at x hf
  obtain ⟨F1, F2, F3, F4, F5, F6⟩ := F
  split at x
  · split at x
    · simp only [Prod.mk.injEq] at x
      obtain ⟨-, -, rfl, -, -, -, rfl⟩ := x
      exact h4
    · split at x
      · simp only [Prod.mk.injEq] at x
        obtain ⟨-, -, rfl, -, -, -, rfl⟩ := x
        exact hf.2.2.2
      · simp only [Prod.mk.injEq] at x
        obtain ⟨-, -, rfl, -, -, -, rfl⟩ := x
        exact h4
  · simp only [Prod.mk.injEq] at x
    obtain ⟨-, -, rfl, -, -, -, rfl⟩ := x
    exact h4
/-- no company has a part of itself -/
def okN (hn : Int32) (ho hc : Nat → Int32) : Prop := ∀ j : Nat, (j : Int) < hn.toInt → ¬ (ho j).toInt = (hc j).toInt
theorem sp_hold_okVN {hn : Int32} {ho hc hp hs : Nat → Int32} {o k q d r hn' : Int32} {ho' hc' hp' hs' : Nat → Int32} (e : (r, hn', ho', hc', hp', hs') = sp_hold hn ho hc hp hs o k q d) (h1 : 0 ≤ hn.toInt) (h2 : hn.toInt ≤ 40) (h3 : okV hn hp ∧ okN hn ho hc) : okV hn' hp' ∧ okN hn' ho' hc' := by
  unfold sp_hold at e
  have ch := i_cl h1
  split at e
  · split at e
    · simp only [Prod.mk.injEq] at e
      obtain ⟨-, rfl, rfl, rfl, rfl, -⟩ := e
      exact h3
    · rename_i g1 g2
      have k1 : (1 : Int32).toInt = 1 := rfl
      have t1 : (hn + 1).toInt = hn.toInt + 1 := by rw [i_add (by omega) (by omega), k1]
      simp only [Prod.mk.injEq] at e
      obtain ⟨-, rfl, rfl, rfl, rfl, -⟩ := e
      refine ⟨fun j hj => ?_, fun j hj => ?_⟩
      · by_cases hk : j = hn.toNatClampNeg
        · subst hk; rw [upd_s]; omega
        · rw [upd_n _ _ hk]; exact h3.1 j (by omega)
      · by_cases hk : j = hn.toNatClampNeg
        · subst hk; rw [upd_s, upd_s]; omega
        · rw [upd_n _ _ hk, upd_n _ _ hk]; exact h3.2 j (by omega)
  · simp only [Prod.mk.injEq] at e
    obtain ⟨-, rfl, rfl, rfl, rfl, -⟩ := e
    exact h3
theorem foldH_okVN {it : Nat → Int32} {i : Nat} {hn : Int32} {ho hc hp hs : Nat → Int32} (h1 : 0 ≤ hn.toInt) (h2 : hn.toInt ≤ 40) (h3 : okH hn ho hc) (h4 : okD hn hs) (h5 : okV hn hp ∧ okN hn ho hc) (k : Nat) : okV (foldH it i hn ho hc hp hs k).2.1 (foldH it i hn ho hc hp hs k).2.2.2.2.1 ∧ okN (foldH it i hn ho hc hp hs k).2.1 (foldH it i hn ho hc hp hs k).2.2.1 (foldH it i hn ho hc hp hs k).2.2.2.1 := by
  induction k with
  | zero => exact h5
  | succ k ih =>
    have a := foldH_okD (it := it) (i := i) (hp := hp) h1 h2 h3 h4 k
    have e : ∀ F : Int32 × Int32 × (Nat → Int32) × (Nat → Int32) × (Nat → Int32) × (Nat → Int32), F = (F.1, F.2.1, F.2.2.1, F.2.2.2.1, F.2.2.2.2.1, F.2.2.2.2.2) := fun F => rfl
    exact sp_hold_okVN (e (sp_hold (foldH it i hn ho hc hp hs k).2.1 (foldH it i hn ho hc hp hs k).2.2.1 (foldH it i hn ho hc hp hs k).2.2.2.1 (foldH it i hn ho hc hp hs k).2.2.2.2.1 (foldH it i hn ho hc hp hs k).2.2.2.2.2 (it (i + 4 * k)) (it (i + 4 * k + 1)) (it (i + 4 * k + 2)) (it (i + 4 * k + 3)))).symm a.1 a.2.1 ih
theorem sp_holds_okVN {lf lf' a i n hn r hn' : Int32} {ss ho hc hp hs ho' hc' hp' hs' : Nat → Int32} {rs : Nat → Nat → Int32} (x : (r, lf', hn', ho', hc', hp', hs') = sp_holds lf rs ss hn ho hc hp hs a i n) (h1 : 0 ≤ hn.toInt) (h2 : hn.toInt ≤ 40) (h3 : okH hn ho hc) (h4 : okD hn hs) (h5 : okV hn hp ∧ okN hn ho hc) : okV hn' hp' ∧ okN hn' ho' hc' := by
  unfold sp_holds at x
  have hf := foldH_okVN (it := rs a.toNatClampNeg) (i := i.toNatClampNeg) h1 h2 h3 h4 h5 n.toNatClampNeg
  generalize foldH (rs a.toNatClampNeg) i.toNatClampNeg hn ho hc hp hs n.toNatClampNeg = F at x hf
  obtain ⟨F1, F2, F3, F4, F5, F6⟩ := F
  split at x
  · split at x
    · simp only [Prod.mk.injEq] at x
      obtain ⟨-, -, rfl, rfl, rfl, rfl, -⟩ := x
      exact h5
    · split at x
      · simp only [Prod.mk.injEq] at x
        obtain ⟨-, -, rfl, rfl, rfl, rfl, -⟩ := x
        exact hf
      · simp only [Prod.mk.injEq] at x
        obtain ⟨-, -, rfl, rfl, rfl, rfl, -⟩ := x
        exact h5
  · simp only [Prod.mk.injEq] at x
    obtain ⟨-, -, rfl, rfl, rfl, rfl, -⟩ := x
    exact h5
theorem pc_bs {ho hc hp hs : Nat → Int32} {d o c : Int32} (n : Nat) (hn : n ≤ 40) (hd : ∀ j, j < n → 0 ≤ (hs j).toInt) : ((bsV ho hc hs d o c n).toInt = -1000000 ∧ pcV ho hc hp hs d o c n = (0, 0)) ∨ (0 ≤ (bsV ho hc hs d o c n).toInt ∧ pcV ho hc hp hs d o c n = (hp (bsV ho hc hs d o c n).toNatClampNeg, hs (bsV ho hc hs d o c n).toNatClampNeg)) := by
  induction n with
  | zero => exact Or.inl ⟨rfl, rfl⟩
  | succ n ih =>
    have ih := ih (by omega) (fun j hj => hd j (by omega))
    have h0 := hd n (by omega)
    have hc9 := nI_cl (n := n) (by omega)
    have k0 : (0 : Int32).toInt = 0 := rfl
    rw [bsV_s, pcV_s]
    rcases ih with ⟨b1, b2⟩ | ⟨b1, b2⟩
    · rw [b2]
      by_cases q : (ho n).toInt = o.toInt ∧ (hc n).toInt = c.toInt ∧ (hs n).toInt ≤ d.toInt
      · rw [if_pos ⟨q.1, q.2.1, q.2.2, Or.inl b1⟩, if_pos ⟨q.1, q.2.1, q.2.2, by show (0 : Int32).toInt ≤ _; omega⟩, hc9.1]
        exact Or.inr ⟨by omega, rfl⟩
      · rw [if_neg (fun z => q ⟨z.1, z.2.1, z.2.2.1⟩), if_neg (fun z => q ⟨z.1, z.2.1, z.2.2.1⟩)]
        exact Or.inl ⟨b1, rfl⟩
    · rw [b2]
      by_cases q : (ho n).toInt = o.toInt ∧ (hc n).toInt = c.toInt ∧ (hs n).toInt ≤ d.toInt ∧ (hs (bsV ho hc hs d o c n).toNatClampNeg).toInt ≤ (hs n).toInt
      · rw [if_pos ⟨q.1, q.2.1, q.2.2.1, Or.inr q.2.2.2⟩, if_pos q, hc9.1]
        exact Or.inr ⟨by omega, rfl⟩
      · rw [if_neg (fun z => q ⟨z.1, z.2.1, z.2.2.1, by rcases z.2.2.2 with z | z <;> omega⟩), if_neg q]
        exact Or.inr ⟨b1, rfl⟩
theorem pm_pc {ho hc hp hs : Nat → Int32} {d o c : Int32} (n : Nat) (hn : n ≤ 40) (hd : ∀ j, j < n → 0 ≤ (hs j).toInt) : pmV ho hc hp hs d o c n = (pcV ho hc hp hs d o c n).1 := by
  unfold pmV
  rcases pc_bs (ho := ho) (hc := hc) (hp := hp) (d := d) (o := o) (c := c) n hn hd with ⟨b1, b2⟩ | ⟨b1, b2⟩
  · rw [if_pos b1, b2]
  · rw [if_neg (by omega), b2]
theorem percent_eq {hn o k d : Int32} {ho hc hp hs : Nat → Int32} (h1 : 0 ≤ hn.toInt) (h2 : hn.toInt ≤ 40) (h3 : okD hn hs) : sp_percent hn ho hc hp hs o k d = sm_percent hn ho hc hp hs o k d := by
  have ch := i_cl h1
  unfold sp_percent sm_percent
  rw [pm_pc _ (by omega) (fun j hj => h3 j (by omega))]


/-- the marks of the openings -/
def okU (un : Int32) (um : Nat → Int32) : Prop := ∀ j : Nat, (j : Int) < un.toInt → 0 ≤ (um j).toInt ∧ (um j).toInt ≤ 255
theorem sp_opened_okU {un un' cn k d w q r : Int32} {uk uy uw um uk' uy' uw' um' : Nat → Int32} (e : (r, un', uk', uy', uw', um') = sp_opened un uk uy uw um cn k d w q) (h1 : 0 ≤ un.toInt) (h2 : un.toInt ≤ 60) (h3 : okU un um) : okU un' um' := by
  unfold sp_opened at e
  have ch := i_cl h1
  split at e
  · split at e
    · simp only [Prod.mk.injEq] at e
      obtain ⟨-, rfl, -, -, -, rfl⟩ := e
      exact h3
    · rename_i g1 g2
      have k1 : (1 : Int32).toInt = 1 := rfl
      have t1 : (un + 1).toInt = un.toInt + 1 := by rw [i_add (by omega) (by omega), k1]
      simp only [Prod.mk.injEq] at e
      obtain ⟨-, rfl, -, -, -, rfl⟩ := e
      intro j hj
      by_cases hk : j = un.toNatClampNeg
      · subst hk; rw [upd_s]; omega
      · rw [upd_n _ _ hk]; exact h3 j (by omega)
  · simp only [Prod.mk.injEq] at e
    obtain ⟨-, rfl, -, -, -, rfl⟩ := e
    exact h3
theorem fi_on (uk uy : Nat → Int32) (k : Int32) (n : Nat) (hn : n ≤ 60) : ((fiV uk uy k n).toInt = -1 ∧ (onV uk uy k n).toInt = -1000000 ∧ ∀ j, j < n → ¬ (uk j).toInt = k.toInt) ∨ (fiV uk uy k n = onV uk uy k n ∧ 0 ≤ (fiV uk uy k n).toInt ∧ (fiV uk uy k n).toInt < n) := by
  induction n with
  | zero => exact Or.inl ⟨rfl, rfl, fun j hj => absurd hj (by omega)⟩
  | succ n ih =>
    have ih := ih (by omega)
    have hc := nI_cl (n := n) (by omega)
    rw [fiV_s, onV_s]
    by_cases c : (uk n).toInt = k.toInt
    · rcases ih with ⟨a1, a2, a3⟩ | ⟨a1, a2, a3⟩
      · rw [if_pos ⟨c, Or.inl (by omega)⟩, if_pos ⟨c, Or.inl a2⟩]
        exact Or.inr ⟨rfl, by omega, by omega⟩
      · rw [← a1]
        by_cases q : (uy n).toInt < (uy (fiV uk uy k n).toNatClampNeg).toInt
        · rw [if_pos ⟨c, Or.inr q⟩, if_pos ⟨c, Or.inr q⟩]
          exact Or.inr ⟨rfl, by omega, by omega⟩
        · rw [if_neg (fun z => by rcases z.2 with z | z <;> omega), if_neg (fun z => by rcases z.2 with z | z <;> omega)]
          exact Or.inr ⟨rfl, by omega, by omega⟩
    · rw [if_neg (fun z => c z.1), if_neg (fun z => c z.1)]
      rcases ih with ⟨a1, a2, a3⟩ | ⟨a1, a2, a3⟩
      · refine Or.inl ⟨a1, a2, fun j hj => ?_⟩
        by_cases e : j = n
        · rw [e]; exact c
        · exact a3 j (by omega)
      · exact Or.inr ⟨a1, a2, by omega⟩
theorem bm_bc : ∀ k, k < 256 → bmV (nI k) 12 = bcf (nI k) := by decide +kernel
theorem bc_nn : ∀ k, k < 256 → 0 ≤ (bcf (nI k)).toInt := by decide +kernel
theorem and255 {x : Int32} (y : Int32) (h0 : 0 ≤ x.toInt) (h1 : x.toInt ≤ 255) : ∃ k, k < 256 ∧ x &&& y = nI k := by
  have hc := i_cl h0
  have e : (nI x.toNatClampNeg).toBitVec.toNat = x.toNatClampNeg := pk_tn (by omega)
  rw [i_nI h0] at e
  have h2 := Nat.and_le_left (n := x.toBitVec.toNat) (m := y.toBitVec.toNat)
  exact ⟨(x &&& y).toBitVec.toNat, by rw [tn_and]; omega, (nI_tn _).symm⟩
theorem cv_cm {far mis : Int32} (h : 0 ≤ mis.toInt) : cvF far mis = cmF far mis := by
  unfold cvF cmF
  (repeat' split) <;> first | rfl | (exfalso; omega)
theorem and_not (m : Int32) : m &&& (m ^^^ (-1)) = 0 := by
  apply b_ext
  intro i hi
  rw [b_and, b_xor, b_m1 i hi, b_0]
  cases bt m i <;> rfl
theorem cm_self (uw um : Nat → Int32) (f : Nat) : cmV uw um f f = 0 := by
  unfold cmV
  rw [Int32.sub_self, and_not]
  decide +kernel
theorem cmF_rng (a b : Int32) : 0 ≤ (cmF a b).toInt := by
  unfold cmF
  (repeat' split) <;> decide
theorem wrsV_rng (uk uw um : Nat → Int32) (k : Int32) (f n : Nat) : 0 ≤ (wrsV uk uw um k f n).toInt := by
  induction n with
  | zero => exact (by decide : (0 : Int) ≤ (0 : Int32).toInt)
  | succ n ih =>
    rw [wrsV_s]
    split
    · have h9 := cmF_rng (absV (uw n - uw f)) (bcf (um f &&& (um n ^^^ (-1))))
      unfold maxV
      split
      · exact h9
      · exact ih
    · exact ih
theorem ws_wm {uk uw um : Nat → Int32} {k o : Int32} {N : Nat} (h0 : 0 ≤ o.toInt) (h1 : o.toInt < N) (hu : ∀ j, j < N → 0 ≤ (um j).toInt ∧ (um j).toInt ≤ 255) (n : Nat) (hn : n ≤ N) : wrsV uk uw um k o.toNatClampNeg n = wmV uk uw um k o n := by
  have hc := i_cl h0
  induction n with
  | zero => rfl
  | succ n ih =>
    have ih := ih (by omega)
    rw [wrsV_s, wmV_s, ← ih]
    by_cases c : (uk n).toInt = k.toInt
    · rw [if_pos c]
      by_cases e : n = o.toNatClampNeg
      · rw [if_neg (by omega), e, cm_self]
        exact (maxV_f (by have h9 := wrsV_rng uk uw um k o.toNatClampNeg o.toNatClampNeg; have k0 : (0 : Int32).toInt = 0 := rfl; omega)).symm
      · rw [if_pos ⟨c, by omega⟩]
        obtain ⟨b, hb, eb⟩ := and255 (x := um o.toNatClampNeg) (um n ^^^ (-1)) (hu _ (by omega)).1 (hu _ (by omega)).2
        unfold cmV
        rw [eb, bm_bc b hb, cv_cm (bc_nn b hb)]
    · rw [if_neg c, if_neg (fun z => c z.1)]
theorem wm_0 {uk uw um : Nat → Int32} {k o : Int32} (n : Nat) (h : ∀ j, j < n → ¬ (uk j).toInt = k.toInt) : wmV uk uw um k o n = 0 := by
  induction n with
  | zero => rfl
  | succ n ih =>
    rw [wmV_s, if_neg (fun z => h n (by omega) z.1)]
    exact ih (fun j hj => h j (by omega))
theorem verdict_eq {cn un k : Int32} {uk uy uw um : Nat → Int32} (h0 : 0 ≤ un.toInt) (h1 : un.toInt ≤ 60) (hu : okU un um) : sp_verdict cn un uk uy uw um k = sm_verdict cn un uk uy uw um k := by
  have cu := i_cl h0
  unfold sp_verdict sm_verdict vdV
  rcases fi_on uk uy k un.toNatClampNeg (by omega) with ⟨a1, a2, a3⟩ | ⟨a1, a2, a3⟩
  · rw [if_pos (show (fiV uk uy k un.toNatClampNeg).toInt < 0 by omega), wm_0 _ a3]
  · rw [if_neg (show ¬ (fiV uk uy k un.toNatClampNeg).toInt < 0 by omega), ← a1, ws_wm (N := un.toNatClampNeg) a2 (by omega) (fun j hj => hu j (by omega)) _ (Nat.le_refl _)]
end

section
def R_law : String := "PortRoomsLaw"
def lw_P (b : Addr) (xs : List Int32) (args : Array Value) (s : State) : Prop := args = #[.ref b] ∧ s.IntsAt b xs ∧ xs.length ≤ 3073 ∧ (Jvm.Cond.and given_1 narrow_1).before args s = true
def lw_Q (_ : Array Value) (s : State) (o : Outcome) (t : State) : Prop := o = .returned (some (.int 1)) ∧ Framed s o t [] 600000 7302250
def lw_Z (below : List Frame) (a : Array Value) (s : State) : State → Prop := fun t => ∃ o, t.status = .running ∧ Ended t below o ∧ lw_Q a s o t
/-- the law's own end, with 1 on the stack, nothing written that was there before, its room as the claim has it -/
theorem lw_ret {p : Program} {l : Launch} {e : Env} {s : State} {m : MethodId} {below : List Frame} {meth : Method} {c : Code} {b : Nat} (hx : p.tables.exec = Jvm.exec) (hb : c.code = code) (hr : meth.sig.returnType = ret) (hlocks : meth.locks = false) {pc : Nat} {H : Heap} {ls : Array Slot} (hdg : decode code pc = .ok (.ireturn, 1)) : W p l e room_1 s m #[Value.ref b] below meth c H [] 600000 7302250 (lw_Z below #[Value.ref b] s) (F0 m pc ls [.int 1]) := by
  intro T hT X
  obtain ⟨fs, hret, hrun, hended, hW, hframe⟩ := X.leave (v := some (.int 1)) (hlocks := hlocks) (fun h => by rw [hr] at h; cases h)
  have hmeth' : T.vm.method? m = some meth := X.method'
  refine ⟨T.setFrames fs, ?_, .returned (some (.int 1)), hrun, hended, rfl, ⟨_, rfl⟩, hW, hframe⟩
  jvm_step X.here [X.here.top, hx, hb, hdg, hmeth', hr, ret, narrow_b1]
  (try refine ⟨rfl, ?_⟩); (try refine ⟨rfl, ?_⟩)
  first | (intro acts; rw [hret _ acts rfl rfl rfl]) | rw [hret _ _ rfl rfl rfl]
  exact Steps.refl _
/-- what holds at the law's entry: the machine, the code, the tables' words (any of lw_tbl by 'hts w (by decide +kernel)'), the script of L ints xs at the cell b, what the Statement gives of the start (any of its parts by flat_of_before) -/
def lw_At (p : Program) (s : State) (m : MethodId) (meth : Method) (c : Code) (b L : Nat) (xs : Nat → Int32) : Prop :=
  p.tables.exec = Jvm.exec ∧ c.code = code ∧ meth.sig.returnType = ret ∧ c.maxLocals = 4 ∧ s.vm.findClass R_law = some m.cls ∧ (∀ w ∈ lw_tbl, w.before #[Value.ref b] s = true) ∧ va_X b L xs s s.heap ∧ b < s.heap.size ∧ meth.locks = false ∧ (Jvm.Cond.and given_1 narrow_1).before #[Value.ref b] s = true
end

section

theorem lt3_trans {pd pe : Nat → Int32} {x y z : Nat} (h1 : lt3 pd pe x y) (h2 : lt3 pd pe y z) : lt3 pd pe x z := by
  unfold lt3 at *
  omega
theorem lt3_irr {pd pe : Nat → Int32} {x : Nat} : ¬ lt3 pd pe x x := by
  unfold lt3
  omega
theorem nxV_spec (pk pd pe : Nat → Int32) (k n : Int32) (met : Int64) (m : Nat) (hm : m ≤ 40) : ((nxV pk pd pe k n met m).toInt = -1000000 ∧ ∀ y, y < m → (pk y).toInt = k.toInt → (pe y).toInt ≤ n.toInt → btL met y = true) ∨ (∃ z, z < m ∧ nxV pk pd pe k n met m = nI z ∧ (pk z).toInt = k.toInt ∧ (pe z).toInt ≤ n.toInt ∧ btL met z = false ∧ ∀ y, y < m → y ≠ z → (pk y).toInt = k.toInt → (pe y).toInt ≤ n.toInt → btL met y = false → lt3 pd pe z y) := by
  induction m with
  | zero => exact Or.inl ⟨rfl, fun y hy => absurd hy (by omega)⟩
  | succ m ih =>
    have ih := ih (by omega)
    rw [nxV_s]
    by_cases r : (pk m).toInt = k.toInt ∧ (pe m).toInt ≤ n.toInt ∧ btL met m = false
    · rcases ih with ⟨b1, b2⟩ | ⟨z, hz, b1, b2, b3, b4, b5⟩
      · rw [if_pos ⟨r.1, r.2.1, r.2.2, Or.inl b1⟩]
        refine Or.inr ⟨m, by omega, rfl, r.1, r.2.1, r.2.2, fun y hy hne q1 q2 q3 => ?_⟩
        have q9 := b2 y (by omega) q1 q2
        rw [q3] at q9
        cases q9
      · have hcz := nI_cl (n := z) (by omega)
        by_cases q : (pd m).toInt < (pd z).toInt ∨ ((pd m).toInt = (pd z).toInt ∧ (pe m).toInt < (pe z).toInt)
        · rw [b1, hcz.1, if_pos ⟨r.1, r.2.1, r.2.2, Or.inr q⟩]
          refine Or.inr ⟨m, by omega, rfl, r.1, r.2.1, r.2.2, fun y hy hne q1 q2 q3 => ?_⟩
          have hmz : lt3 pd pe m z := by
            unfold lt3
            omega
          by_cases e : y = z
          · rw [e]; exact hmz
          · exact lt3_trans hmz (b5 y (by omega) e q1 q2 q3)
        · rw [b1, hcz.1, if_neg (fun w => by rcases w.2.2.2 with w | w <;> omega)]
          refine Or.inr ⟨z, by omega, rfl, b2, b3, b4, fun y hy hne q1 q2 q3 => ?_⟩
          by_cases e : y = m
          · rw [e]
            unfold lt3
            omega
          · exact b5 y (by omega) hne q1 q2 q3
    · rw [if_neg (fun w => r ⟨w.1, w.2.1, w.2.2.1⟩)]
      rcases ih with ⟨b1, b2⟩ | ⟨z, hz, b1, b2, b3, b4, b5⟩
      · refine Or.inl ⟨b1, fun y hy q1 q2 => ?_⟩
        by_cases e : y = m
        · rw [e] at q1 q2 ⊢
          cases h : btL met m with
          | true => rfl
          | false => exact (r ⟨q1, q2, h⟩).elim
        · exact b2 y (by omega) q1 q2
      · refine Or.inr ⟨z, by omega, b1, b2, b3, b4, fun y hy hne q1 q2 q3 => ?_⟩
        by_cases e : y = m
        · rw [e] at q1 q2 q3
          exact (r ⟨q1, q2, q3⟩).elim
        · exact b5 y (by omega) hne q1 q2 q3
theorem oo_ow {pk pf po pd pe pr : Nat → Int32} {pn k d n x : Int32} (h0 : 0 ≤ pn.toInt) (h1 : pn.toInt ≤ 40) (ho : okO pn pr) (hw : okW pn pr pd pe) (c : Nat) : ∀ (j f : Nat) (met : Int64) (w t q : Int32), j + c = pn.toNatClampNeg → c ≤ f → (∀ y, y < pn.toNatClampNeg → (pk y).toInt = k.toInt → (pe y).toInt ≤ n.toInt → (btL met y = true ↔ ∃ i, i < j ∧ (pr i).toNatClampNeg = y)) → (w, q) = ngV pk pf po pe pr k n x j → t = owV pk pf po pd pe pr k d n x j → ((∀ i, i < j → (pk (pr i).toNatClampNeg).toInt = k.toInt → (pe (pr i).toNatClampNeg).toInt ≤ n.toInt → (pd (pr i).toNatClampNeg).toInt ≤ d.toInt) → w = t) → ooV pk pf po pd pe pn.toNatClampNeg k d n f met w t q = (owV pk pf po pd pe pr k d n x pn.toNatClampNeg, (ngV pk pf po pe pr k n x pn.toNatClampNeg).2) := by
  have cp := i_cl h0
  induction c with
  | zero =>
    intro j f met w t q hj hf hm hng how heq
    have ej : pn.toNatClampNeg = j := by omega
    have hend : ooV pk pf po pd pe pn.toNatClampNeg k d n f met w t q = (t, q) := by
      cases f with
      | zero => rfl
      | succ f =>
        rw [ooV_s]
        rcases nxV_spec pk pd pe k n met pn.toNatClampNeg (by omega) with ⟨b1, -⟩ | ⟨z, hz, -, b2, b3, b4, -⟩
        · rw [if_pos b1]
        · exfalso
          obtain ⟨i, hi, e⟩ := hw.2 z (by omega)
          have q9 := (hm z hz b2 b3).mpr ⟨i, by omega, e⟩
          rw [b4] at q9
          cases q9
    rw [hend, ej, ← hng, ← how]
  | succ c ih =>
    intro j f met w t q hj hf hm hng how heq
    have hjn : (j : Int) < pn.toInt := by omega
    have hx := ho j hjn
    have hcx := i_cl hx.1
    have hX : (pr j).toNatClampNeg < pn.toNatClampNeg := by omega
    by_cases rel : (pk (pr j).toNatClampNeg).toInt = k.toInt ∧ (pe (pr j).toNatClampNeg).toInt ≤ n.toInt
    · obtain ⟨f, rfl⟩ : ∃ f', f = f' + 1 := ⟨f - 1, by omega⟩
      have unmet : btL met (pr j).toNatClampNeg = false := by
        cases hb : btL met (pr j).toNatClampNeg with
        | false => rfl
        | true =>
          obtain ⟨i, hi, e⟩ := (hm (pr j).toNatClampNeg hX rel.1 rel.2).mp hb
          have q9 := hw.1 i j hi hjn
          rw [e] at q9
          exact absurd q9 lt3_irr
      have hnx : nxV pk pd pe k n met pn.toNatClampNeg = pr j := by
        rcases nxV_spec pk pd pe k n met pn.toNatClampNeg (by omega) with ⟨b1, b2⟩ | ⟨z, hz, b1, b2, b3, b4, b5⟩
        · have q9 := b2 (pr j).toNatClampNeg hX rel.1 rel.2
          rw [unmet] at q9
          cases q9
        · have ez : z = (pr j).toNatClampNeg := by
            apply Decidable.byContradiction
            intro hne
            have l1 := b5 (pr j).toNatClampNeg hX (fun h => hne h.symm) rel.1 rel.2 unmet
            obtain ⟨i, hi, e⟩ := hw.2 z (by omega)
            have hnm : ¬ i < j := fun h => by
              have q9 := (hm z hz b2 b3).mpr ⟨i, h, e⟩
              rw [b4] at q9
              cases q9
            have hij : i ≠ j := fun h => hne (by rw [← e, h])
            have l2 := hw.1 j i (by omega) hi
            rw [e] at l2
            exact lt3_irr (lt3_trans l1 l2)
          rw [b1, ez]
          exact i_nI hx.1
      have nj : ¬ (pr j).toInt = -1000000 := by omega
      rw [ooV_s, hnx, if_neg nj]
      have hm' : ∀ y, y < pn.toNatClampNeg → (pk y).toInt = k.toInt → (pe y).toInt ≤ n.toInt → (btL (met ||| ((1 : Int64) <<< ((pr j).toInt64 &&& 63))) y = true ↔ ∃ i, i < j + 1 ∧ (pr i).toNatClampNeg = y) := by
        intro y hy q1 q2
        rw [btL_set hx.1 (by omega) (by omega), Bool.or_eq_true, hm y hy q1 q2, decide_eq_true_iff]
        constructor
        · rintro (⟨i, hi, e⟩ | e)
          · exact ⟨i, by omega, e⟩
          · exact ⟨j, by omega, e.symm⟩
        · rintro ⟨i, hi, e⟩
          by_cases ei : i = j
          · exact Or.inr (by rw [← e, ei])
          · exact Or.inl ⟨i, by omega, e⟩
      have ngs := ngV_s pk pf po pe pr k n x j
      rw [if_pos rel, ← hng] at ngs
      dsimp only at ngs
      have ows := owV_s pk pf po pd pe pr k d n x j
      rw [← how] at ows
      have hle : ∀ i, i < j → (pd (pr i).toNatClampNeg).toInt ≤ (pd (pr j).toNatClampNeg).toInt := fun i hi => by
        have q9 := hw.1 i j hi hjn
        unfold lt3 at q9
        omega
      by_cases dd : (pd (pr j).toNatClampNeg).toInt ≤ d.toInt
      · have ewt : w = t := heq (fun i hi _ _ => by have q9 := hle i hi; omega)
        by_cases pf1 : (pf (pr j).toNatClampNeg).toInt = w.toInt
        · rw [if_pos pf1] at ngs
          rw [if_pos pf1, if_pos dd]
          rw [if_pos ⟨rel.1, rel.2, dd, by rw [← ewt]; exact pf1⟩] at ows
          exact ih (j + 1) f _ _ _ _ (by omega) (by omega) hm' ngs.symm ows.symm (fun _ => rfl)
        · rw [if_neg pf1] at ngs
          rw [if_neg pf1]
          rw [if_neg (fun z => pf1 (by rw [ewt]; exact z.2.2.2))] at ows
          exact ih (j + 1) f _ _ _ _ (by omega) (by omega) hm' ngs.symm ows.symm (fun _ => ewt)
      · rw [if_neg (fun z => dd z.2.2.1)] at ows
        by_cases pf1 : (pf (pr j).toNatClampNeg).toInt = w.toInt
        · rw [if_pos pf1] at ngs
          rw [if_pos pf1, if_neg dd]
          exact ih (j + 1) f _ _ _ _ (by omega) (by omega) hm' ngs.symm ows.symm (fun hh => absurd (hh j (by omega) rel.1 rel.2) dd)
        · rw [if_neg pf1] at ngs
          rw [if_neg pf1]
          exact ih (j + 1) f _ _ _ _ (by omega) (by omega) hm' ngs.symm ows.symm (fun hh => absurd (hh j (by omega) rel.1 rel.2) dd)
    · have ng1 : ngV pk pf po pe pr k n x (j + 1) = ngV pk pf po pe pr k n x j := by rw [ngV_s, if_neg rel]
      have ow1 : owV pk pf po pd pe pr k d n x (j + 1) = owV pk pf po pd pe pr k d n x j := by rw [owV_s, if_neg (fun z => rel ⟨z.1, z.2.1⟩)]
      refine ih (j + 1) f met w t q (by omega) (by omega) (fun y hy q1 q2 => ?_) (by rw [ng1]; exact hng) (by rw [ow1]; exact how) (fun hh => heq (fun i hi => hh i (by omega)))
      rw [hm y hy q1 q2]
      constructor
      · rintro ⟨i, hi, e⟩
        exact ⟨i, by omega, e⟩
      · rintro ⟨i, hi, e⟩
        by_cases ei : i = j
        · rw [ei] at e
          exact (rel ⟨by rw [e]; exact q1, by rw [e]; exact q2⟩).elim
        · exact ⟨i, by omega, e⟩
theorem oo_all {fo pk pf po pd pe pr : Nat → Int32} {pn k d n : Int32} (h0 : 0 ≤ pn.toInt) (h1 : pn.toInt ≤ 40) (ho : okO pn pr) (hw : okW pn pr pd pe) : ooV pk pf po pd pe pn.toNatClampNeg k d n 41 0 (fo k.toNatClampNeg) (fo k.toNatClampNeg) 0 = (owV pk pf po pd pe pr k d n (fo k.toNatClampNeg) pn.toNatClampNeg, (ngV pk pf po pe pr k n (fo k.toNatClampNeg) pn.toNatClampNeg).2) :=
  oo_ow h0 h1 ho hw pn.toNatClampNeg 0 41 0 (fo k.toNatClampNeg) (fo k.toNatClampNeg) 0 (by omega) (by have := i_cl h0; omega) (fun y hy q1 q2 => ⟨fun h => absurd h (by rw [bL_0]; decide), fun h => by obtain ⟨i, hi, -⟩ := h; omega⟩) rfl rfl (fun _ => rfl)
theorem owner_eq {cn pn k d n : Int32} {fo pk pf po pd pe pr : Nat → Int32} (h0 : 0 ≤ pn.toInt) (h1 : pn.toInt ≤ 40) (ho : okO pn pr) (hw : okW pn pr pd pe) : sp_owner cn pn fo pk pf po pd pe pr k d n = sm_owner cn pn fo pk pf po pd pe k d n := by
  unfold sp_owner sm_owner
  rw [oo_all (fo := fo) h0 h1 ho hw]
theorem quarrels_eq {cn pn k n : Int32} {fo pk pf po pd pe pr : Nat → Int32} (h0 : 0 ≤ pn.toInt) (h1 : pn.toInt ≤ 40) (ho : okO pn pr) (hw : okW pn pr pd pe) : sp_quarrels cn pn fo pk pf po pe pr k n = sm_quarrels cn pn fo pk pf po pd pe k n := by
  unfold sp_quarrels sm_quarrels
  rw [oo_all (fo := fo) h0 h1 ho hw]
end

section

/-- how many below n -/
def cntP (P : Nat → Bool) : Nat → Nat
  | 0 => 0
  | n + 1 => cntP P n + (if P n = true then 1 else 0)
theorem cntP_s (P : Nat → Bool) (n : Nat) : cntP P (n + 1) = cntP P n + (if P n = true then 1 else 0) := rfl
theorem cntP_bd (P : Nat → Bool) (n : Nat) : cntP P n ≤ n := by
  induction n with
  | zero => exact Nat.le_refl _
  | succ n ih =>
    rw [cntP_s]
    split <;> omega
theorem cntP_le {P Q : Nat → Bool} (n : Nat) (h : ∀ i, i < n → P i = true → Q i = true) : cntP P n ≤ cntP Q n := by
  induction n with
  | zero => exact Nat.le_refl _
  | succ n ih =>
    have ih := ih (fun i hi => h i (by omega))
    have hn := h n (by omega)
    rw [cntP_s, cntP_s]
    by_cases hp : P n = true
    · rw [if_pos hp, if_pos (hn hp)]; omega
    · rw [if_neg hp]; split <;> omega
theorem cntP_lt {P Q : Nat → Bool} {c : Nat} (q : Q c = true) (p : P c = false) (n : Nat) (hc : c < n) (h : ∀ i, i < n → P i = true → Q i = true) : cntP P n < cntP Q n := by
  induction n with
  | zero => exact absurd hc (by omega)
  | succ n ih =>
    rw [cntP_s, cntP_s]
    by_cases e : c = n
    · subst e
      have h9 := cntP_le c (fun i hi => h i (by omega))
      rw [if_neg (show ¬ P c = true by rw [p]; decide), if_pos q]
      omega
    · have ih := ih (by omega) (fun i hi => h i (by omega))
      have hn := h n (by omega)
      by_cases hp : P n = true
      · rw [if_pos hp, if_pos (hn hp)]; omega
      · rw [if_neg hp]; split <;> omega
theorem nb_cnt (x : Int32) (n : Nat) : nb x n = cntP (fun i => bt x i) n := by
  induction n with
  | zero => rfl
  | succ n ih =>
    rw [cntP_s, ← ih]
    rfl
/-- one lot stands ahead of another -/
abbrev ltL (lo : Nat → Int64) (x y : Nat) : Prop := (lo x).toInt < (lo y).toInt ∨ ((lo x).toInt = (lo y).toInt ∧ x < y)
theorem bdV_spec (ro : Nat → Int32) (lo : Nat → Int64) (set : Int32) (m : Nat) (hm : m ≤ 12) : ((bdV ro lo set m).toInt = -1000000 ∧ ∀ y, y < m → ¬ (ro y).toInt = -1000000 → bt set y = true) ∨ (∃ z, z < m ∧ bdV ro lo set m = nI z ∧ ¬ (ro z).toInt = -1000000 ∧ bt set z = false ∧ ∀ y, y < m → y ≠ z → ¬ (ro y).toInt = -1000000 → bt set y = false → ltL lo z y) := by
  induction m with
  | zero => exact Or.inl ⟨rfl, fun y hy => absurd hy (by omega)⟩
  | succ m ih =>
    have ih := ih (by omega)
    rw [bdV_s]
    by_cases r : ¬ (ro m).toInt = -1000000 ∧ bt set m = false
    · rcases ih with ⟨b1, b2⟩ | ⟨z, hz, b1, b2, b3, b4⟩
      · rw [if_pos ⟨r.1, r.2, Or.inl b1⟩]
        refine Or.inr ⟨m, by omega, rfl, r.1, r.2, fun y hy hne q1 q2 => ?_⟩
        have q9 := b2 y (by omega) q1
        rw [q2] at q9
        cases q9
      · have hcz := nI_cl (n := z) (by omega)
        by_cases q : (lo m).toInt < (lo z).toInt
        · rw [b1, hcz.1, if_pos ⟨r.1, r.2, Or.inr q⟩]
          refine Or.inr ⟨m, by omega, rfl, r.1, r.2, fun y hy hne q1 q2 => ?_⟩
          by_cases e : y = z
          · rw [e]; exact Or.inl q
          · have h9 := b4 y (by omega) e q1 q2
            omega
        · rw [b1, hcz.1, if_neg (fun w => by rcases w.2.2 with w | w <;> omega)]
          refine Or.inr ⟨z, by omega, rfl, b2, b3, fun y hy hne q1 q2 => ?_⟩
          by_cases e : y = m
          · rw [e]; omega
          · exact b4 y (by omega) hne q1 q2
    · rw [if_neg (fun w => r ⟨w.1, w.2.1⟩)]
      rcases ih with ⟨b1, b2⟩ | ⟨z, hz, b1, b2, b3, b4⟩
      · refine Or.inl ⟨b1, fun y hy q1 => ?_⟩
        by_cases e : y = m
        · rw [e] at q1 ⊢
          cases h : bt set m with
          | true => rfl
          | false => exact (r ⟨q1, h⟩).elim
        · exact b2 y (by omega) q1
      · refine Or.inr ⟨z, by omega, b1, b2, b3, fun y hy hne q1 q2 => ?_⟩
        by_cases e : y = m
        · rw [e] at q1 q2
          exact (r ⟨q1, q2⟩).elim
        · exact b4 y (by omega) hne q1 q2
theorem or_z (x : Int32) : x ||| 0 = x := by
  apply b_ext
  intro i hi
  rw [b_or, b_0, Bool.or_false]
theorem dm_inv (ro : Nat → Int32) (lo : Nat → Int64) (cn : Nat) (hc : cn ≤ 12) (k : Nat) : (∀ i, i < 32 → bt (dmV ro lo cn k) i = true → i < cn ∧ ¬ (ro i).toInt = -1000000) ∧ (∀ x y, x < cn → ¬ (ro x).toInt = -1000000 → y < 32 → ltL lo x y → bt (dmV ro lo cn k) y = true → bt (dmV ro lo cn k) x = true) ∧ nb (dmV ro lo cn k) 12 ≤ k ∧ (nb (dmV ro lo cn k) 12 = k ∨ ∀ x, x < cn → ¬ (ro x).toInt = -1000000 → bt (dmV ro lo cn k) x = true) := by
  induction k with
  | zero =>
    have e : dmV ro lo cn 0 = 0 := rfl
    rw [e, nb_0]
    exact ⟨fun i hi h => absurd h (by rw [b_0]; decide), fun x y _ _ _ _ h => absurd h (by rw [b_0]; decide), Nat.le_refl _, Or.inl rfl⟩
  | succ k ih =>
    rw [dmV_s]
    generalize dmV ro lo cn k = set at ih ⊢
    obtain ⟨i1, i2, i3, i4⟩ := ih
    rcases bdV_spec ro lo set cn hc with ⟨b1, b2⟩ | ⟨z, hz, b1, b2, b3, b4⟩
    · rw [if_pos b1, or_z]
      exact ⟨i1, i2, by omega, Or.inr b2⟩
    · have hcz := nI_cl (n := z) (by omega)
      have hb : ∀ i, i < 32 → bt (set ||| ((1 : Int32) <<< (nI z &&& 31))) i = (bt set i || decide (i = z)) := fun i hi => by rw [bt_set (by omega) (by omega) hi, hcz.1]
      rw [b1, if_neg (by omega)]
      generalize set ||| ((1 : Int32) <<< (nI z &&& 31)) = set' at hb ⊢
      have hz' : bt set' z = true := by rw [hb z (by omega), decide_eq_true rfl, Bool.or_true]
      have hne : ∀ i, i < 32 → i ≠ z → bt set' i = bt set i := fun i hi h => by rw [hb i hi, decide_eq_false h, Bool.or_false]
      have hcnt := nb_flip (x := set) (y := set') (k := z) b3 hz' 12 (by omega) (fun i hi h => hne i (by omega) h)
      refine ⟨fun i hi h => ?_, fun x y hx hr hy hl h => ?_, by omega, ?_⟩
      · by_cases e : i = z
        · rw [e]; exact ⟨hz, b2⟩
        · rw [hne i hi e] at h; exact i1 i hi h
      · by_cases ex : x = z
        · rw [ex]; exact hz'
        · rw [hne x (by omega) ex]
          by_cases ey : y = z
          · cases hs : bt set x with
            | true => rfl
            | false =>
              have h9 := b4 x hx ex hr hs
              rw [ey] at hl
              omega
          · rw [hne y hy ey] at h
            exact i2 x y hx hr hy hl h
      · rcases i4 with i4 | i4
        · exact Or.inl (by omega)
        · have h9 := i4 z hz b2
          rw [b3] at h9
          cases h9
theorem hm_cnt (lo : Nat → Int64) (a k : Int32) (k0 : 0 ≤ k.toInt) (n : Nat) (hn : n ≤ 12) : (hmV lo a k n).toInt = (cntP (fun c => bt a c && decide (ltL lo c k.toNatClampNeg)) n : Nat) := by
  have ck := i_cl k0
  have k1 : (1 : Int32).toInt = 1 := rfl
  induction n with
  | zero => rfl
  | succ n ih =>
    have ih := ih (by omega)
    have hbd := cntP_bd (fun c => bt a c && decide (ltL lo c k.toNatClampNeg)) n
    have hb := hb_bt (x := a) (n := n) (by omega)
    rw [hmV_s, cntP_s]
    by_cases c : bt a n = true ∧ ltL lo n k.toNatClampNeg
    · rw [if_pos ⟨hb.mpr c.1, by have c2 := c.2; omega⟩, if_pos (by rw [c.1, decide_eq_true c.2]; rfl), i_add (by omega) (by omega), k1, ih]
      omega
    · rw [if_neg (fun z => c ⟨hb.mp z.1, by have z2 := z.2; omega⟩), if_neg (fun z => c (by rw [Bool.and_eq_true, decide_eq_true_iff] at z; exact z)), ih]
      omega
theorem drawn_bit {ro : Nat → Int32} {lo : Nat → Int64} {cn : Nat} {a : Int32} (hc : cn ≤ 12) (ha : ∀ i, i < 32 → (bt a i = true ↔ i < cn ∧ ¬ (ro i).toInt = -1000000)) (m c : Nat) (h12 : c < 12) : bt (dmV ro lo cn m) c = true ↔ bt a c = true ∧ (hmV lo a (nI c) 12).toInt < (m : Int) := by
  obtain ⟨i1, i2, i3, i4⟩ := dm_inv ro lo cn hc m
  have hcc := nI_cl (n := c) (by omega)
  rw [hm_cnt lo a (nI c) (by omega) 12 (by omega), hcc.1]
  generalize dmV ro lo cn m = set at i1 i2 i3 i4 ⊢
  rw [nb_cnt] at i3 i4
  have hA : ∀ i, (bt a i && decide (ltL lo i c)) = true ↔ bt a i = true ∧ ltL lo i c := fun i => by rw [Bool.and_eq_true, decide_eq_true_iff]
  constructor
  · intro h
    refine ⟨(ha c (by omega)).mpr (i1 c (by omega) h), ?_⟩
    have h9 := cntP_lt (P := fun i => bt a i && decide (ltL lo i c)) (Q := fun i => bt set i) (c := c) h (by
      rw [decide_eq_false (by omega), Bool.and_false]) 12 h12 (fun i hi hi2 => by
      have q := (hA i).mp hi2
      have s := (ha i (by omega)).mp q.1
      exact i2 i c s.1 s.2 (by omega) q.2 h)
    omega
  · rintro ⟨h1, h2⟩
    cases hs : bt set c with
    | true => rfl
    | false =>
      exfalso
      have s := (ha c (by omega)).mp h1
      have h9 := cntP_le (P := fun i => bt set i) (Q := fun i => bt a i && decide (ltL lo i c)) 12 (fun i hi hi2 => by
        have q := i1 i (by omega) hi2
        refine (hA i).mpr ⟨(ha i (by omega)).mpr q, ?_⟩
        apply Decidable.byContradiction
        intro hn
        have hne : i ≠ c := fun e => by
          have hi3 : bt set i = true := hi2
          rw [e, hs] at hi3
          cases hi3
        have h8 := i2 c i s.1 s.2 (by omega) (by omega) hi2
        rw [hs] at h8
        cases h8)
      rcases i4 with i4 | i4
      · omega
      · have h8 := i4 c s.1 s.2
        rw [hs] at h8
        cases h8
theorem bt_drV (lo : Nat → Int64) (a m : Int32) (n : Nat) (hn : n ≤ 12) {i : Nat} (hi : i < 32) : bt (drV lo a m n) i = true ↔ i < n ∧ bt a i = true ∧ (hmV lo a (nI i) 12).toInt < m.toInt := by
  induction n with
  | zero =>
    rw [show drV lo a m 0 = 0 from rfl, b_0]
    exact ⟨fun h => (by cases h), fun h => absurd h.1 (by omega)⟩
  | succ n ih =>
    have ih := ih (by omega)
    have hcn := nI_cl (n := n) (by omega)
    have hb := hb_bt (x := a) (n := n) (by omega)
    rw [drV_s]
    by_cases c : bt a n = true ∧ (hmV lo a (nI n) 12).toInt < m.toInt
    · rw [if_pos ⟨hb.mpr c.1, c.2⟩, bt_set (by omega) (by omega) hi, hcn.1, Bool.or_eq_true, ih, decide_eq_true_iff]
      constructor
      · rintro (h | h)
        · exact ⟨by omega, h.2⟩
        · rw [h]; exact ⟨by omega, c⟩
      · intro h
        by_cases e : i = n
        · exact Or.inr e
        · exact Or.inl ⟨by omega, h.2⟩
    · rw [if_neg (fun z => c ⟨hb.mp z.1, z.2⟩), ih]
      constructor
      · intro h
        exact ⟨by omega, h.2⟩
      · intro h
        by_cases e : i = n
        · rw [e] at h; exact (c h.2).elim
        · exact ⟨by omega, h.2⟩
theorem ones_bt : ∀ n, n < 13 → ∀ i, i < 32 → bt (((1 : Int32) <<< (nI n &&& 31)) - 1) i = decide (i < n) := by decide +kernel
theorem bt_stV {cn : Int32} {ro : Nat → Int32} (h0 : 0 ≤ cn.toInt) (h1 : cn.toInt ≤ 12) {i : Nat} (hi : i < 32) : bt (stV cn ro) i = true ↔ i < cn.toNatClampNeg ∧ ¬ (ro i).toInt = -1000000 := by
  have hc := i_cl h0
  have km : (-1000000 : Int32).toInt = -1000000 := by decide
  have e : stV cn ro = (((1 : Int32) <<< (nI cn.toNatClampNeg &&& 31)) - 1) &&& ((setV ro (-1000000) cn.toNatClampNeg) ^^^ (-1)) := by unfold stV; rw [i_nI h0]
  rw [e, b_and, b_xor, b_m1 i hi, ones_bt _ (by omega) i hi, bt_setV ro _ _ (by omega) hi, km]
  by_cases q1 : i < cn.toNatClampNeg
  · by_cases q2 : (ro i).toInt = -1000000
    · simp [q1, q2]
    · simp [q1, q2]
  · simp [q1]
theorem drawn_eq {sd cn d n : Int32} {ro : Nat → Int32} (h0 : 0 ≤ cn.toInt) (h1 : cn.toInt ≤ 12) : sp_drawn sd cn ro d n = sm_drawn sd cn ro d n := by
  have hc := i_cl h0
  unfold sp_drawn sm_drawn
  split
  · rename_i g
    have hn := i_cl (x := n) (by omega)
    apply b_ext
    intro i hi
    have hd := bt_drV (lotF sd d) (stV cn ro) n 12 (Nat.le_refl _) hi
    by_cases l : i < 12
    · have hb := drawn_bit (ro := ro) (lo := lotF sd d) (cn := cn.toNatClampNeg) (a := stV cn ro) (by omega) (fun i hi => bt_stV h0 h1 hi) n.toNatClampNeg i l
      apply Bool.eq_iff_iff.mpr
      rw [hd, hb]
      exact ⟨fun h => ⟨h.2.1, by omega⟩, fun h => ⟨l, h.1, by omega⟩⟩
    · apply Bool.eq_iff_iff.mpr
      rw [hd]
      exact ⟨fun h => absurd h.1 l, fun h => absurd ((dm_inv ro (lotF sd d) cn.toNatClampNeg (by omega) n.toNatClampNeg).1 i hi h).1 (by omega)⟩
  · rfl
theorem bit1 {x c : Int32} (h0 : 0 ≤ c.toInt) (h1 : c.toInt < 32) : ((x >>> (c &&& 31)) &&& 1) = if bt x c.toNatClampNeg = true then 1 else 0 := by
  have hc := i_cl h0
  have e : x >>> (c &&& 31) = x >>> (nI c.toNatClampNeg &&& 31) := by rw [i_nI h0]
  have key : bt (x >>> (c &&& 31)) 0 = bt x c.toNatClampNeg := by
    rw [e, b_sshr c.toNatClampNeg (by omega) x (by omega), if_pos (by omega), Nat.add_zero]
  apply b_ext
  intro i hi
  rw [b_and, bt_1 i hi]
  by_cases g : i = 0
  · rw [g, key]
    cases h : bt x c.toNatClampNeg
    · rw [if_neg (by decide), b_0]; rfl
    · rw [if_pos rfl, bt_1 0 (by omega)]; rfl
  · rw [decide_eq_false g, Bool.and_false]
    split
    · rw [bt_1 i hi, decide_eq_false g]
    · rw [b_0]
theorem often_eq {sd cn k a b n : Int32} {ro : Nat → Int32} (h0 : 0 ≤ cn.toInt) (h1 : cn.toInt ≤ 12) : sp_often sd cn ro k a b n = sm_often sd cn ro k a b n := by
  have hc := i_cl h0
  unfold sp_often sm_often
  split
  · rename_i g
    have hk := i_cl (x := k) (by omega)
    have hn := i_cl (x := n) (by omega)
    have ek : nI k.toNatClampNeg = k := i_nI (by omega)
    have hb := hb_bt (x := stV cn ro) (n := k.toNatClampNeg) (by omega)
    rw [ek] at hb
    generalize b.toNatClampNeg - a.toNatClampNeg + 1 = J
    have hd := fun j => drawn_bit (ro := ro) (lo := lotF sd (nI (a.toNatClampNeg + j))) (cn := cn.toNatClampNeg) (a := stV cn ro) (by omega) (fun i hi => bt_stV h0 h1 hi) n.toNatClampNeg k.toNatClampNeg (by omega)
    rw [ek] at hd
    by_cases q : hbP (stV cn ro) k
    · rw [if_pos q]
      induction J with
      | zero => rfl
      | succ J ih =>
        rw [ofV_s, omV_s, ← ih, bit1 (by omega) (by omega)]
        by_cases c : (hmV (lotF sd (nI (a.toNatClampNeg + J))) (stV cn ro) k 12).toInt < n.toInt
        · rw [if_pos c, if_pos ((hd J).mpr ⟨hb.mp q, by omega⟩)]
        · rw [if_neg c, if_neg (fun z => c (by have z2 := ((hd J).mp z).2; omega))]
          exact (Int32.add_zero _).symm
    · rw [if_neg q]
      induction J with
      | zero => rfl
      | succ J ih =>
        rw [omV_s, ← ih, bit1 (by omega) (by omega), if_neg (fun z => q (hb.mpr ((hd J).mp z).1))]
        rfl
  · rfl
end

section

/-! ===== shares, rings, kinds, asks: both sides ===== -/
theorem pm_pp {hn d : Int32} {ho hc hp hs : Nat → Int32} (h1 : 0 ≤ hn.toInt) (h2 : hn.toInt ≤ 40) (hD : okD hn hs) (hN : okN hn ho hc) (hV : okV hn hp) : ∀ o c, o < 20 → c < 10 → ppF ho hc hp hs d hn.toNatClampNeg o c = pmF ho hc hp hs d hn.toNatClampNeg o c := by
  have ch := i_cl h1
  intro o c ho9 hc9
  unfold ppF pmF
  by_cases e : o = c + 10
  · rw [if_pos e]
    have b := pc_bd (ho := ho) (hc := hc) (hp := hp) (hs := hs) (d := d) (o := nI o) (c := nI (c + 10)) hn.toNatClampNeg (fun j hj => hV j (by omega))
    apply Decidable.byContradiction
    intro hne
    obtain ⟨k, k1, k2, k3⟩ := pc_pos (ho := ho) (hc := hc) (hp := hp) (hs := hs) (d := d) (o := nI o) (c := nI (c + 10)) hn.toNatClampNeg (by omega)
    rw [nI_toInt (by omega)] at k2 k3
    exact hN k (by omega) (by omega)
  · rw [if_neg e, pm_pc _ (by omega) (fun j hj => hD j (by omega))]
theorem share_eq {hn q o d : Int32} {ho hc hp hs : Nat → Int32} (h1 : 0 ≤ hn.toInt) (h2 : hn.toInt ≤ 40) (hD : okD hn hs) (hN : okN hn ho hc) (hV : okV hn hp) : sp_share hn ho hc hp hs q o d = sm_share hn ho hc hp hs q o d := by
  unfold sp_share sm_share
  split
  · rename_i g
    have cq := i_cl (x := q) (by omega)
    exact shF_c (pm_pp h1 h2 hD hN hV) (by omega) _
  · rfl
theorem trV_c {p p' : Nat → Nat → Int} (hp : ∀ o c, o < 20 → c < 10 → p o c = p' o c) (o n : Nat) (hn : n ≤ 20) : trV p o n = trV p' o n := by
  induction n with
  | zero => rfl
  | succ n ih => rw [trV_s, trV_s, ih (by omega), shF_c hp (by omega) o]
theorem truly_eq {hn o d : Int32} {ho hc hp hs : Nat → Int32} (h1 : 0 ≤ hn.toInt) (h2 : hn.toInt ≤ 40) (hD : okD hn hs) (hN : okN hn ho hc) (hV : okV hn hp) : sp_truly hn ho hc hp hs o d = sm_truly hn ho hc hp hs o d := by
  unfold sp_truly sm_truly
  rw [trV_c (pm_pp h1 h2 hD hN hV) o.toNatClampNeg 10 (by omega)]
theorem mt_up {E : Nat → Nat → Bool} {c i b : Nat} (h : mtV E c i b = true) : mtV E c (i + 1) b = true := by
  rw [mtV_s, h]
  rfl
theorem mt_wr {E : Nat → Nat → Bool} {c : Nat} (hc : c < 10) (i : Nat) : ∀ b, mtV E c i b = true → wrV E 10 c b = true := by
  induction i with
  | zero => exact fun b h => absurd h (by show ¬ (false = true); decide)
  | succ i ih =>
    intro b h
    rw [mtV_s, Bool.or_eq_true, anyP_iff] at h
    rcases h with h | ⟨a, ha, h⟩
    · exact ih b h
    · rw [Bool.and_eq_true, Bool.or_eq_true, decide_eq_true_iff] at h
      have h2 := wr_le 10 a b h.2
      rcases h.1 with h1 | h1
      · exact wr_trans 10 c a b ha (ih a h1) h2
      · rw [h1] at h2; exact h2
theorem anyP_c {P Q : Nat → Bool} (n : Nat) (h : ∀ a, a < n → P a = Q a) : anyP P n = anyP Q n := by
  induction n with
  | zero => rfl
  | succ n ih => rw [anyP_s, anyP_s, ih (fun a ha => h a (by omega)), h n (by omega)]
theorem mt_stab {E : Nat → Nat → Bool} {c j : Nat} (h : ∀ b, b < 10 → mtV E c (j + 1) b = mtV E c j b) (k : Nat) : ∀ b, b < 10 → mtV E c (j + k + 1) b = mtV E c (j + k) b := by
  induction k with
  | zero => exact h
  | succ k ih =>
    intro b hb
    rw [show j + (k + 1) = (j + k) + 1 by omega, mtV_s E c (j + k + 1) b]
    rw [anyP_c (Q := fun a => (mtV E c (j + k) a || decide (a = c)) && E a b) 10 (fun a ha => by rw [ih a ha])]
    rw [mtV_s E c (j + k) b]
    cases mtV E c (j + k) b <;> cases anyP (fun a => (mtV E c (j + k) a || decide (a = c)) && E a b) 10 <;> rfl
theorem mt_or (E : Nat → Nat → Bool) (c i : Nat) : (∃ j, j < i ∧ ∀ b, b < 10 → mtV E c (j + 1) b = mtV E c j b) ∨ i ≤ cntP (fun b => mtV E c i b) 10 := by
  induction i with
  | zero => exact Or.inr (Nat.zero_le _)
  | succ i ih =>
    rcases ih with ⟨j, h1, h2⟩ | ih
    · exact Or.inl ⟨j, by omega, h2⟩
    · by_cases q : ∀ b, b < 10 → mtV E c (i + 1) b = mtV E c i b
      · exact Or.inl ⟨i, by omega, q⟩
      · right
        have q2 : ∃ b, b < 10 ∧ mtV E c (i + 1) b ≠ mtV E c i b := by
          apply Classical.byContradiction
          intro h
          exact q (fun b hb => Classical.byContradiction (fun h9 => h ⟨b, hb, h9⟩))
        obtain ⟨b, hb, hne⟩ := q2
        have h0 : mtV E c i b = false := by
          cases h9 : mtV E c i b with
          | false => rfl
          | true => rw [h9, mt_up h9] at hne; exact absurd rfl hne
        have h1 : mtV E c (i + 1) b = true := by
          cases h9 : mtV E c (i + 1) b with
          | true => rfl
          | false => rw [h9, h0] at hne; exact absurd rfl hne
        have h3 := cntP_lt (P := fun b => mtV E c i b) (Q := fun b => mtV E c (i + 1) b) (c := b) h1 h0 10 hb (fun x _ hx => mt_up hx)
        omega
theorem mt_all (E : Nat → Nat → Bool) (c : Nat) : ∀ b, b < 10 → mtV E c 12 b = mtV E c 11 b := by
  rcases mt_or E c 11 with ⟨j, h1, h2⟩ | h
  · have h3 := mt_stab h2 (11 - j)
    rw [show j + (11 - j) = 11 by omega] at h3
    exact h3
  · have h4 := cntP_bd (fun b => mtV E c 11 b) 10
    omega
theorem mt_eq {E : Nat → Nat → Bool} (hE : ∀ x y, E x y = true → y < 10) {c d : Nat} (hc : c < 10) (hd : d < 10) : mtV E c 11 d = wrV E 10 c d := by
  apply Bool.eq_iff_iff.mpr
  constructor
  · exact mt_wr hc 11 d
  · intro h
    have h9 := wr_least (B := E) (Q := fun x y => x < 10 → (x = c ∨ mtV E c 11 x = true) → y < 10 ∧ mtV E c 11 y = true) (fun x y hxy hx h1 => by
      have hy := hE x y hxy
      refine ⟨hy, ?_⟩
      rw [← mt_all E c y hy, mtV_s, Bool.or_eq_true, anyP_iff]
      refine Or.inr ⟨x, hx, ?_⟩
      rw [Bool.and_eq_true, Bool.or_eq_true, decide_eq_true_iff]
      exact ⟨h1.symm, hxy⟩) (fun x j y h1 h2 hx h3 => by
      have h4 := h1 hx h3
      exact h2 h4.1 (Or.inr h4.2)) 10 c d h
    exact (h9 hc (Or.inl rfl)).2
theorem rings_eq {hn d r r' : Int32} {ho hc hp hs : Nat → Int32} (h1 : 0 ≤ hn.toInt) (h2 : hn.toInt ≤ 40) (hD : okD hn hs) (hN : okN hn ho hc) (hV : okV hn hp) (x : sp_rings hn ho hc hp hs d r) (m : sm_rings hn ho hc hp hs d r') : r = r' := by
  unfold sp_rings at x
  unfold sm_rings at m
  split at x
  · rename_i g
    rw [if_pos g] at m
    apply b_ext
    intro i hi
    rw [x i hi, m i hi]
    by_cases l : i < 10
    · rw [mt_eq ppB_10 l l]
      congr 1
      refine wr_c (fun c9 d9 a1 a2 => ?_) 10 (Nat.le_refl _) i i l hi
      unfold ppB
      refine decide_eq_decide.mpr ⟨fun z => ⟨z.1, ?_⟩, fun z => ⟨z.1, ?_⟩⟩
      · rw [← pm_pp h1 h2 hD hN hV _ _ (by omega) z.1]; exact z.2
      · rw [pm_pp h1 h2 hD hN hV _ _ (by omega) z.1]; exact z.2
    · rw [decide_eq_false l]; rfl
  · rename_i g
    rw [if_neg g] at m
    exact i_of (by omega)
theorem brV_c {p p' : Nat → Nat → Int} (hp : ∀ o c, o < 20 → c < 10 → p o c = p' o c) (set : Int32) (o n : Nat) (hn : n ≤ 20) : brV p set o n = brV p' set o n := by
  induction n with
  | zero => rfl
  | succ n ih => rw [brV_s, brV_s, ih (by omega), shF_c hp (by omega) o]
theorem barred_eq {cn pn hn lc k d : Int32} {fo pk pf po pd pe pr ho hc hp hs lp la lb : Nat → Int32} (h1 : 0 ≤ hn.toInt) (h2 : hn.toInt ≤ 40) (hD : okD hn hs) (hN : okN hn ho hc) (hV : okV hn hp) (p0 : 0 ≤ pn.toInt) (p1 : pn.toInt ≤ 40) (hO : okO pn pr) (hW : okW pn pr pd pe) : sp_barred cn pn hn lc fo pk pf po pd pe pr ho hc hp hs lp la lb k d = sm_barred cn pn hn lc fo pk pf po pd pe ho hc hp hs lp la lb k d := by
  unfold sp_barred sm_barred
  rw [oo_all (fo := fo) p0 p1 hO hW, brV_c (pm_pp h1 h2 hD hN hV) _ _ 10 (by omega)]
theorem kd_eq {pn hn lc gn td k : Int32} {fo wo pk pf po pd pe pr ho hc hp hs lp la lb gk gs ge : Nat → Int32} (h1 : 0 ≤ hn.toInt) (h2 : hn.toInt ≤ 40) (hD : okD hn hs) (hN : okN hn ho hc) (hV : okV hn hp) (p0 : 0 ≤ pn.toInt) (p1 : pn.toInt ≤ 40) (hO : okO pn pr) (hW : okW pn pr pd pe) : kd_day pn hn lc gn td fo wo pk pf po pd pe pr ho hc hp hs lp la lb gk gs ge k = km_day pn hn lc gn td fo wo pk pf po pd pe ho hc hp hs lp la lb gk gs ge k := by
  unfold kd_day km_day
  rw [oo_all (fo := fo) p0 p1 hO hW, brV_c (pm_pp h1 h2 hD hN hV) _ _ 10 (by omega)]
theorem kind_eq {cn pn hn lc gn td k : Int32} {fo wo pk pf po pd pe pr ho hc hp hs lp la lb gk gs ge : Nat → Int32} (h1 : 0 ≤ hn.toInt) (h2 : hn.toInt ≤ 40) (hD : okD hn hs) (hN : okN hn ho hc) (hV : okV hn hp) (p0 : 0 ≤ pn.toInt) (p1 : pn.toInt ≤ 40) (hO : okO pn pr) (hW : okW pn pr pd pe) : sp_kind cn pn hn lc gn td fo wo pk pf po pd pe pr ho hc hp hs lp la lb gk gs ge k = sm_kind cn pn hn lc gn td fo wo pk pf po pd pe ho hc hp hs lp la lb gk gs ge k := by
  unfold sp_kind sm_kind
  rw [kd_eq h1 h2 hD hN hV p0 p1 hO hW]
theorem as_eq {lf lf' mst' r r' cn pn hn lc gn td k w : Int32} {fo wo pk pf po pd pe pr ho hc hp hs lp la lb gk gs ge : Nat → Int32} (h1 : 0 ≤ hn.toInt) (h2 : hn.toInt ≤ 40) (hD : okD hn hs) (hN : okN hn ho hc) (hV : okV hn hp) (p0 : 0 ≤ pn.toInt) (p1 : pn.toInt ≤ 40) (hO : okO pn pr) (hW : okW pn pr pd pe) (x : sp_as lf cn pn hn lc gn td fo wo pk pf po pd pe pr ho hc hp hs lp la lb gk gs ge k w r lf') (m : sm_as lf cn pn hn lc gn td fo wo pk pf po pd pe ho hc hp hs lp la lb gk gs ge k w r' mst') : r = r' ∧ mst' = lf' := by
  unfold sp_as at x
  unfold sm_as at m
  rw [kd_eq h1 h2 hD hN hV p0 p1 hO hW] at x
  split at x
  · rename_i g
    rw [if_pos g] at m
    rcases x with ⟨a1, a2, a3⟩ | ⟨a1, a2, a3⟩
    · rcases m with ⟨b1, b2, b3⟩ | ⟨b1, b2, b3⟩
      · exact ⟨a2.trans b2.symm, b3.trans a3.symm⟩
      · exact absurd a1 b1
    · rcases m with ⟨b1, b2, b3⟩ | ⟨b1, b2, b3⟩
      · exact absurd b1 a1
      · exact ⟨a2.trans b2.symm, b3.trans a3.symm⟩
  · rename_i g
    rw [if_neg g] at m
    exact ⟨x.1.trans m.1.symm, m.2.trans x.2.symm⟩
/-- the sums of the pledges -/
def okJ (gn : Int32) (gs : Nat → Int32) : Prop := ∀ j : Nat, (j : Int) < gn.toInt → 1 ≤ (gs j).toInt ∧ (gs j).toInt ≤ 100000
theorem suV_rng {gk gs ge : Nat → Int32} {k d gn : Int32} (hj : okJ gn gs) (n : Nat) (hn : (n : Int) ≤ gn.toInt) (h40 : n ≤ 40) : 0 ≤ (suV gk gs ge k d n).toInt ∧ (suV gk gs ge k d n).toInt ≤ 100000 * n := by
  induction n with
  | zero => exact ⟨by show (0 : Int) ≤ (0 : Int32).toInt; decide, by show (0 : Int32).toInt ≤ 100000 * ((0 : Nat) : Int); decide⟩
  | succ n ih =>
    have ih := ih (by omega) (by omega)
    have j := hj n (by omega)
    rw [suV_s]
    split
    · rw [i_add (by omega) (by omega)]
      omega
    · omega
theorem kdF_rng (br : Int) (owed worth : Int32) : (kdF br owed worth).toInt = 1 ∨ (kdF br owed worth).toInt = 2 ∨ (kdF br owed worth).toInt = 3 ∨ ((kdF br owed worth).toInt = 4 ∧ owed.toInt ≤ 0) := by
  unfold kdF
  split
  · exact Or.inr (Or.inr (Or.inl (by decide)))
  · split
    · exact Or.inr (Or.inl (by decide))
    · split
      · exact Or.inl (by decide)
      · exact Or.inr (Or.inr (Or.inr ⟨by decide, by omega⟩))
theorem cn_t {b : Bool} {s : Int32 × (Nat → Int32)} {a : Int32} (h : b = true) : cnL b s a = lvT s a := by unfold cnL; rw [if_pos h]
theorem cn_f {b : Bool} {s : Int32 × (Nat → Int32)} {a : Int32} (h : b = false) : cnL b s a = s := by unfold cnL; rw [if_neg (by rw [h]; decide)]
theorem mk_eq (kd wo ow : Int32) (s : Int32 × (Nat → Int32)) : mkF kd wo ow s = mkM kd wo ow s := by
  unfold mkF mkM
  by_cases c1 : kd.toInt = 1 ∨ kd.toInt = 2
  · rw [if_pos c1, if_pos c1, cn_t (decide_eq_true c1), cn_f (decide_eq_false (show ¬ kd.toInt = 3 by omega)), cn_f (decide_eq_false (show ¬ kd.toInt = 4 by omega)), cn_f (decide_eq_false (show ¬ kd.toInt = 4 by omega))]
  · rw [if_neg c1, if_neg c1, cn_f (decide_eq_false c1)]
    by_cases c3 : kd.toInt = 3
    · rw [if_pos c3, if_pos c3, cn_t (decide_eq_true c3), cn_f (decide_eq_false (show ¬ kd.toInt = 4 by omega)), cn_f (decide_eq_false (show ¬ kd.toInt = 4 by omega))]
    · rw [if_neg c3, if_neg c3, cn_f (decide_eq_false c3)]
      by_cases c4 : kd.toInt = 4
      · rw [if_pos c4, if_pos c4, cn_t (decide_eq_true c4), cn_t (decide_eq_true c4)]
      · rw [if_neg c4, if_neg c4, cn_f (decide_eq_false c4), cn_f (decide_eq_false c4), Int32.add_zero]
theorem sz_eq {kd wo su ow : Int32} {s : Int32 × (Nat → Int32)} (h : kd.toInt = 1 ∨ kd.toInt = 2 ∨ kd.toInt = 3 ∨ (kd.toInt = 4 ∧ su = 0)) : szF kd wo su ow s = szM kd wo su ow s := by
  unfold szF szM
  rcases h with h | h | h | ⟨h, hs⟩
  · rw [if_pos h, if_neg (by omega), if_neg (by omega), cn_t (decide_eq_true (Or.inl h)), cn_f (decide_eq_false (show ¬ kd.toInt = 2 by omega))]
  · rw [if_neg (by omega), if_pos h, if_neg (by omega), if_pos h, cn_t (decide_eq_true (Or.inr h)), cn_t (decide_eq_true h)]
  · rw [if_neg (by omega), if_neg (by omega), if_pos h, if_pos h, ← mk_eq]
    unfold mkF
    rw [if_neg (by omega), if_pos h]
  · rw [if_neg (by omega), if_neg (by omega), if_neg (by omega), if_neg (by omega), if_neg (by omega), cn_f (decide_eq_false (show ¬ (kd.toInt = 1 ∨ kd.toInt = 2) by omega)), cn_f (decide_eq_false (show ¬ kd.toInt = 2 by omega)), hs, Int32.sub_zero]
theorem ask_eq {tn cn pn hn lc gn td k w : Int32} {tr fo wo pk pf po pd pe pr ho hc hp hs lp la lb gk gs ge : Nat → Int32} (h1 : 0 ≤ hn.toInt) (h2 : hn.toInt ≤ 40) (hD : okD hn hs) (hN : okN hn ho hc) (hV : okV hn hp) (p0 : 0 ≤ pn.toInt) (p1 : pn.toInt ≤ 40) (hO : okO pn pr) (hW : okW pn pr pd pe) (g0 : 0 ≤ gn.toInt) (g1 : gn.toInt ≤ 40) (hJ : okJ gn gs) : sp_ask tn tr cn pn hn lc gn td fo wo pk pf po pd pe pr ho hc hp hs lp la lb gk gs ge k w = sm_ask tn tr cn pn hn lc gn td fo wo pk pf po pd pe ho hc hp hs lp la lb gk gs ge k w := by
  unfold sp_ask sm_ask
  have cg := i_cl g0
  have e := kd_eq (fo := fo) (wo := wo) (pk := pk) (pf := pf) (po := po) (lp := lp) (la := la) (lb := lb) (gk := gk) (gs := gs) (ge := ge) (lc := lc) (gn := gn) (td := td) (k := k) h1 h2 hD hN hV p0 p1 hO hW
  have r := kdF_rng (brV (ppF ho hc hp hs td hn.toNatClampNeg) (poV lp la lb td lc.toNatClampNeg) (owV pk pf po pd pe pr k td td (fo k.toNatClampNeg) pn.toNatClampNeg).toNatClampNeg 10) (suV gk gs ge k td gn.toNatClampNeg) (wo k.toNatClampNeg)
  have s := suV_rng (gk := gk) (ge := ge) (k := k) (d := td) hJ gn.toNatClampNeg (by omega) (by omega)
  rw [oo_all (fo := fo) p0 p1 hO hW, ← e, mk_eq]
  split
  · split
    · refine sz_eq ?_
      show (kdF _ _ _).toInt = 1 ∨ (kdF _ _ _).toInt = 2 ∨ (kdF _ _ _).toInt = 3 ∨ ((kdF _ _ _).toInt = 4 ∧ _)
      rcases r with r | r | r | ⟨r, q⟩
      · exact Or.inl r
      · exact Or.inr (Or.inl r)
      · exact Or.inr (Or.inr (Or.inl r))
      · exact Or.inr (Or.inr (Or.inr ⟨r, i_of (by have k0 : (0 : Int32).toInt = 0 := rfl; omega)⟩))
    · rfl
  · rfl
theorem sp_crate_okF {cn cn' o w r : Int32} {fo wo fo' wo' : Nat → Int32} (e : (r, cn', fo', wo') = sp_crate cn fo wo o w) (h1 : 0 ≤ cn.toInt) (h2 : cn.toInt ≤ 12) (h3 : okF cn fo) : okF cn' fo' := by
  unfold sp_crate at e
  have ch := i_cl h1
  split at e
  · split at e
    · simp only [Prod.mk.injEq] at e
      obtain ⟨-, rfl, rfl, -⟩ := e
      exact h3
    · rename_i g1 g2
      have k1 : (1 : Int32).toInt = 1 := rfl
      have t1 : (cn + 1).toInt = cn.toInt + 1 := by rw [i_add (by omega) (by omega), k1]
      simp only [Prod.mk.injEq] at e
      obtain ⟨-, rfl, rfl, -⟩ := e
      intro j hj
      by_cases hk : j = cn.toNatClampNeg
      · subst hk; rw [upd_s]; omega
      · rw [upd_n _ _ hk]; exact h3 j (by omega)
  · simp only [Prod.mk.injEq] at e
    obtain ⟨-, rfl, rfl, -⟩ := e
    exact h3
theorem sp_paper_okG {pn pn' cn k x y a b r : Int32} {pk pf po pd pe pk' pf' po' pd' pe' : Nat → Int32} (e : (r, pn', pk', pf', po', pd', pe') = sp_paper pn pk pf po pd pe cn k x y a b) (h1 : 0 ≤ pn.toInt) (h2 : pn.toInt ≤ 40) (h3 : okG pn po) : okG pn' po' := by
  unfold sp_paper at e
  have ch := i_cl h1
  split at e
  · split at e
    · simp only [Prod.mk.injEq] at e
      obtain ⟨-, rfl, -, -, rfl, -, -⟩ := e
      exact h3
    · rename_i g1 g2
      have k1 : (1 : Int32).toInt = 1 := rfl
      have t1 : (pn + 1).toInt = pn.toInt + 1 := by rw [i_add (by omega) (by omega), k1]
      simp only [Prod.mk.injEq] at e
      obtain ⟨-, rfl, -, -, rfl, -, -⟩ := e
      intro j hj
      by_cases hk : j = pn.toNatClampNeg
      · subst hk; rw [upd_s]; omega
      · rw [upd_n _ _ hk]; exact h3 j (by omega)
  · simp only [Prod.mk.injEq] at e
    obtain ⟨-, rfl, -, -, rfl, -, -⟩ := e
    exact h3
theorem sp_pledge_okJ {gn gn' cn k x q a b r : Int32} {gk gs gd ge gk' gs' gd' ge' : Nat → Int32} (e : (r, gn', gk', gs', gd', ge') = sp_pledge gn gk gs gd ge cn k x q a b) (h1 : 0 ≤ gn.toInt) (h2 : gn.toInt ≤ 40) (h3 : okJ gn gs) : okJ gn' gs' := by
  unfold sp_pledge at e
  have ch := i_cl h1
  split at e
  · split at e
    · simp only [Prod.mk.injEq] at e
      obtain ⟨-, rfl, -, rfl, -, -⟩ := e
      exact h3
    · rename_i g1 g2
      have k1 : (1 : Int32).toInt = 1 := rfl
      have t1 : (gn + 1).toInt = gn.toInt + 1 := by rw [i_add (by omega) (by omega), k1]
      simp only [Prod.mk.injEq] at e
      obtain ⟨-, rfl, -, rfl, -, -⟩ := e
      intro j hj
      by_cases hk : j = gn.toNatClampNeg
      · subst hk; rw [upd_s]; omega
      · rw [upd_n _ _ hk]; exact h3 j (by omega)
  · simp only [Prod.mk.injEq] at e
    obtain ⟨-, rfl, -, rfl, -, -⟩ := e
    exact h3
end

section
/-- the class's world: numbers nx, rows fx, sheets' rows rs, lots lo -/
def wX (ad rw : Nat → Nat) (sd : Int32) (cI cY cJ cQ : ClassId) (nx : Nat → Int32) (fx rs : Nat → Nat → Int32) (lo : Nat → Int64) : va_W := ((oC10 ad (nx 0) (nx 1) (nx 2)) :: (aI cI (ad 11) 16 (fx 0)) :: (aI cI (rw 0) 60 (rs 0)) :: (aI cI (rw 1) 60 (rs 1)) :: (aI cI (rw 2) 60 (rs 2)) :: (aI cI (rw 3) 60 (rs 3)) :: (aI cI (rw 4) 60 (rs 4)) :: (aI cI (rw 5) 60 (rs 5)) :: (aI cI (rw 6) 60 (rs 6)) :: (aI cI (rw 7) 60 (rs 7)) :: (oC9 ad ) :: ((ad 12), .inl (cQ, 8, .inr (.inr (.inr (.inr (fun i => if i < 8 then some (rw i) else none)))))) :: (aI cI (ad 13) 8 (fx 1)) :: (aI cI (ad 14) 8 (fx 2)) :: (oC3 ad (nx 3)) :: (aI cI (ad 23) 40 (fx 3)) :: (aI cI (ad 24) 40 (fx 4)) :: (aI cI (ad 25) 40 (fx 5)) :: (aI cI (ad 26) 40 (fx 6)) :: (aI cI (ad 27) 200 (fx 7)) :: (aI cI (ad 28) 200 (fx 8)) :: (aI cI (ad 29) 20 (fx 9)) :: (aI cI (ad 30) 10 (fx 10)) :: (oC1 ad (nx 4)) :: (aI cI (ad 31) 12 (fx 11)) :: (aI cI (ad 32) 12 (fx 12)) :: (aI cI (ad 33) 12 (fx 13)) :: (aI cI (ad 34) 6 (fx 14)) :: (aI cI (ad 35) 6 (fx 15)) :: (oC7 ad (nx 5)) :: (aI cI (ad 36) 40 (fx 16)) :: (aI cI (ad 37) 40 (fx 17)) :: (aI cI (ad 38) 40 (fx 18)) :: (aI cI (ad 39) 40 (fx 19)) :: (aI cI (ad 40) 40 (fx 20)) :: (aI cI (ad 41) 40 (fx 21)) :: (oC8 ad (nx 6)) :: (aI cI (ad 42) 40 (fx 22)) :: (aI cI (ad 43) 40 (fx 23)) :: (aI cI (ad 44) 40 (fx 24)) :: (aI cI (ad 45) 40 (fx 25)) :: (aI cI (ad 46) 40 (fx 26)) :: (oC2 ad (nx 7) (nx 8) (nx 9) (nx 10) (nx 11) (nx 12) (nx 13) (nx 14)) :: (aI cY (ad 47) 300 (fx 27)) :: (aI cI (ad 48) 12 (fx 28)) :: (aI cI (ad 49) 12 (fx 29)) :: (aI cI (ad 50) 12 (fx 30)) :: (aI cI (ad 51) 12 (fx 31)) :: (aI cI (ad 52) 12 (fx 32)) :: (aI cI (ad 53) 12 (fx 33)) :: (oC0 ad (nx 15)) :: (aI cI (ad 54) 60 (fx 34)) :: (aI cI (ad 55) 60 (fx 35)) :: (aI cI (ad 56) 60 (fx 36)) :: (aI cI (ad 57) 60 (fx 37)) :: (oC5 ad sd) :: (aJ cJ (ad 58) 12 lo) :: (oC6 ad (nx 16)) :: (aI cI (ad 59) 60 (fx 38)) :: (aI cI (ad 60) 60 (fx 39)) :: (aI cI (ad 61) 60 (fx 40)) :: (aI cI (ad 62) 60 (fx 41)) :: (oC4 ad (nx 17)) :: (aI cI (ad 63) 20 (fx 42)) :: (aI cI (ad 64) 20 (fx 43)) :: (aI cI (ad 65) 20 (fx 44)) :: [])
/-- the reference's world -/
def wM (md : Nat → Nat) (sd : Int32) (cI cY cJ cQ : ClassId) (ny : Nat → Int32) (fy : Nat → Nat → Int32) (fl : Nat → Int64) : va_W := ((moC md sd (ny 0) (ny 1) (ny 2) (ny 3) (ny 4) (ny 5) (ny 6) (ny 7) (ny 8) (ny 9) (ny 10) (ny 11) (ny 12) (ny 13) (ny 14) (ny 15) (ny 16) (ny 17) (ny 18) (ny 19) (ny 20) (ny 21) (ny 22)) :: (aI cI (md 3) 8 (fy 0)) :: (aI cI (md 4) 8 (fy 1)) :: (aI cI (md 5) 480 (fy 2)) :: (aI cI (md 7) 40 (fy 3)) :: (aI cI (md 8) 40 (fy 4)) :: (aI cI (md 9) 40 (fy 5)) :: (aI cI (md 10) 40 (fy 6)) :: (aI cI (md 11) 200 (fy 7)) :: (aI cI (md 12) 12 (fy 8)) :: (aI cI (md 13) 12 (fy 9)) :: (aJ cJ (md 14) 12 fl) :: (aI cI (md 16) 12 (fy 10)) :: (aI cI (md 17) 12 (fy 11)) :: (aI cI (md 19) 40 (fy 12)) :: (aI cI (md 20) 40 (fy 13)) :: (aI cI (md 21) 40 (fy 14)) :: (aI cI (md 22) 40 (fy 15)) :: (aI cI (md 23) 40 (fy 16)) :: (aI cI (md 26) 40 (fy 17)) :: (aI cI (md 27) 40 (fy 18)) :: (aI cI (md 28) 40 (fy 19)) :: (aI cI (md 29) 40 (fy 20)) :: (aI cI (md 31) 36 (fy 21)) :: (aI cI (md 33) 36 (fy 22)) :: (aI cI (md 34) 300 (fy 23)) :: (aI cI (md 45) 60 (fy 24)) :: (aI cI (md 46) 60 (fy 25)) :: (aI cI (md 47) 60 (fy 26)) :: (aI cI (md 48) 60 (fy 27)) :: (aI cI (md 49) 6 (fy 28)) :: (aI cI (md 50) 6 (fy 29)) :: (aI cI (md 51) 12 (fy 30)) :: (aI cI (md 53) 60 (fy 31)) :: (aI cI (md 54) 60 (fy 32)) :: (aI cI (md 55) 60 (fy 33)) :: (aI cI (md 56) 60 (fy 34)) :: (aI cI (md 58) 20 (fy 35)) :: (aI cI (md 59) 20 (fy 36)) :: (aI cI (md 60) 20 (fy 37)) :: (aI cI (md 62) 16 (fy 38)) :: [])

/-- what holds of both between calls -/
def inv (nx : Nat → Int32) (fx rs : Nat → Nat → Int32) (ny : Nat → Int32) (fy : Nat → Nat → Int32) : Prop := (0 ≤ (nx 3).toInt) ∧ ((nx 3).toInt ≤ 40) ∧ (okH (nx 3) (fx 3) (fx 4)) ∧ (okD (nx 3) (fx 6)) ∧ (okV (nx 3) (fx 5)) ∧ (okN (nx 3) (fx 3) (fx 4)) ∧ (0 ≤ (nx 4).toInt) ∧ ((nx 4).toInt ≤ 12) ∧ (okF (nx 4) (fx 11)) ∧ (0 ≤ (nx 5).toInt) ∧ ((nx 5).toInt ≤ 40) ∧ (okG (nx 5) (fx 18)) ∧ (okO (nx 5) (fx 21)) ∧ (okW (nx 5) (fx 21) (fx 19) (fx 20)) ∧ (0 ≤ (nx 6).toInt) ∧ ((nx 6).toInt ≤ 40) ∧ (okJ (nx 6) (fx 23)) ∧ (0 ≤ (nx 7).toInt) ∧ ((nx 7).toInt ≤ 300) ∧ (0 ≤ (nx 9).toInt) ∧ ((nx 9).toInt ≤ 12) ∧ (0 ≤ (nx 15).toInt) ∧ ((nx 15).toInt ≤ 60) ∧ (0 ≤ (nx 16).toInt) ∧ ((nx 16).toInt ≤ 60) ∧ (okU (nx 16) (fx 41)) ∧ (0 ≤ (nx 17).toInt) ∧ ((nx 17).toInt ≤ 20) ∧ (0 ≤ (nx 0).toInt) ∧ ((nx 0).toInt ≤ 16) ∧ (okS (fx 2)) ∧ (0 ≤ (ny 2).toInt) ∧ ((ny 2).toInt ≤ 40) ∧ (okH (ny 2) (fy 3) (fy 4)) ∧ (okM (fy 1)) ∧ (0 ≤ (ny 7).toInt) ∧ ((ny 7).toInt ≤ 12) ∧ (0 ≤ (ny 22).toInt) ∧ ((ny 22).toInt ≤ 16) ∧ ((ny 2) = (nx 3)) ∧ ((fy 3) = (fx 3)) ∧ ((fy 4) = (fx 4)) ∧ ((fy 5) = (fx 5)) ∧ ((fy 6) = (fx 6)) ∧ ((ny 3) = (nx 4)) ∧ ((fy 10) = (fx 11)) ∧ ((fy 11) = (fx 12)) ∧ ((ny 4) = (nx 5)) ∧ ((fy 12) = (fx 16)) ∧ ((fy 13) = (fx 17)) ∧ ((fy 14) = (fx 18)) ∧ ((fy 15) = (fx 19)) ∧ ((fy 16) = (fx 20)) ∧ ((ny 6) = (nx 6)) ∧ ((fy 17) = (fx 22)) ∧ ((fy 18) = (fx 23)) ∧ ((fy 19) = (fx 24)) ∧ ((fy 20) = (fx 25)) ∧ ((ny 18) = (nx 15)) ∧ ((fy 24) = (fx 34)) ∧ ((fy 25) = (fx 35)) ∧ ((fy 26) = (fx 36)) ∧ ((fy 27) = (fx 37)) ∧ ((ny 19) = (nx 16)) ∧ ((fy 31) = (fx 38)) ∧ ((fy 32) = (fx 39)) ∧ ((fy 33) = (fx 40)) ∧ ((fy 34) = (fx 41)) ∧ ((ny 20) = (nx 17)) ∧ ((fy 35) = (fx 42)) ∧ ((fy 36) = (fx 43)) ∧ ((fy 37) = (fx 44)) ∧ ((fy 28) = (fx 14)) ∧ ((fy 29) = (fx 15)) ∧ ((ny 9) = (nx 7)) ∧ ((ny 21) = (nx 1)) ∧ ((fy 30) = (fx 13)) ∧ ((ny 22) = (nx 0)) ∧ ((fy 38) = (fx 0)) ∧ ((ny 1) = (nx 2)) ∧ (shR (fy 0) (fy 1) (fy 2) (fx 1) (fx 2) rs)

theorem inv_el {nx : Nat → Int32} {fx rs : Nat → Nat → Int32} {ny : Nat → Int32} {fy : Nat → Nat → Int32} {Q : Prop} (I : inv nx fx rs ny fy) (h : (0 ≤ (nx 3).toInt) → ((nx 3).toInt ≤ 40) → (okH (nx 3) (fx 3) (fx 4)) → (okD (nx 3) (fx 6)) → (okV (nx 3) (fx 5)) → (okN (nx 3) (fx 3) (fx 4)) → (0 ≤ (nx 4).toInt) → ((nx 4).toInt ≤ 12) → (okF (nx 4) (fx 11)) → (0 ≤ (nx 5).toInt) → ((nx 5).toInt ≤ 40) → (okG (nx 5) (fx 18)) → (okO (nx 5) (fx 21)) → (okW (nx 5) (fx 21) (fx 19) (fx 20)) → (0 ≤ (nx 6).toInt) → ((nx 6).toInt ≤ 40) → (okJ (nx 6) (fx 23)) → (0 ≤ (nx 7).toInt) → ((nx 7).toInt ≤ 300) → (0 ≤ (nx 9).toInt) → ((nx 9).toInt ≤ 12) → (0 ≤ (nx 15).toInt) → ((nx 15).toInt ≤ 60) → (0 ≤ (nx 16).toInt) → ((nx 16).toInt ≤ 60) → (okU (nx 16) (fx 41)) → (0 ≤ (nx 17).toInt) → ((nx 17).toInt ≤ 20) → (0 ≤ (nx 0).toInt) → ((nx 0).toInt ≤ 16) → (okS (fx 2)) → (0 ≤ (ny 2).toInt) → ((ny 2).toInt ≤ 40) → (okH (ny 2) (fy 3) (fy 4)) → (okM (fy 1)) → (0 ≤ (ny 7).toInt) → ((ny 7).toInt ≤ 12) → (0 ≤ (ny 22).toInt) → ((ny 22).toInt ≤ 16) → ((ny 2) = (nx 3)) → ((fy 3) = (fx 3)) → ((fy 4) = (fx 4)) → ((fy 5) = (fx 5)) → ((fy 6) = (fx 6)) → ((ny 3) = (nx 4)) → ((fy 10) = (fx 11)) → ((fy 11) = (fx 12)) → ((ny 4) = (nx 5)) → ((fy 12) = (fx 16)) → ((fy 13) = (fx 17)) → ((fy 14) = (fx 18)) → ((fy 15) = (fx 19)) → ((fy 16) = (fx 20)) → ((ny 6) = (nx 6)) → ((fy 17) = (fx 22)) → ((fy 18) = (fx 23)) → ((fy 19) = (fx 24)) → ((fy 20) = (fx 25)) → ((ny 18) = (nx 15)) → ((fy 24) = (fx 34)) → ((fy 25) = (fx 35)) → ((fy 26) = (fx 36)) → ((fy 27) = (fx 37)) → ((ny 19) = (nx 16)) → ((fy 31) = (fx 38)) → ((fy 32) = (fx 39)) → ((fy 33) = (fx 40)) → ((fy 34) = (fx 41)) → ((ny 20) = (nx 17)) → ((fy 35) = (fx 42)) → ((fy 36) = (fx 43)) → ((fy 37) = (fx 44)) → ((fy 28) = (fx 14)) → ((fy 29) = (fx 15)) → ((ny 9) = (nx 7)) → ((ny 21) = (nx 1)) → ((fy 30) = (fx 13)) → ((ny 22) = (nx 0)) → ((fy 38) = (fx 0)) → ((ny 1) = (nx 2)) → (shR (fy 0) (fy 1) (fy 2) (fx 1) (fx 2) rs) → Q) : Q := by
  obtain ⟨Xhna, Xhnb, XH, XD, XV, XN, Xcna, Xcnb, XF, Xpna, Xpnb, XG, XO, XW, Xgna, Xgnb, XJ, Xlna, Xlnb, Xdla, Xdlb, Xana, Xanb, Xuna, Xunb, XU, Xlca, Xlcb, Xtna, Xtnb, XS, Mhna, Mhnb, MH, MS, Mmlna, Mmlnb, Mmtna, Mmtnb, Chn, Cho, Chc, Chp, Chs, Ccn, Cfo, Cwo, Cpn, Cpk, Cpf, Cpo, Cpd, Cpe, Cgn, Cgk, Cgs, Cgd, Cge, Can, Cak, Cah, Cay, Caz, Cun, Cuk, Cuy, Cuw, Cum, Clc, Clp, Cla, Clb, Caw, Ciw, Cln, Ctd, Cro, Cmtn, Cmtr, Cmst, Csh⟩ := I
  exact h Xhna Xhnb XH XD XV XN Xcna Xcnb XF Xpna Xpnb XG XO XW Xgna Xgnb XJ Xlna Xlnb Xdla Xdlb Xana Xanb Xuna Xunb XU Xlca Xlcb Xtna Xtnb XS Mhna Mhnb MH MS Mmlna Mmlnb Mmtna Mmtnb Chn Cho Chc Chp Chs Ccn Cfo Cwo Cpn Cpk Cpf Cpo Cpd Cpe Cgn Cgk Cgs Cgd Cge Can Cak Cah Cay Caz Cun Cuk Cuy Cuw Cum Clc Clp Cla Clb Caw Ciw Cln Ctd Cro Cmtn Cmtr Cmst Csh


theorem va_P.comm {D : va_G} {cl : List vw_C} {a b : va_W} {H : Heap} (h : va_P D cl (a ++ b) H) : va_P D cl (b ++ a) H := by
  have h1 : va_P D cl (([] ++ a) ++ b) H := h
  exact h1.swap
theorem va_D.comm {A : Nat → Prop} {a b : va_W} (h : va_D A (a ++ b)) : va_D A (b ++ a) := by
  have h1 : va_D A (([] ++ a) ++ b) := h
  exact h1.swap
/-- cells put in their places -/
def repl : List Nat → va_W → va_W → va_W
  | [], _, ws => ws
  | _ :: _, [], ws => ws
  | i :: is, c :: cs, ws => repl is cs (ws.set i c)
theorem repl_get : ∀ (is : List Nat) (cs ws : va_W), cs.length = is.length → ∀ (k : Nat) (q : Nat × va_E), (repl is cs ws)[k]? = some q → (∃ j : Nat, cs[j]? = some q) ∨ (k ∉ is ∧ ws[k]? = some q)
  | [], cs, ws, _, k, q, h => Or.inr ⟨fun h9 => (by cases h9), h⟩
  | i :: is, [], ws, hl, k, q, h => by cases hl
  | i :: is, c :: cs, ws, hl, k, q, h => by
    have h1 : (repl is cs (ws.set i c))[k]? = some q := h
    rcases repl_get is cs (ws.set i c) (Nat.succ.inj hl) k q h1 with ⟨j, hj⟩ | ⟨hk, hq⟩
    · exact Or.inl ⟨j + 1, by rw [List.getElem?_cons_succ]; exact hj⟩
    · rw [List.getElem?_set] at hq
      split at hq
      · split at hq
        · exact Or.inl ⟨0, hq⟩
        · cases hq
      · rename_i g
        refine Or.inr ⟨fun h9 => ?_, hq⟩
        rcases List.mem_cons.mp h9 with h9 | h9
        · exact g h9.symm
        · exact hk h9
theorem wXM_D {A : Nat → Prop} {ad rw md : Nat → Nat} {sd : Int32} {cI cY cJ cQ : ClassId} {nx nx' ny ny' : Nat → Int32} {fx fx' rs rs' fy fy' : Nat → Nat → Int32} {lo lo' fl fl' : Nat → Int64} (h : va_D A (wX ad rw sd cI cY cJ cQ nx fx rs lo ++ wM md sd cI cY cJ cQ ny fy fl)) : va_D A (wX ad rw sd cI cY cJ cQ nx' fx' rs' lo' ++ wM md sd cI cY cJ cQ ny' fy' fl') := h.adr rfl
theorem wMX_D {A : Nat → Prop} {ad rw md : Nat → Nat} {sd : Int32} {cI cY cJ cQ : ClassId} {nx nx' ny ny' : Nat → Int32} {fx fx' rs rs' fy fy' : Nat → Nat → Int32} {lo lo' fl fl' : Nat → Int64} (h : va_D A (wM md sd cI cY cJ cQ ny fy fl ++ wX ad rw sd cI cY cJ cQ nx fx rs lo)) : va_D A (wM md sd cI cY cJ cQ ny' fy' fl' ++ wX ad rw sd cI cY cJ cQ nx' fx' rs' lo') := h.adr rfl
section STEPQ
variable {p : Program} {l : Launch} {e : Env} {R : Room} {s : State} {m : MethodId} {args : Array Value} {below : List Frame} {meth : Method} {c : Code} {H H0 : Heap} {locs : List Loc} {cells slots mc ms : Nat} {Q : State → Prop}
variable {pc : Nat} {ls : Array Slot} {rest st0 : List Value} {D : va_G} {A0 : Nat → Prop} {tys : List (ClassId × FieldType)} {wc wr X pl : va_W} {a : Array Value} {S : Type} {w : S → va_W}
theorem va_freeX {A0 : Nat → Prop} {X cx pl : va_W} {H0 H : Heap} {locs : List Loc} (hD : va_D A0 (X ++ pl)) (hS : va_S A0 H0 H locs) (hA : ∀ q, H0.size ≤ q → A0 q) (isC : List Nat) (hC : isC.map (fun i => X[i]?) = cx.map some) : ∀ q, va_A cx H.size q → A0 q := by
  intro q h
  refine va_freeP hD hS hA isC hC q ?_
  rcases h with ⟨k, e, h⟩ | h
  · exact Or.inl ⟨k, e, by rw [List.getElem?_append_left (List.getElem?_eq_some_iff.mp h).1]; exact h⟩
  · exact Or.inr h
theorem va_upd {A0 : Nat → Prop} {D : va_G} {cl : List vw_C} {X wc w1 pl : va_W} {H H1 : Heap} (hP : va_P D cl (X ++ pl) H) (hD : va_D A0 (X ++ pl)) (isC : List Nat) (hC : isC.map (fun i => X[i]?) = wc.map some) (hl : w1.length = isC.length) (hk : ∀ q : Nat, q < H.size → ¬ va_A wc H.size q → H1[q]? = H[q]?) (hP1 : va_P D cl w1 H1) : va_P D cl (repl isC w1 X ++ pl) H1 := by
  have keep : ∀ (m : Nat) (q : Nat × va_E), (X ++ pl)[m]? = some q → m ∉ isC → va_at D cl q H1 := by
    intro m q hm hn
    have hlt := (hP m q hm).lt
    refine (hP m q hm).kept (hk q.1 hlt (fun h => ?_))
    rcases h with ⟨k2, e, h⟩ | h
    · have h1 : (isC.map (fun i => X[i]?))[k2]? = some (some (q.1, e)) := by rw [hC, List.getElem?_map, h]; rfl
      rw [List.getElem?_map] at h1
      cases hi : isC[k2]? with
      | none => rw [hi] at h1; cases h1
      | some i =>
        rw [hi] at h1
        have h4 : X[i]? = some (q.1, e) := Option.some.inj h1
        have h5 : (X ++ pl)[i]? = some (q.1, e) := by rw [List.getElem?_append_left (List.getElem?_eq_some_iff.mp h4).1]; exact h4
        have h6 := hD.1 m i q (q.1, e) hm h5 rfl
        rw [h6] at hn
        exact hn (List.mem_of_getElem? hi)
    · exact absurd hlt (Nat.not_lt.mpr h)
  refine va_P.app (fun k q hq => ?_) (fun k q hq => ?_)
  · rcases repl_get isC w1 X hl k q hq with ⟨j, hj⟩ | ⟨hn, hq2⟩
    · exact hP1 j q hj
    · exact keep k q (by rw [List.getElem?_append_left (List.getElem?_eq_some_iff.mp hq2).1]; exact hq2) hn
  · refine keep (X.length + k) q (by rw [List.getElem?_append_right (Nat.le_add_right _ _), Nat.add_sub_cancel_left]; exact hq) (fun h => ?_)
    obtain ⟨k2, h3⟩ := List.getElem?_of_mem h
    have h6 : (isC.map (fun i => X[i]?))[k2]? = some (X[X.length + k]?) := by rw [List.getElem?_map, h3]; rfl
    rw [hC, List.getElem?_map, List.getElem?_eq_none (Nat.le_add_right X.length k)] at h6
    cases hw : wc[k2]? with
    | none => rw [hw] at h6; cases h6
    | some z => rw [hw] at h6; cases h6
/-- a call beside a world that it doesn't touch -/
theorem st_iQ {post : Int32 → S → Prop} (hr : va_Run p l e R s m args below meth c H locs cells slots mc ms (F0 m pc ls st0) rest (va_Qi post (cB D tys w (va_A wc H.size)) (va_A wc H.size) a) (va_A wc H.size)) (hP : va_P D vwCl (X ++ pl) H) (hD : va_D A0 (X ++ pl)) (hS : va_S A0 H0 H locs) (hA : ∀ q, H0.size ≤ q → A0 q)
    (isC isR : List Nat) (hC : isC.map (fun i => X[i]?) = wc.map some) (hR : isR.map (fun i => X[i]?) = wr.map some) (hn : va_nd isR = true) (hdis : ∀ i ∈ isR, i ∉ isC)
    (kk : ∀ (r : Int32) (u : S) (H1 : Heap) (locs1 : List Loc), post r u → va_P D vwCl ((wr ++ w u) ++ pl) H1 → va_D A0 ((wr ++ w u) ++ pl) → va_S A0 H0 H1 locs1 → W p l e R s m args below meth c H1 locs1 (cells + mc) (slots + ms) Q (F0 m (pc + 3) ls (.int r :: rest))) : W p l e R s m args below meth c H locs cells slots Q (F0 m pc ls st0) := by
  have hF := va_freeX (cx := wc) hD hS hA isC hC
  refine va_calli hr hS (fun q _ h => hF q h) hF (fun r u t H1 locs1 ht hvm hw hB hz1 hk1 hS1 => ?_)
  obtain ⟨hP1, hK1, hD1⟩ := hB
  rw [ht] at hP1
  obtain ⟨hP2, hD2⟩ := va_joinQ (wr := wr) (w1 := w u) hP hD isC isR hC hR hn hdis hk1 hF hP1 hD1
  exact kk r u H1 locs1 hw hP2 hD2 hS1
/-- a call beside a world that it doesn't touch; its cells change in their places -/
theorem st_iU {post : Int32 → S → Prop} (hr : va_Run p l e R s m args below meth c H locs cells slots mc ms (F0 m pc ls st0) rest (va_Qi post (cB D tys w (va_A wc H.size)) (va_A wc H.size) a) (va_A wc H.size)) (hP : va_P D vwCl (X ++ pl) H) (hD : va_D A0 (X ++ pl)) (hS : va_S A0 H0 H locs) (hA : ∀ q, H0.size ≤ q → A0 q)
    (isC : List Nat) (hC : isC.map (fun i => X[i]?) = wc.map some) (hl : ∀ u, (w u).length = isC.length)
    (kk : ∀ (r : Int32) (u : S) (H1 : Heap) (locs1 : List Loc), post r u → va_P D vwCl (repl isC (w u) X ++ pl) H1 → va_S A0 H0 H1 locs1 → W p l e R s m args below meth c H1 locs1 (cells + mc) (slots + ms) Q (F0 m (pc + 3) ls (.int r :: rest))) : W p l e R s m args below meth c H locs cells slots Q (F0 m pc ls st0) := by
  have hF := va_freeX (cx := wc) hD hS hA isC hC
  refine va_calli hr hS (fun q _ h => hF q h) hF (fun r u t H1 locs1 ht hvm hw hB hz1 hk1 hS1 => ?_)
  obtain ⟨hP1, hK1, hD1⟩ := hB
  rw [ht] at hP1
  exact kk r u H1 locs1 hw (va_upd hP hD isC hC (hl u) hk1 hP1) hS1
end STEPQ

theorem sp_crate_ok {cn cn' o w r : Int32} {fo wo fo' wo' : Nat → Int32} (e : (r, cn', fo', wo') = sp_crate cn fo wo o w) (h1 : 0 ≤ cn.toInt) (h2 : cn.toInt ≤ 12) : 0 ≤ cn'.toInt ∧ cn'.toInt ≤ 12 := by
  have k1 : (1 : Int32).toInt = 1 := rfl
  unfold sp_crate at e
  split at e
  · split at e
    · simp only [Prod.mk.injEq] at e
      obtain ⟨-, rfl, -⟩ := e
      exact ⟨h1, h2⟩
    · have t1 : (cn + 1).toInt = cn.toInt + 1 := by rw [i_add (by omega) (by omega), k1]
      simp only [Prod.mk.injEq] at e
      obtain ⟨-, rfl, -⟩ := e
      omega
  · simp only [Prod.mk.injEq] at e
    obtain ⟨-, rfl, -⟩ := e
    exact ⟨h1, h2⟩

theorem sp_paper_ok {pn pn' cn k x y a b r : Int32} {pk pf po pd pe pk' pf' po' pd' pe' : Nat → Int32} (e : (r, pn', pk', pf', po', pd', pe') = sp_paper pn pk pf po pd pe cn k x y a b) (h1 : 0 ≤ pn.toInt) (h2 : pn.toInt ≤ 40) : 0 ≤ pn'.toInt ∧ pn'.toInt ≤ 40 := by
  have k1 : (1 : Int32).toInt = 1 := rfl
  unfold sp_paper at e
  split at e
  · split at e
    · simp only [Prod.mk.injEq] at e
      obtain ⟨-, rfl, -⟩ := e
      exact ⟨h1, h2⟩
    · have t1 : (pn + 1).toInt = pn.toInt + 1 := by rw [i_add (by omega) (by omega), k1]
      simp only [Prod.mk.injEq] at e
      obtain ⟨-, rfl, -⟩ := e
      omega
  · simp only [Prod.mk.injEq] at e
    obtain ⟨-, rfl, -⟩ := e
    exact ⟨h1, h2⟩

theorem sp_pledge_ok {gn gn' cn k x q a b r : Int32} {gk gs gd ge gk' gs' gd' ge' : Nat → Int32} (e : (r, gn', gk', gs', gd', ge') = sp_pledge gn gk gs gd ge cn k x q a b) (h1 : 0 ≤ gn.toInt) (h2 : gn.toInt ≤ 40) : 0 ≤ gn'.toInt ∧ gn'.toInt ≤ 40 := by
  have k1 : (1 : Int32).toInt = 1 := rfl
  unfold sp_pledge at e
  split at e
  · split at e
    · simp only [Prod.mk.injEq] at e
      obtain ⟨-, rfl, -⟩ := e
      exact ⟨h1, h2⟩
    · have t1 : (gn + 1).toInt = gn.toInt + 1 := by rw [i_add (by omega) (by omega), k1]
      simp only [Prod.mk.injEq] at e
      obtain ⟨-, rfl, -⟩ := e
      omega
  · simp only [Prod.mk.injEq] at e
    obtain ⟨-, rfl, -⟩ := e
    exact ⟨h1, h2⟩

theorem sp_act_ok {an an' cn k w d n r : Int32} {ak ah ay az ak' ah' ay' az' : Nat → Int32} (e : (r, an', ak', ah', ay', az') = sp_act an ak ah ay az cn k w d n) (h1 : 0 ≤ an.toInt) (h2 : an.toInt ≤ 60) : 0 ≤ an'.toInt ∧ an'.toInt ≤ 60 := by
  have k1 : (1 : Int32).toInt = 1 := rfl
  unfold sp_act at e
  split at e
  · split at e
    · simp only [Prod.mk.injEq] at e
      obtain ⟨-, rfl, -⟩ := e
      exact ⟨h1, h2⟩
    · have t1 : (an + 1).toInt = an.toInt + 1 := by rw [i_add (by omega) (by omega), k1]
      simp only [Prod.mk.injEq] at e
      obtain ⟨-, rfl, -⟩ := e
      omega
  · simp only [Prod.mk.injEq] at e
    obtain ⟨-, rfl, -⟩ := e
    exact ⟨h1, h2⟩

theorem sp_opened_ok {un un' cn k d w q r : Int32} {uk uy uw um uk' uy' uw' um' : Nat → Int32} (e : (r, un', uk', uy', uw', um') = sp_opened un uk uy uw um cn k d w q) (h1 : 0 ≤ un.toInt) (h2 : un.toInt ≤ 60) : 0 ≤ un'.toInt ∧ un'.toInt ≤ 60 := by
  have k1 : (1 : Int32).toInt = 1 := rfl
  unfold sp_opened at e
  split at e
  · split at e
    · simp only [Prod.mk.injEq] at e
      obtain ⟨-, rfl, -⟩ := e
      exact ⟨h1, h2⟩
    · have t1 : (un + 1).toInt = un.toInt + 1 := by rw [i_add (by omega) (by omega), k1]
      simp only [Prod.mk.injEq] at e
      obtain ⟨-, rfl, -⟩ := e
      omega
  · simp only [Prod.mk.injEq] at e
    obtain ⟨-, rfl, -⟩ := e
    exact ⟨h1, h2⟩

theorem sp_list_ok {lc lc' q a b r : Int32} {lp la lb lp' la' lb' : Nat → Int32} (e : (r, lc', lp', la', lb') = sp_list lc lp la lb q a b) (h1 : 0 ≤ lc.toInt) (h2 : lc.toInt ≤ 20) : 0 ≤ lc'.toInt ∧ lc'.toInt ≤ 20 := by
  have k1 : (1 : Int32).toInt = 1 := rfl
  unfold sp_list at e
  split at e
  · split at e
    · simp only [Prod.mk.injEq] at e
      obtain ⟨-, rfl, -⟩ := e
      exact ⟨h1, h2⟩
    · have t1 : (lc + 1).toInt = lc.toInt + 1 := by rw [i_add (by omega) (by omega), k1]
      simp only [Prod.mk.injEq] at e
      obtain ⟨-, rfl, -⟩ := e
      omega
  · simp only [Prod.mk.injEq] at e
    obtain ⟨-, rfl, -⟩ := e
    exact ⟨h1, h2⟩


theorem sp_sheet_an {lf lf' r : Int32} {rs rs' : Nat → Nat → Int32} {sl ss sl' ss' : Nat → Int32} {a b n : Int32} (e : (r, lf', rs', sl', ss') = sp_sheet lf rs sl ss a b n) : r = an_sheet a b n := by
  unfold sp_sheet at e
  unfold an_sheet
  split at e
  · rename_i h
    rw [if_pos (by omega)]
    split at e
    · rename_i h2
      rw [if_pos h2]
      exact congrArg Prod.fst e
    · rename_i h2
      rw [if_neg h2]
      exact congrArg Prod.fst e
  · rename_i h
    rw [if_neg (by omega)]
    exact congrArg Prod.fst e
theorem sp_sheet_ok {lf lf' r : Int32} {rs rs' : Nat → Nat → Int32} {sl ss sl' ss' : Nat → Int32} {a b n : Int32} (e : (r, lf', rs', sl', ss') = sp_sheet lf rs sl ss a b n) (h : okS ss) : okS ss' := by
  unfold sp_sheet at e
  split at e
  · split at e
    · simp only [Prod.mk.injEq] at e
      obtain ⟨-, -, -, -, rfl⟩ := e
      exact h
    · simp only [Prod.mk.injEq] at e
      obtain ⟨-, -, -, -, rfl⟩ := e
      exact okS_up h _ (by omega) (by omega)
  · simp only [Prod.mk.injEq] at e
    obtain ⟨-, -, -, -, rfl⟩ := e
    exact h
theorem sp_drop_ok {lf lf' r a : Int32} {ss ss' : Nat → Int32} (e : (r, lf', ss') = sp_drop lf ss a) (h : okS ss) : okS ss' := by
  have km : (-1 : Int32).toInt = -1 := rfl
  unfold sp_drop at e
  split at e
  · split at e
    · simp only [Prod.mk.injEq] at e
      obtain ⟨-, -, rfl⟩ := e
      exact h
    · simp only [Prod.mk.injEq] at e
      obtain ⟨-, -, rfl⟩ := e
      exact okS_up h _ (by omega) (by omega)
  · simp only [Prod.mk.injEq] at e
    obtain ⟨-, -, rfl⟩ := e
    exact h
theorem sq_feed_ok {ln n : Int32} (h1 : 0 ≤ ln.toInt) (h2 : ln.toInt ≤ 300) : 0 ≤ (sq_feed ln n).toInt ∧ (sq_feed ln n).toInt ≤ 300 := by
  unfold sq_feed
  split
  · split
    · exact ⟨h1, h2⟩
    · rw [i_add (by omega) (by omega)]; omega
  · exact ⟨h1, h2⟩


section LAWARG
variable {p : Program} {l : Launch} {e : Env} {R : Room} {s : State} {m : MethodId} {args : Array Value} {below : List Frame} {meth : Method} {c : Code} {H H0 : Heap} {locs : List Loc} {cells slots : Nat} {Q : State → Prop}
variable {pc : Nat} {ls : Array Slot} {rest : List Value} {A0 : Nat → Prop} {cc : ByteArray}
/-- an argument of the call: script[i + n] -/
theorem law_arg {b L : Nat} {xs : Nat → Int32} {i v y : Int32} {n : Int} (hx : p.tables.exec = Jvm.exec) (hb : c.code = cc) (hX : va_X b L xs s H0) (hbl : b < H0.size) (hbA : ¬ A0 b) (hS : va_S A0 H0 H locs) (hl0 : ls[0]? = some (.val (.ref b))) (hl3 : ls[3]? = some (.val (.int i))) (hv : Int32.ofInt n = v) (ha : vp_in (i + v) L) (ey : y = xs (i + v).toNatClampNeg) (d0 : decode cc pc = .ok (.aload_n 0, 1)) (d1 : decode cc (pc + 1) = .ok (.iload_n 3, 1)) (d2 : decode cc (pc + 1 + 1) = .ok (.iconst n, 1)) (d3 : decode cc (pc + 1 + 1 + 1) = .ok (.iadd, 1)) (d4 : decode cc (pc + 1 + 1 + 1 + 1) = .ok (.iaload, 1))
    (kk : W p l e R s m args below meth c H locs cells slots Q (F0 m (pc + 1 + 1 + 1 + 1 + 1) ls (.int y :: rest))) : W p l e R s m args below meth c H locs cells slots Q (F0 m pc ls rest) := by
  subst ey
  refine lv_aload_n hx hb d0 rfl hl0 ?_
  refine lv_iload_n hx hb d1 rfl hl3 ?_
  refine lv_iconst hx hb d2 hv ?_
  refine lv_iadd hx hb d3 ?_
  exact va_sld hx hb hX hbl hbA hS ha d4 kk
end LAWARG
theorem law_in {i v : Int32} {L : Nat} (h1 : 1 ≤ i.toInt) (h2 : i.toInt + 5 < L) (hL : L ≤ 3073) (hv : 0 ≤ v.toInt ∧ v.toInt ≤ 5) : vp_in (i + v) L := by
  have := i_add (x := i) (y := v) (by omega) (by omega)
  exact i_in (by omega) (by omega)

def lawC (p : Program) (s : State) (m : MethodId) (meth : Method) (c : Code) (b L : Nat) (xs : Nat → Int32) (D : va_G) (cI cY cJ cQ : ClassId) (aK aV : Nat) : Prop := lw_At p s m meth c b L xs ∧ va_K D vwCl (ty4 cI cY cJ cQ) s ∧ nw s ∧ strW aK aV (fun q : Nat => s.heap.size ≤ q) s ∧ L ≤ 3073
end
